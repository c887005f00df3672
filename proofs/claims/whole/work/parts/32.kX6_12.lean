set_option maxHeartbeats 4000000 in
set_option maxRecDepth 100000 in
theorem kX6_patch (l : Launch) (dC : Nat → ClassId) (dI : Nat → Nat → Nat) (cy : ClassId) (sz : Nat) (a6 a6_leads a0 a0_offset a0_gain a0_dark a0_bright a3 a3_firstRow a3_lastRow a3_firstColumn a3_lastColumn a3_slants a3_tints a3_specks a4 a4_kinds a4_numbers a5 a1 a1_values : Nat) (f6_leads : Nat → Int32) (f0_offset : Nat → Int32) (f0_gain : Nat → Int32) (f0_dark : Nat → Int32) (f0_bright : Nat → Int32) (v3_ground : Int32) (v3_patches : Int32) (f3_firstRow : Nat → Int32) (f3_lastRow : Nat → Int32) (f3_firstColumn : Nat → Int32) (f3_lastColumn : Nat → Int32) (f3_slants : Nat → Int32) (f3_tints : Nat → Int32) (f3_specks : Nat → Int32) (v4_count : Int32) (f4_kinds : Nat → Int32) (f4_numbers : Nat → Int32) (v5_on : Int32) (v5_lines : Int32) (v5_reach : Int32) (v5_positions : Int32) (v5_queued : Int32) (v5_position : Int32) (v5_next : Int32) (v5_mode : Int32) (v5_outTicks : Int32) (v5_stops : Int32) (v5_ticked : Int32) (v1_count : Int32) (v1_threshold : Int32) (f1_values : Nat → Int32) (p1 : Int32) (p2 : Int32) (p3 : Int32) (p4 : Int32) (p5 : Int32) (r : Int32) (o_v3_patches : Int32) (o_f3_firstRow : Nat → Int32) (o_f3_lastRow : Nat → Int32) (o_f3_firstColumn : Nat → Int32) (o_f3_lastColumn : Nat → Int32) (o_f3_slants : Nat → Int32) (o_f3_tints : Nat → Int32) (hf : fX6_patch v3_patches f3_firstRow f3_lastRow f3_firstColumn f3_lastColumn f3_slants f3_tints v5_on p1 p2 p3 p4 p5 = some (r, o_v3_patches, o_f3_firstRow, o_f3_lastRow, o_f3_firstColumn, o_f3_lastColumn, o_f3_slants, o_f3_tints)) : Met l yX6_patch wsX6_patch ({ frames := 1, cells := 0, slots := 0, locals := 27 }) (rwP [.ref a6, .int p1, .int p2, .int p3, .int p4, .int p5] (dC, dI) vwCl (WX6 cy a6 a6_leads a0 a0_offset a0_gain a0_dark a0_bright a3 a3_firstRow a3_lastRow a3_firstColumn a3_lastColumn a3_slants a3_tints a3_specks a4 a4_kinds a4_numbers a5 a1 a1_values f6_leads f0_offset f0_gain f0_dark f0_bright v3_ground v3_patches f3_firstRow f3_lastRow f3_firstColumn f3_lastColumn f3_slants f3_tints f3_specks v4_count f4_kinds f4_numbers v5_on v5_lines v5_reach v5_positions v5_queued v5_position v5_next v5_mode v5_outTicks v5_stops v5_ticked v1_count v1_threshold f1_values) [(cy, .int)] sz) (rwQi r (dC, dI) vwCl (WX6 cy a6 a6_leads a0 a0_offset a0_gain a0_dark a0_bright a3 a3_firstRow a3_lastRow a3_firstColumn a3_lastColumn a3_slants a3_tints a3_specks a4 a4_kinds a4_numbers a5 a1 a1_values f6_leads f0_offset f0_gain f0_dark f0_bright v3_ground o_v3_patches o_f3_firstRow o_f3_lastRow o_f3_firstColumn o_f3_lastColumn o_f3_slants o_f3_tints f3_specks v4_count f4_kinds f4_numbers v5_on v5_lines v5_reach v5_positions v5_queued v5_position v5_next v5_mode v5_outTicks v5_stops v5_ticked v1_count v1_threshold f1_values) (va_A (WX6 cy a6 a6_leads a0 a0_offset a0_gain a0_dark a0_bright a3 a3_firstRow a3_lastRow a3_firstColumn a3_lastColumn a3_slants a3_tints a3_specks a4 a4_kinds a4_numbers a5 a1 a1_values f6_leads f0_offset f0_gain f0_dark f0_bright v3_ground v3_patches f3_firstRow f3_lastRow f3_firstColumn f3_lastColumn f3_slants f3_tints f3_specks v4_count f4_kinds f4_numbers v5_on v5_lines v5_reach v5_positions v5_queued v5_position v5_next v5_mode v5_outTicks v5_stops v5_ticked v1_count v1_threshold f1_values) sz)) 0 0 (va_A (WX6 cy a6 a6_leads a0 a0_offset a0_gain a0_dark a0_bright a3 a3_firstRow a3_lastRow a3_firstColumn a3_lastColumn a3_slants a3_tints a3_specks a4 a4_kinds a4_numbers a5 a1 a1_values f6_leads f0_offset f0_gain f0_dark f0_bright v3_ground v3_patches f3_firstRow f3_lastRow f3_firstColumn f3_lastColumn f3_slants f3_tints f3_specks v4_count f4_kinds f4_numbers v5_on v5_lines v5_reach v5_positions v5_queued v5_position v5_next v5_mode v5_outTicks v5_stops v5_ticked v1_count v1_threshold f1_values) sz) := by
  refine Met.ofW (cc := cX6_patch) (maxL := 6) (ret := (some .int)) (by decide) rfl ?_
  intro p e s m args below meth c s₁ B hml hv
  obtain ⟨rfl, hsz, hP, hK, hD0⟩ := hv
  have hx := B.exec
  have hb := B.bytes
  have hr := B.returns
  have hts := atoms_spec (ws := wsX6_patch) B.pre
  have hown : s.vm.findClass RX6 = some m.cls := findClass_of_methodNamed B.named
  have hlocks := B.notSynchronized
  have hiX6 : ∀ w ∈ u_ws RX6 TX6 6, w ∈ wsX6_patch := fun _ h => List.mem_cons_of_mem _ (List.mem_append_left _ (List.mem_append_left _ ((List.mem_append_right _ h))))
  have hiX5 : ∀ w ∈ u_ws RX5 TX5 11, w ∈ wsX6_patch := fun _ h => List.mem_cons_of_mem _ (List.mem_append_left _ ((List.mem_append_right _ h)))
  have hiX3 : ∀ w ∈ u_ws RX3 TX3 9, w ∈ wsX6_patch := fun _ h => List.mem_cons_of_mem _ ((List.mem_append_right _ h))
  subst hsz
  have hD := hD0.self (sz := s.heap.size)
  generalize hAe : va_A (WX6 cy a6 a6_leads a0 a0_offset a0_gain a0_dark a0_bright a3 a3_firstRow a3_lastRow a3_firstColumn a3_lastColumn a3_slants a3_tints a3_specks a4 a4_kinds a4_numbers a5 a1 a1_values f6_leads f0_offset f0_gain f0_dark f0_bright v3_ground v3_patches f3_firstRow f3_lastRow f3_firstColumn f3_lastColumn f3_slants f3_tints f3_specks v4_count f4_kinds f4_numbers v5_on v5_lines v5_reach v5_positions v5_queued v5_position v5_next v5_mode v5_outTicks v5_stops v5_ticked v1_count v1_threshold f1_values) s.heap.size = A0 at hD ⊢
  have hA : ∀ q : Nat, s.heap.size ≤ q → A0 q := fun q h => by rw [← hAe]; exact Or.inr h
  have hS : va_S A0 s.heap s.heap [] := va_S.rf
  have hl := lv_entry ([.ref a6, .int p1, .int p2, .int p3, .int p4, .int p5]) (n := 6) (Nat.le_of_ble_eq_true rfl)
  rw [lg_entry_eq]
  generalize (lg_sl ([.ref a6, .int p1, .int p2, .int p3, .int p4, .int p5]) ++ List.replicate (6 - (lg_sl ([.ref a6, .int p1, .int p2, .int p3, .int p4, .int p5])).length) Slot.unset).toArray = ls at hl ⊢
  have hl : lv_has ls 6 [(0, .ref a6), (1, .int p1), (2, .int p2), (3, .int p3), (4, .int p4), (5, .int p5)] := hl
  unfold fX6_patch at hf
  refine lv_iload_n hx hb dX6_patch_0 rfl (lv_at hl 1 rfl) ?_
  refine lv_if_lt (tgt := 15) hx hb dX6_patch_1 (by decide) (fun hc => ?_) (fun hc => ?_)
  · have hf := it_p hc hf
    refine lv_bipush (v := (-2 : Int32)) hx hb dX6_patch_15 (by decide) ?_
    cases hf
    exact W.iret hx hb hr (fun t ht hW => ⟨⟨_, (), rfl, rfl, by rw [ht]; exact hP, hD⟩, hS.F ht⟩) hS.2.2 dX6_patch_17
  · have hf := it_n hc hf
    refine lv_iload_n hx hb dX6_patch_4 rfl (lv_at hl 1 rfl) ?_
    refine lv_iload_n hx hb dX6_patch_5 rfl (lv_at hl 2 rfl) ?_
    refine lv_icmp_gt (tgt := 15) hx hb dX6_patch_6 (by decide) (fun hc => ?_) (fun hc => ?_)
    · have hf := it_p hc hf
      refine lv_bipush (v := (-2 : Int32)) hx hb dX6_patch_15 (by decide) ?_
      cases hf
      exact W.iret hx hb hr (fun t ht hW => ⟨⟨_, (), rfl, rfl, by rw [ht]; exact hP, hD⟩, hS.F ht⟩) hS.2.2 dX6_patch_17
    · have hf := it_n hc hf
      refine lv_iload_n hx hb dX6_patch_9 rfl (lv_at hl 2 rfl) ?_
      refine lv_bipush (v := (63 : Int32)) hx hb dX6_patch_10 (by decide) ?_
      refine lv_icmp_le (tgt := 18) hx hb dX6_patch_12 (by decide) (fun hc => ?_) (fun hc => ?_)
      · have hf := it_p hc hf
        refine lv_iload_n hx hb dX6_patch_18 rfl (lv_at hl 3 rfl) ?_
        refine lv_if_lt (tgt := 35) hx hb dX6_patch_19 (by decide) (fun hc => ?_) (fun hc => ?_)
        · have hf := it_p hc hf
          refine lv_bipush (v := (-2 : Int32)) hx hb dX6_patch_35 (by decide) ?_
          cases hf
          exact W.iret hx hb hr (fun t ht hW => ⟨⟨_, (), rfl, rfl, by rw [ht]; exact hP, hD⟩, hS.F ht⟩) hS.2.2 dX6_patch_37
        · have hf := it_n hc hf
          refine lv_iload_n hx hb dX6_patch_22 rfl (lv_at hl 3 rfl) ?_
          refine lv_iload hx hb dX6_patch_23 (lv_at hl 4 rfl) ?_
          refine lv_icmp_gt (tgt := 35) hx hb dX6_patch_25 (by decide) (fun hc => ?_) (fun hc => ?_)
          · have hf := it_p hc hf
            refine lv_bipush (v := (-2 : Int32)) hx hb dX6_patch_35 (by decide) ?_
            cases hf
            exact W.iret hx hb hr (fun t ht hW => ⟨⟨_, (), rfl, rfl, by rw [ht]; exact hP, hD⟩, hS.F ht⟩) hS.2.2 dX6_patch_37
          · have hf := it_n hc hf
            refine lv_iload hx hb dX6_patch_28 (lv_at hl 4 rfl) ?_
            refine lv_bipush (v := (12 : Int32)) hx hb dX6_patch_30 (by decide) ?_
            refine lv_icmp_lt (tgt := 38) hx hb dX6_patch_32 (by decide) (fun hc => ?_) (fun hc => ?_)
            · have hf := it_p hc hf
              refine lv_iload hx hb dX6_patch_38 (lv_at hl 5 rfl) ?_
              refine lv_bipush (v := (-16 : Int32)) hx hb dX6_patch_40 (by decide) ?_
              refine lv_bipush (v := (16 : Int32)) hx hb dX6_patch_42 (by decide) ?_
              obtain ⟨r1, hr1, hf⟩ := cl1_sp hf
              refine ro_S (As := [.int p5, .int (-16 : Int32), .int (16 : Int32)]) ⟨hx, hb, hml, hown, hts⟩ (kX2_within l _ p5 (-16 : Int32) (16 : Int32) r1 hr1) (va_cwS 3 hts gX6_patch_X2_within rfl rfl rfl (by decide +kernel) ⟨Nat.le_of_ble_eq_true rfl, Nat.le_of_ble_eq_true rfl⟩) hS rfl hl.1 rfl (Nat.le_of_ble_eq_true rfl) dX6_patch_44 (Nat.zero_le _) (Nat.zero_le _) (fun locs hS => ?_)
              refine lv_if_ne (tgt := 53) hx hb dX6_patch_47 (by decide) (fun hc => ?_) (fun hc => ?_)
              · have hf := it_n hc hf
                refine lv_aload_n hx hb dX6_patch_53 rfl (lv_at hl 0 rfl) ?_
                refine va_get (D := (dC, dI)) (ci := 5) (v := .ref a5) (C := RX6) (T := TX6) (N := 6) hx hb hts hiX6 hown hK hP 0 rfl rfl 3 (by decide) (hts (.fieldLink RX6 35 "PageLines" "scan" "LPageLines$Scan;") (List.mem_of_getElem? (i := 1) rfl)) (fun _ h9 => h9) rfl dX6_patch_54 ?_
                refine va_get (D := (dC, dI)) (ci := 4) (v := .int v5_on) (C := RX5) (T := TX5) (N := 11) hx hb hts hiX5 hown hK hP 18 rfl rfl 0 (by decide) (hts (.fieldLink RX6 60 "PageLines$Scan" "on" "Z") (List.mem_of_getElem? (i := 2) rfl)) (fun _ h9 => h9) rfl dX6_patch_57 ?_
                refine lv_if_eq (tgt := 66) hx hb dX6_patch_60 (by decide) (fun hc => ?_) (fun hc => ?_)
                · have hf := it_p hc hf
                  refine lv_aload_n hx hb dX6_patch_66 rfl (lv_at hl 0 rfl) ?_
                  refine va_get (D := (dC, dI)) (ci := 5) (v := .ref a3) (C := RX6) (T := TX6) (N := 6) hx hb hts hiX6 hown hK hP 0 rfl rfl 1 (by decide) (hts (.fieldLink RX6 21 "PageLines" "page" "LPageLines$Page;") (List.mem_of_getElem? (i := 3) rfl)) (fun _ h9 => h9) rfl dX6_patch_67 ?_
                  refine lv_iload_n hx hb dX6_patch_70 rfl (lv_at hl 1 rfl) ?_
                  refine lv_iload_n hx hb dX6_patch_71 rfl (lv_at hl 2 rfl) ?_
                  refine lv_iload_n hx hb dX6_patch_72 rfl (lv_at hl 3 rfl) ?_
                  refine lv_iload hx hb dX6_patch_73 (lv_at hl 4 rfl) ?_
                  refine lv_iload hx hb dX6_patch_75 (lv_at hl 5 rfl) ?_
                  obtain ⟨r2, w2_patches, w2_firstRow, w2_lastRow, w2_firstColumn, w2_lastColumn, w2_slants, w2_tints, hr2, hf⟩ := cl8_sp hf
                  refine rw_V (As := [.int p1, .int p2, .int p3, .int p4, .int p5]) (wr := [(a6, .inr (5, [.ref a0, .ref a3, .ref a4, .ref a5, .ref a1, .ref a6_leads])), (a6_leads, .inl (cy, 3, .inl f6_leads)), (a0, .inr (0, [.ref a0_offset, .ref a0_gain, .ref a0_dark, .ref a0_bright])), (a0_offset, .inl (cy, 36, .inl f0_offset)), (a0_gain, .inl (cy, 36, .inl f0_gain)), (a0_dark, .inl (cy, 36, .inl f0_dark)), (a0_bright, .inl (cy, 36, .inl f0_bright)), (a4, .inr (3, [.int v4_count, .ref a4_kinds, .ref a4_numbers])), (a4_kinds, .inl (cy, 4, .inl f4_kinds)), (a4_numbers, .inl (cy, 4, .inl f4_numbers)), (a5, .inr (4, [.int v5_on, .int v5_lines, .int v5_reach, .int v5_positions, .int v5_queued, .int v5_position, .int v5_next, .int v5_mode, .int v5_outTicks, .int v5_stops, .int v5_ticked])), (a1, .inr (1, [.int v1_count, .int v1_threshold, .ref a1_values])), (a1_values, .inl (cy, 1440, .inl f1_values))]) ⟨hx, hb, hml, hown, hts⟩ (kX3_lay l dC dI cy _ a3 a3_firstRow a3_lastRow a3_firstColumn a3_lastColumn a3_slants a3_tints a3_specks v3_ground v3_patches f3_firstRow f3_lastRow f3_firstColumn f3_lastColumn f3_slants f3_tints f3_specks p1 p2 p3 p4 p5 r2 w2_patches w2_firstRow w2_lastRow w2_firstColumn w2_lastColumn w2_slants w2_tints hr2) (cwV 5 hts gX6_patch_X3_lay rfl rfl rfl (by decide +kernel) ⟨Nat.le_of_ble_eq_true rfl, Nat.le_of_ble_eq_true rfl⟩) (va_recv hK hP (ci := 2) (q0 := 7) rfl rfl) hK hP hD hS hA [7, 8, 9, 10, 11, 12, 13, 14] [0, 1, 2, 3, 4, 5, 6, 15, 16, 17, 18, 19, 20] rfl rfl (by decide) (by decide) (by decide) rfl hl.1 rfl (Nat.le_of_ble_eq_true rfl) dX6_patch_77 (Nat.zero_le _) (Nat.zero_le _) (fun H locs hP hD hS => ?_)
                  have hP : va_P (dC, dI) vwCl (WX6 cy a6 a6_leads a0 a0_offset a0_gain a0_dark a0_bright a3 a3_firstRow a3_lastRow a3_firstColumn a3_lastColumn a3_slants a3_tints a3_specks a4 a4_kinds a4_numbers a5 a1 a1_values f6_leads f0_offset f0_gain f0_dark f0_bright v3_ground w2_patches w2_firstRow w2_lastRow w2_firstColumn w2_lastColumn w2_slants w2_tints f3_specks v4_count f4_kinds f4_numbers v5_on v5_lines v5_reach v5_positions v5_queued v5_position v5_next v5_mode v5_outTicks v5_stops v5_ticked v1_count v1_threshold f1_values) H := hP.sub [0, 1, 2, 3, 4, 5, 6, 13, 14, 15, 16, 17, 18, 19, 20, 7, 8, 9, 10, 11, 12] rfl
                  have hD : va_D A0 (WX6 cy a6 a6_leads a0 a0_offset a0_gain a0_dark a0_bright a3 a3_firstRow a3_lastRow a3_firstColumn a3_lastColumn a3_slants a3_tints a3_specks a4 a4_kinds a4_numbers a5 a1 a1_values f6_leads f0_offset f0_gain f0_dark f0_bright v3_ground w2_patches w2_firstRow w2_lastRow w2_firstColumn w2_lastColumn w2_slants w2_tints f3_specks v4_count f4_kinds f4_numbers v5_on v5_lines v5_reach v5_positions v5_queued v5_position v5_next v5_mode v5_outTicks v5_stops v5_ticked v1_count v1_threshold f1_values) := hD.sub [0, 1, 2, 3, 4, 5, 6, 13, 14, 15, 16, 17, 18, 19, 20, 7, 8, 9, 10, 11, 12] (by decide) rfl
                  cases hf
                  exact W.iret hx hb hr (fun t ht hW => ⟨⟨_, (), rfl, rfl, by rw [ht]; exact hP, hD⟩, hS.F ht⟩) hS.2.2 dX6_patch_80
                · have hf := it_n hc hf
                  refine lv_bipush (v := (-3 : Int32)) hx hb dX6_patch_63 (by decide) ?_
                  cases hf
                  exact W.iret hx hb hr (fun t ht hW => ⟨⟨_, (), rfl, rfl, by rw [ht]; exact hP, hD⟩, hS.F ht⟩) hS.2.2 dX6_patch_65
              · have hf := it_p hc hf
                refine lv_bipush (v := (-2 : Int32)) hx hb dX6_patch_50 (by decide) ?_
                cases hf
                exact W.iret hx hb hr (fun t ht hW => ⟨⟨_, (), rfl, rfl, by rw [ht]; exact hP, hD⟩, hS.F ht⟩) hS.2.2 dX6_patch_52
            · have hf := it_n hc hf
              refine lv_bipush (v := (-2 : Int32)) hx hb dX6_patch_35 (by decide) ?_
              cases hf
              exact W.iret hx hb hr (fun t ht hW => ⟨⟨_, (), rfl, rfl, by rw [ht]; exact hP, hD⟩, hS.F ht⟩) hS.2.2 dX6_patch_37
      · have hf := it_n hc hf
        refine lv_bipush (v := (-2 : Int32)) hx hb dX6_patch_15 (by decide) ?_
        cases hf
        exact W.iret hx hb hr (fun t ht hW => ⟨⟨_, (), rfl, rfl, by rw [ht]; exact hP, hD⟩, hS.F ht⟩) hS.2.2 dX6_patch_17
set_option maxHeartbeats 4000000 in
set_option maxRecDepth 100000 in
theorem kX6_tint (l : Launch) (dC : Nat → ClassId) (dI : Nat → Nat → Nat) (cy : ClassId) (sz : Nat) (a6 a6_leads a0 a0_offset a0_gain a0_dark a0_bright a3 a3_firstRow a3_lastRow a3_firstColumn a3_lastColumn a3_slants a3_tints a3_specks a4 a4_kinds a4_numbers a5 a1 a1_values : Nat) (f6_leads : Nat → Int32) (f0_offset : Nat → Int32) (f0_gain : Nat → Int32) (f0_dark : Nat → Int32) (f0_bright : Nat → Int32) (v3_ground : Int32) (v3_patches : Int32) (f3_firstRow : Nat → Int32) (f3_lastRow : Nat → Int32) (f3_firstColumn : Nat → Int32) (f3_lastColumn : Nat → Int32) (f3_slants : Nat → Int32) (f3_tints : Nat → Int32) (f3_specks : Nat → Int32) (v4_count : Int32) (f4_kinds : Nat → Int32) (f4_numbers : Nat → Int32) (v5_on : Int32) (v5_lines : Int32) (v5_reach : Int32) (v5_positions : Int32) (v5_queued : Int32) (v5_position : Int32) (v5_next : Int32) (v5_mode : Int32) (v5_outTicks : Int32) (v5_stops : Int32) (v5_ticked : Int32) (v1_count : Int32) (v1_threshold : Int32) (f1_values : Nat → Int32) (p1 : Int32) (p2 : Int32) (p3 : Int32) (r : Int32) (o_f3_tints : Nat → Int32) (hf : fX6_tint v3_patches f3_tints v5_on p1 p2 p3 = some (r, o_f3_tints)) : Met l yX6_tint wsX6_tint ({ frames := 2, cells := 0, slots := 0, locals := 42 }) (rwP [.ref a6, .int p1, .int p2, .int p3] (dC, dI) vwCl (WX6 cy a6 a6_leads a0 a0_offset a0_gain a0_dark a0_bright a3 a3_firstRow a3_lastRow a3_firstColumn a3_lastColumn a3_slants a3_tints a3_specks a4 a4_kinds a4_numbers a5 a1 a1_values f6_leads f0_offset f0_gain f0_dark f0_bright v3_ground v3_patches f3_firstRow f3_lastRow f3_firstColumn f3_lastColumn f3_slants f3_tints f3_specks v4_count f4_kinds f4_numbers v5_on v5_lines v5_reach v5_positions v5_queued v5_position v5_next v5_mode v5_outTicks v5_stops v5_ticked v1_count v1_threshold f1_values) [(cy, .int)] sz) (rwQi r (dC, dI) vwCl (WX6 cy a6 a6_leads a0 a0_offset a0_gain a0_dark a0_bright a3 a3_firstRow a3_lastRow a3_firstColumn a3_lastColumn a3_slants a3_tints a3_specks a4 a4_kinds a4_numbers a5 a1 a1_values f6_leads f0_offset f0_gain f0_dark f0_bright v3_ground v3_patches f3_firstRow f3_lastRow f3_firstColumn f3_lastColumn f3_slants o_f3_tints f3_specks v4_count f4_kinds f4_numbers v5_on v5_lines v5_reach v5_positions v5_queued v5_position v5_next v5_mode v5_outTicks v5_stops v5_ticked v1_count v1_threshold f1_values) (va_A (WX6 cy a6 a6_leads a0 a0_offset a0_gain a0_dark a0_bright a3 a3_firstRow a3_lastRow a3_firstColumn a3_lastColumn a3_slants a3_tints a3_specks a4 a4_kinds a4_numbers a5 a1 a1_values f6_leads f0_offset f0_gain f0_dark f0_bright v3_ground v3_patches f3_firstRow f3_lastRow f3_firstColumn f3_lastColumn f3_slants f3_tints f3_specks v4_count f4_kinds f4_numbers v5_on v5_lines v5_reach v5_positions v5_queued v5_position v5_next v5_mode v5_outTicks v5_stops v5_ticked v1_count v1_threshold f1_values) sz)) 0 0 (va_A (WX6 cy a6 a6_leads a0 a0_offset a0_gain a0_dark a0_bright a3 a3_firstRow a3_lastRow a3_firstColumn a3_lastColumn a3_slants a3_tints a3_specks a4 a4_kinds a4_numbers a5 a1 a1_values f6_leads f0_offset f0_gain f0_dark f0_bright v3_ground v3_patches f3_firstRow f3_lastRow f3_firstColumn f3_lastColumn f3_slants f3_tints f3_specks v4_count f4_kinds f4_numbers v5_on v5_lines v5_reach v5_positions v5_queued v5_position v5_next v5_mode v5_outTicks v5_stops v5_ticked v1_count v1_threshold f1_values) sz) := by
  refine Met.ofW (cc := cX6_tint) (maxL := 6) (ret := (some .int)) (by decide) rfl ?_
  intro p e s m args below meth c s₁ B hml hv
  obtain ⟨rfl, hsz, hP, hK, hD0⟩ := hv
  have hx := B.exec
  have hb := B.bytes
  have hr := B.returns
  have hts := atoms_spec (ws := wsX6_tint) B.pre
  have hown : s.vm.findClass RX6 = some m.cls := findClass_of_methodNamed B.named
  have hlocks := B.notSynchronized
  have hiX6 : ∀ w ∈ u_ws RX6 TX6 6, w ∈ wsX6_tint := fun _ h => List.mem_cons_of_mem _ (List.mem_append_left _ (List.mem_append_left _ ((List.mem_append_right _ h))))
  have hiX3 : ∀ w ∈ u_ws RX3 TX3 9, w ∈ wsX6_tint := fun _ h => List.mem_cons_of_mem _ (List.mem_append_left _ ((List.mem_append_right _ h)))
  have hiX5 : ∀ w ∈ u_ws RX5 TX5 11, w ∈ wsX6_tint := fun _ h => List.mem_cons_of_mem _ ((List.mem_append_right _ h))
  subst hsz
  have hD := hD0.self (sz := s.heap.size)
  generalize hAe : va_A (WX6 cy a6 a6_leads a0 a0_offset a0_gain a0_dark a0_bright a3 a3_firstRow a3_lastRow a3_firstColumn a3_lastColumn a3_slants a3_tints a3_specks a4 a4_kinds a4_numbers a5 a1 a1_values f6_leads f0_offset f0_gain f0_dark f0_bright v3_ground v3_patches f3_firstRow f3_lastRow f3_firstColumn f3_lastColumn f3_slants f3_tints f3_specks v4_count f4_kinds f4_numbers v5_on v5_lines v5_reach v5_positions v5_queued v5_position v5_next v5_mode v5_outTicks v5_stops v5_ticked v1_count v1_threshold f1_values) s.heap.size = A0 at hD ⊢
  have hA : ∀ q : Nat, s.heap.size ≤ q → A0 q := fun q h => by rw [← hAe]; exact Or.inr h
  have hS : va_S A0 s.heap s.heap [] := va_S.rf
  have hl := lv_entry ([.ref a6, .int p1, .int p2, .int p3]) (n := 6) (Nat.le_of_ble_eq_true rfl)
  rw [lg_entry_eq]
  generalize (lg_sl ([.ref a6, .int p1, .int p2, .int p3]) ++ List.replicate (6 - (lg_sl ([.ref a6, .int p1, .int p2, .int p3])).length) Slot.unset).toArray = ls at hl ⊢
  have hl : lv_has ls 6 [(0, .ref a6), (1, .int p1), (2, .int p2), (3, .int p3)] := hl
  unfold fX6_tint at hf
  refine lv_iload_n hx hb dX6_tint_0 rfl (lv_at hl 1 rfl) ?_
  refine lv_if_lt (tgt := 22) hx hb dX6_tint_1 (by decide) (fun hc => ?_) (fun hc => ?_)
  · have hf := it_p hc hf
    refine lv_iconst (v := (-1 : Int32)) hx hb dX6_tint_22 (by decide) ?_
    cases hf
    exact W.iret hx hb hr (fun t ht hW => ⟨⟨_, (), rfl, rfl, by rw [ht]; exact hP, hD⟩, hS.F ht⟩) hS.2.2 dX6_tint_23
  · have hf := it_n hc hf
    refine lv_iload_n hx hb dX6_tint_4 rfl (lv_at hl 1 rfl) ?_
    refine lv_aload_n hx hb dX6_tint_5 rfl (lv_at hl 0 rfl) ?_
    refine va_get (D := (dC, dI)) (ci := 5) (v := .ref a3) (C := RX6) (T := TX6) (N := 6) hx hb hts hiX6 hown hK hP 0 rfl rfl 1 (by decide) (hts (.fieldLink RX6 21 "PageLines" "page" "LPageLines$Page;") (List.mem_of_getElem? (i := 1) rfl)) (fun _ h9 => h9) rfl dX6_tint_6 ?_
    refine va_get (D := (dC, dI)) (ci := 2) (v := .int v3_patches) (C := RX3) (T := TX3) (N := 9) hx hb hts hiX3 hown hK hP 7 rfl rfl 1 (by decide) (hts (.fieldLink RX6 106 "PageLines$Page" "patches" "I") (List.mem_of_getElem? (i := 2) rfl)) (fun _ h9 => h9) rfl dX6_tint_9 ?_
    refine lv_icmp_ge (tgt := 22) hx hb dX6_tint_12 (by decide) (fun hc => ?_) (fun hc => ?_)
    · have hf := it_p hc hf
      refine lv_iconst (v := (-1 : Int32)) hx hb dX6_tint_22 (by decide) ?_
      cases hf
      exact W.iret hx hb hr (fun t ht hW => ⟨⟨_, (), rfl, rfl, by rw [ht]; exact hP, hD⟩, hS.F ht⟩) hS.2.2 dX6_tint_23
    · have hf := it_n hc hf
      refine lv_iload_n hx hb dX6_tint_15 rfl (lv_at hl 2 rfl) ?_
      obtain ⟨r1, hr1, hf⟩ := cl1_sp hf
      refine ro_S (As := [.int p2]) ⟨hx, hb, hml, hown, hts⟩ (kX6_isColour l _ p2 r1 hr1) (va_cwS 1 hts gX6_tint_X6_isColour rfl rfl rfl (by decide +kernel) ⟨Nat.le_of_ble_eq_true rfl, Nat.le_of_ble_eq_true rfl⟩) hS rfl hl.1 rfl (Nat.le_of_ble_eq_true rfl) dX6_tint_16 (Nat.zero_le _) (Nat.zero_le _) (fun locs hS => ?_)
      refine lv_if_ne (tgt := 24) hx hb dX6_tint_19 (by decide) (fun hc => ?_) (fun hc => ?_)
      · have hf := it_n hc hf
        refine lv_iload_n hx hb dX6_tint_24 rfl (lv_at hl 3 rfl) ?_
        refine lv_iconst (v := (0 : Int32)) hx hb dX6_tint_25 (by decide) ?_
        refine lv_sipush (v := (255 : Int32)) hx hb dX6_tint_26 (by decide) ?_
        obtain ⟨r2, hr2, hf⟩ := cl1_sp hf
        refine ro_S (As := [.int p3, .int (0 : Int32), .int (255 : Int32)]) ⟨hx, hb, hml, hown, hts⟩ (kX2_within l _ p3 (0 : Int32) (255 : Int32) r2 hr2) (va_cwS 3 hts gX6_tint_X2_within rfl rfl rfl (by decide +kernel) ⟨Nat.le_of_ble_eq_true rfl, Nat.le_of_ble_eq_true rfl⟩) hS rfl hl.1 rfl (Nat.le_of_ble_eq_true rfl) dX6_tint_29 (Nat.zero_le _) (Nat.zero_le _) (fun locs hS => ?_)
        refine lv_if_ne (tgt := 38) hx hb dX6_tint_32 (by decide) (fun hc => ?_) (fun hc => ?_)
        · have hf := it_n hc hf
          refine lv_aload_n hx hb dX6_tint_38 rfl (lv_at hl 0 rfl) ?_
          refine va_get (D := (dC, dI)) (ci := 5) (v := .ref a5) (C := RX6) (T := TX6) (N := 6) hx hb hts hiX6 hown hK hP 0 rfl rfl 3 (by decide) (hts (.fieldLink RX6 35 "PageLines" "scan" "LPageLines$Scan;") (List.mem_of_getElem? (i := 3) rfl)) (fun _ h9 => h9) rfl dX6_tint_39 ?_
          refine va_get (D := (dC, dI)) (ci := 4) (v := .int v5_on) (C := RX5) (T := TX5) (N := 11) hx hb hts hiX5 hown hK hP 18 rfl rfl 0 (by decide) (hts (.fieldLink RX6 60 "PageLines$Scan" "on" "Z") (List.mem_of_getElem? (i := 4) rfl)) (fun _ h9 => h9) rfl dX6_tint_42 ?_
          refine lv_if_eq (tgt := 51) hx hb dX6_tint_45 (by decide) (fun hc => ?_) (fun hc => ?_)
          · have hf := it_p hc hf
            refine lv_iload_n hx hb dX6_tint_51 rfl (lv_at hl 1 rfl) ?_
            refine lv_iconst (v := (3 : Int32)) hx hb dX6_tint_52 (by decide) ?_
            refine lv_imul hx hb dX6_tint_53 ?_
            refine lv_iload_n hx hb dX6_tint_54 rfl (lv_at hl 2 rfl) ?_
            refine lv_iadd hx hb dX6_tint_55 ?_
            refine lv_istore (lv' := [(4, .int ((p1 * (3 : Int32)) + p2)), (0, .ref a6), (1, .int p1), (2, .int p2), (3, .int p3)]) hx hb dX6_tint_56 hl (by decide) rfl (fun ls hl => ?_)
            refine lv_aload_n hx hb dX6_tint_58 rfl (lv_at hl 1 rfl) ?_
            refine va_get (D := (dC, dI)) (ci := 5) (v := .ref a3) (C := RX6) (T := TX6) (N := 6) hx hb hts hiX6 hown hK hP 0 rfl rfl 1 (by decide) (hts (.fieldLink RX6 21 "PageLines" "page" "LPageLines$Page;") (List.mem_of_getElem? (i := 1) rfl)) (fun _ h9 => h9) rfl dX6_tint_59 ?_
            refine va_get (D := (dC, dI)) (ci := 2) (v := .ref a3_tints) (C := RX3) (T := TX3) (N := 9) hx hb hts hiX3 hown hK hP 7 rfl rfl 7 (by decide) (hts (.fieldLink RX6 112 "PageLines$Page" "tints" "[I") (List.mem_of_getElem? (i := 5) rfl)) (fun _ h9 => h9) rfl dX6_tint_62 ?_
            refine lv_iload hx hb dX6_tint_65 (lv_at hl 0 rfl) ?_
            obtain ⟨hi_3, hf⟩ := ckI_sp hf
            refine va_iald hx hb hK hP 13 0 rfl rfl hi_3 dX6_tint_67 ?_
            refine lv_istore (lv' := [(5, .int (f3_tints ((p1 * (3 : Int32)) + p2).toNatClampNeg)), (4, .int ((p1 * (3 : Int32)) + p2)), (0, .ref a6), (1, .int p1), (2, .int p2), (3, .int p3)]) hx hb dX6_tint_68 hl (by decide) rfl (fun ls hl => ?_)
            refine lv_aload_n hx hb dX6_tint_70 rfl (lv_at hl 2 rfl) ?_
            refine va_get (D := (dC, dI)) (ci := 5) (v := .ref a3) (C := RX6) (T := TX6) (N := 6) hx hb hts hiX6 hown hK hP 0 rfl rfl 1 (by decide) (hts (.fieldLink RX6 21 "PageLines" "page" "LPageLines$Page;") (List.mem_of_getElem? (i := 1) rfl)) (fun _ h9 => h9) rfl dX6_tint_71 ?_
            refine va_get (D := (dC, dI)) (ci := 2) (v := .ref a3_tints) (C := RX3) (T := TX3) (N := 9) hx hb hts hiX3 hown hK hP 7 rfl rfl 7 (by decide) (hts (.fieldLink RX6 112 "PageLines$Page" "tints" "[I") (List.mem_of_getElem? (i := 5) rfl)) (fun _ h9 => h9) rfl dX6_tint_74 ?_
            refine lv_iload hx hb dX6_tint_77 (lv_at hl 1 rfl) ?_
            refine lv_iload_n hx hb dX6_tint_79 rfl (lv_at hl 5 rfl) ?_
            obtain ⟨hi_4, hf⟩ := ckI_sp hf
            refine va_iast hx hb hK hP hD hS 13 0 rfl rfl hi_4 dX6_tint_80 (fun H locs hP hD hS => ?_)
            have hP : va_P (dC, dI) vwCl (WX6 cy a6 a6_leads a0 a0_offset a0_gain a0_dark a0_bright a3 a3_firstRow a3_lastRow a3_firstColumn a3_lastColumn a3_slants a3_tints a3_specks a4 a4_kinds a4_numbers a5 a1 a1_values f6_leads f0_offset f0_gain f0_dark f0_bright v3_ground v3_patches f3_firstRow f3_lastRow f3_firstColumn f3_lastColumn f3_slants (upd f3_tints ((p1 * (3 : Int32)) + p2).toNatClampNeg p3) f3_specks v4_count f4_kinds f4_numbers v5_on v5_lines v5_reach v5_positions v5_queued v5_position v5_next v5_mode v5_outTicks v5_stops v5_ticked v1_count v1_threshold f1_values) H := hP
            have hD : va_D A0 (WX6 cy a6 a6_leads a0 a0_offset a0_gain a0_dark a0_bright a3 a3_firstRow a3_lastRow a3_firstColumn a3_lastColumn a3_slants a3_tints a3_specks a4 a4_kinds a4_numbers a5 a1 a1_values f6_leads f0_offset f0_gain f0_dark f0_bright v3_ground v3_patches f3_firstRow f3_lastRow f3_firstColumn f3_lastColumn f3_slants (upd f3_tints ((p1 * (3 : Int32)) + p2).toNatClampNeg p3) f3_specks v4_count f4_kinds f4_numbers v5_on v5_lines v5_reach v5_positions v5_queued v5_position v5_next v5_mode v5_outTicks v5_stops v5_ticked v1_count v1_threshold f1_values) := hD
            refine lv_iload hx hb dX6_tint_81 (lv_at hl 0 rfl) ?_
            cases hf
            exact W.iret hx hb hr (fun t ht hW => ⟨⟨_, (), rfl, rfl, by rw [ht]; exact hP, hD⟩, hS.F ht⟩) hS.2.2 dX6_tint_83
          · have hf := it_n hc hf
            refine lv_bipush (v := (-3 : Int32)) hx hb dX6_tint_48 (by decide) ?_
            cases hf
            exact W.iret hx hb hr (fun t ht hW => ⟨⟨_, (), rfl, rfl, by rw [ht]; exact hP, hD⟩, hS.F ht⟩) hS.2.2 dX6_tint_50
        · have hf := it_p hc hf
          refine lv_bipush (v := (-2 : Int32)) hx hb dX6_tint_35 (by decide) ?_
          cases hf
          exact W.iret hx hb hr (fun t ht hW => ⟨⟨_, (), rfl, rfl, by rw [ht]; exact hP, hD⟩, hS.F ht⟩) hS.2.2 dX6_tint_37
      · have hf := it_p hc hf
        refine lv_iconst (v := (-1 : Int32)) hx hb dX6_tint_22 (by decide) ?_
        cases hf
        exact W.iret hx hb hr (fun t ht hW => ⟨⟨_, (), rfl, rfl, by rw [ht]; exact hP, hD⟩, hS.F ht⟩) hS.2.2 dX6_tint_23
set_option maxHeartbeats 4000000 in
set_option maxRecDepth 100000 in
theorem kX6_blank (l : Launch) (dC : Nat → ClassId) (dI : Nat → Nat → Nat) (cy : ClassId) (sz : Nat) (a6 a6_leads a0 a0_offset a0_gain a0_dark a0_bright a3 a3_firstRow a3_lastRow a3_firstColumn a3_lastColumn a3_slants a3_tints a3_specks a4 a4_kinds a4_numbers a5 a1 a1_values : Nat) (f6_leads : Nat → Int32) (f0_offset : Nat → Int32) (f0_gain : Nat → Int32) (f0_dark : Nat → Int32) (f0_bright : Nat → Int32) (v3_ground : Int32) (v3_patches : Int32) (f3_firstRow : Nat → Int32) (f3_lastRow : Nat → Int32) (f3_firstColumn : Nat → Int32) (f3_lastColumn : Nat → Int32) (f3_slants : Nat → Int32) (f3_tints : Nat → Int32) (f3_specks : Nat → Int32) (v4_count : Int32) (f4_kinds : Nat → Int32) (f4_numbers : Nat → Int32) (v5_on : Int32) (v5_lines : Int32) (v5_reach : Int32) (v5_positions : Int32) (v5_queued : Int32) (v5_position : Int32) (v5_next : Int32) (v5_mode : Int32) (v5_outTicks : Int32) (v5_stops : Int32) (v5_ticked : Int32) (v1_count : Int32) (v1_threshold : Int32) (f1_values : Nat → Int32) (r : Int32) (o_v3_patches : Int32) (hf : fX6_blank v3_patches v5_on = some (r, o_v3_patches)) : Met l yX6_blank wsX6_blank ({ frames := 0, cells := 0, slots := 0, locals := 0 }) (rwP [.ref a6] (dC, dI) vwCl (WX6 cy a6 a6_leads a0 a0_offset a0_gain a0_dark a0_bright a3 a3_firstRow a3_lastRow a3_firstColumn a3_lastColumn a3_slants a3_tints a3_specks a4 a4_kinds a4_numbers a5 a1 a1_values f6_leads f0_offset f0_gain f0_dark f0_bright v3_ground v3_patches f3_firstRow f3_lastRow f3_firstColumn f3_lastColumn f3_slants f3_tints f3_specks v4_count f4_kinds f4_numbers v5_on v5_lines v5_reach v5_positions v5_queued v5_position v5_next v5_mode v5_outTicks v5_stops v5_ticked v1_count v1_threshold f1_values) [(cy, .int)] sz) (rwQi r (dC, dI) vwCl (WX6 cy a6 a6_leads a0 a0_offset a0_gain a0_dark a0_bright a3 a3_firstRow a3_lastRow a3_firstColumn a3_lastColumn a3_slants a3_tints a3_specks a4 a4_kinds a4_numbers a5 a1 a1_values f6_leads f0_offset f0_gain f0_dark f0_bright v3_ground o_v3_patches f3_firstRow f3_lastRow f3_firstColumn f3_lastColumn f3_slants f3_tints f3_specks v4_count f4_kinds f4_numbers v5_on v5_lines v5_reach v5_positions v5_queued v5_position v5_next v5_mode v5_outTicks v5_stops v5_ticked v1_count v1_threshold f1_values) (va_A (WX6 cy a6 a6_leads a0 a0_offset a0_gain a0_dark a0_bright a3 a3_firstRow a3_lastRow a3_firstColumn a3_lastColumn a3_slants a3_tints a3_specks a4 a4_kinds a4_numbers a5 a1 a1_values f6_leads f0_offset f0_gain f0_dark f0_bright v3_ground v3_patches f3_firstRow f3_lastRow f3_firstColumn f3_lastColumn f3_slants f3_tints f3_specks v4_count f4_kinds f4_numbers v5_on v5_lines v5_reach v5_positions v5_queued v5_position v5_next v5_mode v5_outTicks v5_stops v5_ticked v1_count v1_threshold f1_values) sz)) 0 0 (va_A (WX6 cy a6 a6_leads a0 a0_offset a0_gain a0_dark a0_bright a3 a3_firstRow a3_lastRow a3_firstColumn a3_lastColumn a3_slants a3_tints a3_specks a4 a4_kinds a4_numbers a5 a1 a1_values f6_leads f0_offset f0_gain f0_dark f0_bright v3_ground v3_patches f3_firstRow f3_lastRow f3_firstColumn f3_lastColumn f3_slants f3_tints f3_specks v4_count f4_kinds f4_numbers v5_on v5_lines v5_reach v5_positions v5_queued v5_position v5_next v5_mode v5_outTicks v5_stops v5_ticked v1_count v1_threshold f1_values) sz) := by
  refine Met.ofW (cc := cX6_blank) (maxL := 2) (ret := (some .int)) (by decide) rfl ?_
  intro p e s m args below meth c s₁ B hml hv
  obtain ⟨rfl, hsz, hP, hK, hD0⟩ := hv
  have hx := B.exec
  have hb := B.bytes
  have hr := B.returns
  have hts := atoms_spec (ws := wsX6_blank) B.pre
  have hown : s.vm.findClass RX6 = some m.cls := findClass_of_methodNamed B.named
  have hlocks := B.notSynchronized
  have hiX6 : ∀ w ∈ u_ws RX6 TX6 6, w ∈ wsX6_blank := fun _ h => List.mem_cons_of_mem _ (List.mem_append_left _ (List.mem_append_left _ ((List.mem_append_right _ h))))
  have hiX5 : ∀ w ∈ u_ws RX5 TX5 11, w ∈ wsX6_blank := fun _ h => List.mem_cons_of_mem _ (List.mem_append_left _ ((List.mem_append_right _ h)))
  have hiX3 : ∀ w ∈ u_ws RX3 TX3 9, w ∈ wsX6_blank := fun _ h => List.mem_cons_of_mem _ ((List.mem_append_right _ h))
  subst hsz
  have hD := hD0.self (sz := s.heap.size)
  generalize hAe : va_A (WX6 cy a6 a6_leads a0 a0_offset a0_gain a0_dark a0_bright a3 a3_firstRow a3_lastRow a3_firstColumn a3_lastColumn a3_slants a3_tints a3_specks a4 a4_kinds a4_numbers a5 a1 a1_values f6_leads f0_offset f0_gain f0_dark f0_bright v3_ground v3_patches f3_firstRow f3_lastRow f3_firstColumn f3_lastColumn f3_slants f3_tints f3_specks v4_count f4_kinds f4_numbers v5_on v5_lines v5_reach v5_positions v5_queued v5_position v5_next v5_mode v5_outTicks v5_stops v5_ticked v1_count v1_threshold f1_values) s.heap.size = A0 at hD ⊢
  have hA : ∀ q : Nat, s.heap.size ≤ q → A0 q := fun q h => by rw [← hAe]; exact Or.inr h
  have hS : va_S A0 s.heap s.heap [] := va_S.rf
  have hl := lv_entry ([.ref a6]) (n := 2) (Nat.le_of_ble_eq_true rfl)
  rw [lg_entry_eq]
  generalize (lg_sl ([.ref a6]) ++ List.replicate (2 - (lg_sl ([.ref a6])).length) Slot.unset).toArray = ls at hl ⊢
  have hl : lv_has ls 2 [(0, .ref a6)] := hl
  unfold fX6_blank at hf
  refine lv_aload_n hx hb dX6_blank_0 rfl (lv_at hl 0 rfl) ?_
  refine va_get (D := (dC, dI)) (ci := 5) (v := .ref a5) (C := RX6) (T := TX6) (N := 6) hx hb hts hiX6 hown hK hP 0 rfl rfl 3 (by decide) (hts (.fieldLink RX6 35 "PageLines" "scan" "LPageLines$Scan;") (List.mem_of_getElem? (i := 1) rfl)) (fun _ h9 => h9) rfl dX6_blank_1 ?_
  refine va_get (D := (dC, dI)) (ci := 4) (v := .int v5_on) (C := RX5) (T := TX5) (N := 11) hx hb hts hiX5 hown hK hP 18 rfl rfl 0 (by decide) (hts (.fieldLink RX6 60 "PageLines$Scan" "on" "Z") (List.mem_of_getElem? (i := 2) rfl)) (fun _ h9 => h9) rfl dX6_blank_4 ?_
  refine lv_if_eq (tgt := 13) hx hb dX6_blank_7 (by decide) (fun hc => ?_) (fun hc => ?_)
  · have hf := it_p hc hf
    refine lv_aload_n hx hb dX6_blank_13 rfl (lv_at hl 0 rfl) ?_
    refine va_get (D := (dC, dI)) (ci := 5) (v := .ref a3) (C := RX6) (T := TX6) (N := 6) hx hb hts hiX6 hown hK hP 0 rfl rfl 1 (by decide) (hts (.fieldLink RX6 21 "PageLines" "page" "LPageLines$Page;") (List.mem_of_getElem? (i := 3) rfl)) (fun _ h9 => h9) rfl dX6_blank_14 ?_
    refine va_get (D := (dC, dI)) (ci := 2) (v := .int v3_patches) (C := RX3) (T := TX3) (N := 9) hx hb hts hiX3 hown hK hP 7 rfl rfl 1 (by decide) (hts (.fieldLink RX6 106 "PageLines$Page" "patches" "I") (List.mem_of_getElem? (i := 4) rfl)) (fun _ h9 => h9) rfl dX6_blank_17 ?_
    refine lv_istore_n (lv' := [(1, .int v3_patches), (0, .ref a6)]) hx hb dX6_blank_20 rfl hl (by decide) rfl (fun ls hl => ?_)
    refine lv_aload_n hx hb dX6_blank_21 rfl (lv_at hl 1 rfl) ?_
    refine va_get (D := (dC, dI)) (ci := 5) (v := .ref a3) (C := RX6) (T := TX6) (N := 6) hx hb hts hiX6 hown hK hP 0 rfl rfl 1 (by decide) (hts (.fieldLink RX6 21 "PageLines" "page" "LPageLines$Page;") (List.mem_of_getElem? (i := 3) rfl)) (fun _ h9 => h9) rfl dX6_blank_22 ?_
    refine lv_iconst (v := (0 : Int32)) hx hb dX6_blank_25 (by decide) ?_
    refine va_put (D := (dC, dI)) (ci := 2) (v := .int (0 : Int32)) (ty := .int) (C := RX3) (T := TX3) (N := 9) hx hb hts hiX3 tyX3 tyX3_ok nmX3 hown hK hP hD hS 7 rfl rfl 1 (by decide) (hts (.fieldLink RX6 106 "PageLines$Page" "patches" "I") (List.mem_of_getElem? (i := 4) rfl)) (fun _ h9 => h9) rfl (by decide +kernel) rfl rfl (Nat.le_of_ble_eq_true rfl) dX6_blank_26 (fun H locs hP hD hS => ?_)
    have hP : va_P (dC, dI) vwCl (WX6 cy a6 a6_leads a0 a0_offset a0_gain a0_dark a0_bright a3 a3_firstRow a3_lastRow a3_firstColumn a3_lastColumn a3_slants a3_tints a3_specks a4 a4_kinds a4_numbers a5 a1 a1_values f6_leads f0_offset f0_gain f0_dark f0_bright v3_ground (0 : Int32) f3_firstRow f3_lastRow f3_firstColumn f3_lastColumn f3_slants f3_tints f3_specks v4_count f4_kinds f4_numbers v5_on v5_lines v5_reach v5_positions v5_queued v5_position v5_next v5_mode v5_outTicks v5_stops v5_ticked v1_count v1_threshold f1_values) H := hP
    have hD : va_D A0 (WX6 cy a6 a6_leads a0 a0_offset a0_gain a0_dark a0_bright a3 a3_firstRow a3_lastRow a3_firstColumn a3_lastColumn a3_slants a3_tints a3_specks a4 a4_kinds a4_numbers a5 a1 a1_values f6_leads f0_offset f0_gain f0_dark f0_bright v3_ground (0 : Int32) f3_firstRow f3_lastRow f3_firstColumn f3_lastColumn f3_slants f3_tints f3_specks v4_count f4_kinds f4_numbers v5_on v5_lines v5_reach v5_positions v5_queued v5_position v5_next v5_mode v5_outTicks v5_stops v5_ticked v1_count v1_threshold f1_values) := hD
    refine lv_iload_n hx hb dX6_blank_29 rfl (lv_at hl 0 rfl) ?_
    cases hf
    exact W.iret hx hb hr (fun t ht hW => ⟨⟨_, (), rfl, rfl, by rw [ht]; exact hP, hD⟩, hS.F ht⟩) hS.2.2 dX6_blank_30
  · have hf := it_n hc hf
    refine lv_bipush (v := (-3 : Int32)) hx hb dX6_blank_10 (by decide) ?_
    cases hf
    exact W.iret hx hb hr (fun t ht hW => ⟨⟨_, (), rfl, rfl, by rw [ht]; exact hP, hD⟩, hS.F ht⟩) hS.2.2 dX6_blank_12

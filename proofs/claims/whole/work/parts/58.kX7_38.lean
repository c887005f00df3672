set_option maxHeartbeats 4000000 in
set_option maxRecDepth 100000 in
theorem kX7_many (l : Launch) (dC : Nat → ClassId) (dI : Nat → Nat → Nat) (cy : ClassId) (H : Heap) (a7 a7_offset a7_gain a7_dark a7_bright a7_fromRow a7_toRow a7_left a7_right a7_slant a7_tintOf a7_speckOf a7_leadOf a7_stepKind a7_stepBy a7_pixels : Nat) (f7_offset : Nat → Int32) (f7_gain : Nat → Int32) (f7_dark : Nat → Int32) (f7_bright : Nat → Int32) (v7_ground : Int32) (v7_patches : Int32) (f7_fromRow : Nat → Int32) (f7_toRow : Nat → Int32) (f7_left : Nat → Int32) (f7_right : Nat → Int32) (f7_slant : Nat → Int32) (f7_tintOf : Nat → Int32) (f7_speckOf : Nat → Int32) (f7_leadOf : Nat → Int32) (v7_steps : Int32) (f7_stepKind : Nat → Int32) (f7_stepBy : Nat → Int32) (v7_threshold : Int32) (v7_isOn : Int32) (v7_lines : Int32) (v7_done : Int32) (v7_taken : Int32) (v7_lastPosition : Int32) (v7_position : Int32) (v7_mode : Int32) (v7_next : Int32) (v7_outs : Int32) (v7_stops : Int32) (v7_ticks : Int32) (f7_pixels : Nat → Int32) (p1 : Int32) (r : Int32) (hf : fX7_many f7_dark f7_bright v7_patches v7_steps v7_threshold v7_lines v7_taken f7_pixels p1 = some r) : Met l yX7_many wsX7_many ({ frames := 4, cells := 0, slots := 0, locals := 89 }) (roP [.ref a7, .int p1] (dC, dI) vwCl (WX7 cy a7 a7_offset a7_gain a7_dark a7_bright a7_fromRow a7_toRow a7_left a7_right a7_slant a7_tintOf a7_speckOf a7_leadOf a7_stepKind a7_stepBy a7_pixels f7_offset f7_gain f7_dark f7_bright v7_ground v7_patches f7_fromRow f7_toRow f7_left f7_right f7_slant f7_tintOf f7_speckOf f7_leadOf v7_steps f7_stepKind f7_stepBy v7_threshold v7_isOn v7_lines v7_done v7_taken v7_lastPosition v7_position v7_mode v7_next v7_outs v7_stops v7_ticks f7_pixels) [(cy, .int)] H) (roQi r H) 0 0 (fun _ => False) := by
  refine Met.ofW (cc := cX7_many) (maxL := 2) (ret := (some .int)) (by decide) rfl ?_
  intro p e s m args below meth c s₁ B hml hv
  obtain ⟨rfl, hH, hP, hK⟩ := hv
  have hx := B.exec
  have hb := B.bytes
  have hr := B.returns
  have hts := atoms_spec (ws := wsX7_many) B.pre
  have hown : s.vm.findClass RX7 = some m.cls := findClass_of_methodNamed B.named
  have hlocks := B.notSynchronized
  have hiX7 : ∀ w ∈ u_ws RX7 TX7 30, w ∈ wsX7_many := fun _ h => List.mem_cons_of_mem _ ((List.mem_append_right _ h))
  subst hH
  have hS : va_S (fun _ => False) s.heap s.heap [] := va_S.rf
  have hl := lv_entry ([.ref a7, .int p1]) (n := 2) (Nat.le_of_ble_eq_true rfl)
  rw [lg_entry_eq]
  generalize (lg_sl ([.ref a7, .int p1]) ++ List.replicate (2 - (lg_sl ([.ref a7, .int p1])).length) Slot.unset).toArray = ls at hl ⊢
  have hl : lv_has ls 2 [(0, .ref a7), (1, .int p1)] := hl
  unfold fX7_many at hf
  refine lv_iload_n hx hb dX7_many_0 rfl (lv_at hl 1 rfl) ?_
  by_cases hs1 : p1 = (0 : Int32)
  · refine lv_tableIn (tgt := 40) (off := 39) hx hb dX7_many_1 (by rw [hs1]; decide) (by rw [hs1]; decide) (by rw [hs1]; rfl) (by decide) ?_
    have hf := it_p hs1 hf
    refine lv_aload_n hx hb dX7_many_40 rfl (lv_at hl 0 rfl) ?_
    refine va_get (D := (dC, dI)) (ci := 6) (v := .int v7_patches) (C := RX7) (T := TX7) (N := 30) hx hb hts hiX7 hown hK hP 0 rfl rfl 5 (by decide) (hts (.fieldLink RX7 107 "PageLinesModel" "patches" "I") (List.mem_of_getElem? (i := 1) rfl)) (fun _ h9 => h9) rfl dX7_many_41 ?_
    exact W.iret (v := v7_patches) hx hb hr (fun t ht hW => ⟨⟨_, (), rfl, Option.some.inj hf, ht⟩, hS.F ht⟩) hS.2.2 dX7_many_44
  · have hf := it_n hs1 hf
    by_cases hs2 : p1 = (1 : Int32)
    · refine lv_tableIn (tgt := 45) (off := 44) hx hb dX7_many_1 (by rw [hs2]; decide) (by rw [hs2]; decide) (by rw [hs2]; rfl) (by decide) ?_
      have hf := it_p hs2 hf
      refine lv_aload_n hx hb dX7_many_45 rfl (lv_at hl 0 rfl) ?_
      refine va_get (D := (dC, dI)) (ci := 6) (v := .int v7_steps) (C := RX7) (T := TX7) (N := 30) hx hb hts hiX7 hown hK hP 0 rfl rfl 14 (by decide) (hts (.fieldLink RX7 129 "PageLinesModel" "steps" "I") (List.mem_of_getElem? (i := 2) rfl)) (fun _ h9 => h9) rfl dX7_many_46 ?_
      exact W.iret (v := v7_steps) hx hb hr (fun t ht hW => ⟨⟨_, (), rfl, Option.some.inj hf, ht⟩, hS.F ht⟩) hS.2.2 dX7_many_49
    · have hf := it_n hs2 hf
      by_cases hs3 : p1 = (2 : Int32)
      · refine lv_tableIn (tgt := 50) (off := 49) hx hb dX7_many_1 (by rw [hs3]; decide) (by rw [hs3]; decide) (by rw [hs3]; rfl) (by decide) ?_
        have hf := it_p hs3 hf
        refine lv_aload_n hx hb dX7_many_50 rfl (lv_at hl 0 rfl) ?_
        refine va_get (D := (dC, dI)) (ci := 6) (v := .int v7_taken) (C := RX7) (T := TX7) (N := 30) hx hb hts hiX7 hown hK hP 0 rfl rfl 21 (by decide) (hts (.fieldLink RX7 154 "PageLinesModel" "taken" "I") (List.mem_of_getElem? (i := 3) rfl)) (fun _ h9 => h9) rfl dX7_many_51 ?_
        exact W.iret (v := v7_taken) hx hb hr (fun t ht hW => ⟨⟨_, (), rfl, Option.some.inj hf, ht⟩, hS.F ht⟩) hS.2.2 dX7_many_54
      · have hf := it_n hs3 hf
        by_cases hs4 : p1 = (3 : Int32)
        · refine lv_tableIn (tgt := 55) (off := 54) hx hb dX7_many_1 (by rw [hs4]; decide) (by rw [hs4]; decide) (by rw [hs4]; rfl) (by decide) ?_
          have hf := it_p hs4 hf
          refine lv_aload_n hx hb dX7_many_55 rfl (lv_at hl 0 rfl) ?_
          obtain ⟨r5, hr5, hf⟩ := cl1_sp hf
          refine ro_V (As := []) ⟨hx, hb, hml, hown, hts⟩ (kX7_manyLive l dC dI cy _ a7 a7_offset a7_gain a7_dark a7_bright a7_fromRow a7_toRow a7_left a7_right a7_slant a7_tintOf a7_speckOf a7_leadOf a7_stepKind a7_stepBy a7_pixels f7_offset f7_gain f7_dark f7_bright v7_ground v7_patches f7_fromRow f7_toRow f7_left f7_right f7_slant f7_tintOf f7_speckOf f7_leadOf v7_steps f7_stepKind f7_stepBy v7_threshold v7_isOn v7_lines v7_done v7_taken v7_lastPosition v7_position v7_mode v7_next v7_outs v7_stops v7_ticks f7_pixels r5 hr5) (cwV 0 hts gX7_many_X7_manyLive rfl rfl rfl (by decide +kernel) ⟨Nat.le_of_ble_eq_true rfl, Nat.le_of_ble_eq_true rfl⟩) (va_recv hK hP (ci := 6) (q0 := 0) rfl rfl) (hP.sub [0, 1, 2, 3, 4, 5, 6, 7, 8, 9, 10, 11, 12, 13, 14, 15] rfl) hK hS rfl hl.1 rfl (Nat.le_of_ble_eq_true rfl) dX7_many_56 (Nat.zero_le _) (Nat.zero_le _) (fun locs hS => ?_)
          exact W.iret (v := r5) hx hb hr (fun t ht hW => ⟨⟨_, (), rfl, Option.some.inj hf, ht⟩, hS.F ht⟩) hS.2.2 dX7_many_59
        · have hf := it_n hs4 hf
          by_cases hs6 : p1 = (4 : Int32)
          · refine lv_tableIn (tgt := 60) (off := 59) hx hb dX7_many_1 (by rw [hs6]; decide) (by rw [hs6]; decide) (by rw [hs6]; rfl) (by decide) ?_
            have hf := it_p hs6 hf
            refine lv_aload_n hx hb dX7_many_60 rfl (lv_at hl 0 rfl) ?_
            refine va_get (D := (dC, dI)) (ci := 6) (v := .int v7_lines) (C := RX7) (T := TX7) (N := 30) hx hb hts hiX7 hown hK hP 0 rfl rfl 19 (by decide) (hts (.fieldLink RX7 148 "PageLinesModel" "lines" "I") (List.mem_of_getElem? (i := 4) rfl)) (fun _ h9 => h9) rfl dX7_many_61 ?_
            exact W.iret (v := v7_lines) hx hb hr (fun t ht hW => ⟨⟨_, (), rfl, Option.some.inj hf, ht⟩, hS.F ht⟩) hS.2.2 dX7_many_64
          · have hf := it_n hs6 hf
            by_cases hs7 : p1 = (5 : Int32)
            · refine lv_tableIn (tgt := 65) (off := 64) hx hb dX7_many_1 (by rw [hs7]; decide) (by rw [hs7]; decide) (by rw [hs7]; rfl) (by decide) ?_
              have hf := it_p hs7 hf
              refine lv_aload_n hx hb dX7_many_65 rfl (lv_at hl 0 rfl) ?_
              obtain ⟨r8, hr8, hf⟩ := cl1_sp hf
              refine ro_V (As := []) ⟨hx, hb, hml, hown, hts⟩ (kX7_manyRuns l dC dI cy _ a7 a7_offset a7_gain a7_dark a7_bright a7_fromRow a7_toRow a7_left a7_right a7_slant a7_tintOf a7_speckOf a7_leadOf a7_stepKind a7_stepBy a7_pixels f7_offset f7_gain f7_dark f7_bright v7_ground v7_patches f7_fromRow f7_toRow f7_left f7_right f7_slant f7_tintOf f7_speckOf f7_leadOf v7_steps f7_stepKind f7_stepBy v7_threshold v7_isOn v7_lines v7_done v7_taken v7_lastPosition v7_position v7_mode v7_next v7_outs v7_stops v7_ticks f7_pixels r8 hr8) (cwV 0 hts gX7_many_X7_manyRuns rfl rfl rfl (by decide +kernel) ⟨Nat.le_of_ble_eq_true rfl, Nat.le_of_ble_eq_true rfl⟩) (va_recv hK hP (ci := 6) (q0 := 0) rfl rfl) (hP.sub [0, 1, 2, 3, 4, 5, 6, 7, 8, 9, 10, 11, 12, 13, 14, 15] rfl) hK hS rfl hl.1 rfl (Nat.le_of_ble_eq_true rfl) dX7_many_66 (Nat.zero_le _) (Nat.zero_le _) (fun locs hS => ?_)
              exact W.iret (v := r8) hx hb hr (fun t ht hW => ⟨⟨_, (), rfl, Option.some.inj hf, ht⟩, hS.F ht⟩) hS.2.2 dX7_many_69
            · have hf := it_n hs7 hf
              refine lv_tableOut (tgt := 70) hx hb dX7_many_1 (by have e0 := lv_neT hs1 (show ((0 : Int32)).toInt = 0 from by decide); have e1 := lv_neT hs2 (show ((1 : Int32)).toInt = 1 from by decide); have e2 := lv_neT hs3 (show ((2 : Int32)).toInt = 2 from by decide); have e3 := lv_neT hs4 (show ((3 : Int32)).toInt = 3 from by decide); have e4 := lv_neT hs6 (show ((4 : Int32)).toInt = 4 from by decide); have e5 := lv_neT hs7 (show ((5 : Int32)).toInt = 5 from by decide); omega) (by decide) ?_
              refine lv_bipush (v := (-2 : Int32)) hx hb dX7_many_70 (by decide) ?_
              exact W.iret (v := (-2 : Int32)) hx hb hr (fun t ht hW => ⟨⟨_, (), rfl, Option.some.inj hf, ht⟩, hS.F ht⟩) hS.2.2 dX7_many_72

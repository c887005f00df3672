set_option maxHeartbeats 4000000 in
set_option maxRecDepth 100000 in
theorem kX7_valueAt (l : Launch) (dC : Nat → ClassId) (dI : Nat → Nat → Nat) (cy : ClassId) (H : Heap) (a7 a7_offset a7_gain a7_dark a7_bright a7_fromRow a7_toRow a7_left a7_right a7_slant a7_tintOf a7_speckOf a7_leadOf a7_stepKind a7_stepBy a7_pixels : Nat) (f7_offset : Nat → Int32) (f7_gain : Nat → Int32) (f7_dark : Nat → Int32) (f7_bright : Nat → Int32) (v7_ground : Int32) (v7_patches : Int32) (f7_fromRow : Nat → Int32) (f7_toRow : Nat → Int32) (f7_left : Nat → Int32) (f7_right : Nat → Int32) (f7_slant : Nat → Int32) (f7_tintOf : Nat → Int32) (f7_speckOf : Nat → Int32) (f7_leadOf : Nat → Int32) (v7_steps : Int32) (f7_stepKind : Nat → Int32) (f7_stepBy : Nat → Int32) (v7_threshold : Int32) (v7_isOn : Int32) (v7_lines : Int32) (v7_done : Int32) (v7_taken : Int32) (v7_lastPosition : Int32) (v7_position : Int32) (v7_mode : Int32) (v7_next : Int32) (v7_outs : Int32) (v7_stops : Int32) (v7_ticks : Int32) (f7_pixels : Nat → Int32) (p1 : Int32) (p2 : Int32) (p3 : Int32) (r : Int32) (hf : fX7_valueAt f7_offset f7_gain f7_dark f7_bright v7_ground v7_patches f7_fromRow f7_toRow f7_left f7_right f7_slant f7_tintOf f7_speckOf f7_leadOf p1 p2 p3 = some r) : Met l yX7_valueAt wsX7_valueAt ({ frames := 5, cells := 0, slots := 0, locals := 120 }) (roP [.ref a7, .int p1, .int p2, .int p3] (dC, dI) vwCl (WX7 cy a7 a7_offset a7_gain a7_dark a7_bright a7_fromRow a7_toRow a7_left a7_right a7_slant a7_tintOf a7_speckOf a7_leadOf a7_stepKind a7_stepBy a7_pixels f7_offset f7_gain f7_dark f7_bright v7_ground v7_patches f7_fromRow f7_toRow f7_left f7_right f7_slant f7_tintOf f7_speckOf f7_leadOf v7_steps f7_stepKind f7_stepBy v7_threshold v7_isOn v7_lines v7_done v7_taken v7_lastPosition v7_position v7_mode v7_next v7_outs v7_stops v7_ticks f7_pixels) [(cy, .int)] H) (roQi r H) 0 0 (fun _ => False) := by
  refine Met.ofW (cc := cX7_valueAt) (maxL := 7) (ret := (some .int)) (by decide) rfl ?_
  intro p e s m args below meth c s₁ B hml hv
  obtain ⟨rfl, hH, hP, hK⟩ := hv
  have hx := B.exec
  have hb := B.bytes
  have hr := B.returns
  have hts := atoms_spec (ws := wsX7_valueAt) B.pre
  have hown : s.vm.findClass RX7 = some m.cls := findClass_of_methodNamed B.named
  have hlocks := B.notSynchronized
  have hiX7 : ∀ w ∈ u_ws RX7 TX7 30, w ∈ wsX7_valueAt := fun _ h => List.mem_cons_of_mem _ ((List.mem_append_right _ h))
  subst hH
  have hS : va_S (fun _ => False) s.heap s.heap [] := va_S.rf
  have hl := lv_entry ([.ref a7, .int p1, .int p2, .int p3]) (n := 7) (Nat.le_of_ble_eq_true rfl)
  rw [lg_entry_eq]
  generalize (lg_sl ([.ref a7, .int p1, .int p2, .int p3]) ++ List.replicate (7 - (lg_sl ([.ref a7, .int p1, .int p2, .int p3])).length) Slot.unset).toArray = ls at hl ⊢
  have hl : lv_has ls 7 [(0, .ref a7), (1, .int p1), (2, .int p2), (3, .int p3)] := hl
  unfold fX7_valueAt at hf
  refine lv_aload_n hx hb dX7_valueAt_0 rfl (lv_at hl 0 rfl) ?_
  refine lv_iload_n hx hb dX7_valueAt_1 rfl (lv_at hl 1 rfl) ?_
  refine lv_iload_n hx hb dX7_valueAt_2 rfl (lv_at hl 2 rfl) ?_
  refine lv_iconst (v := (-1 : Int32)) hx hb dX7_valueAt_3 (by decide) ?_
  obtain ⟨r1, hr1, hf⟩ := cl1_sp hf
  refine ro_V (As := [.int p1, .int p2, .int (-1 : Int32)]) ⟨hx, hb, hml, hown, hts⟩ (kX7_nearest l dC dI cy _ a7 a7_offset a7_gain a7_dark a7_bright a7_fromRow a7_toRow a7_left a7_right a7_slant a7_tintOf a7_speckOf a7_leadOf a7_stepKind a7_stepBy a7_pixels f7_offset f7_gain f7_dark f7_bright v7_ground v7_patches f7_fromRow f7_toRow f7_left f7_right f7_slant f7_tintOf f7_speckOf f7_leadOf v7_steps f7_stepKind f7_stepBy v7_threshold v7_isOn v7_lines v7_done v7_taken v7_lastPosition v7_position v7_mode v7_next v7_outs v7_stops v7_ticks f7_pixels p1 p2 (-1 : Int32) r1 hr1) (cwV 3 hts gX7_valueAt_X7_nearest rfl rfl rfl (by decide +kernel) ⟨Nat.le_of_ble_eq_true rfl, Nat.le_of_ble_eq_true rfl⟩) (va_recv hK hP (ci := 6) (q0 := 0) rfl rfl) (hP.sub [0, 1, 2, 3, 4, 5, 6, 7, 8, 9, 10, 11, 12, 13, 14, 15] rfl) hK hS rfl hl.1 rfl (Nat.le_of_ble_eq_true rfl) dX7_valueAt_4 (Nat.zero_le _) (Nat.zero_le _) (fun locs hS => ?_)
  refine lv_istore (lv' := [(4, .int r1), (0, .ref a7), (1, .int p1), (2, .int p2), (3, .int p3)]) hx hb dX7_valueAt_7 hl (by decide) rfl (fun ls hl => ?_)
  refine lv_aload_n hx hb dX7_valueAt_9 rfl (lv_at hl 1 rfl) ?_
  refine lv_iload_n hx hb dX7_valueAt_10 rfl (lv_at hl 2 rfl) ?_
  refine lv_iload_n hx hb dX7_valueAt_11 rfl (lv_at hl 3 rfl) ?_
  refine lv_iconst (v := (1 : Int32)) hx hb dX7_valueAt_12 (by decide) ?_
  obtain ⟨r2, hr2, hf⟩ := cl1_sp hf
  refine ro_V (As := [.int p1, .int p2, .int (1 : Int32)]) ⟨hx, hb, hml, hown, hts⟩ (kX7_nearest l dC dI cy _ a7 a7_offset a7_gain a7_dark a7_bright a7_fromRow a7_toRow a7_left a7_right a7_slant a7_tintOf a7_speckOf a7_leadOf a7_stepKind a7_stepBy a7_pixels f7_offset f7_gain f7_dark f7_bright v7_ground v7_patches f7_fromRow f7_toRow f7_left f7_right f7_slant f7_tintOf f7_speckOf f7_leadOf v7_steps f7_stepKind f7_stepBy v7_threshold v7_isOn v7_lines v7_done v7_taken v7_lastPosition v7_position v7_mode v7_next v7_outs v7_stops v7_ticks f7_pixels p1 p2 (1 : Int32) r2 hr2) (cwV 3 hts gX7_valueAt_X7_nearest rfl rfl rfl (by decide +kernel) ⟨Nat.le_of_ble_eq_true rfl, Nat.le_of_ble_eq_true rfl⟩) (va_recv hK hP (ci := 6) (q0 := 0) rfl rfl) (hP.sub [0, 1, 2, 3, 4, 5, 6, 7, 8, 9, 10, 11, 12, 13, 14, 15] rfl) hK hS rfl hl.1 rfl (Nat.le_of_ble_eq_true rfl) dX7_valueAt_13 (Nat.zero_le _) (Nat.zero_le _) (fun locs hS => ?_)
  refine lv_istore (lv' := [(5, .int r2), (4, .int r1), (0, .ref a7), (1, .int p1), (2, .int p2), (3, .int p3)]) hx hb dX7_valueAt_16 hl (by decide) rfl (fun ls hl => ?_)
  refine lv_iload hx hb dX7_valueAt_18 (lv_at hl 1 rfl) ?_
  refine lv_bipush (v := (-9 : Int32)) hx hb dX7_valueAt_20 (by decide) ?_
  refine lv_icmp_ne (tgt := 34) hx hb dX7_valueAt_22 (by decide) (fun hc => ?_) (fun hc => ?_)
  · have hf := it_n hc hf
    refine lv_iload hx hb dX7_valueAt_34 (lv_at hl 1 rfl) ?_
    refine lv_bipush (v := (-9 : Int32)) hx hb dX7_valueAt_36 (by decide) ?_
    refine lv_icmp_eq (tgt := 55) hx hb dX7_valueAt_38 (by decide) (fun hc => ?_) (fun hc => ?_)
    · have hf := it_p hc hf
      refine lv_aload_n hx hb dX7_valueAt_55 rfl (lv_at hl 2 rfl) ?_
      refine lv_iload_n hx hb dX7_valueAt_56 rfl (lv_at hl 3 rfl) ?_
      refine lv_iload hx hb dX7_valueAt_57 (lv_at hl 1 rfl) ?_
      refine lv_bipush (v := (-9 : Int32)) hx hb dX7_valueAt_59 (by decide) ?_
      refine lv_icmp_ne (tgt := 69) hx hb dX7_valueAt_61 (by decide) (fun hc => ?_) (fun hc => ?_)
      · have hf := it_n hc hf
        refine lv_iload hx hb dX7_valueAt_69 (lv_at hl 1 rfl) ?_
        refine lv_iload_n hx hb dX7_valueAt_71 rfl (lv_at hl 5 rfl) ?_
        obtain ⟨r3, hr3, hf⟩ := cl1_sp hf
        refine ro_V (As := [.int p1, .int r1, .int p3]) ⟨hx, hb, hml, hown, hts⟩ (kX7_liveValue l dC dI cy _ a7 a7_offset a7_gain a7_dark a7_bright a7_fromRow a7_toRow a7_left a7_right a7_slant a7_tintOf a7_speckOf a7_leadOf a7_stepKind a7_stepBy a7_pixels f7_offset f7_gain f7_dark f7_bright v7_ground v7_patches f7_fromRow f7_toRow f7_left f7_right f7_slant f7_tintOf f7_speckOf f7_leadOf v7_steps f7_stepKind f7_stepBy v7_threshold v7_isOn v7_lines v7_done v7_taken v7_lastPosition v7_position v7_mode v7_next v7_outs v7_stops v7_ticks f7_pixels p1 r1 p3 r3 hr3) (cwV 3 hts gX7_valueAt_X7_liveValue rfl rfl rfl (by decide +kernel) ⟨Nat.le_of_ble_eq_true rfl, Nat.le_of_ble_eq_true rfl⟩) (va_recv hK hP (ci := 6) (q0 := 0) rfl rfl) (hP.sub [0, 1, 2, 3, 4, 5, 6, 7, 8, 9, 10, 11, 12, 13, 14, 15] rfl) hK hS rfl hl.1 rfl (Nat.le_of_ble_eq_true rfl) dX7_valueAt_72 (Nat.zero_le _) (Nat.zero_le _) (fun locs hS => ?_)
        exact W.iret (v := r3) hx hb hr (fun t ht hW => ⟨⟨_, (), rfl, Option.some.inj hf, ht⟩, hS.F ht⟩) hS.2.2 dX7_valueAt_75
      · have hf := it_p hc hf
        refine lv_iload hx hb dX7_valueAt_64 (lv_at hl 0 rfl) ?_
        refine lv_goto (tgt := 71) hx hb dX7_valueAt_66 (by decide) ?_
        refine lv_iload_n hx hb dX7_valueAt_71 rfl (lv_at hl 5 rfl) ?_
        obtain ⟨r4, hr4, hf⟩ := cl1_sp hf
        refine ro_V (As := [.int p1, .int r2, .int p3]) ⟨hx, hb, hml, hown, hts⟩ (kX7_liveValue l dC dI cy _ a7 a7_offset a7_gain a7_dark a7_bright a7_fromRow a7_toRow a7_left a7_right a7_slant a7_tintOf a7_speckOf a7_leadOf a7_stepKind a7_stepBy a7_pixels f7_offset f7_gain f7_dark f7_bright v7_ground v7_patches f7_fromRow f7_toRow f7_left f7_right f7_slant f7_tintOf f7_speckOf f7_leadOf v7_steps f7_stepKind f7_stepBy v7_threshold v7_isOn v7_lines v7_done v7_taken v7_lastPosition v7_position v7_mode v7_next v7_outs v7_stops v7_ticks f7_pixels p1 r2 p3 r4 hr4) (cwV 3 hts gX7_valueAt_X7_liveValue rfl rfl rfl (by decide +kernel) ⟨Nat.le_of_ble_eq_true rfl, Nat.le_of_ble_eq_true rfl⟩) (va_recv hK hP (ci := 6) (q0 := 0) rfl rfl) (hP.sub [0, 1, 2, 3, 4, 5, 6, 7, 8, 9, 10, 11, 12, 13, 14, 15] rfl) hK hS rfl hl.1 rfl (Nat.le_of_ble_eq_true rfl) dX7_valueAt_72 (Nat.zero_le _) (Nat.zero_le _) (fun locs hS => ?_)
        exact W.iret (v := r4) hx hb hr (fun t ht hW => ⟨⟨_, (), rfl, Option.some.inj hf, ht⟩, hS.F ht⟩) hS.2.2 dX7_valueAt_75
    · have hf := it_n hc hf
      refine lv_iload hx hb dX7_valueAt_41 (lv_at hl 0 rfl) ?_
      refine lv_bipush (v := (-9 : Int32)) hx hb dX7_valueAt_43 (by decide) ?_
      refine lv_icmp_eq (tgt := 55) hx hb dX7_valueAt_45 (by decide) (fun hc => ?_) (fun hc => ?_)
      · have hf := it_p hc hf
        refine lv_aload_n hx hb dX7_valueAt_55 rfl (lv_at hl 2 rfl) ?_
        refine lv_iload_n hx hb dX7_valueAt_56 rfl (lv_at hl 3 rfl) ?_
        refine lv_iload hx hb dX7_valueAt_57 (lv_at hl 1 rfl) ?_
        refine lv_bipush (v := (-9 : Int32)) hx hb dX7_valueAt_59 (by decide) ?_
        refine lv_icmp_ne (tgt := 69) hx hb dX7_valueAt_61 (by decide) (fun hc => ?_) (fun hc => ?_)
        · have hf := it_n hc hf
          refine lv_iload hx hb dX7_valueAt_69 (lv_at hl 1 rfl) ?_
          refine lv_iload_n hx hb dX7_valueAt_71 rfl (lv_at hl 5 rfl) ?_
          obtain ⟨r5, hr5, hf⟩ := cl1_sp hf
          refine ro_V (As := [.int p1, .int r1, .int p3]) ⟨hx, hb, hml, hown, hts⟩ (kX7_liveValue l dC dI cy _ a7 a7_offset a7_gain a7_dark a7_bright a7_fromRow a7_toRow a7_left a7_right a7_slant a7_tintOf a7_speckOf a7_leadOf a7_stepKind a7_stepBy a7_pixels f7_offset f7_gain f7_dark f7_bright v7_ground v7_patches f7_fromRow f7_toRow f7_left f7_right f7_slant f7_tintOf f7_speckOf f7_leadOf v7_steps f7_stepKind f7_stepBy v7_threshold v7_isOn v7_lines v7_done v7_taken v7_lastPosition v7_position v7_mode v7_next v7_outs v7_stops v7_ticks f7_pixels p1 r1 p3 r5 hr5) (cwV 3 hts gX7_valueAt_X7_liveValue rfl rfl rfl (by decide +kernel) ⟨Nat.le_of_ble_eq_true rfl, Nat.le_of_ble_eq_true rfl⟩) (va_recv hK hP (ci := 6) (q0 := 0) rfl rfl) (hP.sub [0, 1, 2, 3, 4, 5, 6, 7, 8, 9, 10, 11, 12, 13, 14, 15] rfl) hK hS rfl hl.1 rfl (Nat.le_of_ble_eq_true rfl) dX7_valueAt_72 (Nat.zero_le _) (Nat.zero_le _) (fun locs hS => ?_)
          exact W.iret (v := r5) hx hb hr (fun t ht hW => ⟨⟨_, (), rfl, Option.some.inj hf, ht⟩, hS.F ht⟩) hS.2.2 dX7_valueAt_75
        · have hf := it_p hc hf
          refine lv_iload hx hb dX7_valueAt_64 (lv_at hl 0 rfl) ?_
          refine lv_goto (tgt := 71) hx hb dX7_valueAt_66 (by decide) ?_
          refine lv_iload_n hx hb dX7_valueAt_71 rfl (lv_at hl 5 rfl) ?_
          obtain ⟨r6, hr6, hf⟩ := cl1_sp hf
          refine ro_V (As := [.int p1, .int r2, .int p3]) ⟨hx, hb, hml, hown, hts⟩ (kX7_liveValue l dC dI cy _ a7 a7_offset a7_gain a7_dark a7_bright a7_fromRow a7_toRow a7_left a7_right a7_slant a7_tintOf a7_speckOf a7_leadOf a7_stepKind a7_stepBy a7_pixels f7_offset f7_gain f7_dark f7_bright v7_ground v7_patches f7_fromRow f7_toRow f7_left f7_right f7_slant f7_tintOf f7_speckOf f7_leadOf v7_steps f7_stepKind f7_stepBy v7_threshold v7_isOn v7_lines v7_done v7_taken v7_lastPosition v7_position v7_mode v7_next v7_outs v7_stops v7_ticks f7_pixels p1 r2 p3 r6 hr6) (cwV 3 hts gX7_valueAt_X7_liveValue rfl rfl rfl (by decide +kernel) ⟨Nat.le_of_ble_eq_true rfl, Nat.le_of_ble_eq_true rfl⟩) (va_recv hK hP (ci := 6) (q0 := 0) rfl rfl) (hP.sub [0, 1, 2, 3, 4, 5, 6, 7, 8, 9, 10, 11, 12, 13, 14, 15] rfl) hK hS rfl hl.1 rfl (Nat.le_of_ble_eq_true rfl) dX7_valueAt_72 (Nat.zero_le _) (Nat.zero_le _) (fun locs hS => ?_)
          exact W.iret (v := r6) hx hb hr (fun t ht hW => ⟨⟨_, (), rfl, Option.some.inj hf, ht⟩, hS.F ht⟩) hS.2.2 dX7_valueAt_75
      · have hf := it_n hc hf
        refine lv_iload hx hb dX7_valueAt_48 (lv_at hl 1 rfl) ?_
        refine lv_iload hx hb dX7_valueAt_50 (lv_at hl 0 rfl) ?_
        refine lv_icmp_ne (tgt := 76) hx hb dX7_valueAt_52 (by decide) (fun hc => ?_) (fun hc => ?_)
        · have hf := it_n hc hf
          refine lv_aload_n hx hb dX7_valueAt_76 rfl (lv_at hl 2 rfl) ?_
          refine lv_iload_n hx hb dX7_valueAt_77 rfl (lv_at hl 3 rfl) ?_
          refine lv_iload hx hb dX7_valueAt_78 (lv_at hl 1 rfl) ?_
          refine lv_iload_n hx hb dX7_valueAt_80 rfl (lv_at hl 5 rfl) ?_
          obtain ⟨r7, hr7, hf⟩ := cl1_sp hf
          refine ro_V (As := [.int p1, .int r1, .int p3]) ⟨hx, hb, hml, hown, hts⟩ (kX7_liveValue l dC dI cy _ a7 a7_offset a7_gain a7_dark a7_bright a7_fromRow a7_toRow a7_left a7_right a7_slant a7_tintOf a7_speckOf a7_leadOf a7_stepKind a7_stepBy a7_pixels f7_offset f7_gain f7_dark f7_bright v7_ground v7_patches f7_fromRow f7_toRow f7_left f7_right f7_slant f7_tintOf f7_speckOf f7_leadOf v7_steps f7_stepKind f7_stepBy v7_threshold v7_isOn v7_lines v7_done v7_taken v7_lastPosition v7_position v7_mode v7_next v7_outs v7_stops v7_ticks f7_pixels p1 r1 p3 r7 hr7) (cwV 3 hts gX7_valueAt_X7_liveValue rfl rfl rfl (by decide +kernel) ⟨Nat.le_of_ble_eq_true rfl, Nat.le_of_ble_eq_true rfl⟩) (va_recv hK hP (ci := 6) (q0 := 0) rfl rfl) (hP.sub [0, 1, 2, 3, 4, 5, 6, 7, 8, 9, 10, 11, 12, 13, 14, 15] rfl) hK hS rfl hl.1 rfl (Nat.le_of_ble_eq_true rfl) dX7_valueAt_81 (Nat.zero_le _) (Nat.zero_le _) (fun locs hS => ?_)
          refine lv_iload hx hb dX7_valueAt_84 (lv_at hl 0 rfl) ?_
          refine lv_iload_n hx hb dX7_valueAt_86 rfl (lv_at hl 4 rfl) ?_
          refine lv_isub hx hb dX7_valueAt_87 ?_
          refine lv_imul hx hb dX7_valueAt_88 ?_
          refine lv_aload_n hx hb dX7_valueAt_89 rfl (lv_at hl 2 rfl) ?_
          refine lv_iload_n hx hb dX7_valueAt_90 rfl (lv_at hl 3 rfl) ?_
          refine lv_iload hx hb dX7_valueAt_91 (lv_at hl 0 rfl) ?_
          refine lv_iload_n hx hb dX7_valueAt_93 rfl (lv_at hl 5 rfl) ?_
          obtain ⟨r8, hr8, hf⟩ := cl1_sp hf
          refine ro_V (As := [.int p1, .int r2, .int p3]) ⟨hx, hb, hml, hown, hts⟩ (kX7_liveValue l dC dI cy _ a7 a7_offset a7_gain a7_dark a7_bright a7_fromRow a7_toRow a7_left a7_right a7_slant a7_tintOf a7_speckOf a7_leadOf a7_stepKind a7_stepBy a7_pixels f7_offset f7_gain f7_dark f7_bright v7_ground v7_patches f7_fromRow f7_toRow f7_left f7_right f7_slant f7_tintOf f7_speckOf f7_leadOf v7_steps f7_stepKind f7_stepBy v7_threshold v7_isOn v7_lines v7_done v7_taken v7_lastPosition v7_position v7_mode v7_next v7_outs v7_stops v7_ticks f7_pixels p1 r2 p3 r8 hr8) (cwV 3 hts gX7_valueAt_X7_liveValue rfl rfl rfl (by decide +kernel) ⟨Nat.le_of_ble_eq_true rfl, Nat.le_of_ble_eq_true rfl⟩) (va_recv hK hP (ci := 6) (q0 := 0) rfl rfl) (hP.sub [0, 1, 2, 3, 4, 5, 6, 7, 8, 9, 10, 11, 12, 13, 14, 15] rfl) hK hS rfl hl.1 rfl (Nat.le_of_ble_eq_true rfl) dX7_valueAt_94 (Nat.zero_le _) (Nat.zero_le _) (fun locs hS => ?_)
          refine lv_iload_n hx hb dX7_valueAt_97 rfl (lv_at hl 4 rfl) ?_
          refine lv_iload hx hb dX7_valueAt_98 (lv_at hl 1 rfl) ?_
          refine lv_isub hx hb dX7_valueAt_100 ?_
          refine lv_imul hx hb dX7_valueAt_101 ?_
          refine lv_iadd hx hb dX7_valueAt_102 ?_
          refine lv_istore (lv' := [(6, .int ((r7 * (r2 - p2)) + (r8 * (p2 - r1)))), (5, .int r2), (4, .int r1), (0, .ref a7), (1, .int p1), (2, .int p2), (3, .int p3)]) hx hb dX7_valueAt_103 hl (by decide) rfl (fun ls hl => ?_)
          refine lv_iload hx hb dX7_valueAt_105 (lv_at hl 0 rfl) ?_
          refine lv_iload hx hb dX7_valueAt_107 (lv_at hl 1 rfl) ?_
          refine lv_iload hx hb dX7_valueAt_109 (lv_at hl 2 rfl) ?_
          refine lv_isub hx hb dX7_valueAt_111 ?_
          obtain ⟨r9, hr9, hf⟩ := cl1_sp hf
          refine ro_S (As := [.int ((r7 * (r2 - p2)) + (r8 * (p2 - r1))), .int (r2 - r1)]) ⟨hx, hb, hml, hown, hts⟩ (kX7_rounded l _ ((r7 * (r2 - p2)) + (r8 * (p2 - r1))) (r2 - r1) r9 hr9) (va_cwS 2 hts gX7_valueAt_X7_rounded rfl rfl rfl (by decide +kernel) ⟨Nat.le_of_ble_eq_true rfl, Nat.le_of_ble_eq_true rfl⟩) hS rfl hl.1 rfl (Nat.le_of_ble_eq_true rfl) dX7_valueAt_112 (Nat.zero_le _) (Nat.zero_le _) (fun locs hS => ?_)
          exact W.iret (v := r9) hx hb hr (fun t ht hW => ⟨⟨_, (), rfl, Option.some.inj hf, ht⟩, hS.F ht⟩) hS.2.2 dX7_valueAt_115
        · have hf := it_p hc hf
          refine lv_aload_n hx hb dX7_valueAt_55 rfl (lv_at hl 2 rfl) ?_
          refine lv_iload_n hx hb dX7_valueAt_56 rfl (lv_at hl 3 rfl) ?_
          refine lv_iload hx hb dX7_valueAt_57 (lv_at hl 1 rfl) ?_
          refine lv_bipush (v := (-9 : Int32)) hx hb dX7_valueAt_59 (by decide) ?_
          refine lv_icmp_ne (tgt := 69) hx hb dX7_valueAt_61 (by decide) (fun hc => ?_) (fun hc => ?_)
          · have hf := it_n hc hf
            refine lv_iload hx hb dX7_valueAt_69 (lv_at hl 1 rfl) ?_
            refine lv_iload_n hx hb dX7_valueAt_71 rfl (lv_at hl 5 rfl) ?_
            obtain ⟨r10, hr10, hf⟩ := cl1_sp hf
            refine ro_V (As := [.int p1, .int r1, .int p3]) ⟨hx, hb, hml, hown, hts⟩ (kX7_liveValue l dC dI cy _ a7 a7_offset a7_gain a7_dark a7_bright a7_fromRow a7_toRow a7_left a7_right a7_slant a7_tintOf a7_speckOf a7_leadOf a7_stepKind a7_stepBy a7_pixels f7_offset f7_gain f7_dark f7_bright v7_ground v7_patches f7_fromRow f7_toRow f7_left f7_right f7_slant f7_tintOf f7_speckOf f7_leadOf v7_steps f7_stepKind f7_stepBy v7_threshold v7_isOn v7_lines v7_done v7_taken v7_lastPosition v7_position v7_mode v7_next v7_outs v7_stops v7_ticks f7_pixels p1 r1 p3 r10 hr10) (cwV 3 hts gX7_valueAt_X7_liveValue rfl rfl rfl (by decide +kernel) ⟨Nat.le_of_ble_eq_true rfl, Nat.le_of_ble_eq_true rfl⟩) (va_recv hK hP (ci := 6) (q0 := 0) rfl rfl) (hP.sub [0, 1, 2, 3, 4, 5, 6, 7, 8, 9, 10, 11, 12, 13, 14, 15] rfl) hK hS rfl hl.1 rfl (Nat.le_of_ble_eq_true rfl) dX7_valueAt_72 (Nat.zero_le _) (Nat.zero_le _) (fun locs hS => ?_)
            exact W.iret (v := r10) hx hb hr (fun t ht hW => ⟨⟨_, (), rfl, Option.some.inj hf, ht⟩, hS.F ht⟩) hS.2.2 dX7_valueAt_75
          · have hf := it_p hc hf
            refine lv_iload hx hb dX7_valueAt_64 (lv_at hl 0 rfl) ?_
            refine lv_goto (tgt := 71) hx hb dX7_valueAt_66 (by decide) ?_
            refine lv_iload_n hx hb dX7_valueAt_71 rfl (lv_at hl 5 rfl) ?_
            obtain ⟨r11, hr11, hf⟩ := cl1_sp hf
            refine ro_V (As := [.int p1, .int r2, .int p3]) ⟨hx, hb, hml, hown, hts⟩ (kX7_liveValue l dC dI cy _ a7 a7_offset a7_gain a7_dark a7_bright a7_fromRow a7_toRow a7_left a7_right a7_slant a7_tintOf a7_speckOf a7_leadOf a7_stepKind a7_stepBy a7_pixels f7_offset f7_gain f7_dark f7_bright v7_ground v7_patches f7_fromRow f7_toRow f7_left f7_right f7_slant f7_tintOf f7_speckOf f7_leadOf v7_steps f7_stepKind f7_stepBy v7_threshold v7_isOn v7_lines v7_done v7_taken v7_lastPosition v7_position v7_mode v7_next v7_outs v7_stops v7_ticks f7_pixels p1 r2 p3 r11 hr11) (cwV 3 hts gX7_valueAt_X7_liveValue rfl rfl rfl (by decide +kernel) ⟨Nat.le_of_ble_eq_true rfl, Nat.le_of_ble_eq_true rfl⟩) (va_recv hK hP (ci := 6) (q0 := 0) rfl rfl) (hP.sub [0, 1, 2, 3, 4, 5, 6, 7, 8, 9, 10, 11, 12, 13, 14, 15] rfl) hK hS rfl hl.1 rfl (Nat.le_of_ble_eq_true rfl) dX7_valueAt_72 (Nat.zero_le _) (Nat.zero_le _) (fun locs hS => ?_)
            exact W.iret (v := r11) hx hb hr (fun t ht hW => ⟨⟨_, (), rfl, Option.some.inj hf, ht⟩, hS.F ht⟩) hS.2.2 dX7_valueAt_75
  · have hf := it_p hc hf
    refine lv_iload hx hb dX7_valueAt_25 (lv_at hl 0 rfl) ?_
    refine lv_bipush (v := (-9 : Int32)) hx hb dX7_valueAt_27 (by decide) ?_
    refine lv_icmp_ne (tgt := 34) hx hb dX7_valueAt_29 (by decide) (fun hc => ?_) (fun hc => ?_)
    · have hf := it_n hc hf
      refine lv_iload hx hb dX7_valueAt_34 (lv_at hl 1 rfl) ?_
      refine lv_bipush (v := (-9 : Int32)) hx hb dX7_valueAt_36 (by decide) ?_
      refine lv_icmp_eq (tgt := 55) hx hb dX7_valueAt_38 (by decide) (fun hc => ?_) (fun hc => ?_)
      · have hf := it_p hc hf
        refine lv_aload_n hx hb dX7_valueAt_55 rfl (lv_at hl 2 rfl) ?_
        refine lv_iload_n hx hb dX7_valueAt_56 rfl (lv_at hl 3 rfl) ?_
        refine lv_iload hx hb dX7_valueAt_57 (lv_at hl 1 rfl) ?_
        refine lv_bipush (v := (-9 : Int32)) hx hb dX7_valueAt_59 (by decide) ?_
        refine lv_icmp_ne (tgt := 69) hx hb dX7_valueAt_61 (by decide) (fun hc => ?_) (fun hc => ?_)
        · have hf := it_n hc hf
          refine lv_iload hx hb dX7_valueAt_69 (lv_at hl 1 rfl) ?_
          refine lv_iload_n hx hb dX7_valueAt_71 rfl (lv_at hl 5 rfl) ?_
          obtain ⟨r12, hr12, hf⟩ := cl1_sp hf
          refine ro_V (As := [.int p1, .int r1, .int p3]) ⟨hx, hb, hml, hown, hts⟩ (kX7_liveValue l dC dI cy _ a7 a7_offset a7_gain a7_dark a7_bright a7_fromRow a7_toRow a7_left a7_right a7_slant a7_tintOf a7_speckOf a7_leadOf a7_stepKind a7_stepBy a7_pixels f7_offset f7_gain f7_dark f7_bright v7_ground v7_patches f7_fromRow f7_toRow f7_left f7_right f7_slant f7_tintOf f7_speckOf f7_leadOf v7_steps f7_stepKind f7_stepBy v7_threshold v7_isOn v7_lines v7_done v7_taken v7_lastPosition v7_position v7_mode v7_next v7_outs v7_stops v7_ticks f7_pixels p1 r1 p3 r12 hr12) (cwV 3 hts gX7_valueAt_X7_liveValue rfl rfl rfl (by decide +kernel) ⟨Nat.le_of_ble_eq_true rfl, Nat.le_of_ble_eq_true rfl⟩) (va_recv hK hP (ci := 6) (q0 := 0) rfl rfl) (hP.sub [0, 1, 2, 3, 4, 5, 6, 7, 8, 9, 10, 11, 12, 13, 14, 15] rfl) hK hS rfl hl.1 rfl (Nat.le_of_ble_eq_true rfl) dX7_valueAt_72 (Nat.zero_le _) (Nat.zero_le _) (fun locs hS => ?_)
          exact W.iret (v := r12) hx hb hr (fun t ht hW => ⟨⟨_, (), rfl, Option.some.inj hf, ht⟩, hS.F ht⟩) hS.2.2 dX7_valueAt_75
        · have hf := it_p hc hf
          refine lv_iload hx hb dX7_valueAt_64 (lv_at hl 0 rfl) ?_
          refine lv_goto (tgt := 71) hx hb dX7_valueAt_66 (by decide) ?_
          refine lv_iload_n hx hb dX7_valueAt_71 rfl (lv_at hl 5 rfl) ?_
          obtain ⟨r13, hr13, hf⟩ := cl1_sp hf
          refine ro_V (As := [.int p1, .int r2, .int p3]) ⟨hx, hb, hml, hown, hts⟩ (kX7_liveValue l dC dI cy _ a7 a7_offset a7_gain a7_dark a7_bright a7_fromRow a7_toRow a7_left a7_right a7_slant a7_tintOf a7_speckOf a7_leadOf a7_stepKind a7_stepBy a7_pixels f7_offset f7_gain f7_dark f7_bright v7_ground v7_patches f7_fromRow f7_toRow f7_left f7_right f7_slant f7_tintOf f7_speckOf f7_leadOf v7_steps f7_stepKind f7_stepBy v7_threshold v7_isOn v7_lines v7_done v7_taken v7_lastPosition v7_position v7_mode v7_next v7_outs v7_stops v7_ticks f7_pixels p1 r2 p3 r13 hr13) (cwV 3 hts gX7_valueAt_X7_liveValue rfl rfl rfl (by decide +kernel) ⟨Nat.le_of_ble_eq_true rfl, Nat.le_of_ble_eq_true rfl⟩) (va_recv hK hP (ci := 6) (q0 := 0) rfl rfl) (hP.sub [0, 1, 2, 3, 4, 5, 6, 7, 8, 9, 10, 11, 12, 13, 14, 15] rfl) hK hS rfl hl.1 rfl (Nat.le_of_ble_eq_true rfl) dX7_valueAt_72 (Nat.zero_le _) (Nat.zero_le _) (fun locs hS => ?_)
          exact W.iret (v := r13) hx hb hr (fun t ht hW => ⟨⟨_, (), rfl, Option.some.inj hf, ht⟩, hS.F ht⟩) hS.2.2 dX7_valueAt_75
      · have hf := it_n hc hf
        refine lv_iload hx hb dX7_valueAt_41 (lv_at hl 0 rfl) ?_
        refine lv_bipush (v := (-9 : Int32)) hx hb dX7_valueAt_43 (by decide) ?_
        refine lv_icmp_eq (tgt := 55) hx hb dX7_valueAt_45 (by decide) (fun hc => ?_) (fun hc => ?_)
        · have hf := it_p hc hf
          refine lv_aload_n hx hb dX7_valueAt_55 rfl (lv_at hl 2 rfl) ?_
          refine lv_iload_n hx hb dX7_valueAt_56 rfl (lv_at hl 3 rfl) ?_
          refine lv_iload hx hb dX7_valueAt_57 (lv_at hl 1 rfl) ?_
          refine lv_bipush (v := (-9 : Int32)) hx hb dX7_valueAt_59 (by decide) ?_
          refine lv_icmp_ne (tgt := 69) hx hb dX7_valueAt_61 (by decide) (fun hc => ?_) (fun hc => ?_)
          · have hf := it_n hc hf
            refine lv_iload hx hb dX7_valueAt_69 (lv_at hl 1 rfl) ?_
            refine lv_iload_n hx hb dX7_valueAt_71 rfl (lv_at hl 5 rfl) ?_
            obtain ⟨r14, hr14, hf⟩ := cl1_sp hf
            refine ro_V (As := [.int p1, .int r1, .int p3]) ⟨hx, hb, hml, hown, hts⟩ (kX7_liveValue l dC dI cy _ a7 a7_offset a7_gain a7_dark a7_bright a7_fromRow a7_toRow a7_left a7_right a7_slant a7_tintOf a7_speckOf a7_leadOf a7_stepKind a7_stepBy a7_pixels f7_offset f7_gain f7_dark f7_bright v7_ground v7_patches f7_fromRow f7_toRow f7_left f7_right f7_slant f7_tintOf f7_speckOf f7_leadOf v7_steps f7_stepKind f7_stepBy v7_threshold v7_isOn v7_lines v7_done v7_taken v7_lastPosition v7_position v7_mode v7_next v7_outs v7_stops v7_ticks f7_pixels p1 r1 p3 r14 hr14) (cwV 3 hts gX7_valueAt_X7_liveValue rfl rfl rfl (by decide +kernel) ⟨Nat.le_of_ble_eq_true rfl, Nat.le_of_ble_eq_true rfl⟩) (va_recv hK hP (ci := 6) (q0 := 0) rfl rfl) (hP.sub [0, 1, 2, 3, 4, 5, 6, 7, 8, 9, 10, 11, 12, 13, 14, 15] rfl) hK hS rfl hl.1 rfl (Nat.le_of_ble_eq_true rfl) dX7_valueAt_72 (Nat.zero_le _) (Nat.zero_le _) (fun locs hS => ?_)
            exact W.iret (v := r14) hx hb hr (fun t ht hW => ⟨⟨_, (), rfl, Option.some.inj hf, ht⟩, hS.F ht⟩) hS.2.2 dX7_valueAt_75
          · have hf := it_p hc hf
            refine lv_iload hx hb dX7_valueAt_64 (lv_at hl 0 rfl) ?_
            refine lv_goto (tgt := 71) hx hb dX7_valueAt_66 (by decide) ?_
            refine lv_iload_n hx hb dX7_valueAt_71 rfl (lv_at hl 5 rfl) ?_
            obtain ⟨r15, hr15, hf⟩ := cl1_sp hf
            refine ro_V (As := [.int p1, .int r2, .int p3]) ⟨hx, hb, hml, hown, hts⟩ (kX7_liveValue l dC dI cy _ a7 a7_offset a7_gain a7_dark a7_bright a7_fromRow a7_toRow a7_left a7_right a7_slant a7_tintOf a7_speckOf a7_leadOf a7_stepKind a7_stepBy a7_pixels f7_offset f7_gain f7_dark f7_bright v7_ground v7_patches f7_fromRow f7_toRow f7_left f7_right f7_slant f7_tintOf f7_speckOf f7_leadOf v7_steps f7_stepKind f7_stepBy v7_threshold v7_isOn v7_lines v7_done v7_taken v7_lastPosition v7_position v7_mode v7_next v7_outs v7_stops v7_ticks f7_pixels p1 r2 p3 r15 hr15) (cwV 3 hts gX7_valueAt_X7_liveValue rfl rfl rfl (by decide +kernel) ⟨Nat.le_of_ble_eq_true rfl, Nat.le_of_ble_eq_true rfl⟩) (va_recv hK hP (ci := 6) (q0 := 0) rfl rfl) (hP.sub [0, 1, 2, 3, 4, 5, 6, 7, 8, 9, 10, 11, 12, 13, 14, 15] rfl) hK hS rfl hl.1 rfl (Nat.le_of_ble_eq_true rfl) dX7_valueAt_72 (Nat.zero_le _) (Nat.zero_le _) (fun locs hS => ?_)
            exact W.iret (v := r15) hx hb hr (fun t ht hW => ⟨⟨_, (), rfl, Option.some.inj hf, ht⟩, hS.F ht⟩) hS.2.2 dX7_valueAt_75
        · have hf := it_n hc hf
          refine lv_iload hx hb dX7_valueAt_48 (lv_at hl 1 rfl) ?_
          refine lv_iload hx hb dX7_valueAt_50 (lv_at hl 0 rfl) ?_
          refine lv_icmp_ne (tgt := 76) hx hb dX7_valueAt_52 (by decide) (fun hc => ?_) (fun hc => ?_)
          · have hf := it_n hc hf
            refine lv_aload_n hx hb dX7_valueAt_76 rfl (lv_at hl 2 rfl) ?_
            refine lv_iload_n hx hb dX7_valueAt_77 rfl (lv_at hl 3 rfl) ?_
            refine lv_iload hx hb dX7_valueAt_78 (lv_at hl 1 rfl) ?_
            refine lv_iload_n hx hb dX7_valueAt_80 rfl (lv_at hl 5 rfl) ?_
            obtain ⟨r16, hr16, hf⟩ := cl1_sp hf
            refine ro_V (As := [.int p1, .int r1, .int p3]) ⟨hx, hb, hml, hown, hts⟩ (kX7_liveValue l dC dI cy _ a7 a7_offset a7_gain a7_dark a7_bright a7_fromRow a7_toRow a7_left a7_right a7_slant a7_tintOf a7_speckOf a7_leadOf a7_stepKind a7_stepBy a7_pixels f7_offset f7_gain f7_dark f7_bright v7_ground v7_patches f7_fromRow f7_toRow f7_left f7_right f7_slant f7_tintOf f7_speckOf f7_leadOf v7_steps f7_stepKind f7_stepBy v7_threshold v7_isOn v7_lines v7_done v7_taken v7_lastPosition v7_position v7_mode v7_next v7_outs v7_stops v7_ticks f7_pixels p1 r1 p3 r16 hr16) (cwV 3 hts gX7_valueAt_X7_liveValue rfl rfl rfl (by decide +kernel) ⟨Nat.le_of_ble_eq_true rfl, Nat.le_of_ble_eq_true rfl⟩) (va_recv hK hP (ci := 6) (q0 := 0) rfl rfl) (hP.sub [0, 1, 2, 3, 4, 5, 6, 7, 8, 9, 10, 11, 12, 13, 14, 15] rfl) hK hS rfl hl.1 rfl (Nat.le_of_ble_eq_true rfl) dX7_valueAt_81 (Nat.zero_le _) (Nat.zero_le _) (fun locs hS => ?_)
            refine lv_iload hx hb dX7_valueAt_84 (lv_at hl 0 rfl) ?_
            refine lv_iload_n hx hb dX7_valueAt_86 rfl (lv_at hl 4 rfl) ?_
            refine lv_isub hx hb dX7_valueAt_87 ?_
            refine lv_imul hx hb dX7_valueAt_88 ?_
            refine lv_aload_n hx hb dX7_valueAt_89 rfl (lv_at hl 2 rfl) ?_
            refine lv_iload_n hx hb dX7_valueAt_90 rfl (lv_at hl 3 rfl) ?_
            refine lv_iload hx hb dX7_valueAt_91 (lv_at hl 0 rfl) ?_
            refine lv_iload_n hx hb dX7_valueAt_93 rfl (lv_at hl 5 rfl) ?_
            obtain ⟨r17, hr17, hf⟩ := cl1_sp hf
            refine ro_V (As := [.int p1, .int r2, .int p3]) ⟨hx, hb, hml, hown, hts⟩ (kX7_liveValue l dC dI cy _ a7 a7_offset a7_gain a7_dark a7_bright a7_fromRow a7_toRow a7_left a7_right a7_slant a7_tintOf a7_speckOf a7_leadOf a7_stepKind a7_stepBy a7_pixels f7_offset f7_gain f7_dark f7_bright v7_ground v7_patches f7_fromRow f7_toRow f7_left f7_right f7_slant f7_tintOf f7_speckOf f7_leadOf v7_steps f7_stepKind f7_stepBy v7_threshold v7_isOn v7_lines v7_done v7_taken v7_lastPosition v7_position v7_mode v7_next v7_outs v7_stops v7_ticks f7_pixels p1 r2 p3 r17 hr17) (cwV 3 hts gX7_valueAt_X7_liveValue rfl rfl rfl (by decide +kernel) ⟨Nat.le_of_ble_eq_true rfl, Nat.le_of_ble_eq_true rfl⟩) (va_recv hK hP (ci := 6) (q0 := 0) rfl rfl) (hP.sub [0, 1, 2, 3, 4, 5, 6, 7, 8, 9, 10, 11, 12, 13, 14, 15] rfl) hK hS rfl hl.1 rfl (Nat.le_of_ble_eq_true rfl) dX7_valueAt_94 (Nat.zero_le _) (Nat.zero_le _) (fun locs hS => ?_)
            refine lv_iload_n hx hb dX7_valueAt_97 rfl (lv_at hl 4 rfl) ?_
            refine lv_iload hx hb dX7_valueAt_98 (lv_at hl 1 rfl) ?_
            refine lv_isub hx hb dX7_valueAt_100 ?_
            refine lv_imul hx hb dX7_valueAt_101 ?_
            refine lv_iadd hx hb dX7_valueAt_102 ?_
            refine lv_istore (lv' := [(6, .int ((r16 * (r2 - p2)) + (r17 * (p2 - r1)))), (5, .int r2), (4, .int r1), (0, .ref a7), (1, .int p1), (2, .int p2), (3, .int p3)]) hx hb dX7_valueAt_103 hl (by decide) rfl (fun ls hl => ?_)
            refine lv_iload hx hb dX7_valueAt_105 (lv_at hl 0 rfl) ?_
            refine lv_iload hx hb dX7_valueAt_107 (lv_at hl 1 rfl) ?_
            refine lv_iload hx hb dX7_valueAt_109 (lv_at hl 2 rfl) ?_
            refine lv_isub hx hb dX7_valueAt_111 ?_
            obtain ⟨r18, hr18, hf⟩ := cl1_sp hf
            refine ro_S (As := [.int ((r16 * (r2 - p2)) + (r17 * (p2 - r1))), .int (r2 - r1)]) ⟨hx, hb, hml, hown, hts⟩ (kX7_rounded l _ ((r16 * (r2 - p2)) + (r17 * (p2 - r1))) (r2 - r1) r18 hr18) (va_cwS 2 hts gX7_valueAt_X7_rounded rfl rfl rfl (by decide +kernel) ⟨Nat.le_of_ble_eq_true rfl, Nat.le_of_ble_eq_true rfl⟩) hS rfl hl.1 rfl (Nat.le_of_ble_eq_true rfl) dX7_valueAt_112 (Nat.zero_le _) (Nat.zero_le _) (fun locs hS => ?_)
            exact W.iret (v := r18) hx hb hr (fun t ht hW => ⟨⟨_, (), rfl, Option.some.inj hf, ht⟩, hS.F ht⟩) hS.2.2 dX7_valueAt_115
          · have hf := it_p hc hf
            refine lv_aload_n hx hb dX7_valueAt_55 rfl (lv_at hl 2 rfl) ?_
            refine lv_iload_n hx hb dX7_valueAt_56 rfl (lv_at hl 3 rfl) ?_
            refine lv_iload hx hb dX7_valueAt_57 (lv_at hl 1 rfl) ?_
            refine lv_bipush (v := (-9 : Int32)) hx hb dX7_valueAt_59 (by decide) ?_
            refine lv_icmp_ne (tgt := 69) hx hb dX7_valueAt_61 (by decide) (fun hc => ?_) (fun hc => ?_)
            · have hf := it_n hc hf
              refine lv_iload hx hb dX7_valueAt_69 (lv_at hl 1 rfl) ?_
              refine lv_iload_n hx hb dX7_valueAt_71 rfl (lv_at hl 5 rfl) ?_
              obtain ⟨r19, hr19, hf⟩ := cl1_sp hf
              refine ro_V (As := [.int p1, .int r1, .int p3]) ⟨hx, hb, hml, hown, hts⟩ (kX7_liveValue l dC dI cy _ a7 a7_offset a7_gain a7_dark a7_bright a7_fromRow a7_toRow a7_left a7_right a7_slant a7_tintOf a7_speckOf a7_leadOf a7_stepKind a7_stepBy a7_pixels f7_offset f7_gain f7_dark f7_bright v7_ground v7_patches f7_fromRow f7_toRow f7_left f7_right f7_slant f7_tintOf f7_speckOf f7_leadOf v7_steps f7_stepKind f7_stepBy v7_threshold v7_isOn v7_lines v7_done v7_taken v7_lastPosition v7_position v7_mode v7_next v7_outs v7_stops v7_ticks f7_pixels p1 r1 p3 r19 hr19) (cwV 3 hts gX7_valueAt_X7_liveValue rfl rfl rfl (by decide +kernel) ⟨Nat.le_of_ble_eq_true rfl, Nat.le_of_ble_eq_true rfl⟩) (va_recv hK hP (ci := 6) (q0 := 0) rfl rfl) (hP.sub [0, 1, 2, 3, 4, 5, 6, 7, 8, 9, 10, 11, 12, 13, 14, 15] rfl) hK hS rfl hl.1 rfl (Nat.le_of_ble_eq_true rfl) dX7_valueAt_72 (Nat.zero_le _) (Nat.zero_le _) (fun locs hS => ?_)
              exact W.iret (v := r19) hx hb hr (fun t ht hW => ⟨⟨_, (), rfl, Option.some.inj hf, ht⟩, hS.F ht⟩) hS.2.2 dX7_valueAt_75
            · have hf := it_p hc hf
              refine lv_iload hx hb dX7_valueAt_64 (lv_at hl 0 rfl) ?_
              refine lv_goto (tgt := 71) hx hb dX7_valueAt_66 (by decide) ?_
              refine lv_iload_n hx hb dX7_valueAt_71 rfl (lv_at hl 5 rfl) ?_
              obtain ⟨r20, hr20, hf⟩ := cl1_sp hf
              refine ro_V (As := [.int p1, .int r2, .int p3]) ⟨hx, hb, hml, hown, hts⟩ (kX7_liveValue l dC dI cy _ a7 a7_offset a7_gain a7_dark a7_bright a7_fromRow a7_toRow a7_left a7_right a7_slant a7_tintOf a7_speckOf a7_leadOf a7_stepKind a7_stepBy a7_pixels f7_offset f7_gain f7_dark f7_bright v7_ground v7_patches f7_fromRow f7_toRow f7_left f7_right f7_slant f7_tintOf f7_speckOf f7_leadOf v7_steps f7_stepKind f7_stepBy v7_threshold v7_isOn v7_lines v7_done v7_taken v7_lastPosition v7_position v7_mode v7_next v7_outs v7_stops v7_ticks f7_pixels p1 r2 p3 r20 hr20) (cwV 3 hts gX7_valueAt_X7_liveValue rfl rfl rfl (by decide +kernel) ⟨Nat.le_of_ble_eq_true rfl, Nat.le_of_ble_eq_true rfl⟩) (va_recv hK hP (ci := 6) (q0 := 0) rfl rfl) (hP.sub [0, 1, 2, 3, 4, 5, 6, 7, 8, 9, 10, 11, 12, 13, 14, 15] rfl) hK hS rfl hl.1 rfl (Nat.le_of_ble_eq_true rfl) dX7_valueAt_72 (Nat.zero_le _) (Nat.zero_le _) (fun locs hS => ?_)
              exact W.iret (v := r20) hx hb hr (fun t ht hW => ⟨⟨_, (), rfl, Option.some.inj hf, ht⟩, hS.F ht⟩) hS.2.2 dX7_valueAt_75
    · have hf := it_p hc hf
      refine lv_iconst (v := (0 : Int32)) hx hb dX7_valueAt_32 (by decide) ?_
      exact W.iret (v := (0 : Int32)) hx hb hr (fun t ht hW => ⟨⟨_, (), rfl, Option.some.inj hf, ht⟩, hS.F ht⟩) hS.2.2 dX7_valueAt_33

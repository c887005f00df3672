set_option maxHeartbeats 4000000 in
set_option maxRecDepth 100000 in
theorem kX6_valueAt (l : Launch) (dC : Nat → ClassId) (dI : Nat → Nat → Nat) (cy : ClassId) (H : Heap) (a6 a6_leads a0 a0_offset a0_gain a0_dark a0_bright a3 a3_firstRow a3_lastRow a3_firstColumn a3_lastColumn a3_slants a3_tints a3_specks a4 a4_kinds a4_numbers a5 a1 a1_values : Nat) (f6_leads : Nat → Int32) (f0_offset : Nat → Int32) (f0_gain : Nat → Int32) (f0_dark : Nat → Int32) (f0_bright : Nat → Int32) (v3_ground : Int32) (v3_patches : Int32) (f3_firstRow : Nat → Int32) (f3_lastRow : Nat → Int32) (f3_firstColumn : Nat → Int32) (f3_lastColumn : Nat → Int32) (f3_slants : Nat → Int32) (f3_tints : Nat → Int32) (f3_specks : Nat → Int32) (v4_count : Int32) (f4_kinds : Nat → Int32) (f4_numbers : Nat → Int32) (v5_on : Int32) (v5_lines : Int32) (v5_reach : Int32) (v5_positions : Int32) (v5_queued : Int32) (v5_position : Int32) (v5_next : Int32) (v5_mode : Int32) (v5_outTicks : Int32) (v5_stops : Int32) (v5_ticked : Int32) (v1_count : Int32) (v1_threshold : Int32) (f1_values : Nat → Int32) (p1 : Int32) (p2 : Int32) (p3 : Int32) (r : Int32) (hf : fX6_valueAt f6_leads f0_offset f0_gain f0_dark f0_bright v3_ground v3_patches f3_firstRow f3_lastRow f3_firstColumn f3_lastColumn f3_slants f3_tints f3_specks p1 p2 p3 = some r) : Met l yX6_valueAt wsX6_valueAt ({ frames := 4, cells := 0, slots := 0, locals := 102 }) (roP [.ref a6, .int p1, .int p2, .int p3] (dC, dI) vwCl (WX6 cy a6 a6_leads a0 a0_offset a0_gain a0_dark a0_bright a3 a3_firstRow a3_lastRow a3_firstColumn a3_lastColumn a3_slants a3_tints a3_specks a4 a4_kinds a4_numbers a5 a1 a1_values f6_leads f0_offset f0_gain f0_dark f0_bright v3_ground v3_patches f3_firstRow f3_lastRow f3_firstColumn f3_lastColumn f3_slants f3_tints f3_specks v4_count f4_kinds f4_numbers v5_on v5_lines v5_reach v5_positions v5_queued v5_position v5_next v5_mode v5_outTicks v5_stops v5_ticked v1_count v1_threshold f1_values) [(cy, .int)] H) (roQi r H) 0 0 (fun _ => False) := by
  refine Met.ofW (cc := cX6_valueAt) (maxL := 8) (ret := (some .int)) (by decide) rfl ?_
  intro p e s m args below meth c s₁ B hml hv
  obtain ⟨rfl, hH, hP, hK⟩ := hv
  have hx := B.exec
  have hb := B.bytes
  have hr := B.returns
  have hts := atoms_spec (ws := wsX6_valueAt) B.pre
  have hown : s.vm.findClass RX6 = some m.cls := findClass_of_methodNamed B.named
  have hlocks := B.notSynchronized
  have hiX6 : ∀ w ∈ u_ws RX6 TX6 6, w ∈ wsX6_valueAt := fun _ h => List.mem_cons_of_mem _ (List.mem_append_left _ (List.mem_append_left _ ((List.mem_append_right _ h))))
  have hiX0 : ∀ w ∈ u_ws RX0 TX0 4, w ∈ wsX6_valueAt := fun _ h => List.mem_cons_of_mem _ (List.mem_append_left _ ((List.mem_append_right _ h)))
  have hiX3 : ∀ w ∈ u_ws RX3 TX3 9, w ∈ wsX6_valueAt := fun _ h => List.mem_cons_of_mem _ ((List.mem_append_right _ h))
  subst hH
  have hS : va_S (fun _ => False) s.heap s.heap [] := va_S.rf
  have hl := lv_entry ([.ref a6, .int p1, .int p2, .int p3]) (n := 8) (Nat.le_of_ble_eq_true rfl)
  rw [lg_entry_eq]
  generalize (lg_sl ([.ref a6, .int p1, .int p2, .int p3]) ++ List.replicate (8 - (lg_sl ([.ref a6, .int p1, .int p2, .int p3])).length) Slot.unset).toArray = ls at hl ⊢
  have hl : lv_has ls 8 [(0, .ref a6), (1, .int p1), (2, .int p2), (3, .int p3)] := hl
  unfold fX6_valueAt at hf
  refine lv_aload_n hx hb dX6_valueAt_0 rfl (lv_at hl 0 rfl) ?_
  refine va_get (D := (dC, dI)) (ci := 5) (v := .ref a0) (C := RX6) (T := TX6) (N := 6) hx hb hts hiX6 hown hK hP 0 rfl rfl 0 (by decide) (hts (.fieldLink RX6 14 "PageLines" "cells" "LPageLines$Cells;") (List.mem_of_getElem? (i := 1) rfl)) (fun _ h9 => h9) rfl dX6_valueAt_1 ?_
  refine lv_iload_n hx hb dX6_valueAt_4 rfl (lv_at hl 2 rfl) ?_
  refine lv_iload_n hx hb dX6_valueAt_5 rfl (lv_at hl 3 rfl) ?_
  refine lv_iconst (v := (-1 : Int32)) hx hb dX6_valueAt_6 (by decide) ?_
  obtain ⟨r1, hr1, hf⟩ := cl1_sp hf
  refine ro_V (As := [.int p2, .int p3, .int (-1 : Int32)]) ⟨hx, hb, hml, hown, hts⟩ (kX0_nearestLive l dC dI cy _ a0 a0_offset a0_gain a0_dark a0_bright f0_offset f0_gain f0_dark f0_bright p2 p3 (-1 : Int32) r1 hr1) (cwV 3 hts gX6_valueAt_X0_nearestLive rfl rfl rfl (by decide +kernel) ⟨Nat.le_of_ble_eq_true rfl, Nat.le_of_ble_eq_true rfl⟩) (va_recv hK hP (ci := 0) (q0 := 2) rfl rfl) (hP.sub [2, 3, 4, 5, 6] rfl) hK hS rfl hl.1 rfl (Nat.le_of_ble_eq_true rfl) dX6_valueAt_7 (Nat.zero_le _) (Nat.zero_le _) (fun locs hS => ?_)
  refine lv_istore (lv' := [(4, .int r1), (0, .ref a6), (1, .int p1), (2, .int p2), (3, .int p3)]) hx hb dX6_valueAt_10 hl (by decide) rfl (fun ls hl => ?_)
  refine lv_iload hx hb dX6_valueAt_12 (lv_at hl 0 rfl) ?_
  refine lv_iload_n hx hb dX6_valueAt_14 rfl (lv_at hl 4 rfl) ?_
  refine lv_icmp_ne (tgt := 26) hx hb dX6_valueAt_15 (by decide) (fun hc => ?_) (fun hc => ?_)
  · have hf := it_n hc hf
    refine lv_aload_n hx hb dX6_valueAt_26 rfl (lv_at hl 1 rfl) ?_
    refine va_get (D := (dC, dI)) (ci := 5) (v := .ref a0) (C := RX6) (T := TX6) (N := 6) hx hb hts hiX6 hown hK hP 0 rfl rfl 0 (by decide) (hts (.fieldLink RX6 14 "PageLines" "cells" "LPageLines$Cells;") (List.mem_of_getElem? (i := 1) rfl)) (fun _ h9 => h9) rfl dX6_valueAt_27 ?_
    refine lv_iload_n hx hb dX6_valueAt_30 rfl (lv_at hl 3 rfl) ?_
    refine lv_iload_n hx hb dX6_valueAt_31 rfl (lv_at hl 4 rfl) ?_
    refine lv_iconst (v := (1 : Int32)) hx hb dX6_valueAt_32 (by decide) ?_
    obtain ⟨r2, hr2, hf⟩ := cl1_sp hf
    refine ro_V (As := [.int p2, .int p3, .int (1 : Int32)]) ⟨hx, hb, hml, hown, hts⟩ (kX0_nearestLive l dC dI cy _ a0 a0_offset a0_gain a0_dark a0_bright f0_offset f0_gain f0_dark f0_bright p2 p3 (1 : Int32) r2 hr2) (cwV 3 hts gX6_valueAt_X0_nearestLive rfl rfl rfl (by decide +kernel) ⟨Nat.le_of_ble_eq_true rfl, Nat.le_of_ble_eq_true rfl⟩) (va_recv hK hP (ci := 0) (q0 := 2) rfl rfl) (hP.sub [2, 3, 4, 5, 6] rfl) hK hS rfl hl.1 rfl (Nat.le_of_ble_eq_true rfl) dX6_valueAt_33 (Nat.zero_le _) (Nat.zero_le _) (fun locs hS => ?_)
    refine lv_istore (lv' := [(5, .int r2), (4, .int r1), (0, .ref a6), (1, .int p1), (2, .int p2), (3, .int p3)]) hx hb dX6_valueAt_36 hl (by decide) rfl (fun ls hl => ?_)
    refine lv_iload hx hb dX6_valueAt_38 (lv_at hl 1 rfl) ?_
    refine lv_bipush (v := (-9 : Int32)) hx hb dX6_valueAt_40 (by decide) ?_
    refine lv_icmp_ne (tgt := 54) hx hb dX6_valueAt_42 (by decide) (fun hc => ?_) (fun hc => ?_)
    · have hf := it_n hc hf
      refine lv_iload hx hb dX6_valueAt_54 (lv_at hl 1 rfl) ?_
      refine lv_bipush (v := (-9 : Int32)) hx hb dX6_valueAt_56 (by decide) ?_
      refine lv_icmp_ne (tgt := 70) hx hb dX6_valueAt_58 (by decide) (fun hc => ?_) (fun hc => ?_)
      · have hf := it_n hc hf
        refine lv_iload hx hb dX6_valueAt_70 (lv_at hl 0 rfl) ?_
        refine lv_bipush (v := (-9 : Int32)) hx hb dX6_valueAt_72 (by decide) ?_
        refine lv_icmp_ne (tgt := 86) hx hb dX6_valueAt_74 (by decide) (fun hc => ?_) (fun hc => ?_)
        · have hf := it_n hc hf
          refine lv_aload_n hx hb dX6_valueAt_86 rfl (lv_at hl 2 rfl) ?_
          refine lv_iload_n hx hb dX6_valueAt_87 rfl (lv_at hl 3 rfl) ?_
          refine lv_iload_n hx hb dX6_valueAt_88 rfl (lv_at hl 4 rfl) ?_
          refine lv_iload hx hb dX6_valueAt_89 (lv_at hl 1 rfl) ?_
          obtain ⟨r3, hr3, hf⟩ := cl1_sp hf
          refine ro_V (As := [.int p1, .int p2, .int r1]) ⟨hx, hb, hml, hown, hts⟩ (kX6_liveValue l dC dI cy _ a6 a6_leads a0 a0_offset a0_gain a0_dark a0_bright a3 a3_firstRow a3_lastRow a3_firstColumn a3_lastColumn a3_slants a3_tints a3_specks a4 a4_kinds a4_numbers a5 a1 a1_values f6_leads f0_offset f0_gain f0_dark f0_bright v3_ground v3_patches f3_firstRow f3_lastRow f3_firstColumn f3_lastColumn f3_slants f3_tints f3_specks v4_count f4_kinds f4_numbers v5_on v5_lines v5_reach v5_positions v5_queued v5_position v5_next v5_mode v5_outTicks v5_stops v5_ticked v1_count v1_threshold f1_values p1 p2 r1 r3 hr3) (cwV 3 hts gX6_valueAt_X6_liveValue rfl rfl rfl (by decide +kernel) ⟨Nat.le_of_ble_eq_true rfl, Nat.le_of_ble_eq_true rfl⟩) (va_recv hK hP (ci := 5) (q0 := 0) rfl rfl) (hP.sub [0, 1, 2, 3, 4, 5, 6, 7, 8, 9, 10, 11, 12, 13, 14, 15, 16, 17, 18, 19, 20] rfl) hK hS rfl hl.1 rfl (Nat.le_of_ble_eq_true rfl) dX6_valueAt_91 (Nat.zero_le _) (Nat.zero_le _) (fun locs hS => ?_)
          refine lv_istore (lv' := [(6, .int r3), (5, .int r2), (4, .int r1), (0, .ref a6), (1, .int p1), (2, .int p2), (3, .int p3)]) hx hb dX6_valueAt_94 hl (by decide) rfl (fun ls hl => ?_)
          refine lv_aload_n hx hb dX6_valueAt_96 rfl (lv_at hl 3 rfl) ?_
          refine lv_iload_n hx hb dX6_valueAt_97 rfl (lv_at hl 4 rfl) ?_
          refine lv_iload_n hx hb dX6_valueAt_98 rfl (lv_at hl 5 rfl) ?_
          refine lv_iload hx hb dX6_valueAt_99 (lv_at hl 1 rfl) ?_
          obtain ⟨r4, hr4, hf⟩ := cl1_sp hf
          refine ro_V (As := [.int p1, .int p2, .int r2]) ⟨hx, hb, hml, hown, hts⟩ (kX6_liveValue l dC dI cy _ a6 a6_leads a0 a0_offset a0_gain a0_dark a0_bright a3 a3_firstRow a3_lastRow a3_firstColumn a3_lastColumn a3_slants a3_tints a3_specks a4 a4_kinds a4_numbers a5 a1 a1_values f6_leads f0_offset f0_gain f0_dark f0_bright v3_ground v3_patches f3_firstRow f3_lastRow f3_firstColumn f3_lastColumn f3_slants f3_tints f3_specks v4_count f4_kinds f4_numbers v5_on v5_lines v5_reach v5_positions v5_queued v5_position v5_next v5_mode v5_outTicks v5_stops v5_ticked v1_count v1_threshold f1_values p1 p2 r2 r4 hr4) (cwV 3 hts gX6_valueAt_X6_liveValue rfl rfl rfl (by decide +kernel) ⟨Nat.le_of_ble_eq_true rfl, Nat.le_of_ble_eq_true rfl⟩) (va_recv hK hP (ci := 5) (q0 := 0) rfl rfl) (hP.sub [0, 1, 2, 3, 4, 5, 6, 7, 8, 9, 10, 11, 12, 13, 14, 15, 16, 17, 18, 19, 20] rfl) hK hS rfl hl.1 rfl (Nat.le_of_ble_eq_true rfl) dX6_valueAt_101 (Nat.zero_le _) (Nat.zero_le _) (fun locs hS => ?_)
          refine lv_istore (lv' := [(7, .int r4), (6, .int r3), (5, .int r2), (4, .int r1), (0, .ref a6), (1, .int p1), (2, .int p2), (3, .int p3)]) hx hb dX6_valueAt_104 hl (by decide) rfl (fun ls hl => ?_)
          refine lv_iload hx hb dX6_valueAt_106 (lv_at hl 1 rfl) ?_
          refine lv_iload hx hb dX6_valueAt_108 (lv_at hl 2 rfl) ?_
          refine lv_iload_n hx hb dX6_valueAt_110 rfl (lv_at hl 7 rfl) ?_
          refine lv_isub hx hb dX6_valueAt_111 ?_
          refine lv_imul hx hb dX6_valueAt_112 ?_
          refine lv_iload hx hb dX6_valueAt_113 (lv_at hl 0 rfl) ?_
          refine lv_iload_n hx hb dX6_valueAt_115 rfl (lv_at hl 7 rfl) ?_
          refine lv_iload hx hb dX6_valueAt_116 (lv_at hl 3 rfl) ?_
          refine lv_isub hx hb dX6_valueAt_118 ?_
          refine lv_imul hx hb dX6_valueAt_119 ?_
          refine lv_iadd hx hb dX6_valueAt_120 ?_
          refine lv_iload hx hb dX6_valueAt_121 (lv_at hl 2 rfl) ?_
          refine lv_iload hx hb dX6_valueAt_123 (lv_at hl 3 rfl) ?_
          refine lv_isub hx hb dX6_valueAt_125 ?_
          obtain ⟨r5, hr5, hf⟩ := cl1_sp hf
          refine ro_S (As := [.int ((r3 * (r2 - p3)) + (r4 * (p3 - r1))), .int (r2 - r1)]) ⟨hx, hb, hml, hown, hts⟩ (kX2_rounded l _ ((r3 * (r2 - p3)) + (r4 * (p3 - r1))) (r2 - r1) r5 hr5) (va_cwS 2 hts gX6_valueAt_X2_rounded rfl rfl rfl (by decide +kernel) ⟨Nat.le_of_ble_eq_true rfl, Nat.le_of_ble_eq_true rfl⟩) hS rfl hl.1 rfl (Nat.le_of_ble_eq_true rfl) dX6_valueAt_126 (Nat.zero_le _) (Nat.zero_le _) (fun locs hS => ?_)
          exact W.iret (v := r5) hx hb hr (fun t ht hW => ⟨⟨_, (), rfl, Option.some.inj hf, ht⟩, hS.F ht⟩) hS.2.2 dX6_valueAt_129
        · have hf := it_p hc hf
          refine lv_aload_n hx hb dX6_valueAt_77 rfl (lv_at hl 2 rfl) ?_
          refine lv_iload_n hx hb dX6_valueAt_78 rfl (lv_at hl 3 rfl) ?_
          refine lv_iload_n hx hb dX6_valueAt_79 rfl (lv_at hl 4 rfl) ?_
          refine lv_iload hx hb dX6_valueAt_80 (lv_at hl 1 rfl) ?_
          obtain ⟨r6, hr6, hf⟩ := cl1_sp hf
          refine ro_V (As := [.int p1, .int p2, .int r1]) ⟨hx, hb, hml, hown, hts⟩ (kX6_liveValue l dC dI cy _ a6 a6_leads a0 a0_offset a0_gain a0_dark a0_bright a3 a3_firstRow a3_lastRow a3_firstColumn a3_lastColumn a3_slants a3_tints a3_specks a4 a4_kinds a4_numbers a5 a1 a1_values f6_leads f0_offset f0_gain f0_dark f0_bright v3_ground v3_patches f3_firstRow f3_lastRow f3_firstColumn f3_lastColumn f3_slants f3_tints f3_specks v4_count f4_kinds f4_numbers v5_on v5_lines v5_reach v5_positions v5_queued v5_position v5_next v5_mode v5_outTicks v5_stops v5_ticked v1_count v1_threshold f1_values p1 p2 r1 r6 hr6) (cwV 3 hts gX6_valueAt_X6_liveValue rfl rfl rfl (by decide +kernel) ⟨Nat.le_of_ble_eq_true rfl, Nat.le_of_ble_eq_true rfl⟩) (va_recv hK hP (ci := 5) (q0 := 0) rfl rfl) (hP.sub [0, 1, 2, 3, 4, 5, 6, 7, 8, 9, 10, 11, 12, 13, 14, 15, 16, 17, 18, 19, 20] rfl) hK hS rfl hl.1 rfl (Nat.le_of_ble_eq_true rfl) dX6_valueAt_82 (Nat.zero_le _) (Nat.zero_le _) (fun locs hS => ?_)
          exact W.iret (v := r6) hx hb hr (fun t ht hW => ⟨⟨_, (), rfl, Option.some.inj hf, ht⟩, hS.F ht⟩) hS.2.2 dX6_valueAt_85
      · have hf := it_p hc hf
        refine lv_aload_n hx hb dX6_valueAt_61 rfl (lv_at hl 2 rfl) ?_
        refine lv_iload_n hx hb dX6_valueAt_62 rfl (lv_at hl 3 rfl) ?_
        refine lv_iload_n hx hb dX6_valueAt_63 rfl (lv_at hl 4 rfl) ?_
        refine lv_iload hx hb dX6_valueAt_64 (lv_at hl 0 rfl) ?_
        obtain ⟨r7, hr7, hf⟩ := cl1_sp hf
        refine ro_V (As := [.int p1, .int p2, .int r2]) ⟨hx, hb, hml, hown, hts⟩ (kX6_liveValue l dC dI cy _ a6 a6_leads a0 a0_offset a0_gain a0_dark a0_bright a3 a3_firstRow a3_lastRow a3_firstColumn a3_lastColumn a3_slants a3_tints a3_specks a4 a4_kinds a4_numbers a5 a1 a1_values f6_leads f0_offset f0_gain f0_dark f0_bright v3_ground v3_patches f3_firstRow f3_lastRow f3_firstColumn f3_lastColumn f3_slants f3_tints f3_specks v4_count f4_kinds f4_numbers v5_on v5_lines v5_reach v5_positions v5_queued v5_position v5_next v5_mode v5_outTicks v5_stops v5_ticked v1_count v1_threshold f1_values p1 p2 r2 r7 hr7) (cwV 3 hts gX6_valueAt_X6_liveValue rfl rfl rfl (by decide +kernel) ⟨Nat.le_of_ble_eq_true rfl, Nat.le_of_ble_eq_true rfl⟩) (va_recv hK hP (ci := 5) (q0 := 0) rfl rfl) (hP.sub [0, 1, 2, 3, 4, 5, 6, 7, 8, 9, 10, 11, 12, 13, 14, 15, 16, 17, 18, 19, 20] rfl) hK hS rfl hl.1 rfl (Nat.le_of_ble_eq_true rfl) dX6_valueAt_66 (Nat.zero_le _) (Nat.zero_le _) (fun locs hS => ?_)
        exact W.iret (v := r7) hx hb hr (fun t ht hW => ⟨⟨_, (), rfl, Option.some.inj hf, ht⟩, hS.F ht⟩) hS.2.2 dX6_valueAt_69
    · have hf := it_p hc hf
      refine lv_iload hx hb dX6_valueAt_45 (lv_at hl 0 rfl) ?_
      refine lv_bipush (v := (-9 : Int32)) hx hb dX6_valueAt_47 (by decide) ?_
      refine lv_icmp_ne (tgt := 54) hx hb dX6_valueAt_49 (by decide) (fun hc => ?_) (fun hc => ?_)
      · have hf := it_n hc hf
        refine lv_iload hx hb dX6_valueAt_54 (lv_at hl 1 rfl) ?_
        refine lv_bipush (v := (-9 : Int32)) hx hb dX6_valueAt_56 (by decide) ?_
        refine lv_icmp_ne (tgt := 70) hx hb dX6_valueAt_58 (by decide) (fun hc => ?_) (fun hc => ?_)
        · have hf := it_n hc hf
          refine lv_iload hx hb dX6_valueAt_70 (lv_at hl 0 rfl) ?_
          refine lv_bipush (v := (-9 : Int32)) hx hb dX6_valueAt_72 (by decide) ?_
          refine lv_icmp_ne (tgt := 86) hx hb dX6_valueAt_74 (by decide) (fun hc => ?_) (fun hc => ?_)
          · have hf := it_n hc hf
            refine lv_aload_n hx hb dX6_valueAt_86 rfl (lv_at hl 2 rfl) ?_
            refine lv_iload_n hx hb dX6_valueAt_87 rfl (lv_at hl 3 rfl) ?_
            refine lv_iload_n hx hb dX6_valueAt_88 rfl (lv_at hl 4 rfl) ?_
            refine lv_iload hx hb dX6_valueAt_89 (lv_at hl 1 rfl) ?_
            obtain ⟨r8, hr8, hf⟩ := cl1_sp hf
            refine ro_V (As := [.int p1, .int p2, .int r1]) ⟨hx, hb, hml, hown, hts⟩ (kX6_liveValue l dC dI cy _ a6 a6_leads a0 a0_offset a0_gain a0_dark a0_bright a3 a3_firstRow a3_lastRow a3_firstColumn a3_lastColumn a3_slants a3_tints a3_specks a4 a4_kinds a4_numbers a5 a1 a1_values f6_leads f0_offset f0_gain f0_dark f0_bright v3_ground v3_patches f3_firstRow f3_lastRow f3_firstColumn f3_lastColumn f3_slants f3_tints f3_specks v4_count f4_kinds f4_numbers v5_on v5_lines v5_reach v5_positions v5_queued v5_position v5_next v5_mode v5_outTicks v5_stops v5_ticked v1_count v1_threshold f1_values p1 p2 r1 r8 hr8) (cwV 3 hts gX6_valueAt_X6_liveValue rfl rfl rfl (by decide +kernel) ⟨Nat.le_of_ble_eq_true rfl, Nat.le_of_ble_eq_true rfl⟩) (va_recv hK hP (ci := 5) (q0 := 0) rfl rfl) (hP.sub [0, 1, 2, 3, 4, 5, 6, 7, 8, 9, 10, 11, 12, 13, 14, 15, 16, 17, 18, 19, 20] rfl) hK hS rfl hl.1 rfl (Nat.le_of_ble_eq_true rfl) dX6_valueAt_91 (Nat.zero_le _) (Nat.zero_le _) (fun locs hS => ?_)
            refine lv_istore (lv' := [(6, .int r8), (5, .int r2), (4, .int r1), (0, .ref a6), (1, .int p1), (2, .int p2), (3, .int p3)]) hx hb dX6_valueAt_94 hl (by decide) rfl (fun ls hl => ?_)
            refine lv_aload_n hx hb dX6_valueAt_96 rfl (lv_at hl 3 rfl) ?_
            refine lv_iload_n hx hb dX6_valueAt_97 rfl (lv_at hl 4 rfl) ?_
            refine lv_iload_n hx hb dX6_valueAt_98 rfl (lv_at hl 5 rfl) ?_
            refine lv_iload hx hb dX6_valueAt_99 (lv_at hl 1 rfl) ?_
            obtain ⟨r9, hr9, hf⟩ := cl1_sp hf
            refine ro_V (As := [.int p1, .int p2, .int r2]) ⟨hx, hb, hml, hown, hts⟩ (kX6_liveValue l dC dI cy _ a6 a6_leads a0 a0_offset a0_gain a0_dark a0_bright a3 a3_firstRow a3_lastRow a3_firstColumn a3_lastColumn a3_slants a3_tints a3_specks a4 a4_kinds a4_numbers a5 a1 a1_values f6_leads f0_offset f0_gain f0_dark f0_bright v3_ground v3_patches f3_firstRow f3_lastRow f3_firstColumn f3_lastColumn f3_slants f3_tints f3_specks v4_count f4_kinds f4_numbers v5_on v5_lines v5_reach v5_positions v5_queued v5_position v5_next v5_mode v5_outTicks v5_stops v5_ticked v1_count v1_threshold f1_values p1 p2 r2 r9 hr9) (cwV 3 hts gX6_valueAt_X6_liveValue rfl rfl rfl (by decide +kernel) ⟨Nat.le_of_ble_eq_true rfl, Nat.le_of_ble_eq_true rfl⟩) (va_recv hK hP (ci := 5) (q0 := 0) rfl rfl) (hP.sub [0, 1, 2, 3, 4, 5, 6, 7, 8, 9, 10, 11, 12, 13, 14, 15, 16, 17, 18, 19, 20] rfl) hK hS rfl hl.1 rfl (Nat.le_of_ble_eq_true rfl) dX6_valueAt_101 (Nat.zero_le _) (Nat.zero_le _) (fun locs hS => ?_)
            refine lv_istore (lv' := [(7, .int r9), (6, .int r8), (5, .int r2), (4, .int r1), (0, .ref a6), (1, .int p1), (2, .int p2), (3, .int p3)]) hx hb dX6_valueAt_104 hl (by decide) rfl (fun ls hl => ?_)
            refine lv_iload hx hb dX6_valueAt_106 (lv_at hl 1 rfl) ?_
            refine lv_iload hx hb dX6_valueAt_108 (lv_at hl 2 rfl) ?_
            refine lv_iload_n hx hb dX6_valueAt_110 rfl (lv_at hl 7 rfl) ?_
            refine lv_isub hx hb dX6_valueAt_111 ?_
            refine lv_imul hx hb dX6_valueAt_112 ?_
            refine lv_iload hx hb dX6_valueAt_113 (lv_at hl 0 rfl) ?_
            refine lv_iload_n hx hb dX6_valueAt_115 rfl (lv_at hl 7 rfl) ?_
            refine lv_iload hx hb dX6_valueAt_116 (lv_at hl 3 rfl) ?_
            refine lv_isub hx hb dX6_valueAt_118 ?_
            refine lv_imul hx hb dX6_valueAt_119 ?_
            refine lv_iadd hx hb dX6_valueAt_120 ?_
            refine lv_iload hx hb dX6_valueAt_121 (lv_at hl 2 rfl) ?_
            refine lv_iload hx hb dX6_valueAt_123 (lv_at hl 3 rfl) ?_
            refine lv_isub hx hb dX6_valueAt_125 ?_
            obtain ⟨r10, hr10, hf⟩ := cl1_sp hf
            refine ro_S (As := [.int ((r8 * (r2 - p3)) + (r9 * (p3 - r1))), .int (r2 - r1)]) ⟨hx, hb, hml, hown, hts⟩ (kX2_rounded l _ ((r8 * (r2 - p3)) + (r9 * (p3 - r1))) (r2 - r1) r10 hr10) (va_cwS 2 hts gX6_valueAt_X2_rounded rfl rfl rfl (by decide +kernel) ⟨Nat.le_of_ble_eq_true rfl, Nat.le_of_ble_eq_true rfl⟩) hS rfl hl.1 rfl (Nat.le_of_ble_eq_true rfl) dX6_valueAt_126 (Nat.zero_le _) (Nat.zero_le _) (fun locs hS => ?_)
            exact W.iret (v := r10) hx hb hr (fun t ht hW => ⟨⟨_, (), rfl, Option.some.inj hf, ht⟩, hS.F ht⟩) hS.2.2 dX6_valueAt_129
          · have hf := it_p hc hf
            refine lv_aload_n hx hb dX6_valueAt_77 rfl (lv_at hl 2 rfl) ?_
            refine lv_iload_n hx hb dX6_valueAt_78 rfl (lv_at hl 3 rfl) ?_
            refine lv_iload_n hx hb dX6_valueAt_79 rfl (lv_at hl 4 rfl) ?_
            refine lv_iload hx hb dX6_valueAt_80 (lv_at hl 1 rfl) ?_
            obtain ⟨r11, hr11, hf⟩ := cl1_sp hf
            refine ro_V (As := [.int p1, .int p2, .int r1]) ⟨hx, hb, hml, hown, hts⟩ (kX6_liveValue l dC dI cy _ a6 a6_leads a0 a0_offset a0_gain a0_dark a0_bright a3 a3_firstRow a3_lastRow a3_firstColumn a3_lastColumn a3_slants a3_tints a3_specks a4 a4_kinds a4_numbers a5 a1 a1_values f6_leads f0_offset f0_gain f0_dark f0_bright v3_ground v3_patches f3_firstRow f3_lastRow f3_firstColumn f3_lastColumn f3_slants f3_tints f3_specks v4_count f4_kinds f4_numbers v5_on v5_lines v5_reach v5_positions v5_queued v5_position v5_next v5_mode v5_outTicks v5_stops v5_ticked v1_count v1_threshold f1_values p1 p2 r1 r11 hr11) (cwV 3 hts gX6_valueAt_X6_liveValue rfl rfl rfl (by decide +kernel) ⟨Nat.le_of_ble_eq_true rfl, Nat.le_of_ble_eq_true rfl⟩) (va_recv hK hP (ci := 5) (q0 := 0) rfl rfl) (hP.sub [0, 1, 2, 3, 4, 5, 6, 7, 8, 9, 10, 11, 12, 13, 14, 15, 16, 17, 18, 19, 20] rfl) hK hS rfl hl.1 rfl (Nat.le_of_ble_eq_true rfl) dX6_valueAt_82 (Nat.zero_le _) (Nat.zero_le _) (fun locs hS => ?_)
            exact W.iret (v := r11) hx hb hr (fun t ht hW => ⟨⟨_, (), rfl, Option.some.inj hf, ht⟩, hS.F ht⟩) hS.2.2 dX6_valueAt_85
        · have hf := it_p hc hf
          refine lv_aload_n hx hb dX6_valueAt_61 rfl (lv_at hl 2 rfl) ?_
          refine lv_iload_n hx hb dX6_valueAt_62 rfl (lv_at hl 3 rfl) ?_
          refine lv_iload_n hx hb dX6_valueAt_63 rfl (lv_at hl 4 rfl) ?_
          refine lv_iload hx hb dX6_valueAt_64 (lv_at hl 0 rfl) ?_
          obtain ⟨r12, hr12, hf⟩ := cl1_sp hf
          refine ro_V (As := [.int p1, .int p2, .int r2]) ⟨hx, hb, hml, hown, hts⟩ (kX6_liveValue l dC dI cy _ a6 a6_leads a0 a0_offset a0_gain a0_dark a0_bright a3 a3_firstRow a3_lastRow a3_firstColumn a3_lastColumn a3_slants a3_tints a3_specks a4 a4_kinds a4_numbers a5 a1 a1_values f6_leads f0_offset f0_gain f0_dark f0_bright v3_ground v3_patches f3_firstRow f3_lastRow f3_firstColumn f3_lastColumn f3_slants f3_tints f3_specks v4_count f4_kinds f4_numbers v5_on v5_lines v5_reach v5_positions v5_queued v5_position v5_next v5_mode v5_outTicks v5_stops v5_ticked v1_count v1_threshold f1_values p1 p2 r2 r12 hr12) (cwV 3 hts gX6_valueAt_X6_liveValue rfl rfl rfl (by decide +kernel) ⟨Nat.le_of_ble_eq_true rfl, Nat.le_of_ble_eq_true rfl⟩) (va_recv hK hP (ci := 5) (q0 := 0) rfl rfl) (hP.sub [0, 1, 2, 3, 4, 5, 6, 7, 8, 9, 10, 11, 12, 13, 14, 15, 16, 17, 18, 19, 20] rfl) hK hS rfl hl.1 rfl (Nat.le_of_ble_eq_true rfl) dX6_valueAt_66 (Nat.zero_le _) (Nat.zero_le _) (fun locs hS => ?_)
          exact W.iret (v := r12) hx hb hr (fun t ht hW => ⟨⟨_, (), rfl, Option.some.inj hf, ht⟩, hS.F ht⟩) hS.2.2 dX6_valueAt_69
      · have hf := it_p hc hf
        refine lv_iconst (v := (0 : Int32)) hx hb dX6_valueAt_52 (by decide) ?_
        exact W.iret (v := (0 : Int32)) hx hb hr (fun t ht hW => ⟨⟨_, (), rfl, Option.some.inj hf, ht⟩, hS.F ht⟩) hS.2.2 dX6_valueAt_53
  · have hf := it_p hc hf
    refine lv_aload_n hx hb dX6_valueAt_18 rfl (lv_at hl 1 rfl) ?_
    refine lv_iload_n hx hb dX6_valueAt_19 rfl (lv_at hl 2 rfl) ?_
    refine lv_iload_n hx hb dX6_valueAt_20 rfl (lv_at hl 3 rfl) ?_
    refine lv_iload_n hx hb dX6_valueAt_21 rfl (lv_at hl 4 rfl) ?_
    obtain ⟨r13, hr13, hf⟩ := cl1_sp hf
    refine ro_V (As := [.int p1, .int p2, .int p3]) ⟨hx, hb, hml, hown, hts⟩ (kX6_liveValue l dC dI cy _ a6 a6_leads a0 a0_offset a0_gain a0_dark a0_bright a3 a3_firstRow a3_lastRow a3_firstColumn a3_lastColumn a3_slants a3_tints a3_specks a4 a4_kinds a4_numbers a5 a1 a1_values f6_leads f0_offset f0_gain f0_dark f0_bright v3_ground v3_patches f3_firstRow f3_lastRow f3_firstColumn f3_lastColumn f3_slants f3_tints f3_specks v4_count f4_kinds f4_numbers v5_on v5_lines v5_reach v5_positions v5_queued v5_position v5_next v5_mode v5_outTicks v5_stops v5_ticked v1_count v1_threshold f1_values p1 p2 p3 r13 hr13) (cwV 3 hts gX6_valueAt_X6_liveValue rfl rfl rfl (by decide +kernel) ⟨Nat.le_of_ble_eq_true rfl, Nat.le_of_ble_eq_true rfl⟩) (va_recv hK hP (ci := 5) (q0 := 0) rfl rfl) (hP.sub [0, 1, 2, 3, 4, 5, 6, 7, 8, 9, 10, 11, 12, 13, 14, 15, 16, 17, 18, 19, 20] rfl) hK hS rfl hl.1 rfl (Nat.le_of_ble_eq_true rfl) dX6_valueAt_22 (Nat.zero_le _) (Nat.zero_le _) (fun locs hS => ?_)
    exact W.iret (v := r13) hx hb hr (fun t ht hW => ⟨⟨_, (), rfl, Option.some.inj hf, ht⟩, hS.F ht⟩) hS.2.2 dX6_valueAt_25
set_option maxHeartbeats 4000000 in
set_option maxRecDepth 100000 in
theorem kX6_lineValue (l : Launch) (dC : Nat → ClassId) (dI : Nat → Nat → Nat) (cy : ClassId) (H : Heap) (a6 a6_leads a0 a0_offset a0_gain a0_dark a0_bright a3 a3_firstRow a3_lastRow a3_firstColumn a3_lastColumn a3_slants a3_tints a3_specks a4 a4_kinds a4_numbers a5 a1 a1_values : Nat) (f6_leads : Nat → Int32) (f0_offset : Nat → Int32) (f0_gain : Nat → Int32) (f0_dark : Nat → Int32) (f0_bright : Nat → Int32) (v3_ground : Int32) (v3_patches : Int32) (f3_firstRow : Nat → Int32) (f3_lastRow : Nat → Int32) (f3_firstColumn : Nat → Int32) (f3_lastColumn : Nat → Int32) (f3_slants : Nat → Int32) (f3_tints : Nat → Int32) (f3_specks : Nat → Int32) (v4_count : Int32) (f4_kinds : Nat → Int32) (f4_numbers : Nat → Int32) (v5_on : Int32) (v5_lines : Int32) (v5_reach : Int32) (v5_positions : Int32) (v5_queued : Int32) (v5_position : Int32) (v5_next : Int32) (v5_mode : Int32) (v5_outTicks : Int32) (v5_stops : Int32) (v5_ticked : Int32) (v1_count : Int32) (v1_threshold : Int32) (f1_values : Nat → Int32) (p1 : Int32) (p2 : Int32) (p3 : Int32) (r : Int32) (hf : fX6_lineValue f6_leads f0_offset f0_gain f0_dark f0_bright v3_ground v3_patches f3_firstRow f3_lastRow f3_firstColumn f3_lastColumn f3_slants f3_tints f3_specks v4_count f4_kinds f4_numbers p1 p2 p3 = some r) : Met l yX6_lineValue wsX6_lineValue ({ frames := 5, cells := 0, slots := 0, locals := 129 }) (roP [.ref a6, .int p1, .int p2, .int p3] (dC, dI) vwCl (WX6 cy a6 a6_leads a0 a0_offset a0_gain a0_dark a0_bright a3 a3_firstRow a3_lastRow a3_firstColumn a3_lastColumn a3_slants a3_tints a3_specks a4 a4_kinds a4_numbers a5 a1 a1_values f6_leads f0_offset f0_gain f0_dark f0_bright v3_ground v3_patches f3_firstRow f3_lastRow f3_firstColumn f3_lastColumn f3_slants f3_tints f3_specks v4_count f4_kinds f4_numbers v5_on v5_lines v5_reach v5_positions v5_queued v5_position v5_next v5_mode v5_outTicks v5_stops v5_ticked v1_count v1_threshold f1_values) [(cy, .int)] H) (roQi r H) 0 0 (fun _ => False) := by
  refine Met.ofW (cc := cX6_lineValue) (maxL := 8) (ret := (some .int)) (by decide) rfl ?_
  intro p e s m args below meth c s₁ B hml hv
  obtain ⟨rfl, hH, hP, hK⟩ := hv
  have hx := B.exec
  have hb := B.bytes
  have hr := B.returns
  have hts := atoms_spec (ws := wsX6_lineValue) B.pre
  have hown : s.vm.findClass RX6 = some m.cls := findClass_of_methodNamed B.named
  have hlocks := B.notSynchronized
  have hiX6 : ∀ w ∈ u_ws RX6 TX6 6, w ∈ wsX6_lineValue := fun _ h => List.mem_cons_of_mem _ (List.mem_append_left _ (List.mem_append_left _ (List.mem_append_left _ ((List.mem_append_right _ h)))))
  have hiX0 : ∀ w ∈ u_ws RX0 TX0 4, w ∈ wsX6_lineValue := fun _ h => List.mem_cons_of_mem _ (List.mem_append_left _ (List.mem_append_left _ ((List.mem_append_right _ h))))
  have hiX3 : ∀ w ∈ u_ws RX3 TX3 9, w ∈ wsX6_lineValue := fun _ h => List.mem_cons_of_mem _ (List.mem_append_left _ ((List.mem_append_right _ h)))
  have hiX4 : ∀ w ∈ u_ws RX4 TX4 3, w ∈ wsX6_lineValue := fun _ h => List.mem_cons_of_mem _ ((List.mem_append_right _ h))
  subst hH
  have hS : va_S (fun _ => False) s.heap s.heap [] := va_S.rf
  have hl := lv_entry ([.ref a6, .int p1, .int p2, .int p3]) (n := 8) (Nat.le_of_ble_eq_true rfl)
  rw [lg_entry_eq]
  generalize (lg_sl ([.ref a6, .int p1, .int p2, .int p3]) ++ List.replicate (8 - (lg_sl ([.ref a6, .int p1, .int p2, .int p3])).length) Slot.unset).toArray = ls at hl ⊢
  have hl : lv_has ls 8 [(0, .ref a6), (1, .int p1), (2, .int p2), (3, .int p3)] := hl
  unfold fX6_lineValue at hf
  refine lv_iload_n hx hb dX6_lineValue_0 rfl (lv_at hl 1 rfl) ?_
  refine lv_aload_n hx hb dX6_lineValue_1 rfl (lv_at hl 0 rfl) ?_
  refine va_get (D := (dC, dI)) (ci := 5) (v := .ref a6_leads) (C := RX6) (T := TX6) (N := 6) hx hb hts hiX6 hown hK hP 0 rfl rfl 5 (by decide) (hts (.fieldLink RX6 46 "PageLines" "leads" "[I") (List.mem_of_getElem? (i := 1) rfl)) (fun _ h9 => h9) rfl dX6_lineValue_2 ?_
  refine lv_iload_n hx hb dX6_lineValue_5 rfl (lv_at hl 2 rfl) ?_
  obtain ⟨hi_1, hf⟩ := ckI_sp hf
  refine va_iald hx hb hK hP 1 0 rfl rfl hi_1 dX6_lineValue_6 ?_
  refine lv_iconst (v := (4 : Int32)) hx hb dX6_lineValue_7 (by decide) ?_
  refine lv_idiv hx hb dX6_lineValue_8 (by decide) ?_
  refine lv_iadd hx hb dX6_lineValue_9 ?_
  refine lv_istore (lv' := [(4, .int (p1 + ((f6_leads p2.toNatClampNeg) / (4 : Int32)))), (0, .ref a6), (1, .int p1), (2, .int p2), (3, .int p3)]) hx hb dX6_lineValue_10 hl (by decide) rfl (fun ls hl => ?_)
  refine lv_aload_n hx hb dX6_lineValue_12 rfl (lv_at hl 1 rfl) ?_
  refine va_get (D := (dC, dI)) (ci := 5) (v := .ref a6_leads) (C := RX6) (T := TX6) (N := 6) hx hb hts hiX6 hown hK hP 0 rfl rfl 5 (by decide) (hts (.fieldLink RX6 46 "PageLines" "leads" "[I") (List.mem_of_getElem? (i := 1) rfl)) (fun _ h9 => h9) rfl dX6_lineValue_13 ?_
  refine lv_iload_n hx hb dX6_lineValue_16 rfl (lv_at hl 3 rfl) ?_
  obtain ⟨hi_2, hf⟩ := ckI_sp hf
  refine va_iald hx hb hK hP 1 0 rfl rfl hi_2 dX6_lineValue_17 ?_
  refine lv_iconst (v := (4 : Int32)) hx hb dX6_lineValue_18 (by decide) ?_
  refine lv_irem hx hb dX6_lineValue_19 (by decide) ?_
  refine lv_istore (lv' := [(5, .int ((f6_leads p2.toNatClampNeg) - (f6_leads p2.toNatClampNeg) / (4 : Int32) * (4 : Int32))), (4, .int (p1 + ((f6_leads p2.toNatClampNeg) / (4 : Int32)))), (0, .ref a6), (1, .int p1), (2, .int p2), (3, .int p3)]) hx hb dX6_lineValue_20 hl (by decide) rfl (fun ls hl => ?_)
  refine lv_aload_n hx hb dX6_lineValue_22 rfl (lv_at hl 2 rfl) ?_
  refine lv_iload hx hb dX6_lineValue_23 (lv_at hl 1 rfl) ?_
  refine lv_iload_n hx hb dX6_lineValue_25 rfl (lv_at hl 4 rfl) ?_
  refine lv_iload_n hx hb dX6_lineValue_26 rfl (lv_at hl 5 rfl) ?_
  obtain ⟨r3, hr3, hf⟩ := cl1_sp hf
  refine ro_V (As := [.int (p1 + ((f6_leads p2.toNatClampNeg) / (4 : Int32))), .int p2, .int p3]) ⟨hx, hb, hml, hown, hts⟩ (kX6_valueAt l dC dI cy _ a6 a6_leads a0 a0_offset a0_gain a0_dark a0_bright a3 a3_firstRow a3_lastRow a3_firstColumn a3_lastColumn a3_slants a3_tints a3_specks a4 a4_kinds a4_numbers a5 a1 a1_values f6_leads f0_offset f0_gain f0_dark f0_bright v3_ground v3_patches f3_firstRow f3_lastRow f3_firstColumn f3_lastColumn f3_slants f3_tints f3_specks v4_count f4_kinds f4_numbers v5_on v5_lines v5_reach v5_positions v5_queued v5_position v5_next v5_mode v5_outTicks v5_stops v5_ticked v1_count v1_threshold f1_values (p1 + ((f6_leads p2.toNatClampNeg) / (4 : Int32))) p2 p3 r3 hr3) (cwV 3 hts gX6_lineValue_X6_valueAt rfl rfl rfl (by decide +kernel) ⟨Nat.le_of_ble_eq_true rfl, Nat.le_of_ble_eq_true rfl⟩) (va_recv hK hP (ci := 5) (q0 := 0) rfl rfl) (hP.sub [0, 1, 2, 3, 4, 5, 6, 7, 8, 9, 10, 11, 12, 13, 14, 15, 16, 17, 18, 19, 20] rfl) hK hS rfl hl.1 rfl (Nat.le_of_ble_eq_true rfl) dX6_lineValue_27 (Nat.zero_le _) (Nat.zero_le _) (fun locs hS => ?_)
  refine lv_istore (lv' := [(6, .int r3), (5, .int ((f6_leads p2.toNatClampNeg) - (f6_leads p2.toNatClampNeg) / (4 : Int32) * (4 : Int32))), (4, .int (p1 + ((f6_leads p2.toNatClampNeg) / (4 : Int32)))), (0, .ref a6), (1, .int p1), (2, .int p2), (3, .int p3)]) hx hb dX6_lineValue_30 hl (by decide) rfl (fun ls hl => ?_)
  refine lv_iload hx hb dX6_lineValue_32 (lv_at hl 1 rfl) ?_
  refine lv_if_le (tgt := 68) hx hb dX6_lineValue_34 (by decide) (fun hc => ?_) (fun hc => ?_)
  · have hf := it_p hc hf
    refine lv_aload_n hx hb dX6_lineValue_68 rfl (lv_at hl 3 rfl) ?_
    refine va_get (D := (dC, dI)) (ci := 5) (v := .ref a4) (C := RX6) (T := TX6) (N := 6) hx hb hts hiX6 hown hK hP 0 rfl rfl 2 (by decide) (hts (.fieldLink RX6 28 "PageLines" "steps" "LPageLines$Pipe;") (List.mem_of_getElem? (i := 2) rfl)) (fun _ h9 => h9) rfl dX6_lineValue_69 ?_
    refine lv_iload hx hb dX6_lineValue_72 (lv_at hl 0 rfl) ?_
    obtain ⟨r4, hr4, hf⟩ := cl1_sp hf
    refine ro_V (As := [.int r3]) ⟨hx, hb, hml, hown, hts⟩ (kX4_through l dC dI cy _ a4 a4_kinds a4_numbers v4_count f4_kinds f4_numbers r3 r4 hr4) (cwV 1 hts gX6_lineValue_X4_through rfl rfl rfl (by decide +kernel) ⟨Nat.le_of_ble_eq_true rfl, Nat.le_of_ble_eq_true rfl⟩) (va_recv hK hP (ci := 3) (q0 := 15) rfl rfl) (hP.sub [15, 16, 17] rfl) hK hS rfl hl.1 rfl (Nat.le_of_ble_eq_true rfl) dX6_lineValue_74 (Nat.zero_le _) (Nat.zero_le _) (fun locs hS => ?_)
    exact W.iret (v := r4) hx hb hr (fun t ht hW => ⟨⟨_, (), rfl, Option.some.inj hf, ht⟩, hS.F ht⟩) hS.2.2 dX6_lineValue_77
  · have hf := it_n hc hf
    refine lv_aload_n hx hb dX6_lineValue_37 rfl (lv_at hl 3 rfl) ?_
    refine lv_iload hx hb dX6_lineValue_38 (lv_at hl 2 rfl) ?_
    refine lv_iconst (v := (1 : Int32)) hx hb dX6_lineValue_40 (by decide) ?_
    refine lv_iadd hx hb dX6_lineValue_41 ?_
    refine lv_iload_n hx hb dX6_lineValue_42 rfl (lv_at hl 5 rfl) ?_
    refine lv_iload_n hx hb dX6_lineValue_43 rfl (lv_at hl 6 rfl) ?_
    obtain ⟨r5, hr5, hf⟩ := cl1_sp hf
    refine ro_V (As := [.int ((p1 + ((f6_leads p2.toNatClampNeg) / (4 : Int32))) + (1 : Int32)), .int p2, .int p3]) ⟨hx, hb, hml, hown, hts⟩ (kX6_valueAt l dC dI cy _ a6 a6_leads a0 a0_offset a0_gain a0_dark a0_bright a3 a3_firstRow a3_lastRow a3_firstColumn a3_lastColumn a3_slants a3_tints a3_specks a4 a4_kinds a4_numbers a5 a1 a1_values f6_leads f0_offset f0_gain f0_dark f0_bright v3_ground v3_patches f3_firstRow f3_lastRow f3_firstColumn f3_lastColumn f3_slants f3_tints f3_specks v4_count f4_kinds f4_numbers v5_on v5_lines v5_reach v5_positions v5_queued v5_position v5_next v5_mode v5_outTicks v5_stops v5_ticked v1_count v1_threshold f1_values ((p1 + ((f6_leads p2.toNatClampNeg) / (4 : Int32))) + (1 : Int32)) p2 p3 r5 hr5) (cwV 3 hts gX6_lineValue_X6_valueAt rfl rfl rfl (by decide +kernel) ⟨Nat.le_of_ble_eq_true rfl, Nat.le_of_ble_eq_true rfl⟩) (va_recv hK hP (ci := 5) (q0 := 0) rfl rfl) (hP.sub [0, 1, 2, 3, 4, 5, 6, 7, 8, 9, 10, 11, 12, 13, 14, 15, 16, 17, 18, 19, 20] rfl) hK hS rfl hl.1 rfl (Nat.le_of_ble_eq_true rfl) dX6_lineValue_44 (Nat.zero_le _) (Nat.zero_le _) (fun locs hS => ?_)
    refine lv_istore (lv' := [(7, .int r5), (6, .int r3), (5, .int ((f6_leads p2.toNatClampNeg) - (f6_leads p2.toNatClampNeg) / (4 : Int32) * (4 : Int32))), (4, .int (p1 + ((f6_leads p2.toNatClampNeg) / (4 : Int32)))), (0, .ref a6), (1, .int p1), (2, .int p2), (3, .int p3)]) hx hb dX6_lineValue_47 hl (by decide) rfl (fun ls hl => ?_)
    refine lv_iload hx hb dX6_lineValue_49 (lv_at hl 1 rfl) ?_
    refine lv_iconst (v := (4 : Int32)) hx hb dX6_lineValue_51 (by decide) ?_
    refine lv_iload hx hb dX6_lineValue_52 (lv_at hl 2 rfl) ?_
    refine lv_isub hx hb dX6_lineValue_54 ?_
    refine lv_imul hx hb dX6_lineValue_55 ?_
    refine lv_iload hx hb dX6_lineValue_56 (lv_at hl 0 rfl) ?_
    refine lv_iload hx hb dX6_lineValue_58 (lv_at hl 2 rfl) ?_
    refine lv_imul hx hb dX6_lineValue_60 ?_
    refine lv_iadd hx hb dX6_lineValue_61 ?_
    refine lv_iconst (v := (4 : Int32)) hx hb dX6_lineValue_62 (by decide) ?_
    obtain ⟨r6, hr6, hf⟩ := cl1_sp hf
    refine ro_S (As := [.int ((r3 * ((4 : Int32) - ((f6_leads p2.toNatClampNeg) - (f6_leads p2.toNatClampNeg) / (4 : Int32) * (4 : Int32)))) + (r5 * ((f6_leads p2.toNatClampNeg) - (f6_leads p2.toNatClampNeg) / (4 : Int32) * (4 : Int32)))), .int (4 : Int32)]) ⟨hx, hb, hml, hown, hts⟩ (kX2_rounded l _ ((r3 * ((4 : Int32) - ((f6_leads p2.toNatClampNeg) - (f6_leads p2.toNatClampNeg) / (4 : Int32) * (4 : Int32)))) + (r5 * ((f6_leads p2.toNatClampNeg) - (f6_leads p2.toNatClampNeg) / (4 : Int32) * (4 : Int32)))) (4 : Int32) r6 hr6) (va_cwS 2 hts gX6_lineValue_X2_rounded rfl rfl rfl (by decide +kernel) ⟨Nat.le_of_ble_eq_true rfl, Nat.le_of_ble_eq_true rfl⟩) hS rfl hl.1 rfl (Nat.le_of_ble_eq_true rfl) dX6_lineValue_63 (Nat.zero_le _) (Nat.zero_le _) (fun locs hS => ?_)
    refine lv_istore (lv' := [(6, .int r6), (7, .int r5), (5, .int ((f6_leads p2.toNatClampNeg) - (f6_leads p2.toNatClampNeg) / (4 : Int32) * (4 : Int32))), (4, .int (p1 + ((f6_leads p2.toNatClampNeg) / (4 : Int32)))), (0, .ref a6), (1, .int p1), (2, .int p2), (3, .int p3)]) hx hb dX6_lineValue_66 hl (by decide) rfl (fun ls hl => ?_)
    refine lv_aload_n hx hb dX6_lineValue_68 rfl (lv_at hl 4 rfl) ?_
    refine va_get (D := (dC, dI)) (ci := 5) (v := .ref a4) (C := RX6) (T := TX6) (N := 6) hx hb hts hiX6 hown hK hP 0 rfl rfl 2 (by decide) (hts (.fieldLink RX6 28 "PageLines" "steps" "LPageLines$Pipe;") (List.mem_of_getElem? (i := 2) rfl)) (fun _ h9 => h9) rfl dX6_lineValue_69 ?_
    refine lv_iload hx hb dX6_lineValue_72 (lv_at hl 0 rfl) ?_
    obtain ⟨r7, hr7, hf⟩ := cl1_sp hf
    refine ro_V (As := [.int r6]) ⟨hx, hb, hml, hown, hts⟩ (kX4_through l dC dI cy _ a4 a4_kinds a4_numbers v4_count f4_kinds f4_numbers r6 r7 hr7) (cwV 1 hts gX6_lineValue_X4_through rfl rfl rfl (by decide +kernel) ⟨Nat.le_of_ble_eq_true rfl, Nat.le_of_ble_eq_true rfl⟩) (va_recv hK hP (ci := 3) (q0 := 15) rfl rfl) (hP.sub [15, 16, 17] rfl) hK hS rfl hl.1 rfl (Nat.le_of_ble_eq_true rfl) dX6_lineValue_74 (Nat.zero_le _) (Nat.zero_le _) (fun locs hS => ?_)
    exact W.iret (v := r7) hx hb hr (fun t ht hW => ⟨⟨_, (), rfl, Option.some.inj hf, ht⟩, hS.F ht⟩) hS.2.2 dX6_lineValue_77

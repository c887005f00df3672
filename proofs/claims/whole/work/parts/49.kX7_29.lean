set_option maxHeartbeats 4000000 in
set_option maxRecDepth 100000 in
theorem kX7_wholeOf (l : Launch) (dC : Nat → ClassId) (dI : Nat → Nat → Nat) (cy : ClassId) (H : Heap) (a7 a7_offset a7_gain a7_dark a7_bright a7_fromRow a7_toRow a7_left a7_right a7_slant a7_tintOf a7_speckOf a7_leadOf a7_stepKind a7_stepBy a7_pixels : Nat) (f7_offset : Nat → Int32) (f7_gain : Nat → Int32) (f7_dark : Nat → Int32) (f7_bright : Nat → Int32) (v7_ground : Int32) (v7_patches : Int32) (f7_fromRow : Nat → Int32) (f7_toRow : Nat → Int32) (f7_left : Nat → Int32) (f7_right : Nat → Int32) (f7_slant : Nat → Int32) (f7_tintOf : Nat → Int32) (f7_speckOf : Nat → Int32) (f7_leadOf : Nat → Int32) (v7_steps : Int32) (f7_stepKind : Nat → Int32) (f7_stepBy : Nat → Int32) (v7_threshold : Int32) (v7_isOn : Int32) (v7_lines : Int32) (v7_done : Int32) (v7_taken : Int32) (v7_lastPosition : Int32) (v7_position : Int32) (v7_mode : Int32) (v7_next : Int32) (v7_outs : Int32) (v7_stops : Int32) (v7_ticks : Int32) (f7_pixels : Nat → Int32) (p1 : Int32) (p2 : Int32) (p3 : Int32) (r : Int32) (hf : fX7_wholeOf f7_offset f7_gain f7_dark f7_bright v7_ground v7_patches f7_fromRow f7_toRow f7_left f7_right f7_slant f7_tintOf f7_speckOf f7_leadOf v7_steps f7_stepKind f7_stepBy p1 p2 p3 = some r) : Met l yX7_wholeOf wsX7_wholeOf ({ frames := 6, cells := 0, slots := 0, locals := 146 }) (roP [.ref a7, .int p1, .int p2, .int p3] (dC, dI) vwCl (WX7 cy a7 a7_offset a7_gain a7_dark a7_bright a7_fromRow a7_toRow a7_left a7_right a7_slant a7_tintOf a7_speckOf a7_leadOf a7_stepKind a7_stepBy a7_pixels f7_offset f7_gain f7_dark f7_bright v7_ground v7_patches f7_fromRow f7_toRow f7_left f7_right f7_slant f7_tintOf f7_speckOf f7_leadOf v7_steps f7_stepKind f7_stepBy v7_threshold v7_isOn v7_lines v7_done v7_taken v7_lastPosition v7_position v7_mode v7_next v7_outs v7_stops v7_ticks f7_pixels) [(cy, .int)] H) (roQi r H) 0 0 (fun _ => False) := by
  refine Met.ofW (cc := cX7_wholeOf) (maxL := 7) (ret := (some .int)) (by decide) rfl ?_
  intro p e s m args below meth c s₁ B hml hv
  obtain ⟨rfl, hH, hP, hK⟩ := hv
  have hx := B.exec
  have hb := B.bytes
  have hr := B.returns
  have hts := atoms_spec (ws := wsX7_wholeOf) B.pre
  have hown : s.vm.findClass RX7 = some m.cls := findClass_of_methodNamed B.named
  have hlocks := B.notSynchronized
  have hiX7 : ∀ w ∈ u_ws RX7 TX7 30, w ∈ wsX7_wholeOf := fun _ h => List.mem_cons_of_mem _ ((List.mem_append_right _ h))
  subst hH
  have hS : va_S (fun _ => False) s.heap s.heap [] := va_S.rf
  have hl := lv_entry ([.ref a7, .int p1, .int p2, .int p3]) (n := 7) (Nat.le_of_ble_eq_true rfl)
  rw [lg_entry_eq]
  generalize (lg_sl ([.ref a7, .int p1, .int p2, .int p3]) ++ List.replicate (7 - (lg_sl ([.ref a7, .int p1, .int p2, .int p3])).length) Slot.unset).toArray = ls at hl ⊢
  have hl : lv_has ls 7 [(0, .ref a7), (1, .int p1), (2, .int p2), (3, .int p3)] := hl
  unfold fX7_wholeOf at hf
  refine lv_iload_n hx hb dX7_wholeOf_0 rfl (lv_at hl 1 rfl) ?_
  refine lv_aload_n hx hb dX7_wholeOf_1 rfl (lv_at hl 0 rfl) ?_
  refine va_get (D := (dC, dI)) (ci := 6) (v := .ref a7_leadOf) (C := RX7) (T := TX7) (N := 30) hx hb hts hiX7 hown hK hP 0 rfl rfl 13 (by decide) (hts (.fieldLink RX7 47 "PageLinesModel" "leadOf" "[I") (List.mem_of_getElem? (i := 1) rfl)) (fun _ h9 => h9) rfl dX7_wholeOf_2 ?_
  refine lv_iload_n hx hb dX7_wholeOf_5 rfl (lv_at hl 2 rfl) ?_
  obtain ⟨hi_1, hf⟩ := ckI_sp hf
  refine va_iald hx hb hK hP 12 0 rfl rfl hi_1 dX7_wholeOf_6 ?_
  refine lv_iconst (v := (4 : Int32)) hx hb dX7_wholeOf_7 (by decide) ?_
  refine lv_idiv hx hb dX7_wholeOf_8 (by decide) ?_
  refine lv_iadd hx hb dX7_wholeOf_9 ?_
  refine lv_istore (lv' := [(4, .int (p1 + ((f7_leadOf p2.toNatClampNeg) / (4 : Int32)))), (0, .ref a7), (1, .int p1), (2, .int p2), (3, .int p3)]) hx hb dX7_wholeOf_10 hl (by decide) rfl (fun ls hl => ?_)
  refine lv_aload_n hx hb dX7_wholeOf_12 rfl (lv_at hl 1 rfl) ?_
  refine va_get (D := (dC, dI)) (ci := 6) (v := .ref a7_leadOf) (C := RX7) (T := TX7) (N := 30) hx hb hts hiX7 hown hK hP 0 rfl rfl 13 (by decide) (hts (.fieldLink RX7 47 "PageLinesModel" "leadOf" "[I") (List.mem_of_getElem? (i := 1) rfl)) (fun _ h9 => h9) rfl dX7_wholeOf_13 ?_
  refine lv_iload_n hx hb dX7_wholeOf_16 rfl (lv_at hl 3 rfl) ?_
  obtain ⟨hi_2, hf⟩ := ckI_sp hf
  refine va_iald hx hb hK hP 12 0 rfl rfl hi_2 dX7_wholeOf_17 ?_
  refine lv_iconst (v := (4 : Int32)) hx hb dX7_wholeOf_18 (by decide) ?_
  refine lv_irem hx hb dX7_wholeOf_19 (by decide) ?_
  refine lv_istore (lv' := [(5, .int ((f7_leadOf p2.toNatClampNeg) - (f7_leadOf p2.toNatClampNeg) / (4 : Int32) * (4 : Int32))), (4, .int (p1 + ((f7_leadOf p2.toNatClampNeg) / (4 : Int32)))), (0, .ref a7), (1, .int p1), (2, .int p2), (3, .int p3)]) hx hb dX7_wholeOf_20 hl (by decide) rfl (fun ls hl => ?_)
  refine lv_aload_n hx hb dX7_wholeOf_22 rfl (lv_at hl 2 rfl) ?_
  refine lv_iload_n hx hb dX7_wholeOf_23 rfl (lv_at hl 4 rfl) ?_
  refine lv_iload_n hx hb dX7_wholeOf_24 rfl (lv_at hl 5 rfl) ?_
  refine lv_iload hx hb dX7_wholeOf_25 (lv_at hl 1 rfl) ?_
  obtain ⟨r3, hr3, hf⟩ := cl1_sp hf
  refine ro_V (As := [.int p2, .int p3, .int (p1 + ((f7_leadOf p2.toNatClampNeg) / (4 : Int32)))]) ⟨hx, hb, hml, hown, hts⟩ (kX7_valueAt l dC dI cy _ a7 a7_offset a7_gain a7_dark a7_bright a7_fromRow a7_toRow a7_left a7_right a7_slant a7_tintOf a7_speckOf a7_leadOf a7_stepKind a7_stepBy a7_pixels f7_offset f7_gain f7_dark f7_bright v7_ground v7_patches f7_fromRow f7_toRow f7_left f7_right f7_slant f7_tintOf f7_speckOf f7_leadOf v7_steps f7_stepKind f7_stepBy v7_threshold v7_isOn v7_lines v7_done v7_taken v7_lastPosition v7_position v7_mode v7_next v7_outs v7_stops v7_ticks f7_pixels p2 p3 (p1 + ((f7_leadOf p2.toNatClampNeg) / (4 : Int32))) r3 hr3) (cwV 3 hts gX7_wholeOf_X7_valueAt rfl rfl rfl (by decide +kernel) ⟨Nat.le_of_ble_eq_true rfl, Nat.le_of_ble_eq_true rfl⟩) (va_recv hK hP (ci := 6) (q0 := 0) rfl rfl) (hP.sub [0, 1, 2, 3, 4, 5, 6, 7, 8, 9, 10, 11, 12, 13, 14, 15] rfl) hK hS rfl hl.1 rfl (Nat.le_of_ble_eq_true rfl) dX7_wholeOf_27 (Nat.zero_le _) (Nat.zero_le _) (fun locs hS => ?_)
  refine lv_istore (lv' := [(6, .int r3), (5, .int ((f7_leadOf p2.toNatClampNeg) - (f7_leadOf p2.toNatClampNeg) / (4 : Int32) * (4 : Int32))), (4, .int (p1 + ((f7_leadOf p2.toNatClampNeg) / (4 : Int32)))), (0, .ref a7), (1, .int p1), (2, .int p2), (3, .int p3)]) hx hb dX7_wholeOf_30 hl (by decide) rfl (fun ls hl => ?_)
  refine lv_iload hx hb dX7_wholeOf_32 (lv_at hl 1 rfl) ?_
  refine lv_if_ne (tgt := 44) hx hb dX7_wholeOf_34 (by decide) (fun hc => ?_) (fun hc => ?_)
  · have hf := it_n hc hf
    refine lv_aload_n hx hb dX7_wholeOf_44 rfl (lv_at hl 3 rfl) ?_
    refine lv_iload hx hb dX7_wholeOf_45 (lv_at hl 0 rfl) ?_
    refine lv_iconst (v := (4 : Int32)) hx hb dX7_wholeOf_47 (by decide) ?_
    refine lv_iload hx hb dX7_wholeOf_48 (lv_at hl 1 rfl) ?_
    refine lv_isub hx hb dX7_wholeOf_50 ?_
    refine lv_imul hx hb dX7_wholeOf_51 ?_
    refine lv_aload_n hx hb dX7_wholeOf_52 rfl (lv_at hl 3 rfl) ?_
    refine lv_iload_n hx hb dX7_wholeOf_53 rfl (lv_at hl 5 rfl) ?_
    refine lv_iload_n hx hb dX7_wholeOf_54 rfl (lv_at hl 6 rfl) ?_
    refine lv_iload hx hb dX7_wholeOf_55 (lv_at hl 2 rfl) ?_
    refine lv_iconst (v := (1 : Int32)) hx hb dX7_wholeOf_57 (by decide) ?_
    refine lv_iadd hx hb dX7_wholeOf_58 ?_
    obtain ⟨r4, hr4, hf⟩ := cl1_sp hf
    refine ro_V (As := [.int p2, .int p3, .int ((p1 + ((f7_leadOf p2.toNatClampNeg) / (4 : Int32))) + (1 : Int32))]) ⟨hx, hb, hml, hown, hts⟩ (kX7_valueAt l dC dI cy _ a7 a7_offset a7_gain a7_dark a7_bright a7_fromRow a7_toRow a7_left a7_right a7_slant a7_tintOf a7_speckOf a7_leadOf a7_stepKind a7_stepBy a7_pixels f7_offset f7_gain f7_dark f7_bright v7_ground v7_patches f7_fromRow f7_toRow f7_left f7_right f7_slant f7_tintOf f7_speckOf f7_leadOf v7_steps f7_stepKind f7_stepBy v7_threshold v7_isOn v7_lines v7_done v7_taken v7_lastPosition v7_position v7_mode v7_next v7_outs v7_stops v7_ticks f7_pixels p2 p3 ((p1 + ((f7_leadOf p2.toNatClampNeg) / (4 : Int32))) + (1 : Int32)) r4 hr4) (cwV 3 hts gX7_wholeOf_X7_valueAt rfl rfl rfl (by decide +kernel) ⟨Nat.le_of_ble_eq_true rfl, Nat.le_of_ble_eq_true rfl⟩) (va_recv hK hP (ci := 6) (q0 := 0) rfl rfl) (hP.sub [0, 1, 2, 3, 4, 5, 6, 7, 8, 9, 10, 11, 12, 13, 14, 15] rfl) hK hS rfl hl.1 rfl (Nat.le_of_ble_eq_true rfl) dX7_wholeOf_59 (Nat.zero_le _) (Nat.zero_le _) (fun locs hS => ?_)
    refine lv_iload hx hb dX7_wholeOf_62 (lv_at hl 1 rfl) ?_
    refine lv_imul hx hb dX7_wholeOf_64 ?_
    refine lv_iadd hx hb dX7_wholeOf_65 ?_
    refine lv_iconst (v := (4 : Int32)) hx hb dX7_wholeOf_66 (by decide) ?_
    obtain ⟨r5, hr5, hf⟩ := cl1_sp hf
    refine ro_S (As := [.int ((r3 * ((4 : Int32) - ((f7_leadOf p2.toNatClampNeg) - (f7_leadOf p2.toNatClampNeg) / (4 : Int32) * (4 : Int32)))) + (r4 * ((f7_leadOf p2.toNatClampNeg) - (f7_leadOf p2.toNatClampNeg) / (4 : Int32) * (4 : Int32)))), .int (4 : Int32)]) ⟨hx, hb, hml, hown, hts⟩ (kX7_rounded l _ ((r3 * ((4 : Int32) - ((f7_leadOf p2.toNatClampNeg) - (f7_leadOf p2.toNatClampNeg) / (4 : Int32) * (4 : Int32)))) + (r4 * ((f7_leadOf p2.toNatClampNeg) - (f7_leadOf p2.toNatClampNeg) / (4 : Int32) * (4 : Int32)))) (4 : Int32) r5 hr5) (va_cwS 2 hts gX7_wholeOf_X7_rounded rfl rfl rfl (by decide +kernel) ⟨Nat.le_of_ble_eq_true rfl, Nat.le_of_ble_eq_true rfl⟩) hS rfl hl.1 rfl (Nat.le_of_ble_eq_true rfl) dX7_wholeOf_67 (Nat.zero_le _) (Nat.zero_le _) (fun locs hS => ?_)
    obtain ⟨r6, hr6, hf⟩ := cl1_sp hf
    refine ro_V (As := [.int r5]) ⟨hx, hb, hml, hown, hts⟩ (kX7_pipedOf l dC dI cy _ a7 a7_offset a7_gain a7_dark a7_bright a7_fromRow a7_toRow a7_left a7_right a7_slant a7_tintOf a7_speckOf a7_leadOf a7_stepKind a7_stepBy a7_pixels f7_offset f7_gain f7_dark f7_bright v7_ground v7_patches f7_fromRow f7_toRow f7_left f7_right f7_slant f7_tintOf f7_speckOf f7_leadOf v7_steps f7_stepKind f7_stepBy v7_threshold v7_isOn v7_lines v7_done v7_taken v7_lastPosition v7_position v7_mode v7_next v7_outs v7_stops v7_ticks f7_pixels r5 r6 hr6) (cwV 1 hts gX7_wholeOf_X7_pipedOf rfl rfl rfl (by decide +kernel) ⟨Nat.le_of_ble_eq_true rfl, Nat.le_of_ble_eq_true rfl⟩) (va_recv hK hP (ci := 6) (q0 := 0) rfl rfl) (hP.sub [0, 1, 2, 3, 4, 5, 6, 7, 8, 9, 10, 11, 12, 13, 14, 15] rfl) hK hS rfl hl.1 rfl (Nat.le_of_ble_eq_true rfl) dX7_wholeOf_70 (Nat.zero_le _) (Nat.zero_le _) (fun locs hS => ?_)
    exact W.iret (v := r6) hx hb hr (fun t ht hW => ⟨⟨_, (), rfl, Option.some.inj hf, ht⟩, hS.F ht⟩) hS.2.2 dX7_wholeOf_73
  · have hf := it_p hc hf
    refine lv_aload_n hx hb dX7_wholeOf_37 rfl (lv_at hl 3 rfl) ?_
    refine lv_iload hx hb dX7_wholeOf_38 (lv_at hl 0 rfl) ?_
    obtain ⟨r7, hr7, hf⟩ := cl1_sp hf
    refine ro_V (As := [.int r3]) ⟨hx, hb, hml, hown, hts⟩ (kX7_pipedOf l dC dI cy _ a7 a7_offset a7_gain a7_dark a7_bright a7_fromRow a7_toRow a7_left a7_right a7_slant a7_tintOf a7_speckOf a7_leadOf a7_stepKind a7_stepBy a7_pixels f7_offset f7_gain f7_dark f7_bright v7_ground v7_patches f7_fromRow f7_toRow f7_left f7_right f7_slant f7_tintOf f7_speckOf f7_leadOf v7_steps f7_stepKind f7_stepBy v7_threshold v7_isOn v7_lines v7_done v7_taken v7_lastPosition v7_position v7_mode v7_next v7_outs v7_stops v7_ticks f7_pixels r3 r7 hr7) (cwV 1 hts gX7_wholeOf_X7_pipedOf rfl rfl rfl (by decide +kernel) ⟨Nat.le_of_ble_eq_true rfl, Nat.le_of_ble_eq_true rfl⟩) (va_recv hK hP (ci := 6) (q0 := 0) rfl rfl) (hP.sub [0, 1, 2, 3, 4, 5, 6, 7, 8, 9, 10, 11, 12, 13, 14, 15] rfl) hK hS rfl hl.1 rfl (Nat.le_of_ble_eq_true rfl) dX7_wholeOf_40 (Nat.zero_le _) (Nat.zero_le _) (fun locs hS => ?_)
    exact W.iret (v := r7) hx hb hr (fun t ht hW => ⟨⟨_, (), rfl, Option.some.inj hf, ht⟩, hS.F ht⟩) hS.2.2 dX7_wholeOf_43
set_option maxHeartbeats 4000000 in
set_option maxRecDepth 100000 in
theorem kX7_whole (l : Launch) (dC : Nat → ClassId) (dI : Nat → Nat → Nat) (cy : ClassId) (H : Heap) (a7 a7_offset a7_gain a7_dark a7_bright a7_fromRow a7_toRow a7_left a7_right a7_slant a7_tintOf a7_speckOf a7_leadOf a7_stepKind a7_stepBy a7_pixels : Nat) (f7_offset : Nat → Int32) (f7_gain : Nat → Int32) (f7_dark : Nat → Int32) (f7_bright : Nat → Int32) (v7_ground : Int32) (v7_patches : Int32) (f7_fromRow : Nat → Int32) (f7_toRow : Nat → Int32) (f7_left : Nat → Int32) (f7_right : Nat → Int32) (f7_slant : Nat → Int32) (f7_tintOf : Nat → Int32) (f7_speckOf : Nat → Int32) (f7_leadOf : Nat → Int32) (v7_steps : Int32) (f7_stepKind : Nat → Int32) (f7_stepBy : Nat → Int32) (v7_threshold : Int32) (v7_isOn : Int32) (v7_lines : Int32) (v7_done : Int32) (v7_taken : Int32) (v7_lastPosition : Int32) (v7_position : Int32) (v7_mode : Int32) (v7_next : Int32) (v7_outs : Int32) (v7_stops : Int32) (v7_ticks : Int32) (f7_pixels : Nat → Int32) (p1 : Int32) (p2 : Int32) (p3 : Int32) (r : Int32) (hf : fX7_whole f7_offset f7_gain f7_dark f7_bright v7_ground v7_patches f7_fromRow f7_toRow f7_left f7_right f7_slant f7_tintOf f7_speckOf f7_leadOf v7_steps f7_stepKind f7_stepBy p1 p2 p3 = some r) : Met l yX7_whole wsX7_whole ({ frames := 7, cells := 0, slots := 0, locals := 172 }) (roP [.ref a7, .int p1, .int p2, .int p3] (dC, dI) vwCl (WX7 cy a7 a7_offset a7_gain a7_dark a7_bright a7_fromRow a7_toRow a7_left a7_right a7_slant a7_tintOf a7_speckOf a7_leadOf a7_stepKind a7_stepBy a7_pixels f7_offset f7_gain f7_dark f7_bright v7_ground v7_patches f7_fromRow f7_toRow f7_left f7_right f7_slant f7_tintOf f7_speckOf f7_leadOf v7_steps f7_stepKind f7_stepBy v7_threshold v7_isOn v7_lines v7_done v7_taken v7_lastPosition v7_position v7_mode v7_next v7_outs v7_stops v7_ticks f7_pixels) [(cy, .int)] H) (roQi r H) 0 0 (fun _ => False) := by
  refine Met.ofW (cc := cX7_whole) (maxL := 4) (ret := (some .int)) (by decide) rfl ?_
  intro p e s m args below meth c s₁ B hml hv
  obtain ⟨rfl, hH, hP, hK⟩ := hv
  have hx := B.exec
  have hb := B.bytes
  have hr := B.returns
  have hts := atoms_spec (ws := wsX7_whole) B.pre
  have hown : s.vm.findClass RX7 = some m.cls := findClass_of_methodNamed B.named
  have hlocks := B.notSynchronized
  have hiX7 : ∀ w ∈ u_ws RX7 TX7 30, w ∈ wsX7_whole := fun _ h => List.mem_cons_of_mem _ ((List.mem_append_right _ h))
  subst hH
  have hS : va_S (fun _ => False) s.heap s.heap [] := va_S.rf
  have hl := lv_entry ([.ref a7, .int p1, .int p2, .int p3]) (n := 4) (Nat.le_of_ble_eq_true rfl)
  rw [lg_entry_eq]
  generalize (lg_sl ([.ref a7, .int p1, .int p2, .int p3]) ++ List.replicate (4 - (lg_sl ([.ref a7, .int p1, .int p2, .int p3])).length) Slot.unset).toArray = ls at hl ⊢
  have hl : lv_has ls 4 [(0, .ref a7), (1, .int p1), (2, .int p2), (3, .int p3)] := hl
  unfold fX7_whole at hf
  refine lv_iload_n hx hb dX7_whole_0 rfl (lv_at hl 2 rfl) ?_
  refine lv_iload_n hx hb dX7_whole_1 rfl (lv_at hl 3 rfl) ?_
  obtain ⟨r1, hr1, hf⟩ := cl1_sp hf
  refine ro_S (As := [.int p2, .int p3]) ⟨hx, hb, hml, hown, hts⟩ (kX7_isCell l _ p2 p3 r1 hr1) (va_cwS 2 hts gX7_whole_X7_isCell rfl rfl rfl (by decide +kernel) ⟨Nat.le_of_ble_eq_true rfl, Nat.le_of_ble_eq_true rfl⟩) hS rfl hl.1 rfl (Nat.le_of_ble_eq_true rfl) dX7_whole_2 (Nat.zero_le _) (Nat.zero_le _) (fun locs hS => ?_)
  refine lv_if_ne (tgt := 10) hx hb dX7_whole_5 (by decide) (fun hc => ?_) (fun hc => ?_)
  · have hf := it_n hc hf
    refine lv_iload_n hx hb dX7_whole_10 rfl (lv_at hl 1 rfl) ?_
    refine lv_iconst (v := (0 : Int32)) hx hb dX7_whole_11 (by decide) ?_
    refine lv_bipush (v := (39 : Int32)) hx hb dX7_whole_12 (by decide) ?_
    obtain ⟨r2, hr2, hf⟩ := cl1_sp hf
    refine ro_S (As := [.int p1, .int (0 : Int32), .int (39 : Int32)]) ⟨hx, hb, hml, hown, hts⟩ (kX7_within l _ p1 (0 : Int32) (39 : Int32) r2 hr2) (va_cwS 3 hts gX7_whole_X7_within rfl rfl rfl (by decide +kernel) ⟨Nat.le_of_ble_eq_true rfl, Nat.le_of_ble_eq_true rfl⟩) hS rfl hl.1 rfl (Nat.le_of_ble_eq_true rfl) dX7_whole_14 (Nat.zero_le _) (Nat.zero_le _) (fun locs hS => ?_)
    refine lv_if_eq (tgt := 30) hx hb dX7_whole_17 (by decide) (fun hc => ?_) (fun hc => ?_)
    · have hf := it_p hc hf
      refine lv_bipush (v := (-2 : Int32)) hx hb dX7_whole_30 (by decide) ?_
      exact W.iret (v := (-2 : Int32)) hx hb hr (fun t ht hW => ⟨⟨_, (), rfl, Option.some.inj hf, ht⟩, hS.F ht⟩) hS.2.2 dX7_whole_32
    · have hf := it_n hc hf
      refine lv_aload_n hx hb dX7_whole_20 rfl (lv_at hl 0 rfl) ?_
      refine lv_iload_n hx hb dX7_whole_21 rfl (lv_at hl 1 rfl) ?_
      refine lv_iload_n hx hb dX7_whole_22 rfl (lv_at hl 2 rfl) ?_
      refine lv_iload_n hx hb dX7_whole_23 rfl (lv_at hl 3 rfl) ?_
      obtain ⟨r3, hr3, hf⟩ := cl1_sp hf
      refine ro_V (As := [.int p1, .int p2, .int p3]) ⟨hx, hb, hml, hown, hts⟩ (kX7_wholeOf l dC dI cy _ a7 a7_offset a7_gain a7_dark a7_bright a7_fromRow a7_toRow a7_left a7_right a7_slant a7_tintOf a7_speckOf a7_leadOf a7_stepKind a7_stepBy a7_pixels f7_offset f7_gain f7_dark f7_bright v7_ground v7_patches f7_fromRow f7_toRow f7_left f7_right f7_slant f7_tintOf f7_speckOf f7_leadOf v7_steps f7_stepKind f7_stepBy v7_threshold v7_isOn v7_lines v7_done v7_taken v7_lastPosition v7_position v7_mode v7_next v7_outs v7_stops v7_ticks f7_pixels p1 p2 p3 r3 hr3) (cwV 3 hts gX7_whole_X7_wholeOf rfl rfl rfl (by decide +kernel) ⟨Nat.le_of_ble_eq_true rfl, Nat.le_of_ble_eq_true rfl⟩) (va_recv hK hP (ci := 6) (q0 := 0) rfl rfl) (hP.sub [0, 1, 2, 3, 4, 5, 6, 7, 8, 9, 10, 11, 12, 13, 14, 15] rfl) hK hS rfl hl.1 rfl (Nat.le_of_ble_eq_true rfl) dX7_whole_24 (Nat.zero_le _) (Nat.zero_le _) (fun locs hS => ?_)
      refine lv_goto (tgt := 32) hx hb dX7_whole_27 (by decide) ?_
      exact W.iret (v := r3) hx hb hr (fun t ht hW => ⟨⟨_, (), rfl, Option.some.inj hf, ht⟩, hS.F ht⟩) hS.2.2 dX7_whole_32
  · have hf := it_p hc hf
    refine lv_iconst (v := (-1 : Int32)) hx hb dX7_whole_8 (by decide) ?_
    exact W.iret (v := (-1 : Int32)) hx hb hr (fun t ht hW => ⟨⟨_, (), rfl, Option.some.inj hf, ht⟩, hS.F ht⟩) hS.2.2 dX7_whole_9
set_option maxHeartbeats 4000000 in
set_option maxRecDepth 100000 in
theorem kX7_reach (l : Launch) (dC : Nat → ClassId) (dI : Nat → Nat → Nat) (cy : ClassId) (H : Heap) (a7 a7_offset a7_gain a7_dark a7_bright a7_fromRow a7_toRow a7_left a7_right a7_slant a7_tintOf a7_speckOf a7_leadOf a7_stepKind a7_stepBy a7_pixels : Nat) (f7_offset : Nat → Int32) (f7_gain : Nat → Int32) (f7_dark : Nat → Int32) (f7_bright : Nat → Int32) (v7_ground : Int32) (v7_patches : Int32) (f7_fromRow : Nat → Int32) (f7_toRow : Nat → Int32) (f7_left : Nat → Int32) (f7_right : Nat → Int32) (f7_slant : Nat → Int32) (f7_tintOf : Nat → Int32) (f7_speckOf : Nat → Int32) (f7_leadOf : Nat → Int32) (v7_steps : Int32) (f7_stepKind : Nat → Int32) (f7_stepBy : Nat → Int32) (v7_threshold : Int32) (v7_isOn : Int32) (v7_lines : Int32) (v7_done : Int32) (v7_taken : Int32) (v7_lastPosition : Int32) (v7_position : Int32) (v7_mode : Int32) (v7_next : Int32) (v7_outs : Int32) (v7_stops : Int32) (v7_ticks : Int32) (f7_pixels : Nat → Int32) (r : Int32) (hf : fX7_reach f7_leadOf = some r) : Met l yX7_reach wsX7_reach ({ frames := 1, cells := 0, slots := 0, locals := 21 }) (roP [.ref a7] (dC, dI) vwCl (WX7 cy a7 a7_offset a7_gain a7_dark a7_bright a7_fromRow a7_toRow a7_left a7_right a7_slant a7_tintOf a7_speckOf a7_leadOf a7_stepKind a7_stepBy a7_pixels f7_offset f7_gain f7_dark f7_bright v7_ground v7_patches f7_fromRow f7_toRow f7_left f7_right f7_slant f7_tintOf f7_speckOf f7_leadOf v7_steps f7_stepKind f7_stepBy v7_threshold v7_isOn v7_lines v7_done v7_taken v7_lastPosition v7_position v7_mode v7_next v7_outs v7_stops v7_ticks f7_pixels) [(cy, .int)] H) (roQi r H) 0 0 (fun _ => False) := by
  refine Met.ofW (cc := cX7_reach) (maxL := 3) (ret := (some .int)) (by decide) rfl ?_
  intro p e s m args below meth c s₁ B hml hv
  obtain ⟨rfl, hH, hP, hK⟩ := hv
  have hx := B.exec
  have hb := B.bytes
  have hr := B.returns
  have hts := atoms_spec (ws := wsX7_reach) B.pre
  have hown : s.vm.findClass RX7 = some m.cls := findClass_of_methodNamed B.named
  have hlocks := B.notSynchronized
  have hiX7 : ∀ w ∈ u_ws RX7 TX7 30, w ∈ wsX7_reach := fun _ h => List.mem_cons_of_mem _ ((List.mem_append_right _ h))
  subst hH
  have hS : va_S (fun _ => False) s.heap s.heap [] := va_S.rf
  have hb_4 : ∀ (n : Nat) (x1 : Int32) (x2 : Int32), bX7_reach_4 f7_leadOf n x1 x2 = some r → ∀ (locs : List Loc) (ls : Array Slot), va_S (fun _ => False) s.heap s.heap locs → lv_has ls 3 [(0, .ref a7), (1, .int x1), (2, .int x2)] → W p l e (headSpec wsX7_reach ({ frames := 1, cells := 0, slots := 0, locals := 21 })).room s m ([.ref a7] : List Value).toArray below meth c s.heap locs 0 0 (MQ below (roQi r s.heap) ([.ref a7] : List Value).toArray s 0 0 (fun _ => False)) (F0 m 4 ls []) := by
    intro n
    induction n with
    | zero => intro x1 x2 hf; rw [bX7_reach_4] at hf; cases hf
    | succ n4 ih4 =>
      intro x1 x2 hf locs ls hS hl
      rw [bX7_reach_4] at hf
      refine lv_iload_n hx hb dX7_reach_4 rfl (lv_at hl 2 rfl) ?_
      refine lv_iconst (v := (3 : Int32)) hx hb dX7_reach_5 (by decide) ?_
      refine lv_icmp_ge (tgt := 30) hx hb dX7_reach_6 (by decide) (fun hc => ?_) (fun hc => ?_)
      · have hf := it_p hc hf
        refine lv_iload_n hx hb dX7_reach_30 rfl (lv_at hl 1 rfl) ?_
        exact W.iret (v := x1) hx hb hr (fun t ht hW => ⟨⟨_, (), rfl, Option.some.inj hf, ht⟩, hS.F ht⟩) hS.2.2 dX7_reach_31
      · have hf := it_n hc hf
        refine lv_iload_n hx hb dX7_reach_9 rfl (lv_at hl 1 rfl) ?_
        refine lv_aload_n hx hb dX7_reach_10 rfl (lv_at hl 0 rfl) ?_
        refine va_get (D := (dC, dI)) (ci := 6) (v := .ref a7_leadOf) (C := RX7) (T := TX7) (N := 30) hx hb hts hiX7 hown hK hP 0 rfl rfl 13 (by decide) (hts (.fieldLink RX7 47 "PageLinesModel" "leadOf" "[I") (List.mem_of_getElem? (i := 1) rfl)) (fun _ h9 => h9) rfl dX7_reach_11 ?_
        refine lv_iload_n hx hb dX7_reach_14 rfl (lv_at hl 2 rfl) ?_
        obtain ⟨hi_3, hf⟩ := ckI_sp hf
        refine va_iald hx hb hK hP 12 0 rfl rfl hi_3 dX7_reach_15 ?_
        refine lv_iconst (v := (3 : Int32)) hx hb dX7_reach_16 (by decide) ?_
        refine lv_iadd hx hb dX7_reach_17 ?_
        refine lv_iconst (v := (4 : Int32)) hx hb dX7_reach_18 (by decide) ?_
        refine lv_idiv hx hb dX7_reach_19 (by decide) ?_
        obtain ⟨r4, hr4, hf⟩ := cl1_sp hf
        refine ro_S (As := [.int x1, .int (((f7_leadOf x2.toNatClampNeg) + (3 : Int32)) / (4 : Int32))]) ⟨hx, hb, hml, hown, hts⟩ (kX7_atLeast l _ x1 (((f7_leadOf x2.toNatClampNeg) + (3 : Int32)) / (4 : Int32)) r4 hr4) (va_cwS 2 hts gX7_reach_X7_atLeast rfl rfl rfl (by decide +kernel) ⟨Nat.le_of_ble_eq_true rfl, Nat.le_of_ble_eq_true rfl⟩) hS rfl hl.1 rfl (Nat.le_of_ble_eq_true rfl) dX7_reach_20 (Nat.zero_le _) (Nat.zero_le _) (fun locs hS => ?_)
        refine lv_istore_n (lv' := [(1, .int r4), (0, .ref a7), (2, .int x2)]) hx hb dX7_reach_23 rfl hl (by decide) rfl (fun ls hl => ?_)
        refine lv_iinc (v := x2 + (1 : Int32)) (lv' := [(2, .int (x2 + (1 : Int32))), (1, .int r4), (0, .ref a7)]) hx hb dX7_reach_24 hl (k := 2) rfl rfl (by decide) rfl (fun ls hl => ?_)
        refine lv_goto (tgt := 4) hx hb dX7_reach_27 (by decide) ?_
        exact ih4 r4 (x2 + (1 : Int32)) hf _ _ hS (lv_sub hl [2, 1, 0] rfl)
  have hl := lv_entry ([.ref a7]) (n := 3) (Nat.le_of_ble_eq_true rfl)
  rw [lg_entry_eq]
  generalize (lg_sl ([.ref a7]) ++ List.replicate (3 - (lg_sl ([.ref a7])).length) Slot.unset).toArray = ls at hl ⊢
  have hl : lv_has ls 3 [(0, .ref a7)] := hl
  unfold fX7_reach at hf
  refine lv_iconst (v := (0 : Int32)) hx hb dX7_reach_0 (by decide) ?_
  refine lv_istore_n (lv' := [(1, .int (0 : Int32)), (0, .ref a7)]) hx hb dX7_reach_1 rfl hl (by decide) rfl (fun ls hl => ?_)
  refine lv_iconst (v := (0 : Int32)) hx hb dX7_reach_2 (by decide) ?_
  refine lv_istore_n (lv' := [(2, .int (0 : Int32)), (1, .int (0 : Int32)), (0, .ref a7)]) hx hb dX7_reach_3 rfl hl (by decide) rfl (fun ls hl => ?_)
  exact hb_4 300 (0 : Int32) (0 : Int32) hf _ _ hS (lv_sub hl [2, 1, 0] rfl)

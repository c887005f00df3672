set_option maxHeartbeats 4000000 in
set_option maxRecDepth 100000 in
theorem kX7_tint (l : Launch) (dC : Nat → ClassId) (dI : Nat → Nat → Nat) (cy : ClassId) (sz : Nat) (a7 a7_offset a7_gain a7_dark a7_bright a7_fromRow a7_toRow a7_left a7_right a7_slant a7_tintOf a7_speckOf a7_leadOf a7_stepKind a7_stepBy a7_pixels : Nat) (f7_offset : Nat → Int32) (f7_gain : Nat → Int32) (f7_dark : Nat → Int32) (f7_bright : Nat → Int32) (v7_ground : Int32) (v7_patches : Int32) (f7_fromRow : Nat → Int32) (f7_toRow : Nat → Int32) (f7_left : Nat → Int32) (f7_right : Nat → Int32) (f7_slant : Nat → Int32) (f7_tintOf : Nat → Int32) (f7_speckOf : Nat → Int32) (f7_leadOf : Nat → Int32) (v7_steps : Int32) (f7_stepKind : Nat → Int32) (f7_stepBy : Nat → Int32) (v7_threshold : Int32) (v7_isOn : Int32) (v7_lines : Int32) (v7_done : Int32) (v7_taken : Int32) (v7_lastPosition : Int32) (v7_position : Int32) (v7_mode : Int32) (v7_next : Int32) (v7_outs : Int32) (v7_stops : Int32) (v7_ticks : Int32) (f7_pixels : Nat → Int32) (p1 : Int32) (p2 : Int32) (p3 : Int32) (r : Int32) (o_f7_tintOf : Nat → Int32) (hf : fX7_tint v7_patches f7_tintOf v7_isOn p1 p2 p3 = some (r, o_f7_tintOf)) : Met l yX7_tint wsX7_tint ({ frames := 2, cells := 0, slots := 0, locals := 42 }) (rwP [.ref a7, .int p1, .int p2, .int p3] (dC, dI) vwCl (WX7 cy a7 a7_offset a7_gain a7_dark a7_bright a7_fromRow a7_toRow a7_left a7_right a7_slant a7_tintOf a7_speckOf a7_leadOf a7_stepKind a7_stepBy a7_pixels f7_offset f7_gain f7_dark f7_bright v7_ground v7_patches f7_fromRow f7_toRow f7_left f7_right f7_slant f7_tintOf f7_speckOf f7_leadOf v7_steps f7_stepKind f7_stepBy v7_threshold v7_isOn v7_lines v7_done v7_taken v7_lastPosition v7_position v7_mode v7_next v7_outs v7_stops v7_ticks f7_pixels) [(cy, .int)] sz) (rwQi r (dC, dI) vwCl (WX7 cy a7 a7_offset a7_gain a7_dark a7_bright a7_fromRow a7_toRow a7_left a7_right a7_slant a7_tintOf a7_speckOf a7_leadOf a7_stepKind a7_stepBy a7_pixels f7_offset f7_gain f7_dark f7_bright v7_ground v7_patches f7_fromRow f7_toRow f7_left f7_right f7_slant o_f7_tintOf f7_speckOf f7_leadOf v7_steps f7_stepKind f7_stepBy v7_threshold v7_isOn v7_lines v7_done v7_taken v7_lastPosition v7_position v7_mode v7_next v7_outs v7_stops v7_ticks f7_pixels) (va_A (WX7 cy a7 a7_offset a7_gain a7_dark a7_bright a7_fromRow a7_toRow a7_left a7_right a7_slant a7_tintOf a7_speckOf a7_leadOf a7_stepKind a7_stepBy a7_pixels f7_offset f7_gain f7_dark f7_bright v7_ground v7_patches f7_fromRow f7_toRow f7_left f7_right f7_slant f7_tintOf f7_speckOf f7_leadOf v7_steps f7_stepKind f7_stepBy v7_threshold v7_isOn v7_lines v7_done v7_taken v7_lastPosition v7_position v7_mode v7_next v7_outs v7_stops v7_ticks f7_pixels) sz)) 0 0 (va_A (WX7 cy a7 a7_offset a7_gain a7_dark a7_bright a7_fromRow a7_toRow a7_left a7_right a7_slant a7_tintOf a7_speckOf a7_leadOf a7_stepKind a7_stepBy a7_pixels f7_offset f7_gain f7_dark f7_bright v7_ground v7_patches f7_fromRow f7_toRow f7_left f7_right f7_slant f7_tintOf f7_speckOf f7_leadOf v7_steps f7_stepKind f7_stepBy v7_threshold v7_isOn v7_lines v7_done v7_taken v7_lastPosition v7_position v7_mode v7_next v7_outs v7_stops v7_ticks f7_pixels) sz) := by
  refine Met.ofW (cc := cX7_tint) (maxL := 5) (ret := (some .int)) (by decide) rfl ?_
  intro p e s m args below meth c s₁ B hml hv
  obtain ⟨rfl, hsz, hP, hK, hD0⟩ := hv
  have hx := B.exec
  have hb := B.bytes
  have hr := B.returns
  have hts := atoms_spec (ws := wsX7_tint) B.pre
  have hown : s.vm.findClass RX7 = some m.cls := findClass_of_methodNamed B.named
  have hlocks := B.notSynchronized
  have hiX7 : ∀ w ∈ u_ws RX7 TX7 30, w ∈ wsX7_tint := fun _ h => List.mem_cons_of_mem _ ((List.mem_append_right _ h))
  subst hsz
  have hD := hD0.self (sz := s.heap.size)
  generalize hAe : va_A (WX7 cy a7 a7_offset a7_gain a7_dark a7_bright a7_fromRow a7_toRow a7_left a7_right a7_slant a7_tintOf a7_speckOf a7_leadOf a7_stepKind a7_stepBy a7_pixels f7_offset f7_gain f7_dark f7_bright v7_ground v7_patches f7_fromRow f7_toRow f7_left f7_right f7_slant f7_tintOf f7_speckOf f7_leadOf v7_steps f7_stepKind f7_stepBy v7_threshold v7_isOn v7_lines v7_done v7_taken v7_lastPosition v7_position v7_mode v7_next v7_outs v7_stops v7_ticks f7_pixels) s.heap.size = A0 at hD ⊢
  have hA : ∀ q : Nat, s.heap.size ≤ q → A0 q := fun q h => by rw [← hAe]; exact Or.inr h
  have hS : va_S A0 s.heap s.heap [] := va_S.rf
  have hl := lv_entry ([.ref a7, .int p1, .int p2, .int p3]) (n := 5) (Nat.le_of_ble_eq_true rfl)
  rw [lg_entry_eq]
  generalize (lg_sl ([.ref a7, .int p1, .int p2, .int p3]) ++ List.replicate (5 - (lg_sl ([.ref a7, .int p1, .int p2, .int p3])).length) Slot.unset).toArray = ls at hl ⊢
  have hl : lv_has ls 5 [(0, .ref a7), (1, .int p1), (2, .int p2), (3, .int p3)] := hl
  unfold fX7_tint at hf
  refine lv_iload_n hx hb dX7_tint_0 rfl (lv_at hl 1 rfl) ?_
  refine lv_iconst (v := (0 : Int32)) hx hb dX7_tint_1 (by decide) ?_
  refine lv_aload_n hx hb dX7_tint_2 rfl (lv_at hl 0 rfl) ?_
  refine va_get (D := (dC, dI)) (ci := 6) (v := .int v7_patches) (C := RX7) (T := TX7) (N := 30) hx hb hts hiX7 hown hK hP 0 rfl rfl 5 (by decide) (hts (.fieldLink RX7 107 "PageLinesModel" "patches" "I") (List.mem_of_getElem? (i := 1) rfl)) (fun _ h9 => h9) rfl dX7_tint_3 ?_
  refine lv_iconst (v := (1 : Int32)) hx hb dX7_tint_6 (by decide) ?_
  refine lv_isub hx hb dX7_tint_7 ?_
  obtain ⟨r1, hr1, hf⟩ := cl1_sp hf
  refine ro_S (As := [.int p1, .int (0 : Int32), .int (v7_patches - (1 : Int32))]) ⟨hx, hb, hml, hown, hts⟩ (kX7_within l _ p1 (0 : Int32) (v7_patches - (1 : Int32)) r1 hr1) (va_cwS 3 hts gX7_tint_X7_within rfl rfl rfl (by decide +kernel) ⟨Nat.le_of_ble_eq_true rfl, Nat.le_of_ble_eq_true rfl⟩) hS rfl hl.1 rfl (Nat.le_of_ble_eq_true rfl) dX7_tint_8 (Nat.zero_le _) (Nat.zero_le _) (fun locs hS => ?_)
  refine lv_if_eq (tgt := 21) hx hb dX7_tint_11 (by decide) (fun hc => ?_) (fun hc => ?_)
  · have hf := it_p hc hf
    refine lv_iconst (v := (-1 : Int32)) hx hb dX7_tint_21 (by decide) ?_
    cases hf
    exact W.iret hx hb hr (fun t ht hW => ⟨⟨_, (), rfl, rfl, by rw [ht]; exact hP, hD⟩, hS.F ht⟩) hS.2.2 dX7_tint_22
  · have hf := it_n hc hf
    refine lv_iload_n hx hb dX7_tint_14 rfl (lv_at hl 2 rfl) ?_
    obtain ⟨r2, hr2, hf⟩ := cl1_sp hf
    refine ro_S (As := [.int p2]) ⟨hx, hb, hml, hown, hts⟩ (kX7_isColour l _ p2 r2 hr2) (va_cwS 1 hts gX7_tint_X7_isColour rfl rfl rfl (by decide +kernel) ⟨Nat.le_of_ble_eq_true rfl, Nat.le_of_ble_eq_true rfl⟩) hS rfl hl.1 rfl (Nat.le_of_ble_eq_true rfl) dX7_tint_15 (Nat.zero_le _) (Nat.zero_le _) (fun locs hS => ?_)
    refine lv_if_ne (tgt := 23) hx hb dX7_tint_18 (by decide) (fun hc => ?_) (fun hc => ?_)
    · have hf := it_n hc hf
      refine lv_iload_n hx hb dX7_tint_23 rfl (lv_at hl 3 rfl) ?_
      refine lv_iconst (v := (0 : Int32)) hx hb dX7_tint_24 (by decide) ?_
      refine lv_sipush (v := (255 : Int32)) hx hb dX7_tint_25 (by decide) ?_
      obtain ⟨r3, hr3, hf⟩ := cl1_sp hf
      refine ro_S (As := [.int p3, .int (0 : Int32), .int (255 : Int32)]) ⟨hx, hb, hml, hown, hts⟩ (kX7_within l _ p3 (0 : Int32) (255 : Int32) r3 hr3) (va_cwS 3 hts gX7_tint_X7_within rfl rfl rfl (by decide +kernel) ⟨Nat.le_of_ble_eq_true rfl, Nat.le_of_ble_eq_true rfl⟩) hS rfl hl.1 rfl (Nat.le_of_ble_eq_true rfl) dX7_tint_28 (Nat.zero_le _) (Nat.zero_le _) (fun locs hS => ?_)
      refine lv_if_ne (tgt := 37) hx hb dX7_tint_31 (by decide) (fun hc => ?_) (fun hc => ?_)
      · have hf := it_n hc hf
        refine lv_aload_n hx hb dX7_tint_37 rfl (lv_at hl 0 rfl) ?_
        refine va_get (D := (dC, dI)) (ci := 6) (v := .int v7_isOn) (C := RX7) (T := TX7) (N := 30) hx hb hts hiX7 hown hK hP 0 rfl rfl 18 (by decide) (hts (.fieldLink RX7 83 "PageLinesModel" "isOn" "Z") (List.mem_of_getElem? (i := 2) rfl)) (fun _ h9 => h9) rfl dX7_tint_38 ?_
        refine lv_if_eq (tgt := 47) hx hb dX7_tint_41 (by decide) (fun hc => ?_) (fun hc => ?_)
        · have hf := it_p hc hf
          refine lv_aload_n hx hb dX7_tint_47 rfl (lv_at hl 0 rfl) ?_
          refine va_get (D := (dC, dI)) (ci := 6) (v := .ref a7_tintOf) (C := RX7) (T := TX7) (N := 30) hx hb hts hiX7 hown hK hP 0 rfl rfl 11 (by decide) (hts (.fieldLink RX7 41 "PageLinesModel" "tintOf" "[I") (List.mem_of_getElem? (i := 3) rfl)) (fun _ h9 => h9) rfl dX7_tint_48 ?_
          refine lv_iconst (v := (3 : Int32)) hx hb dX7_tint_51 (by decide) ?_
          refine lv_iload_n hx hb dX7_tint_52 rfl (lv_at hl 1 rfl) ?_
          refine lv_imul hx hb dX7_tint_53 ?_
          refine lv_iload_n hx hb dX7_tint_54 rfl (lv_at hl 2 rfl) ?_
          refine lv_iadd hx hb dX7_tint_55 ?_
          obtain ⟨hi_4, hf⟩ := ckI_sp hf
          refine va_iald hx hb hK hP 10 0 rfl rfl hi_4 dX7_tint_56 ?_
          refine lv_istore (lv' := [(4, .int (f7_tintOf (((3 : Int32) * p1) + p2).toNatClampNeg)), (0, .ref a7), (1, .int p1), (2, .int p2), (3, .int p3)]) hx hb dX7_tint_57 hl (by decide) rfl (fun ls hl => ?_)
          refine lv_aload_n hx hb dX7_tint_59 rfl (lv_at hl 1 rfl) ?_
          refine va_get (D := (dC, dI)) (ci := 6) (v := .ref a7_tintOf) (C := RX7) (T := TX7) (N := 30) hx hb hts hiX7 hown hK hP 0 rfl rfl 11 (by decide) (hts (.fieldLink RX7 41 "PageLinesModel" "tintOf" "[I") (List.mem_of_getElem? (i := 3) rfl)) (fun _ h9 => h9) rfl dX7_tint_60 ?_
          refine lv_iconst (v := (3 : Int32)) hx hb dX7_tint_63 (by decide) ?_
          refine lv_iload_n hx hb dX7_tint_64 rfl (lv_at hl 2 rfl) ?_
          refine lv_imul hx hb dX7_tint_65 ?_
          refine lv_iload_n hx hb dX7_tint_66 rfl (lv_at hl 3 rfl) ?_
          refine lv_iadd hx hb dX7_tint_67 ?_
          refine lv_iload_n hx hb dX7_tint_68 rfl (lv_at hl 4 rfl) ?_
          obtain ⟨hi_5, hf⟩ := ckI_sp hf
          refine va_iast hx hb hK hP hD hS 10 0 rfl rfl hi_5 dX7_tint_69 (fun H locs hP hD hS => ?_)
          have hP : va_P (dC, dI) vwCl (WX7 cy a7 a7_offset a7_gain a7_dark a7_bright a7_fromRow a7_toRow a7_left a7_right a7_slant a7_tintOf a7_speckOf a7_leadOf a7_stepKind a7_stepBy a7_pixels f7_offset f7_gain f7_dark f7_bright v7_ground v7_patches f7_fromRow f7_toRow f7_left f7_right f7_slant (upd f7_tintOf (((3 : Int32) * p1) + p2).toNatClampNeg p3) f7_speckOf f7_leadOf v7_steps f7_stepKind f7_stepBy v7_threshold v7_isOn v7_lines v7_done v7_taken v7_lastPosition v7_position v7_mode v7_next v7_outs v7_stops v7_ticks f7_pixels) H := hP
          have hD : va_D A0 (WX7 cy a7 a7_offset a7_gain a7_dark a7_bright a7_fromRow a7_toRow a7_left a7_right a7_slant a7_tintOf a7_speckOf a7_leadOf a7_stepKind a7_stepBy a7_pixels f7_offset f7_gain f7_dark f7_bright v7_ground v7_patches f7_fromRow f7_toRow f7_left f7_right f7_slant (upd f7_tintOf (((3 : Int32) * p1) + p2).toNatClampNeg p3) f7_speckOf f7_leadOf v7_steps f7_stepKind f7_stepBy v7_threshold v7_isOn v7_lines v7_done v7_taken v7_lastPosition v7_position v7_mode v7_next v7_outs v7_stops v7_ticks f7_pixels) := hD
          refine lv_iload hx hb dX7_tint_70 (lv_at hl 0 rfl) ?_
          cases hf
          exact W.iret hx hb hr (fun t ht hW => ⟨⟨_, (), rfl, rfl, by rw [ht]; exact hP, hD⟩, hS.F ht⟩) hS.2.2 dX7_tint_72
        · have hf := it_n hc hf
          refine lv_bipush (v := (-3 : Int32)) hx hb dX7_tint_44 (by decide) ?_
          cases hf
          exact W.iret hx hb hr (fun t ht hW => ⟨⟨_, (), rfl, rfl, by rw [ht]; exact hP, hD⟩, hS.F ht⟩) hS.2.2 dX7_tint_46
      · have hf := it_p hc hf
        refine lv_bipush (v := (-2 : Int32)) hx hb dX7_tint_34 (by decide) ?_
        cases hf
        exact W.iret hx hb hr (fun t ht hW => ⟨⟨_, (), rfl, rfl, by rw [ht]; exact hP, hD⟩, hS.F ht⟩) hS.2.2 dX7_tint_36
    · have hf := it_p hc hf
      refine lv_iconst (v := (-1 : Int32)) hx hb dX7_tint_21 (by decide) ?_
      cases hf
      exact W.iret hx hb hr (fun t ht hW => ⟨⟨_, (), rfl, rfl, by rw [ht]; exact hP, hD⟩, hS.F ht⟩) hS.2.2 dX7_tint_22
set_option maxHeartbeats 4000000 in
set_option maxRecDepth 100000 in
theorem kX7_blank (l : Launch) (dC : Nat → ClassId) (dI : Nat → Nat → Nat) (cy : ClassId) (sz : Nat) (a7 a7_offset a7_gain a7_dark a7_bright a7_fromRow a7_toRow a7_left a7_right a7_slant a7_tintOf a7_speckOf a7_leadOf a7_stepKind a7_stepBy a7_pixels : Nat) (f7_offset : Nat → Int32) (f7_gain : Nat → Int32) (f7_dark : Nat → Int32) (f7_bright : Nat → Int32) (v7_ground : Int32) (v7_patches : Int32) (f7_fromRow : Nat → Int32) (f7_toRow : Nat → Int32) (f7_left : Nat → Int32) (f7_right : Nat → Int32) (f7_slant : Nat → Int32) (f7_tintOf : Nat → Int32) (f7_speckOf : Nat → Int32) (f7_leadOf : Nat → Int32) (v7_steps : Int32) (f7_stepKind : Nat → Int32) (f7_stepBy : Nat → Int32) (v7_threshold : Int32) (v7_isOn : Int32) (v7_lines : Int32) (v7_done : Int32) (v7_taken : Int32) (v7_lastPosition : Int32) (v7_position : Int32) (v7_mode : Int32) (v7_next : Int32) (v7_outs : Int32) (v7_stops : Int32) (v7_ticks : Int32) (f7_pixels : Nat → Int32) (r : Int32) (o_v7_patches : Int32) (hf : fX7_blank v7_patches v7_isOn = some (r, o_v7_patches)) : Met l yX7_blank wsX7_blank ({ frames := 0, cells := 0, slots := 0, locals := 0 }) (rwP [.ref a7] (dC, dI) vwCl (WX7 cy a7 a7_offset a7_gain a7_dark a7_bright a7_fromRow a7_toRow a7_left a7_right a7_slant a7_tintOf a7_speckOf a7_leadOf a7_stepKind a7_stepBy a7_pixels f7_offset f7_gain f7_dark f7_bright v7_ground v7_patches f7_fromRow f7_toRow f7_left f7_right f7_slant f7_tintOf f7_speckOf f7_leadOf v7_steps f7_stepKind f7_stepBy v7_threshold v7_isOn v7_lines v7_done v7_taken v7_lastPosition v7_position v7_mode v7_next v7_outs v7_stops v7_ticks f7_pixels) [(cy, .int)] sz) (rwQi r (dC, dI) vwCl (WX7 cy a7 a7_offset a7_gain a7_dark a7_bright a7_fromRow a7_toRow a7_left a7_right a7_slant a7_tintOf a7_speckOf a7_leadOf a7_stepKind a7_stepBy a7_pixels f7_offset f7_gain f7_dark f7_bright v7_ground o_v7_patches f7_fromRow f7_toRow f7_left f7_right f7_slant f7_tintOf f7_speckOf f7_leadOf v7_steps f7_stepKind f7_stepBy v7_threshold v7_isOn v7_lines v7_done v7_taken v7_lastPosition v7_position v7_mode v7_next v7_outs v7_stops v7_ticks f7_pixels) (va_A (WX7 cy a7 a7_offset a7_gain a7_dark a7_bright a7_fromRow a7_toRow a7_left a7_right a7_slant a7_tintOf a7_speckOf a7_leadOf a7_stepKind a7_stepBy a7_pixels f7_offset f7_gain f7_dark f7_bright v7_ground v7_patches f7_fromRow f7_toRow f7_left f7_right f7_slant f7_tintOf f7_speckOf f7_leadOf v7_steps f7_stepKind f7_stepBy v7_threshold v7_isOn v7_lines v7_done v7_taken v7_lastPosition v7_position v7_mode v7_next v7_outs v7_stops v7_ticks f7_pixels) sz)) 0 0 (va_A (WX7 cy a7 a7_offset a7_gain a7_dark a7_bright a7_fromRow a7_toRow a7_left a7_right a7_slant a7_tintOf a7_speckOf a7_leadOf a7_stepKind a7_stepBy a7_pixels f7_offset f7_gain f7_dark f7_bright v7_ground v7_patches f7_fromRow f7_toRow f7_left f7_right f7_slant f7_tintOf f7_speckOf f7_leadOf v7_steps f7_stepKind f7_stepBy v7_threshold v7_isOn v7_lines v7_done v7_taken v7_lastPosition v7_position v7_mode v7_next v7_outs v7_stops v7_ticks f7_pixels) sz) := by
  refine Met.ofW (cc := cX7_blank) (maxL := 2) (ret := (some .int)) (by decide) rfl ?_
  intro p e s m args below meth c s₁ B hml hv
  obtain ⟨rfl, hsz, hP, hK, hD0⟩ := hv
  have hx := B.exec
  have hb := B.bytes
  have hr := B.returns
  have hts := atoms_spec (ws := wsX7_blank) B.pre
  have hown : s.vm.findClass RX7 = some m.cls := findClass_of_methodNamed B.named
  have hlocks := B.notSynchronized
  have hiX7 : ∀ w ∈ u_ws RX7 TX7 30, w ∈ wsX7_blank := fun _ h => List.mem_cons_of_mem _ ((List.mem_append_right _ h))
  subst hsz
  have hD := hD0.self (sz := s.heap.size)
  generalize hAe : va_A (WX7 cy a7 a7_offset a7_gain a7_dark a7_bright a7_fromRow a7_toRow a7_left a7_right a7_slant a7_tintOf a7_speckOf a7_leadOf a7_stepKind a7_stepBy a7_pixels f7_offset f7_gain f7_dark f7_bright v7_ground v7_patches f7_fromRow f7_toRow f7_left f7_right f7_slant f7_tintOf f7_speckOf f7_leadOf v7_steps f7_stepKind f7_stepBy v7_threshold v7_isOn v7_lines v7_done v7_taken v7_lastPosition v7_position v7_mode v7_next v7_outs v7_stops v7_ticks f7_pixels) s.heap.size = A0 at hD ⊢
  have hA : ∀ q : Nat, s.heap.size ≤ q → A0 q := fun q h => by rw [← hAe]; exact Or.inr h
  have hS : va_S A0 s.heap s.heap [] := va_S.rf
  have hl := lv_entry ([.ref a7]) (n := 2) (Nat.le_of_ble_eq_true rfl)
  rw [lg_entry_eq]
  generalize (lg_sl ([.ref a7]) ++ List.replicate (2 - (lg_sl ([.ref a7])).length) Slot.unset).toArray = ls at hl ⊢
  have hl : lv_has ls 2 [(0, .ref a7)] := hl
  unfold fX7_blank at hf
  refine lv_aload_n hx hb dX7_blank_0 rfl (lv_at hl 0 rfl) ?_
  refine va_get (D := (dC, dI)) (ci := 6) (v := .int v7_isOn) (C := RX7) (T := TX7) (N := 30) hx hb hts hiX7 hown hK hP 0 rfl rfl 18 (by decide) (hts (.fieldLink RX7 83 "PageLinesModel" "isOn" "Z") (List.mem_of_getElem? (i := 1) rfl)) (fun _ h9 => h9) rfl dX7_blank_1 ?_
  refine lv_if_eq (tgt := 10) hx hb dX7_blank_4 (by decide) (fun hc => ?_) (fun hc => ?_)
  · have hf := it_p hc hf
    refine lv_aload_n hx hb dX7_blank_10 rfl (lv_at hl 0 rfl) ?_
    refine va_get (D := (dC, dI)) (ci := 6) (v := .int v7_patches) (C := RX7) (T := TX7) (N := 30) hx hb hts hiX7 hown hK hP 0 rfl rfl 5 (by decide) (hts (.fieldLink RX7 107 "PageLinesModel" "patches" "I") (List.mem_of_getElem? (i := 2) rfl)) (fun _ h9 => h9) rfl dX7_blank_11 ?_
    refine lv_istore_n (lv' := [(1, .int v7_patches), (0, .ref a7)]) hx hb dX7_blank_14 rfl hl (by decide) rfl (fun ls hl => ?_)
    refine lv_aload_n hx hb dX7_blank_15 rfl (lv_at hl 1 rfl) ?_
    refine lv_iconst (v := (0 : Int32)) hx hb dX7_blank_16 (by decide) ?_
    refine va_put (D := (dC, dI)) (ci := 6) (v := .int (0 : Int32)) (ty := .int) (C := RX7) (T := TX7) (N := 30) hx hb hts hiX7 tyX7 tyX7_ok nmX7 hown hK hP hD hS 0 rfl rfl 5 (by decide) (hts (.fieldLink RX7 107 "PageLinesModel" "patches" "I") (List.mem_of_getElem? (i := 2) rfl)) (fun _ h9 => h9) rfl (by decide +kernel) rfl rfl (Nat.le_of_ble_eq_true rfl) dX7_blank_17 (fun H locs hP hD hS => ?_)
    have hP : va_P (dC, dI) vwCl (WX7 cy a7 a7_offset a7_gain a7_dark a7_bright a7_fromRow a7_toRow a7_left a7_right a7_slant a7_tintOf a7_speckOf a7_leadOf a7_stepKind a7_stepBy a7_pixels f7_offset f7_gain f7_dark f7_bright v7_ground (0 : Int32) f7_fromRow f7_toRow f7_left f7_right f7_slant f7_tintOf f7_speckOf f7_leadOf v7_steps f7_stepKind f7_stepBy v7_threshold v7_isOn v7_lines v7_done v7_taken v7_lastPosition v7_position v7_mode v7_next v7_outs v7_stops v7_ticks f7_pixels) H := hP
    have hD : va_D A0 (WX7 cy a7 a7_offset a7_gain a7_dark a7_bright a7_fromRow a7_toRow a7_left a7_right a7_slant a7_tintOf a7_speckOf a7_leadOf a7_stepKind a7_stepBy a7_pixels f7_offset f7_gain f7_dark f7_bright v7_ground (0 : Int32) f7_fromRow f7_toRow f7_left f7_right f7_slant f7_tintOf f7_speckOf f7_leadOf v7_steps f7_stepKind f7_stepBy v7_threshold v7_isOn v7_lines v7_done v7_taken v7_lastPosition v7_position v7_mode v7_next v7_outs v7_stops v7_ticks f7_pixels) := hD
    refine lv_iload_n hx hb dX7_blank_20 rfl (lv_at hl 0 rfl) ?_
    cases hf
    exact W.iret hx hb hr (fun t ht hW => ⟨⟨_, (), rfl, rfl, by rw [ht]; exact hP, hD⟩, hS.F ht⟩) hS.2.2 dX7_blank_21
  · have hf := it_n hc hf
    refine lv_bipush (v := (-3 : Int32)) hx hb dX7_blank_7 (by decide) ?_
    cases hf
    exact W.iret hx hb hr (fun t ht hW => ⟨⟨_, (), rfl, rfl, by rw [ht]; exact hP, hD⟩, hS.F ht⟩) hS.2.2 dX7_blank_9
set_option maxHeartbeats 4000000 in
set_option maxRecDepth 100000 in
theorem kX7_speck (l : Launch) (dC : Nat → ClassId) (dI : Nat → Nat → Nat) (cy : ClassId) (sz : Nat) (a7 a7_offset a7_gain a7_dark a7_bright a7_fromRow a7_toRow a7_left a7_right a7_slant a7_tintOf a7_speckOf a7_leadOf a7_stepKind a7_stepBy a7_pixels : Nat) (f7_offset : Nat → Int32) (f7_gain : Nat → Int32) (f7_dark : Nat → Int32) (f7_bright : Nat → Int32) (v7_ground : Int32) (v7_patches : Int32) (f7_fromRow : Nat → Int32) (f7_toRow : Nat → Int32) (f7_left : Nat → Int32) (f7_right : Nat → Int32) (f7_slant : Nat → Int32) (f7_tintOf : Nat → Int32) (f7_speckOf : Nat → Int32) (f7_leadOf : Nat → Int32) (v7_steps : Int32) (f7_stepKind : Nat → Int32) (f7_stepBy : Nat → Int32) (v7_threshold : Int32) (v7_isOn : Int32) (v7_lines : Int32) (v7_done : Int32) (v7_taken : Int32) (v7_lastPosition : Int32) (v7_position : Int32) (v7_mode : Int32) (v7_next : Int32) (v7_outs : Int32) (v7_stops : Int32) (v7_ticks : Int32) (f7_pixels : Nat → Int32) (p1 : Int32) (p2 : Int32) (r : Int32) (o_f7_speckOf : Nat → Int32) (hf : fX7_speck f7_speckOf v7_isOn p1 p2 = some (r, o_f7_speckOf)) : Met l yX7_speck wsX7_speck ({ frames := 2, cells := 0, slots := 0, locals := 42 }) (rwP [.ref a7, .int p1, .int p2] (dC, dI) vwCl (WX7 cy a7 a7_offset a7_gain a7_dark a7_bright a7_fromRow a7_toRow a7_left a7_right a7_slant a7_tintOf a7_speckOf a7_leadOf a7_stepKind a7_stepBy a7_pixels f7_offset f7_gain f7_dark f7_bright v7_ground v7_patches f7_fromRow f7_toRow f7_left f7_right f7_slant f7_tintOf f7_speckOf f7_leadOf v7_steps f7_stepKind f7_stepBy v7_threshold v7_isOn v7_lines v7_done v7_taken v7_lastPosition v7_position v7_mode v7_next v7_outs v7_stops v7_ticks f7_pixels) [(cy, .int)] sz) (rwQi r (dC, dI) vwCl (WX7 cy a7 a7_offset a7_gain a7_dark a7_bright a7_fromRow a7_toRow a7_left a7_right a7_slant a7_tintOf a7_speckOf a7_leadOf a7_stepKind a7_stepBy a7_pixels f7_offset f7_gain f7_dark f7_bright v7_ground v7_patches f7_fromRow f7_toRow f7_left f7_right f7_slant f7_tintOf o_f7_speckOf f7_leadOf v7_steps f7_stepKind f7_stepBy v7_threshold v7_isOn v7_lines v7_done v7_taken v7_lastPosition v7_position v7_mode v7_next v7_outs v7_stops v7_ticks f7_pixels) (va_A (WX7 cy a7 a7_offset a7_gain a7_dark a7_bright a7_fromRow a7_toRow a7_left a7_right a7_slant a7_tintOf a7_speckOf a7_leadOf a7_stepKind a7_stepBy a7_pixels f7_offset f7_gain f7_dark f7_bright v7_ground v7_patches f7_fromRow f7_toRow f7_left f7_right f7_slant f7_tintOf f7_speckOf f7_leadOf v7_steps f7_stepKind f7_stepBy v7_threshold v7_isOn v7_lines v7_done v7_taken v7_lastPosition v7_position v7_mode v7_next v7_outs v7_stops v7_ticks f7_pixels) sz)) 0 0 (va_A (WX7 cy a7 a7_offset a7_gain a7_dark a7_bright a7_fromRow a7_toRow a7_left a7_right a7_slant a7_tintOf a7_speckOf a7_leadOf a7_stepKind a7_stepBy a7_pixels f7_offset f7_gain f7_dark f7_bright v7_ground v7_patches f7_fromRow f7_toRow f7_left f7_right f7_slant f7_tintOf f7_speckOf f7_leadOf v7_steps f7_stepKind f7_stepBy v7_threshold v7_isOn v7_lines v7_done v7_taken v7_lastPosition v7_position v7_mode v7_next v7_outs v7_stops v7_ticks f7_pixels) sz) := by
  refine Met.ofW (cc := cX7_speck) (maxL := 4) (ret := (some .int)) (by decide) rfl ?_
  intro p e s m args below meth c s₁ B hml hv
  obtain ⟨rfl, hsz, hP, hK, hD0⟩ := hv
  have hx := B.exec
  have hb := B.bytes
  have hr := B.returns
  have hts := atoms_spec (ws := wsX7_speck) B.pre
  have hown : s.vm.findClass RX7 = some m.cls := findClass_of_methodNamed B.named
  have hlocks := B.notSynchronized
  have hiX7 : ∀ w ∈ u_ws RX7 TX7 30, w ∈ wsX7_speck := fun _ h => List.mem_cons_of_mem _ ((List.mem_append_right _ h))
  subst hsz
  have hD := hD0.self (sz := s.heap.size)
  generalize hAe : va_A (WX7 cy a7 a7_offset a7_gain a7_dark a7_bright a7_fromRow a7_toRow a7_left a7_right a7_slant a7_tintOf a7_speckOf a7_leadOf a7_stepKind a7_stepBy a7_pixels f7_offset f7_gain f7_dark f7_bright v7_ground v7_patches f7_fromRow f7_toRow f7_left f7_right f7_slant f7_tintOf f7_speckOf f7_leadOf v7_steps f7_stepKind f7_stepBy v7_threshold v7_isOn v7_lines v7_done v7_taken v7_lastPosition v7_position v7_mode v7_next v7_outs v7_stops v7_ticks f7_pixels) s.heap.size = A0 at hD ⊢
  have hA : ∀ q : Nat, s.heap.size ≤ q → A0 q := fun q h => by rw [← hAe]; exact Or.inr h
  have hS : va_S A0 s.heap s.heap [] := va_S.rf
  have hl := lv_entry ([.ref a7, .int p1, .int p2]) (n := 4) (Nat.le_of_ble_eq_true rfl)
  rw [lg_entry_eq]
  generalize (lg_sl ([.ref a7, .int p1, .int p2]) ++ List.replicate (4 - (lg_sl ([.ref a7, .int p1, .int p2])).length) Slot.unset).toArray = ls at hl ⊢
  have hl : lv_has ls 4 [(0, .ref a7), (1, .int p1), (2, .int p2)] := hl
  unfold fX7_speck at hf
  refine lv_iload_n hx hb dX7_speck_0 rfl (lv_at hl 1 rfl) ?_
  obtain ⟨r1, hr1, hf⟩ := cl1_sp hf
  refine ro_S (As := [.int p1]) ⟨hx, hb, hml, hown, hts⟩ (kX7_isColumn l _ p1 r1 hr1) (va_cwS 1 hts gX7_speck_X7_isColumn rfl rfl rfl (by decide +kernel) ⟨Nat.le_of_ble_eq_true rfl, Nat.le_of_ble_eq_true rfl⟩) hS rfl hl.1 rfl (Nat.le_of_ble_eq_true rfl) dX7_speck_1 (Nat.zero_le _) (Nat.zero_le _) (fun locs hS => ?_)
  refine lv_if_ne (tgt := 9) hx hb dX7_speck_4 (by decide) (fun hc => ?_) (fun hc => ?_)
  · have hf := it_n hc hf
    refine lv_iload_n hx hb dX7_speck_9 rfl (lv_at hl 2 rfl) ?_
    refine lv_iconst (v := (0 : Int32)) hx hb dX7_speck_10 (by decide) ?_
    refine lv_sipush (v := (255 : Int32)) hx hb dX7_speck_11 (by decide) ?_
    obtain ⟨r2, hr2, hf⟩ := cl1_sp hf
    refine ro_S (As := [.int p2, .int (0 : Int32), .int (255 : Int32)]) ⟨hx, hb, hml, hown, hts⟩ (kX7_within l _ p2 (0 : Int32) (255 : Int32) r2 hr2) (va_cwS 3 hts gX7_speck_X7_within rfl rfl rfl (by decide +kernel) ⟨Nat.le_of_ble_eq_true rfl, Nat.le_of_ble_eq_true rfl⟩) hS rfl hl.1 rfl (Nat.le_of_ble_eq_true rfl) dX7_speck_14 (Nat.zero_le _) (Nat.zero_le _) (fun locs hS => ?_)
    refine lv_if_ne (tgt := 23) hx hb dX7_speck_17 (by decide) (fun hc => ?_) (fun hc => ?_)
    · have hf := it_n hc hf
      refine lv_aload_n hx hb dX7_speck_23 rfl (lv_at hl 0 rfl) ?_
      refine va_get (D := (dC, dI)) (ci := 6) (v := .int v7_isOn) (C := RX7) (T := TX7) (N := 30) hx hb hts hiX7 hown hK hP 0 rfl rfl 18 (by decide) (hts (.fieldLink RX7 83 "PageLinesModel" "isOn" "Z") (List.mem_of_getElem? (i := 1) rfl)) (fun _ h9 => h9) rfl dX7_speck_24 ?_
      refine lv_if_eq (tgt := 33) hx hb dX7_speck_27 (by decide) (fun hc => ?_) (fun hc => ?_)
      · have hf := it_p hc hf
        refine lv_aload_n hx hb dX7_speck_33 rfl (lv_at hl 0 rfl) ?_
        refine va_get (D := (dC, dI)) (ci := 6) (v := .ref a7_speckOf) (C := RX7) (T := TX7) (N := 30) hx hb hts hiX7 hown hK hP 0 rfl rfl 12 (by decide) (hts (.fieldLink RX7 44 "PageLinesModel" "speckOf" "[I") (List.mem_of_getElem? (i := 2) rfl)) (fun _ h9 => h9) rfl dX7_speck_34 ?_
        refine lv_iload_n hx hb dX7_speck_37 rfl (lv_at hl 1 rfl) ?_
        obtain ⟨hi_3, hf⟩ := ckI_sp hf
        refine va_iald hx hb hK hP 11 0 rfl rfl hi_3 dX7_speck_38 ?_
        refine lv_istore_n (lv' := [(3, .int (f7_speckOf p1.toNatClampNeg)), (0, .ref a7), (1, .int p1), (2, .int p2)]) hx hb dX7_speck_39 rfl hl (by decide) rfl (fun ls hl => ?_)
        refine lv_aload_n hx hb dX7_speck_40 rfl (lv_at hl 1 rfl) ?_
        refine va_get (D := (dC, dI)) (ci := 6) (v := .ref a7_speckOf) (C := RX7) (T := TX7) (N := 30) hx hb hts hiX7 hown hK hP 0 rfl rfl 12 (by decide) (hts (.fieldLink RX7 44 "PageLinesModel" "speckOf" "[I") (List.mem_of_getElem? (i := 2) rfl)) (fun _ h9 => h9) rfl dX7_speck_41 ?_
        refine lv_iload_n hx hb dX7_speck_44 rfl (lv_at hl 2 rfl) ?_
        refine lv_iload_n hx hb dX7_speck_45 rfl (lv_at hl 3 rfl) ?_
        obtain ⟨hi_4, hf⟩ := ckI_sp hf
        refine va_iast hx hb hK hP hD hS 11 0 rfl rfl hi_4 dX7_speck_46 (fun H locs hP hD hS => ?_)
        have hP : va_P (dC, dI) vwCl (WX7 cy a7 a7_offset a7_gain a7_dark a7_bright a7_fromRow a7_toRow a7_left a7_right a7_slant a7_tintOf a7_speckOf a7_leadOf a7_stepKind a7_stepBy a7_pixels f7_offset f7_gain f7_dark f7_bright v7_ground v7_patches f7_fromRow f7_toRow f7_left f7_right f7_slant f7_tintOf (upd f7_speckOf p1.toNatClampNeg p2) f7_leadOf v7_steps f7_stepKind f7_stepBy v7_threshold v7_isOn v7_lines v7_done v7_taken v7_lastPosition v7_position v7_mode v7_next v7_outs v7_stops v7_ticks f7_pixels) H := hP
        have hD : va_D A0 (WX7 cy a7 a7_offset a7_gain a7_dark a7_bright a7_fromRow a7_toRow a7_left a7_right a7_slant a7_tintOf a7_speckOf a7_leadOf a7_stepKind a7_stepBy a7_pixels f7_offset f7_gain f7_dark f7_bright v7_ground v7_patches f7_fromRow f7_toRow f7_left f7_right f7_slant f7_tintOf (upd f7_speckOf p1.toNatClampNeg p2) f7_leadOf v7_steps f7_stepKind f7_stepBy v7_threshold v7_isOn v7_lines v7_done v7_taken v7_lastPosition v7_position v7_mode v7_next v7_outs v7_stops v7_ticks f7_pixels) := hD
        refine lv_iload_n hx hb dX7_speck_47 rfl (lv_at hl 0 rfl) ?_
        cases hf
        exact W.iret hx hb hr (fun t ht hW => ⟨⟨_, (), rfl, rfl, by rw [ht]; exact hP, hD⟩, hS.F ht⟩) hS.2.2 dX7_speck_48
      · have hf := it_n hc hf
        refine lv_bipush (v := (-3 : Int32)) hx hb dX7_speck_30 (by decide) ?_
        cases hf
        exact W.iret hx hb hr (fun t ht hW => ⟨⟨_, (), rfl, rfl, by rw [ht]; exact hP, hD⟩, hS.F ht⟩) hS.2.2 dX7_speck_32
    · have hf := it_p hc hf
      refine lv_bipush (v := (-2 : Int32)) hx hb dX7_speck_20 (by decide) ?_
      cases hf
      exact W.iret hx hb hr (fun t ht hW => ⟨⟨_, (), rfl, rfl, by rw [ht]; exact hP, hD⟩, hS.F ht⟩) hS.2.2 dX7_speck_22
  · have hf := it_p hc hf
    refine lv_iconst (v := (-1 : Int32)) hx hb dX7_speck_7 (by decide) ?_
    cases hf
    exact W.iret hx hb hr (fun t ht hW => ⟨⟨_, (), rfl, rfl, by rw [ht]; exact hP, hD⟩, hS.F ht⟩) hS.2.2 dX7_speck_8
set_option maxHeartbeats 4000000 in
set_option maxRecDepth 100000 in
theorem kX7_down (l : Launch) (H : Heap) (p1 : Int32) (p2 : Int32) (r : Int32) (hf : fX7_down p1 p2 = some r) : Met l yX7_down wsX7_down ({ frames := 0, cells := 0, slots := 0, locals := 0 }) (roP0 [.int p1, .int p2] H) (roQi r H) 0 0 (fun _ => False) := by
  refine Met.ofW (cc := cX7_down) (maxL := 2) (ret := (some .int)) (by decide) rfl ?_
  intro p e s m args below meth c s₁ B hml hv
  obtain ⟨rfl, hH⟩ := hv
  have hx := B.exec
  have hb := B.bytes
  have hr := B.returns
  have hts := atoms_spec (ws := wsX7_down) B.pre
  have hown : s.vm.findClass RX7 = some m.cls := findClass_of_methodNamed B.named
  have hlocks := B.notSynchronized
  subst hH
  have hS : va_S (fun _ => False) s.heap s.heap [] := va_S.rf
  have hl := lv_entry ([.int p1, .int p2]) (n := 2) (Nat.le_of_ble_eq_true rfl)
  rw [lg_entry_eq]
  generalize (lg_sl ([.int p1, .int p2]) ++ List.replicate (2 - (lg_sl ([.int p1, .int p2])).length) Slot.unset).toArray = ls at hl ⊢
  have hl : lv_has ls 2 [(0, .int p1), (1, .int p2)] := hl
  unfold fX7_down at hf
  refine lv_iload_n hx hb dX7_down_0 rfl (lv_at hl 0 rfl) ?_
  refine lv_if_lt (tgt := 10) hx hb dX7_down_1 (by decide) (fun hc => ?_) (fun hc => ?_)
  · have hf := it_p hc hf
    refine lv_iload_n hx hb dX7_down_10 rfl (lv_at hl 1 rfl) ?_
    refine lv_iconst (v := (1 : Int32)) hx hb dX7_down_11 (by decide) ?_
    refine lv_isub hx hb dX7_down_12 ?_
    refine lv_iload_n hx hb dX7_down_13 rfl (lv_at hl 0 rfl) ?_
    refine lv_isub hx hb dX7_down_14 ?_
    refine lv_iload_n hx hb dX7_down_15 rfl (lv_at hl 1 rfl) ?_
    obtain ⟨hz1, hf⟩ := ckZ_sp hf
    refine lv_idiv hx hb dX7_down_16 hz1 ?_
    refine lv_ineg hx hb dX7_down_17 ?_
    exact W.iret (v := -(((p2 - (1 : Int32)) - p1) / p2)) hx hb hr (fun t ht hW => ⟨⟨_, (), rfl, Option.some.inj hf, ht⟩, hS.F ht⟩) hS.2.2 dX7_down_18
  · have hf := it_n hc hf
    refine lv_iload_n hx hb dX7_down_4 rfl (lv_at hl 0 rfl) ?_
    refine lv_iload_n hx hb dX7_down_5 rfl (lv_at hl 1 rfl) ?_
    obtain ⟨hz2, hf⟩ := ckZ_sp hf
    refine lv_idiv hx hb dX7_down_6 hz2 ?_
    refine lv_goto (tgt := 18) hx hb dX7_down_7 (by decide) ?_
    exact W.iret (v := p1 / p2) hx hb hr (fun t ht hW => ⟨⟨_, (), rfl, Option.some.inj hf, ht⟩, hS.F ht⟩) hS.2.2 dX7_down_18
set_option maxHeartbeats 4000000 in
set_option maxRecDepth 100000 in
theorem kX7_isCovered (l : Launch) (dC : Nat → ClassId) (dI : Nat → Nat → Nat) (cy : ClassId) (H : Heap) (a7 a7_offset a7_gain a7_dark a7_bright a7_fromRow a7_toRow a7_left a7_right a7_slant a7_tintOf a7_speckOf a7_leadOf a7_stepKind a7_stepBy a7_pixels : Nat) (f7_offset : Nat → Int32) (f7_gain : Nat → Int32) (f7_dark : Nat → Int32) (f7_bright : Nat → Int32) (v7_ground : Int32) (v7_patches : Int32) (f7_fromRow : Nat → Int32) (f7_toRow : Nat → Int32) (f7_left : Nat → Int32) (f7_right : Nat → Int32) (f7_slant : Nat → Int32) (f7_tintOf : Nat → Int32) (f7_speckOf : Nat → Int32) (f7_leadOf : Nat → Int32) (v7_steps : Int32) (f7_stepKind : Nat → Int32) (f7_stepBy : Nat → Int32) (v7_threshold : Int32) (v7_isOn : Int32) (v7_lines : Int32) (v7_done : Int32) (v7_taken : Int32) (v7_lastPosition : Int32) (v7_position : Int32) (v7_mode : Int32) (v7_next : Int32) (v7_outs : Int32) (v7_stops : Int32) (v7_ticks : Int32) (f7_pixels : Nat → Int32) (p1 : Int32) (p2 : Int32) (p3 : Int32) (r : Int32) (hf : fX7_isCovered f7_fromRow f7_toRow f7_left f7_right f7_slant p1 p2 p3 = some r) : Met l yX7_isCovered wsX7_isCovered ({ frames := 1, cells := 0, slots := 0, locals := 22 }) (roP [.ref a7, .int p1, .int p2, .int p3] (dC, dI) vwCl (WX7 cy a7 a7_offset a7_gain a7_dark a7_bright a7_fromRow a7_toRow a7_left a7_right a7_slant a7_tintOf a7_speckOf a7_leadOf a7_stepKind a7_stepBy a7_pixels f7_offset f7_gain f7_dark f7_bright v7_ground v7_patches f7_fromRow f7_toRow f7_left f7_right f7_slant f7_tintOf f7_speckOf f7_leadOf v7_steps f7_stepKind f7_stepBy v7_threshold v7_isOn v7_lines v7_done v7_taken v7_lastPosition v7_position v7_mode v7_next v7_outs v7_stops v7_ticks f7_pixels) [(cy, .int)] H) (roQi r H) 0 0 (fun _ => False) := by
  refine Met.ofW (cc := cX7_isCovered) (maxL := 4) (ret := (some .boolean)) (by decide) rfl ?_
  intro p e s m args below meth c s₁ B hml hv
  obtain ⟨rfl, hH, hP, hK⟩ := hv
  have hx := B.exec
  have hb := B.bytes
  have hr := B.returns
  have hts := atoms_spec (ws := wsX7_isCovered) B.pre
  have hown : s.vm.findClass RX7 = some m.cls := findClass_of_methodNamed B.named
  have hlocks := B.notSynchronized
  have hiX7 : ∀ w ∈ u_ws RX7 TX7 30, w ∈ wsX7_isCovered := fun _ h => List.mem_cons_of_mem _ ((List.mem_append_right _ h))
  subst hH
  have hS : va_S (fun _ => False) s.heap s.heap [] := va_S.rf
  have hl := lv_entry ([.ref a7, .int p1, .int p2, .int p3]) (n := 4) (Nat.le_of_ble_eq_true rfl)
  rw [lg_entry_eq]
  generalize (lg_sl ([.ref a7, .int p1, .int p2, .int p3]) ++ List.replicate (4 - (lg_sl ([.ref a7, .int p1, .int p2, .int p3])).length) Slot.unset).toArray = ls at hl ⊢
  have hl : lv_has ls 4 [(0, .ref a7), (1, .int p1), (2, .int p2), (3, .int p3)] := hl
  unfold fX7_isCovered at hf
  refine lv_iload_n hx hb dX7_isCovered_0 rfl (lv_at hl 2 rfl) ?_
  refine lv_aload_n hx hb dX7_isCovered_1 rfl (lv_at hl 0 rfl) ?_
  refine va_get (D := (dC, dI)) (ci := 6) (v := .ref a7_fromRow) (C := RX7) (T := TX7) (N := 30) hx hb hts hiX7 hown hK hP 0 rfl rfl 6 (by decide) (hts (.fieldLink RX7 26 "PageLinesModel" "fromRow" "[I") (List.mem_of_getElem? (i := 1) rfl)) (fun _ h9 => h9) rfl dX7_isCovered_2 ?_
  refine lv_iload_n hx hb dX7_isCovered_5 rfl (lv_at hl 1 rfl) ?_
  obtain ⟨hi_1, hf⟩ := ckI_sp hf
  refine va_iald hx hb hK hP 5 0 rfl rfl hi_1 dX7_isCovered_6 ?_
  refine lv_icmp_lt (tgt := 20) hx hb dX7_isCovered_7 (by decide) (fun hc => ?_) (fun hc => ?_)
  · have hf := it_p hc hf
    refine lv_iconst (v := (0 : Int32)) hx hb dX7_isCovered_20 (by decide) ?_
    exact W.zret (v := (0 : Int32)) hx hb hr rfl (fun t ht hW => ⟨⟨_, (), rfl, Option.some.inj hf, ht⟩, hS.F ht⟩) hS.2.2 dX7_isCovered_21
  · have hf := it_n hc hf
    refine lv_iload_n hx hb dX7_isCovered_10 rfl (lv_at hl 2 rfl) ?_
    refine lv_aload_n hx hb dX7_isCovered_11 rfl (lv_at hl 0 rfl) ?_
    refine va_get (D := (dC, dI)) (ci := 6) (v := .ref a7_toRow) (C := RX7) (T := TX7) (N := 30) hx hb hts hiX7 hown hK hP 0 rfl rfl 7 (by decide) (hts (.fieldLink RX7 29 "PageLinesModel" "toRow" "[I") (List.mem_of_getElem? (i := 2) rfl)) (fun _ h9 => h9) rfl dX7_isCovered_12 ?_
    refine lv_iload_n hx hb dX7_isCovered_15 rfl (lv_at hl 1 rfl) ?_
    obtain ⟨hi_2, hf⟩ := ckI_sp hf
    refine va_iald hx hb hK hP 6 0 rfl rfl hi_2 dX7_isCovered_16 ?_
    refine lv_icmp_le (tgt := 22) hx hb dX7_isCovered_17 (by decide) (fun hc => ?_) (fun hc => ?_)
    · have hf := it_p hc hf
      refine lv_iload_n hx hb dX7_isCovered_22 rfl (lv_at hl 3 rfl) ?_
      refine lv_aload_n hx hb dX7_isCovered_23 rfl (lv_at hl 0 rfl) ?_
      refine va_get (D := (dC, dI)) (ci := 6) (v := .ref a7_slant) (C := RX7) (T := TX7) (N := 30) hx hb hts hiX7 hown hK hP 0 rfl rfl 10 (by decide) (hts (.fieldLink RX7 38 "PageLinesModel" "slant" "[I") (List.mem_of_getElem? (i := 3) rfl)) (fun _ h9 => h9) rfl dX7_isCovered_24 ?_
      refine lv_iload_n hx hb dX7_isCovered_27 rfl (lv_at hl 1 rfl) ?_
      obtain ⟨hi_3, hf⟩ := ckI_sp hf
      refine va_iald hx hb hK hP 9 0 rfl rfl hi_3 dX7_isCovered_28 ?_
      refine lv_iload_n hx hb dX7_isCovered_29 rfl (lv_at hl 2 rfl) ?_
      refine lv_aload_n hx hb dX7_isCovered_30 rfl (lv_at hl 0 rfl) ?_
      refine va_get (D := (dC, dI)) (ci := 6) (v := .ref a7_fromRow) (C := RX7) (T := TX7) (N := 30) hx hb hts hiX7 hown hK hP 0 rfl rfl 6 (by decide) (hts (.fieldLink RX7 26 "PageLinesModel" "fromRow" "[I") (List.mem_of_getElem? (i := 1) rfl)) (fun _ h9 => h9) rfl dX7_isCovered_31 ?_
      refine lv_iload_n hx hb dX7_isCovered_34 rfl (lv_at hl 1 rfl) ?_
      obtain ⟨hi_4, hf⟩ := ckI_sp hf
      refine va_iald hx hb hK hP 5 0 rfl rfl hi_4 dX7_isCovered_35 ?_
      refine lv_isub hx hb dX7_isCovered_36 ?_
      refine lv_imul hx hb dX7_isCovered_37 ?_
      refine lv_bipush (v := (8 : Int32)) hx hb dX7_isCovered_38 (by decide) ?_
      obtain ⟨r5, hr5, hf⟩ := cl1_sp hf
      refine ro_S (As := [.int ((f7_slant p1.toNatClampNeg) * (p2 - (f7_fromRow p1.toNatClampNeg))), .int (8 : Int32)]) ⟨hx, hb, hml, hown, hts⟩ (kX7_down l _ ((f7_slant p1.toNatClampNeg) * (p2 - (f7_fromRow p1.toNatClampNeg))) (8 : Int32) r5 hr5) (va_cwS 2 hts gX7_isCovered_X7_down rfl rfl rfl (by decide +kernel) ⟨Nat.le_of_ble_eq_true rfl, Nat.le_of_ble_eq_true rfl⟩) hS rfl hl.1 rfl (Nat.le_of_ble_eq_true rfl) dX7_isCovered_40 (Nat.zero_le _) (Nat.zero_le _) (fun locs hS => ?_)
      refine lv_isub hx hb dX7_isCovered_43 ?_
      refine lv_aload_n hx hb dX7_isCovered_44 rfl (lv_at hl 0 rfl) ?_
      refine va_get (D := (dC, dI)) (ci := 6) (v := .ref a7_left) (C := RX7) (T := TX7) (N := 30) hx hb hts hiX7 hown hK hP 0 rfl rfl 8 (by decide) (hts (.fieldLink RX7 32 "PageLinesModel" "left" "[I") (List.mem_of_getElem? (i := 4) rfl)) (fun _ h9 => h9) rfl dX7_isCovered_45 ?_
      refine lv_iload_n hx hb dX7_isCovered_48 rfl (lv_at hl 1 rfl) ?_
      obtain ⟨hi_6, hf⟩ := ckI_sp hf
      refine va_iald hx hb hK hP 7 0 rfl rfl hi_6 dX7_isCovered_49 ?_
      refine lv_aload_n hx hb dX7_isCovered_50 rfl (lv_at hl 0 rfl) ?_
      refine va_get (D := (dC, dI)) (ci := 6) (v := .ref a7_right) (C := RX7) (T := TX7) (N := 30) hx hb hts hiX7 hown hK hP 0 rfl rfl 9 (by decide) (hts (.fieldLink RX7 35 "PageLinesModel" "right" "[I") (List.mem_of_getElem? (i := 5) rfl)) (fun _ h9 => h9) rfl dX7_isCovered_51 ?_
      refine lv_iload_n hx hb dX7_isCovered_54 rfl (lv_at hl 1 rfl) ?_
      obtain ⟨hi_7, hf⟩ := ckI_sp hf
      refine va_iald hx hb hK hP 8 0 rfl rfl hi_7 dX7_isCovered_55 ?_
      obtain ⟨r8, hr8, hf⟩ := cl1_sp hf
      refine ro_S (As := [.int (p3 - r5), .int (f7_left p1.toNatClampNeg), .int (f7_right p1.toNatClampNeg)]) ⟨hx, hb, hml, hown, hts⟩ (kX7_within l _ (p3 - r5) (f7_left p1.toNatClampNeg) (f7_right p1.toNatClampNeg) r8 hr8) (va_cwS 3 hts gX7_isCovered_X7_within rfl rfl rfl (by decide +kernel) ⟨Nat.le_of_ble_eq_true rfl, Nat.le_of_ble_eq_true rfl⟩) hS rfl hl.1 rfl (Nat.le_of_ble_eq_true rfl) dX7_isCovered_56 (Nat.zero_le _) (Nat.zero_le _) (fun locs hS => ?_)
      obtain ⟨hnb, hf⟩ := ckB_sp hf
      exact W.zret (v := r8) hx hb hr hnb (fun t ht hW => ⟨⟨_, (), rfl, Option.some.inj hf, ht⟩, hS.F ht⟩) hS.2.2 dX7_isCovered_59
    · have hf := it_n hc hf
      refine lv_iconst (v := (0 : Int32)) hx hb dX7_isCovered_20 (by decide) ?_
      exact W.zret (v := (0 : Int32)) hx hb hr rfl (fun t ht hW => ⟨⟨_, (), rfl, Option.some.inj hf, ht⟩, hS.F ht⟩) hS.2.2 dX7_isCovered_21

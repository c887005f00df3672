set_option maxHeartbeats 4000000 in
set_option maxRecDepth 100000 in
theorem kX7_pipe (l : Launch) (dC : Nat → ClassId) (dI : Nat → Nat → Nat) (cy : ClassId) (sz : Nat) (a7 a7_offset a7_gain a7_dark a7_bright a7_fromRow a7_toRow a7_left a7_right a7_slant a7_tintOf a7_speckOf a7_leadOf a7_stepKind a7_stepBy a7_pixels : Nat) (f7_offset : Nat → Int32) (f7_gain : Nat → Int32) (f7_dark : Nat → Int32) (f7_bright : Nat → Int32) (v7_ground : Int32) (v7_patches : Int32) (f7_fromRow : Nat → Int32) (f7_toRow : Nat → Int32) (f7_left : Nat → Int32) (f7_right : Nat → Int32) (f7_slant : Nat → Int32) (f7_tintOf : Nat → Int32) (f7_speckOf : Nat → Int32) (f7_leadOf : Nat → Int32) (v7_steps : Int32) (f7_stepKind : Nat → Int32) (f7_stepBy : Nat → Int32) (v7_threshold : Int32) (v7_isOn : Int32) (v7_lines : Int32) (v7_done : Int32) (v7_taken : Int32) (v7_lastPosition : Int32) (v7_position : Int32) (v7_mode : Int32) (v7_next : Int32) (v7_outs : Int32) (v7_stops : Int32) (v7_ticks : Int32) (f7_pixels : Nat → Int32) (p1 : Int32) (p2 : Int32) (r : Int32) (o_v7_steps : Int32) (o_f7_stepKind : Nat → Int32) (o_f7_stepBy : Nat → Int32) (hf : fX7_pipe v7_steps f7_stepKind f7_stepBy v7_isOn p1 p2 = some (r, o_v7_steps, o_f7_stepKind, o_f7_stepBy)) : Met l yX7_pipe wsX7_pipe ({ frames := 2, cells := 0, slots := 0, locals := 43 }) (rwP [.ref a7, .int p1, .int p2] (dC, dI) vwCl (WX7 cy a7 a7_offset a7_gain a7_dark a7_bright a7_fromRow a7_toRow a7_left a7_right a7_slant a7_tintOf a7_speckOf a7_leadOf a7_stepKind a7_stepBy a7_pixels f7_offset f7_gain f7_dark f7_bright v7_ground v7_patches f7_fromRow f7_toRow f7_left f7_right f7_slant f7_tintOf f7_speckOf f7_leadOf v7_steps f7_stepKind f7_stepBy v7_threshold v7_isOn v7_lines v7_done v7_taken v7_lastPosition v7_position v7_mode v7_next v7_outs v7_stops v7_ticks f7_pixels) [(cy, .int)] sz) (rwQi r (dC, dI) vwCl (WX7 cy a7 a7_offset a7_gain a7_dark a7_bright a7_fromRow a7_toRow a7_left a7_right a7_slant a7_tintOf a7_speckOf a7_leadOf a7_stepKind a7_stepBy a7_pixels f7_offset f7_gain f7_dark f7_bright v7_ground v7_patches f7_fromRow f7_toRow f7_left f7_right f7_slant f7_tintOf f7_speckOf f7_leadOf o_v7_steps o_f7_stepKind o_f7_stepBy v7_threshold v7_isOn v7_lines v7_done v7_taken v7_lastPosition v7_position v7_mode v7_next v7_outs v7_stops v7_ticks f7_pixels) (va_A (WX7 cy a7 a7_offset a7_gain a7_dark a7_bright a7_fromRow a7_toRow a7_left a7_right a7_slant a7_tintOf a7_speckOf a7_leadOf a7_stepKind a7_stepBy a7_pixels f7_offset f7_gain f7_dark f7_bright v7_ground v7_patches f7_fromRow f7_toRow f7_left f7_right f7_slant f7_tintOf f7_speckOf f7_leadOf v7_steps f7_stepKind f7_stepBy v7_threshold v7_isOn v7_lines v7_done v7_taken v7_lastPosition v7_position v7_mode v7_next v7_outs v7_stops v7_ticks f7_pixels) sz)) 0 0 (va_A (WX7 cy a7 a7_offset a7_gain a7_dark a7_bright a7_fromRow a7_toRow a7_left a7_right a7_slant a7_tintOf a7_speckOf a7_leadOf a7_stepKind a7_stepBy a7_pixels f7_offset f7_gain f7_dark f7_bright v7_ground v7_patches f7_fromRow f7_toRow f7_left f7_right f7_slant f7_tintOf f7_speckOf f7_leadOf v7_steps f7_stepKind f7_stepBy v7_threshold v7_isOn v7_lines v7_done v7_taken v7_lastPosition v7_position v7_mode v7_next v7_outs v7_stops v7_ticks f7_pixels) sz) := by
  refine Met.ofW (cc := cX7_pipe) (maxL := 3) (ret := (some .int)) (by decide) rfl ?_
  intro p e s m args below meth c s₁ B hml hv
  obtain ⟨rfl, hsz, hP, hK, hD0⟩ := hv
  have hx := B.exec
  have hb := B.bytes
  have hr := B.returns
  have hts := atoms_spec (ws := wsX7_pipe) B.pre
  have hown : s.vm.findClass RX7 = some m.cls := findClass_of_methodNamed B.named
  have hlocks := B.notSynchronized
  have hiX7 : ∀ w ∈ u_ws RX7 TX7 30, w ∈ wsX7_pipe := fun _ h => List.mem_cons_of_mem _ ((List.mem_append_right _ h))
  subst hsz
  have hD := hD0.self (sz := s.heap.size)
  generalize hAe : va_A (WX7 cy a7 a7_offset a7_gain a7_dark a7_bright a7_fromRow a7_toRow a7_left a7_right a7_slant a7_tintOf a7_speckOf a7_leadOf a7_stepKind a7_stepBy a7_pixels f7_offset f7_gain f7_dark f7_bright v7_ground v7_patches f7_fromRow f7_toRow f7_left f7_right f7_slant f7_tintOf f7_speckOf f7_leadOf v7_steps f7_stepKind f7_stepBy v7_threshold v7_isOn v7_lines v7_done v7_taken v7_lastPosition v7_position v7_mode v7_next v7_outs v7_stops v7_ticks f7_pixels) s.heap.size = A0 at hD ⊢
  have hA : ∀ q : Nat, s.heap.size ≤ q → A0 q := fun q h => by rw [← hAe]; exact Or.inr h
  have hS : va_S A0 s.heap s.heap [] := va_S.rf
  have hl := lv_entry ([.ref a7, .int p1, .int p2]) (n := 3) (Nat.le_of_ble_eq_true rfl)
  rw [lg_entry_eq]
  generalize (lg_sl ([.ref a7, .int p1, .int p2]) ++ List.replicate (3 - (lg_sl ([.ref a7, .int p1, .int p2])).length) Slot.unset).toArray = ls at hl ⊢
  have hl : lv_has ls 3 [(0, .ref a7), (1, .int p1), (2, .int p2)] := hl
  unfold fX7_pipe at hf
  refine lv_iload_n hx hb dX7_pipe_0 rfl (lv_at hl 1 rfl) ?_
  refine lv_iload_n hx hb dX7_pipe_1 rfl (lv_at hl 2 rfl) ?_
  obtain ⟨r1, hr1, hf⟩ := cl1_sp hf
  refine ro_S (As := [.int p1, .int p2]) ⟨hx, hb, hml, hown, hts⟩ (kX7_isStep l _ p1 p2 r1 hr1) (va_cwS 2 hts gX7_pipe_X7_isStep rfl rfl rfl (by decide +kernel) ⟨Nat.le_of_ble_eq_true rfl, Nat.le_of_ble_eq_true rfl⟩) hS rfl hl.1 rfl (Nat.le_of_ble_eq_true rfl) dX7_pipe_2 (Nat.zero_le _) (Nat.zero_le _) (fun locs hS => ?_)
  refine lv_if_ne (tgt := 11) hx hb dX7_pipe_5 (by decide) (fun hc => ?_) (fun hc => ?_)
  · have hf := it_n hc hf
    refine lv_aload_n hx hb dX7_pipe_11 rfl (lv_at hl 0 rfl) ?_
    refine va_get (D := (dC, dI)) (ci := 6) (v := .int v7_isOn) (C := RX7) (T := TX7) (N := 30) hx hb hts hiX7 hown hK hP 0 rfl rfl 18 (by decide) (hts (.fieldLink RX7 83 "PageLinesModel" "isOn" "Z") (List.mem_of_getElem? (i := 1) rfl)) (fun _ h9 => h9) rfl dX7_pipe_12 ?_
    refine lv_if_eq (tgt := 21) hx hb dX7_pipe_15 (by decide) (fun hc => ?_) (fun hc => ?_)
    · have hf := it_p hc hf
      refine lv_aload_n hx hb dX7_pipe_21 rfl (lv_at hl 0 rfl) ?_
      refine va_get (D := (dC, dI)) (ci := 6) (v := .int v7_steps) (C := RX7) (T := TX7) (N := 30) hx hb hts hiX7 hown hK hP 0 rfl rfl 14 (by decide) (hts (.fieldLink RX7 129 "PageLinesModel" "steps" "I") (List.mem_of_getElem? (i := 2) rfl)) (fun _ h9 => h9) rfl dX7_pipe_22 ?_
      refine lv_iconst (v := (4 : Int32)) hx hb dX7_pipe_25 (by decide) ?_
      refine lv_icmp_ne (tgt := 32) hx hb dX7_pipe_26 (by decide) (fun hc => ?_) (fun hc => ?_)
      · have hf := it_n hc hf
        refine lv_aload_n hx hb dX7_pipe_32 rfl (lv_at hl 0 rfl) ?_
        refine va_get (D := (dC, dI)) (ci := 6) (v := .ref a7_stepKind) (C := RX7) (T := TX7) (N := 30) hx hb hts hiX7 hown hK hP 0 rfl rfl 15 (by decide) (hts (.fieldLink RX7 50 "PageLinesModel" "stepKind" "[I") (List.mem_of_getElem? (i := 3) rfl)) (fun _ h9 => h9) rfl dX7_pipe_33 ?_
        refine lv_aload_n hx hb dX7_pipe_36 rfl (lv_at hl 0 rfl) ?_
        refine va_get (D := (dC, dI)) (ci := 6) (v := .int v7_steps) (C := RX7) (T := TX7) (N := 30) hx hb hts hiX7 hown hK hP 0 rfl rfl 14 (by decide) (hts (.fieldLink RX7 129 "PageLinesModel" "steps" "I") (List.mem_of_getElem? (i := 2) rfl)) (fun _ h9 => h9) rfl dX7_pipe_37 ?_
        refine lv_iload_n hx hb dX7_pipe_40 rfl (lv_at hl 1 rfl) ?_
        obtain ⟨hi_2, hf⟩ := ckI_sp hf
        refine va_iast hx hb hK hP hD hS 13 0 rfl rfl hi_2 dX7_pipe_41 (fun H locs hP hD hS => ?_)
        have hP : va_P (dC, dI) vwCl (WX7 cy a7 a7_offset a7_gain a7_dark a7_bright a7_fromRow a7_toRow a7_left a7_right a7_slant a7_tintOf a7_speckOf a7_leadOf a7_stepKind a7_stepBy a7_pixels f7_offset f7_gain f7_dark f7_bright v7_ground v7_patches f7_fromRow f7_toRow f7_left f7_right f7_slant f7_tintOf f7_speckOf f7_leadOf v7_steps (upd f7_stepKind v7_steps.toNatClampNeg p1) f7_stepBy v7_threshold v7_isOn v7_lines v7_done v7_taken v7_lastPosition v7_position v7_mode v7_next v7_outs v7_stops v7_ticks f7_pixels) H := hP
        have hD : va_D A0 (WX7 cy a7 a7_offset a7_gain a7_dark a7_bright a7_fromRow a7_toRow a7_left a7_right a7_slant a7_tintOf a7_speckOf a7_leadOf a7_stepKind a7_stepBy a7_pixels f7_offset f7_gain f7_dark f7_bright v7_ground v7_patches f7_fromRow f7_toRow f7_left f7_right f7_slant f7_tintOf f7_speckOf f7_leadOf v7_steps (upd f7_stepKind v7_steps.toNatClampNeg p1) f7_stepBy v7_threshold v7_isOn v7_lines v7_done v7_taken v7_lastPosition v7_position v7_mode v7_next v7_outs v7_stops v7_ticks f7_pixels) := hD
        refine lv_aload_n hx hb dX7_pipe_42 rfl (lv_at hl 0 rfl) ?_
        refine va_get (D := (dC, dI)) (ci := 6) (v := .ref a7_stepBy) (C := RX7) (T := TX7) (N := 30) hx hb hts hiX7 hown hK hP 0 rfl rfl 16 (by decide) (hts (.fieldLink RX7 53 "PageLinesModel" "stepBy" "[I") (List.mem_of_getElem? (i := 4) rfl)) (fun _ h9 => h9) rfl dX7_pipe_43 ?_
        refine lv_aload_n hx hb dX7_pipe_46 rfl (lv_at hl 0 rfl) ?_
        refine va_get (D := (dC, dI)) (ci := 6) (v := .int v7_steps) (C := RX7) (T := TX7) (N := 30) hx hb hts hiX7 hown hK hP 0 rfl rfl 14 (by decide) (hts (.fieldLink RX7 129 "PageLinesModel" "steps" "I") (List.mem_of_getElem? (i := 2) rfl)) (fun _ h9 => h9) rfl dX7_pipe_47 ?_
        refine lv_iload_n hx hb dX7_pipe_50 rfl (lv_at hl 2 rfl) ?_
        obtain ⟨hi_3, hf⟩ := ckI_sp hf
        refine va_iast hx hb hK hP hD hS 14 0 rfl rfl hi_3 dX7_pipe_51 (fun H locs hP hD hS => ?_)
        have hP : va_P (dC, dI) vwCl (WX7 cy a7 a7_offset a7_gain a7_dark a7_bright a7_fromRow a7_toRow a7_left a7_right a7_slant a7_tintOf a7_speckOf a7_leadOf a7_stepKind a7_stepBy a7_pixels f7_offset f7_gain f7_dark f7_bright v7_ground v7_patches f7_fromRow f7_toRow f7_left f7_right f7_slant f7_tintOf f7_speckOf f7_leadOf v7_steps (upd f7_stepKind v7_steps.toNatClampNeg p1) (upd f7_stepBy v7_steps.toNatClampNeg p2) v7_threshold v7_isOn v7_lines v7_done v7_taken v7_lastPosition v7_position v7_mode v7_next v7_outs v7_stops v7_ticks f7_pixels) H := hP
        have hD : va_D A0 (WX7 cy a7 a7_offset a7_gain a7_dark a7_bright a7_fromRow a7_toRow a7_left a7_right a7_slant a7_tintOf a7_speckOf a7_leadOf a7_stepKind a7_stepBy a7_pixels f7_offset f7_gain f7_dark f7_bright v7_ground v7_patches f7_fromRow f7_toRow f7_left f7_right f7_slant f7_tintOf f7_speckOf f7_leadOf v7_steps (upd f7_stepKind v7_steps.toNatClampNeg p1) (upd f7_stepBy v7_steps.toNatClampNeg p2) v7_threshold v7_isOn v7_lines v7_done v7_taken v7_lastPosition v7_position v7_mode v7_next v7_outs v7_stops v7_ticks f7_pixels) := hD
        refine lv_aload_n hx hb dX7_pipe_52 rfl (lv_at hl 0 rfl) ?_
        refine lv_dup hx hb dX7_pipe_53 rfl ?_
        refine va_get (D := (dC, dI)) (ci := 6) (v := .int v7_steps) (C := RX7) (T := TX7) (N := 30) hx hb hts hiX7 hown hK hP 0 rfl rfl 14 (by decide) (hts (.fieldLink RX7 129 "PageLinesModel" "steps" "I") (List.mem_of_getElem? (i := 2) rfl)) (fun _ h9 => h9) rfl dX7_pipe_54 ?_
        refine lv_iconst (v := (1 : Int32)) hx hb dX7_pipe_57 (by decide) ?_
        refine lv_iadd hx hb dX7_pipe_58 ?_
        refine va_put (D := (dC, dI)) (ci := 6) (v := .int (v7_steps + (1 : Int32))) (ty := .int) (C := RX7) (T := TX7) (N := 30) hx hb hts hiX7 tyX7 tyX7_ok nmX7 hown hK hP hD hS 0 rfl rfl 14 (by decide) (hts (.fieldLink RX7 129 "PageLinesModel" "steps" "I") (List.mem_of_getElem? (i := 2) rfl)) (fun _ h9 => h9) rfl (by decide +kernel) rfl rfl (Nat.le_of_ble_eq_true rfl) dX7_pipe_59 (fun H locs hP hD hS => ?_)
        have hP : va_P (dC, dI) vwCl (WX7 cy a7 a7_offset a7_gain a7_dark a7_bright a7_fromRow a7_toRow a7_left a7_right a7_slant a7_tintOf a7_speckOf a7_leadOf a7_stepKind a7_stepBy a7_pixels f7_offset f7_gain f7_dark f7_bright v7_ground v7_patches f7_fromRow f7_toRow f7_left f7_right f7_slant f7_tintOf f7_speckOf f7_leadOf (v7_steps + (1 : Int32)) (upd f7_stepKind v7_steps.toNatClampNeg p1) (upd f7_stepBy v7_steps.toNatClampNeg p2) v7_threshold v7_isOn v7_lines v7_done v7_taken v7_lastPosition v7_position v7_mode v7_next v7_outs v7_stops v7_ticks f7_pixels) H := hP
        have hD : va_D A0 (WX7 cy a7 a7_offset a7_gain a7_dark a7_bright a7_fromRow a7_toRow a7_left a7_right a7_slant a7_tintOf a7_speckOf a7_leadOf a7_stepKind a7_stepBy a7_pixels f7_offset f7_gain f7_dark f7_bright v7_ground v7_patches f7_fromRow f7_toRow f7_left f7_right f7_slant f7_tintOf f7_speckOf f7_leadOf (v7_steps + (1 : Int32)) (upd f7_stepKind v7_steps.toNatClampNeg p1) (upd f7_stepBy v7_steps.toNatClampNeg p2) v7_threshold v7_isOn v7_lines v7_done v7_taken v7_lastPosition v7_position v7_mode v7_next v7_outs v7_stops v7_ticks f7_pixels) := hD
        refine lv_aload_n hx hb dX7_pipe_62 rfl (lv_at hl 0 rfl) ?_
        refine va_get (D := (dC, dI)) (ci := 6) (v := .int (v7_steps + (1 : Int32))) (C := RX7) (T := TX7) (N := 30) hx hb hts hiX7 hown hK hP 0 rfl rfl 14 (by decide) (hts (.fieldLink RX7 129 "PageLinesModel" "steps" "I") (List.mem_of_getElem? (i := 2) rfl)) (fun _ h9 => h9) rfl dX7_pipe_63 ?_
        cases hf
        exact W.iret hx hb hr (fun t ht hW => ⟨⟨_, (), rfl, rfl, by rw [ht]; exact hP, hD⟩, hS.F ht⟩) hS.2.2 dX7_pipe_66
      · have hf := it_p hc hf
        refine lv_bipush (v := (-4 : Int32)) hx hb dX7_pipe_29 (by decide) ?_
        cases hf
        exact W.iret hx hb hr (fun t ht hW => ⟨⟨_, (), rfl, rfl, by rw [ht]; exact hP, hD⟩, hS.F ht⟩) hS.2.2 dX7_pipe_31
    · have hf := it_n hc hf
      refine lv_bipush (v := (-3 : Int32)) hx hb dX7_pipe_18 (by decide) ?_
      cases hf
      exact W.iret hx hb hr (fun t ht hW => ⟨⟨_, (), rfl, rfl, by rw [ht]; exact hP, hD⟩, hS.F ht⟩) hS.2.2 dX7_pipe_20
  · have hf := it_p hc hf
    refine lv_bipush (v := (-2 : Int32)) hx hb dX7_pipe_8 (by decide) ?_
    cases hf
    exact W.iret hx hb hr (fun t ht hW => ⟨⟨_, (), rfl, rfl, by rw [ht]; exact hP, hD⟩, hS.F ht⟩) hS.2.2 dX7_pipe_10
set_option maxHeartbeats 4000000 in
set_option maxRecDepth 100000 in
theorem kX7_unpipe (l : Launch) (dC : Nat → ClassId) (dI : Nat → Nat → Nat) (cy : ClassId) (sz : Nat) (a7 a7_offset a7_gain a7_dark a7_bright a7_fromRow a7_toRow a7_left a7_right a7_slant a7_tintOf a7_speckOf a7_leadOf a7_stepKind a7_stepBy a7_pixels : Nat) (f7_offset : Nat → Int32) (f7_gain : Nat → Int32) (f7_dark : Nat → Int32) (f7_bright : Nat → Int32) (v7_ground : Int32) (v7_patches : Int32) (f7_fromRow : Nat → Int32) (f7_toRow : Nat → Int32) (f7_left : Nat → Int32) (f7_right : Nat → Int32) (f7_slant : Nat → Int32) (f7_tintOf : Nat → Int32) (f7_speckOf : Nat → Int32) (f7_leadOf : Nat → Int32) (v7_steps : Int32) (f7_stepKind : Nat → Int32) (f7_stepBy : Nat → Int32) (v7_threshold : Int32) (v7_isOn : Int32) (v7_lines : Int32) (v7_done : Int32) (v7_taken : Int32) (v7_lastPosition : Int32) (v7_position : Int32) (v7_mode : Int32) (v7_next : Int32) (v7_outs : Int32) (v7_stops : Int32) (v7_ticks : Int32) (f7_pixels : Nat → Int32) (p1 : Int32) (r : Int32) (o_v7_steps : Int32) (o_f7_stepKind : Nat → Int32) (o_f7_stepBy : Nat → Int32) (hf : fX7_unpipe v7_steps f7_stepKind f7_stepBy v7_isOn p1 = some (r, o_v7_steps, o_f7_stepKind, o_f7_stepBy)) : Met l yX7_unpipe wsX7_unpipe ({ frames := 1, cells := 0, slots := 0, locals := 22 }) (rwP [.ref a7, .int p1] (dC, dI) vwCl (WX7 cy a7 a7_offset a7_gain a7_dark a7_bright a7_fromRow a7_toRow a7_left a7_right a7_slant a7_tintOf a7_speckOf a7_leadOf a7_stepKind a7_stepBy a7_pixels f7_offset f7_gain f7_dark f7_bright v7_ground v7_patches f7_fromRow f7_toRow f7_left f7_right f7_slant f7_tintOf f7_speckOf f7_leadOf v7_steps f7_stepKind f7_stepBy v7_threshold v7_isOn v7_lines v7_done v7_taken v7_lastPosition v7_position v7_mode v7_next v7_outs v7_stops v7_ticks f7_pixels) [(cy, .int)] sz) (rwQi r (dC, dI) vwCl (WX7 cy a7 a7_offset a7_gain a7_dark a7_bright a7_fromRow a7_toRow a7_left a7_right a7_slant a7_tintOf a7_speckOf a7_leadOf a7_stepKind a7_stepBy a7_pixels f7_offset f7_gain f7_dark f7_bright v7_ground v7_patches f7_fromRow f7_toRow f7_left f7_right f7_slant f7_tintOf f7_speckOf f7_leadOf o_v7_steps o_f7_stepKind o_f7_stepBy v7_threshold v7_isOn v7_lines v7_done v7_taken v7_lastPosition v7_position v7_mode v7_next v7_outs v7_stops v7_ticks f7_pixels) (va_A (WX7 cy a7 a7_offset a7_gain a7_dark a7_bright a7_fromRow a7_toRow a7_left a7_right a7_slant a7_tintOf a7_speckOf a7_leadOf a7_stepKind a7_stepBy a7_pixels f7_offset f7_gain f7_dark f7_bright v7_ground v7_patches f7_fromRow f7_toRow f7_left f7_right f7_slant f7_tintOf f7_speckOf f7_leadOf v7_steps f7_stepKind f7_stepBy v7_threshold v7_isOn v7_lines v7_done v7_taken v7_lastPosition v7_position v7_mode v7_next v7_outs v7_stops v7_ticks f7_pixels) sz)) 0 0 (va_A (WX7 cy a7 a7_offset a7_gain a7_dark a7_bright a7_fromRow a7_toRow a7_left a7_right a7_slant a7_tintOf a7_speckOf a7_leadOf a7_stepKind a7_stepBy a7_pixels f7_offset f7_gain f7_dark f7_bright v7_ground v7_patches f7_fromRow f7_toRow f7_left f7_right f7_slant f7_tintOf f7_speckOf f7_leadOf v7_steps f7_stepKind f7_stepBy v7_threshold v7_isOn v7_lines v7_done v7_taken v7_lastPosition v7_position v7_mode v7_next v7_outs v7_stops v7_ticks f7_pixels) sz) := by
  refine Met.ofW (cc := cX7_unpipe) (maxL := 3) (ret := (some .int)) (by decide) rfl ?_
  intro p e s m args below meth c s₁ B hml hv
  obtain ⟨rfl, hsz, hP, hK, hD0⟩ := hv
  have hx := B.exec
  have hb := B.bytes
  have hr := B.returns
  have hts := atoms_spec (ws := wsX7_unpipe) B.pre
  have hown : s.vm.findClass RX7 = some m.cls := findClass_of_methodNamed B.named
  have hlocks := B.notSynchronized
  have hiX7 : ∀ w ∈ u_ws RX7 TX7 30, w ∈ wsX7_unpipe := fun _ h => List.mem_cons_of_mem _ ((List.mem_append_right _ h))
  subst hsz
  have hD := hD0.self (sz := s.heap.size)
  generalize hAe : va_A (WX7 cy a7 a7_offset a7_gain a7_dark a7_bright a7_fromRow a7_toRow a7_left a7_right a7_slant a7_tintOf a7_speckOf a7_leadOf a7_stepKind a7_stepBy a7_pixels f7_offset f7_gain f7_dark f7_bright v7_ground v7_patches f7_fromRow f7_toRow f7_left f7_right f7_slant f7_tintOf f7_speckOf f7_leadOf v7_steps f7_stepKind f7_stepBy v7_threshold v7_isOn v7_lines v7_done v7_taken v7_lastPosition v7_position v7_mode v7_next v7_outs v7_stops v7_ticks f7_pixels) s.heap.size = A0 at hD ⊢
  have hA : ∀ q : Nat, s.heap.size ≤ q → A0 q := fun q h => by rw [← hAe]; exact Or.inr h
  have hS : va_S A0 s.heap s.heap [] := va_S.rf
  have hb_38 : ∀ (n : Nat) (v7_steps : Int32) (f7_stepKind : Nat → Int32) (f7_stepBy : Nat → Int32) (x2 : Int32), bX7_unpipe_38 n v7_steps f7_stepKind f7_stepBy x2 = some (r, o_v7_steps, o_f7_stepKind, o_f7_stepBy) → ∀ (H : Heap) (locs : List Loc) (ls : Array Slot), va_P (dC, dI) vwCl (WX7 cy a7 a7_offset a7_gain a7_dark a7_bright a7_fromRow a7_toRow a7_left a7_right a7_slant a7_tintOf a7_speckOf a7_leadOf a7_stepKind a7_stepBy a7_pixels f7_offset f7_gain f7_dark f7_bright v7_ground v7_patches f7_fromRow f7_toRow f7_left f7_right f7_slant f7_tintOf f7_speckOf f7_leadOf v7_steps f7_stepKind f7_stepBy v7_threshold v7_isOn v7_lines v7_done v7_taken v7_lastPosition v7_position v7_mode v7_next v7_outs v7_stops v7_ticks f7_pixels) H → va_D A0 (WX7 cy a7 a7_offset a7_gain a7_dark a7_bright a7_fromRow a7_toRow a7_left a7_right a7_slant a7_tintOf a7_speckOf a7_leadOf a7_stepKind a7_stepBy a7_pixels f7_offset f7_gain f7_dark f7_bright v7_ground v7_patches f7_fromRow f7_toRow f7_left f7_right f7_slant f7_tintOf f7_speckOf f7_leadOf v7_steps f7_stepKind f7_stepBy v7_threshold v7_isOn v7_lines v7_done v7_taken v7_lastPosition v7_position v7_mode v7_next v7_outs v7_stops v7_ticks f7_pixels) → va_S A0 s.heap H locs → lv_has ls 3 [(0, .ref a7), (2, .int x2)] → W p l e (headSpec wsX7_unpipe ({ frames := 1, cells := 0, slots := 0, locals := 22 })).room s m ([.ref a7, .int p1] : List Value).toArray below meth c H locs 0 0 (MQ below (rwQi r (dC, dI) vwCl (WX7 cy a7 a7_offset a7_gain a7_dark a7_bright a7_fromRow a7_toRow a7_left a7_right a7_slant a7_tintOf a7_speckOf a7_leadOf a7_stepKind a7_stepBy a7_pixels f7_offset f7_gain f7_dark f7_bright v7_ground v7_patches f7_fromRow f7_toRow f7_left f7_right f7_slant f7_tintOf f7_speckOf f7_leadOf o_v7_steps o_f7_stepKind o_f7_stepBy v7_threshold v7_isOn v7_lines v7_done v7_taken v7_lastPosition v7_position v7_mode v7_next v7_outs v7_stops v7_ticks f7_pixels) A0) ([.ref a7, .int p1] : List Value).toArray s 0 0 A0) (F0 m 38 ls []) := by
    intro n
    induction n with
    | zero => intro v7_steps f7_stepKind f7_stepBy x2 hf; rw [bX7_unpipe_38] at hf; cases hf
    | succ n38 ih38 =>
      intro v7_steps f7_stepKind f7_stepBy x2 hf H locs ls hP hD hS hl
      rw [bX7_unpipe_38] at hf
      refine lv_iload_n hx hb dX7_unpipe_38 rfl (lv_at hl 1 rfl) ?_
      refine lv_aload_n hx hb dX7_unpipe_39 rfl (lv_at hl 0 rfl) ?_
      refine va_get (D := (dC, dI)) (ci := 6) (v := .int v7_steps) (C := RX7) (T := TX7) (N := 30) hx hb hts hiX7 hown hK hP 0 rfl rfl 14 (by decide) (hts (.fieldLink RX7 129 "PageLinesModel" "steps" "I") (List.mem_of_getElem? (i := 1) rfl)) (fun _ h9 => h9) rfl dX7_unpipe_40 ?_
      refine lv_icmp_ge (tgt := 80) hx hb dX7_unpipe_43 (by decide) (fun hc => ?_) (fun hc => ?_)
      · have hf := it_p hc hf
        refine lv_aload_n hx hb dX7_unpipe_80 rfl (lv_at hl 0 rfl) ?_
        refine va_get (D := (dC, dI)) (ci := 6) (v := .int v7_steps) (C := RX7) (T := TX7) (N := 30) hx hb hts hiX7 hown hK hP 0 rfl rfl 14 (by decide) (hts (.fieldLink RX7 129 "PageLinesModel" "steps" "I") (List.mem_of_getElem? (i := 1) rfl)) (fun _ h9 => h9) rfl dX7_unpipe_81 ?_
        cases hf
        exact W.iret hx hb hr (fun t ht hW => ⟨⟨_, (), rfl, rfl, by rw [ht]; exact hP, hD⟩, hS.F ht⟩) hS.2.2 dX7_unpipe_84
      · have hf := it_n hc hf
        refine lv_aload_n hx hb dX7_unpipe_46 rfl (lv_at hl 0 rfl) ?_
        refine va_get (D := (dC, dI)) (ci := 6) (v := .ref a7_stepKind) (C := RX7) (T := TX7) (N := 30) hx hb hts hiX7 hown hK hP 0 rfl rfl 15 (by decide) (hts (.fieldLink RX7 50 "PageLinesModel" "stepKind" "[I") (List.mem_of_getElem? (i := 3) rfl)) (fun _ h9 => h9) rfl dX7_unpipe_47 ?_
        refine lv_iload_n hx hb dX7_unpipe_50 rfl (lv_at hl 1 rfl) ?_
        refine lv_aload_n hx hb dX7_unpipe_51 rfl (lv_at hl 0 rfl) ?_
        refine va_get (D := (dC, dI)) (ci := 6) (v := .ref a7_stepKind) (C := RX7) (T := TX7) (N := 30) hx hb hts hiX7 hown hK hP 0 rfl rfl 15 (by decide) (hts (.fieldLink RX7 50 "PageLinesModel" "stepKind" "[I") (List.mem_of_getElem? (i := 3) rfl)) (fun _ h9 => h9) rfl dX7_unpipe_52 ?_
        refine lv_iload_n hx hb dX7_unpipe_55 rfl (lv_at hl 1 rfl) ?_
        refine lv_iconst (v := (1 : Int32)) hx hb dX7_unpipe_56 (by decide) ?_
        refine lv_iadd hx hb dX7_unpipe_57 ?_
        obtain ⟨hi_6, hf⟩ := ckI_sp hf
        refine va_iald hx hb hK hP 13 0 rfl rfl hi_6 dX7_unpipe_58 ?_
        obtain ⟨hi_7, hf⟩ := ckI_sp hf
        refine va_iast hx hb hK hP hD hS 13 0 rfl rfl hi_7 dX7_unpipe_59 (fun H locs hP hD hS => ?_)
        have hP : va_P (dC, dI) vwCl (WX7 cy a7 a7_offset a7_gain a7_dark a7_bright a7_fromRow a7_toRow a7_left a7_right a7_slant a7_tintOf a7_speckOf a7_leadOf a7_stepKind a7_stepBy a7_pixels f7_offset f7_gain f7_dark f7_bright v7_ground v7_patches f7_fromRow f7_toRow f7_left f7_right f7_slant f7_tintOf f7_speckOf f7_leadOf v7_steps (upd f7_stepKind x2.toNatClampNeg (f7_stepKind (x2 + (1 : Int32)).toNatClampNeg)) f7_stepBy v7_threshold v7_isOn v7_lines v7_done v7_taken v7_lastPosition v7_position v7_mode v7_next v7_outs v7_stops v7_ticks f7_pixels) H := hP
        have hD : va_D A0 (WX7 cy a7 a7_offset a7_gain a7_dark a7_bright a7_fromRow a7_toRow a7_left a7_right a7_slant a7_tintOf a7_speckOf a7_leadOf a7_stepKind a7_stepBy a7_pixels f7_offset f7_gain f7_dark f7_bright v7_ground v7_patches f7_fromRow f7_toRow f7_left f7_right f7_slant f7_tintOf f7_speckOf f7_leadOf v7_steps (upd f7_stepKind x2.toNatClampNeg (f7_stepKind (x2 + (1 : Int32)).toNatClampNeg)) f7_stepBy v7_threshold v7_isOn v7_lines v7_done v7_taken v7_lastPosition v7_position v7_mode v7_next v7_outs v7_stops v7_ticks f7_pixels) := hD
        refine lv_aload_n hx hb dX7_unpipe_60 rfl (lv_at hl 0 rfl) ?_
        refine va_get (D := (dC, dI)) (ci := 6) (v := .ref a7_stepBy) (C := RX7) (T := TX7) (N := 30) hx hb hts hiX7 hown hK hP 0 rfl rfl 16 (by decide) (hts (.fieldLink RX7 53 "PageLinesModel" "stepBy" "[I") (List.mem_of_getElem? (i := 4) rfl)) (fun _ h9 => h9) rfl dX7_unpipe_61 ?_
        refine lv_iload_n hx hb dX7_unpipe_64 rfl (lv_at hl 1 rfl) ?_
        refine lv_aload_n hx hb dX7_unpipe_65 rfl (lv_at hl 0 rfl) ?_
        refine va_get (D := (dC, dI)) (ci := 6) (v := .ref a7_stepBy) (C := RX7) (T := TX7) (N := 30) hx hb hts hiX7 hown hK hP 0 rfl rfl 16 (by decide) (hts (.fieldLink RX7 53 "PageLinesModel" "stepBy" "[I") (List.mem_of_getElem? (i := 4) rfl)) (fun _ h9 => h9) rfl dX7_unpipe_66 ?_
        refine lv_iload_n hx hb dX7_unpipe_69 rfl (lv_at hl 1 rfl) ?_
        refine lv_iconst (v := (1 : Int32)) hx hb dX7_unpipe_70 (by decide) ?_
        refine lv_iadd hx hb dX7_unpipe_71 ?_
        obtain ⟨hi_8, hf⟩ := ckI_sp hf
        refine va_iald hx hb hK hP 14 0 rfl rfl hi_8 dX7_unpipe_72 ?_
        obtain ⟨hi_9, hf⟩ := ckI_sp hf
        refine va_iast hx hb hK hP hD hS 14 0 rfl rfl hi_9 dX7_unpipe_73 (fun H locs hP hD hS => ?_)
        have hP : va_P (dC, dI) vwCl (WX7 cy a7 a7_offset a7_gain a7_dark a7_bright a7_fromRow a7_toRow a7_left a7_right a7_slant a7_tintOf a7_speckOf a7_leadOf a7_stepKind a7_stepBy a7_pixels f7_offset f7_gain f7_dark f7_bright v7_ground v7_patches f7_fromRow f7_toRow f7_left f7_right f7_slant f7_tintOf f7_speckOf f7_leadOf v7_steps (upd f7_stepKind x2.toNatClampNeg (f7_stepKind (x2 + (1 : Int32)).toNatClampNeg)) (upd f7_stepBy x2.toNatClampNeg (f7_stepBy (x2 + (1 : Int32)).toNatClampNeg)) v7_threshold v7_isOn v7_lines v7_done v7_taken v7_lastPosition v7_position v7_mode v7_next v7_outs v7_stops v7_ticks f7_pixels) H := hP
        have hD : va_D A0 (WX7 cy a7 a7_offset a7_gain a7_dark a7_bright a7_fromRow a7_toRow a7_left a7_right a7_slant a7_tintOf a7_speckOf a7_leadOf a7_stepKind a7_stepBy a7_pixels f7_offset f7_gain f7_dark f7_bright v7_ground v7_patches f7_fromRow f7_toRow f7_left f7_right f7_slant f7_tintOf f7_speckOf f7_leadOf v7_steps (upd f7_stepKind x2.toNatClampNeg (f7_stepKind (x2 + (1 : Int32)).toNatClampNeg)) (upd f7_stepBy x2.toNatClampNeg (f7_stepBy (x2 + (1 : Int32)).toNatClampNeg)) v7_threshold v7_isOn v7_lines v7_done v7_taken v7_lastPosition v7_position v7_mode v7_next v7_outs v7_stops v7_ticks f7_pixels) := hD
        refine lv_iinc (v := x2 + (1 : Int32)) (lv' := [(2, .int (x2 + (1 : Int32))), (0, .ref a7)]) hx hb dX7_unpipe_74 hl (k := 1) rfl rfl (by decide) rfl (fun ls hl => ?_)
        refine lv_goto (tgt := 38) hx hb dX7_unpipe_77 (by decide) ?_
        exact ih38 v7_steps (upd f7_stepKind x2.toNatClampNeg (f7_stepKind (x2 + (1 : Int32)).toNatClampNeg)) (upd f7_stepBy x2.toNatClampNeg (f7_stepBy (x2 + (1 : Int32)).toNatClampNeg)) (x2 + (1 : Int32)) hf _ _ _ hP hD hS (lv_sub hl [1, 0] rfl)
  have hl := lv_entry ([.ref a7, .int p1]) (n := 3) (Nat.le_of_ble_eq_true rfl)
  rw [lg_entry_eq]
  generalize (lg_sl ([.ref a7, .int p1]) ++ List.replicate (3 - (lg_sl ([.ref a7, .int p1])).length) Slot.unset).toArray = ls at hl ⊢
  have hl : lv_has ls 3 [(0, .ref a7), (1, .int p1)] := hl
  unfold fX7_unpipe at hf
  refine lv_iload_n hx hb dX7_unpipe_0 rfl (lv_at hl 1 rfl) ?_
  refine lv_iconst (v := (0 : Int32)) hx hb dX7_unpipe_1 (by decide) ?_
  refine lv_aload_n hx hb dX7_unpipe_2 rfl (lv_at hl 0 rfl) ?_
  refine va_get (D := (dC, dI)) (ci := 6) (v := .int v7_steps) (C := RX7) (T := TX7) (N := 30) hx hb hts hiX7 hown hK hP 0 rfl rfl 14 (by decide) (hts (.fieldLink RX7 129 "PageLinesModel" "steps" "I") (List.mem_of_getElem? (i := 1) rfl)) (fun _ h9 => h9) rfl dX7_unpipe_3 ?_
  refine lv_iconst (v := (1 : Int32)) hx hb dX7_unpipe_6 (by decide) ?_
  refine lv_isub hx hb dX7_unpipe_7 ?_
  obtain ⟨r1, hr1, hf⟩ := cl1_sp hf
  refine ro_S (As := [.int p1, .int (0 : Int32), .int (v7_steps - (1 : Int32))]) ⟨hx, hb, hml, hown, hts⟩ (kX7_within l _ p1 (0 : Int32) (v7_steps - (1 : Int32)) r1 hr1) (va_cwS 3 hts gX7_unpipe_X7_within rfl rfl rfl (by decide +kernel) ⟨Nat.le_of_ble_eq_true rfl, Nat.le_of_ble_eq_true rfl⟩) hS rfl hl.1 rfl (Nat.le_of_ble_eq_true rfl) dX7_unpipe_8 (Nat.zero_le _) (Nat.zero_le _) (fun locs hS => ?_)
  refine lv_if_ne (tgt := 16) hx hb dX7_unpipe_11 (by decide) (fun hc => ?_) (fun hc => ?_)
  · have hf := it_n hc hf
    refine lv_aload_n hx hb dX7_unpipe_16 rfl (lv_at hl 0 rfl) ?_
    refine va_get (D := (dC, dI)) (ci := 6) (v := .int v7_isOn) (C := RX7) (T := TX7) (N := 30) hx hb hts hiX7 hown hK hP 0 rfl rfl 18 (by decide) (hts (.fieldLink RX7 83 "PageLinesModel" "isOn" "Z") (List.mem_of_getElem? (i := 2) rfl)) (fun _ h9 => h9) rfl dX7_unpipe_17 ?_
    refine lv_if_eq (tgt := 26) hx hb dX7_unpipe_20 (by decide) (fun hc => ?_) (fun hc => ?_)
    · have hf := it_p hc hf
      refine lv_aload_n hx hb dX7_unpipe_26 rfl (lv_at hl 0 rfl) ?_
      refine lv_dup hx hb dX7_unpipe_27 rfl ?_
      refine va_get (D := (dC, dI)) (ci := 6) (v := .int v7_steps) (C := RX7) (T := TX7) (N := 30) hx hb hts hiX7 hown hK hP 0 rfl rfl 14 (by decide) (hts (.fieldLink RX7 129 "PageLinesModel" "steps" "I") (List.mem_of_getElem? (i := 1) rfl)) (fun _ h9 => h9) rfl dX7_unpipe_28 ?_
      refine lv_iconst (v := (1 : Int32)) hx hb dX7_unpipe_31 (by decide) ?_
      refine lv_isub hx hb dX7_unpipe_32 ?_
      refine va_put (D := (dC, dI)) (ci := 6) (v := .int (v7_steps - (1 : Int32))) (ty := .int) (C := RX7) (T := TX7) (N := 30) hx hb hts hiX7 tyX7 tyX7_ok nmX7 hown hK hP hD hS 0 rfl rfl 14 (by decide) (hts (.fieldLink RX7 129 "PageLinesModel" "steps" "I") (List.mem_of_getElem? (i := 1) rfl)) (fun _ h9 => h9) rfl (by decide +kernel) rfl rfl (Nat.le_of_ble_eq_true rfl) dX7_unpipe_33 (fun H locs hP hD hS => ?_)
      have hP : va_P (dC, dI) vwCl (WX7 cy a7 a7_offset a7_gain a7_dark a7_bright a7_fromRow a7_toRow a7_left a7_right a7_slant a7_tintOf a7_speckOf a7_leadOf a7_stepKind a7_stepBy a7_pixels f7_offset f7_gain f7_dark f7_bright v7_ground v7_patches f7_fromRow f7_toRow f7_left f7_right f7_slant f7_tintOf f7_speckOf f7_leadOf (v7_steps - (1 : Int32)) f7_stepKind f7_stepBy v7_threshold v7_isOn v7_lines v7_done v7_taken v7_lastPosition v7_position v7_mode v7_next v7_outs v7_stops v7_ticks f7_pixels) H := hP
      have hD : va_D A0 (WX7 cy a7 a7_offset a7_gain a7_dark a7_bright a7_fromRow a7_toRow a7_left a7_right a7_slant a7_tintOf a7_speckOf a7_leadOf a7_stepKind a7_stepBy a7_pixels f7_offset f7_gain f7_dark f7_bright v7_ground v7_patches f7_fromRow f7_toRow f7_left f7_right f7_slant f7_tintOf f7_speckOf f7_leadOf (v7_steps - (1 : Int32)) f7_stepKind f7_stepBy v7_threshold v7_isOn v7_lines v7_done v7_taken v7_lastPosition v7_position v7_mode v7_next v7_outs v7_stops v7_ticks f7_pixels) := hD
      refine lv_iload_n hx hb dX7_unpipe_36 rfl (lv_at hl 1 rfl) ?_
      refine lv_istore_n (lv' := [(2, .int p1), (0, .ref a7), (1, .int p1)]) hx hb dX7_unpipe_37 rfl hl (by decide) rfl (fun ls hl => ?_)
      exact hb_38 300 (v7_steps - (1 : Int32)) f7_stepKind f7_stepBy p1 hf _ _ _ hP hD hS (lv_sub hl [1, 0] rfl)
    · have hf := it_n hc hf
      refine lv_bipush (v := (-3 : Int32)) hx hb dX7_unpipe_23 (by decide) ?_
      cases hf
      exact W.iret hx hb hr (fun t ht hW => ⟨⟨_, (), rfl, rfl, by rw [ht]; exact hP, hD⟩, hS.F ht⟩) hS.2.2 dX7_unpipe_25
  · have hf := it_p hc hf
    refine lv_iconst (v := (-1 : Int32)) hx hb dX7_unpipe_14 (by decide) ?_
    cases hf
    exact W.iret hx hb hr (fun t ht hW => ⟨⟨_, (), rfl, rfl, by rw [ht]; exact hP, hD⟩, hS.F ht⟩) hS.2.2 dX7_unpipe_15
set_option maxHeartbeats 4000000 in
set_option maxRecDepth 100000 in
theorem kX7_pipedOf (l : Launch) (dC : Nat → ClassId) (dI : Nat → Nat → Nat) (cy : ClassId) (H : Heap) (a7 a7_offset a7_gain a7_dark a7_bright a7_fromRow a7_toRow a7_left a7_right a7_slant a7_tintOf a7_speckOf a7_leadOf a7_stepKind a7_stepBy a7_pixels : Nat) (f7_offset : Nat → Int32) (f7_gain : Nat → Int32) (f7_dark : Nat → Int32) (f7_bright : Nat → Int32) (v7_ground : Int32) (v7_patches : Int32) (f7_fromRow : Nat → Int32) (f7_toRow : Nat → Int32) (f7_left : Nat → Int32) (f7_right : Nat → Int32) (f7_slant : Nat → Int32) (f7_tintOf : Nat → Int32) (f7_speckOf : Nat → Int32) (f7_leadOf : Nat → Int32) (v7_steps : Int32) (f7_stepKind : Nat → Int32) (f7_stepBy : Nat → Int32) (v7_threshold : Int32) (v7_isOn : Int32) (v7_lines : Int32) (v7_done : Int32) (v7_taken : Int32) (v7_lastPosition : Int32) (v7_position : Int32) (v7_mode : Int32) (v7_next : Int32) (v7_outs : Int32) (v7_stops : Int32) (v7_ticks : Int32) (f7_pixels : Nat → Int32) (p1 : Int32) (r : Int32) (hf : fX7_pipedOf v7_steps f7_stepKind f7_stepBy p1 = some r) : Met l yX7_pipedOf wsX7_pipedOf ({ frames := 1, cells := 0, slots := 0, locals := 21 }) (roP [.ref a7, .int p1] (dC, dI) vwCl (WX7 cy a7 a7_offset a7_gain a7_dark a7_bright a7_fromRow a7_toRow a7_left a7_right a7_slant a7_tintOf a7_speckOf a7_leadOf a7_stepKind a7_stepBy a7_pixels f7_offset f7_gain f7_dark f7_bright v7_ground v7_patches f7_fromRow f7_toRow f7_left f7_right f7_slant f7_tintOf f7_speckOf f7_leadOf v7_steps f7_stepKind f7_stepBy v7_threshold v7_isOn v7_lines v7_done v7_taken v7_lastPosition v7_position v7_mode v7_next v7_outs v7_stops v7_ticks f7_pixels) [(cy, .int)] H) (roQi r H) 0 0 (fun _ => False) := by
  refine Met.ofW (cc := cX7_pipedOf) (maxL := 5) (ret := (some .int)) (by decide) rfl ?_
  intro p e s m args below meth c s₁ B hml hv
  obtain ⟨rfl, hH, hP, hK⟩ := hv
  have hx := B.exec
  have hb := B.bytes
  have hr := B.returns
  have hts := atoms_spec (ws := wsX7_pipedOf) B.pre
  have hown : s.vm.findClass RX7 = some m.cls := findClass_of_methodNamed B.named
  have hlocks := B.notSynchronized
  have hiX7 : ∀ w ∈ u_ws RX7 TX7 30, w ∈ wsX7_pipedOf := fun _ h => List.mem_cons_of_mem _ ((List.mem_append_right _ h))
  subst hH
  have hS : va_S (fun _ => False) s.heap s.heap [] := va_S.rf
  have hb_4 : ∀ (n : Nat) (x2 : Int32) (x3 : Int32), bX7_pipedOf_4 v7_steps f7_stepKind f7_stepBy n x2 x3 = some r → ∀ (locs : List Loc) (ls : Array Slot), va_S (fun _ => False) s.heap s.heap locs → lv_has ls 5 [(0, .ref a7), (2, .int x2), (3, .int x3)] → W p l e (headSpec wsX7_pipedOf ({ frames := 1, cells := 0, slots := 0, locals := 21 })).room s m ([.ref a7, .int p1] : List Value).toArray below meth c s.heap locs 0 0 (MQ below (roQi r s.heap) ([.ref a7, .int p1] : List Value).toArray s 0 0 (fun _ => False)) (F0 m 4 ls []) := by
    intro n
    induction n with
    | zero => intro x2 x3 hf; rw [bX7_pipedOf_4] at hf; cases hf
    | succ n4 ih4 =>
      intro x2 x3 hf locs ls hS hl
      rw [bX7_pipedOf_4] at hf
      refine lv_iload_n hx hb dX7_pipedOf_4 rfl (lv_at hl 2 rfl) ?_
      refine lv_aload_n hx hb dX7_pipedOf_5 rfl (lv_at hl 0 rfl) ?_
      refine va_get (D := (dC, dI)) (ci := 6) (v := .int v7_steps) (C := RX7) (T := TX7) (N := 30) hx hb hts hiX7 hown hK hP 0 rfl rfl 14 (by decide) (hts (.fieldLink RX7 129 "PageLinesModel" "steps" "I") (List.mem_of_getElem? (i := 1) rfl)) (fun _ h9 => h9) rfl dX7_pipedOf_6 ?_
      refine lv_icmp_ge (tgt := 116) hx hb dX7_pipedOf_9 (by decide) (fun hc => ?_) (fun hc => ?_)
      · have hf := it_p hc hf
        refine lv_iload_n hx hb dX7_pipedOf_116 rfl (lv_at hl 1 rfl) ?_
        exact W.iret (v := x2) hx hb hr (fun t ht hW => ⟨⟨_, (), rfl, Option.some.inj hf, ht⟩, hS.F ht⟩) hS.2.2 dX7_pipedOf_117
      · have hf := it_n hc hf
        refine lv_aload_n hx hb dX7_pipedOf_12 rfl (lv_at hl 0 rfl) ?_
        refine va_get (D := (dC, dI)) (ci := 6) (v := .ref a7_stepBy) (C := RX7) (T := TX7) (N := 30) hx hb hts hiX7 hown hK hP 0 rfl rfl 16 (by decide) (hts (.fieldLink RX7 53 "PageLinesModel" "stepBy" "[I") (List.mem_of_getElem? (i := 2) rfl)) (fun _ h9 => h9) rfl dX7_pipedOf_13 ?_
        refine lv_iload_n hx hb dX7_pipedOf_16 rfl (lv_at hl 2 rfl) ?_
        obtain ⟨hi_9, hf⟩ := ckI_sp hf
        refine va_iald hx hb hK hP 14 0 rfl rfl hi_9 dX7_pipedOf_17 ?_
        refine lv_istore (lv' := [(4, .int (f7_stepBy x3.toNatClampNeg)), (0, .ref a7), (2, .int x2), (3, .int x3)]) hx hb dX7_pipedOf_18 hl (by decide) rfl (fun ls hl => ?_)
        refine lv_aload_n hx hb dX7_pipedOf_20 rfl (lv_at hl 1 rfl) ?_
        refine va_get (D := (dC, dI)) (ci := 6) (v := .ref a7_stepKind) (C := RX7) (T := TX7) (N := 30) hx hb hts hiX7 hown hK hP 0 rfl rfl 15 (by decide) (hts (.fieldLink RX7 50 "PageLinesModel" "stepKind" "[I") (List.mem_of_getElem? (i := 3) rfl)) (fun _ h9 => h9) rfl dX7_pipedOf_21 ?_
        refine lv_iload_n hx hb dX7_pipedOf_24 rfl (lv_at hl 3 rfl) ?_
        obtain ⟨hi_10, hf⟩ := ckI_sp hf
        refine va_iald hx hb hK hP 13 0 rfl rfl hi_10 dX7_pipedOf_25 ?_
        by_cases hs11 : (f7_stepKind x3.toNatClampNeg) = (0 : Int32)
        · refine lv_tableIn (tgt := 52) (off := 26) hx hb dX7_pipedOf_26 (by rw [hs11]; decide) (by rw [hs11]; decide) (by rw [hs11]; rfl) (by decide) ?_
          have hf := it_p hs11 hf
          refine lv_sipush (v := (255 : Int32)) hx hb dX7_pipedOf_52 (by decide) ?_
          refine lv_iload_n hx hb dX7_pipedOf_55 rfl (lv_at hl 2 rfl) ?_
          refine lv_isub hx hb dX7_pipedOf_56 ?_
          refine lv_istore_n (lv' := [(2, .int ((255 : Int32) - x2)), (4, .int (f7_stepBy x3.toNatClampNeg)), (0, .ref a7), (3, .int x3)]) hx hb dX7_pipedOf_57 rfl hl (by decide) rfl (fun ls hl => ?_)
          refine lv_goto (tgt := 110) hx hb dX7_pipedOf_58 (by decide) ?_
          refine lv_iinc (v := x3 + (1 : Int32)) (lv' := [(3, .int (x3 + (1 : Int32))), (2, .int ((255 : Int32) - x2)), (4, .int (f7_stepBy x3.toNatClampNeg)), (0, .ref a7)]) hx hb dX7_pipedOf_110 hl (k := 3) rfl rfl (by decide) rfl (fun ls hl => ?_)
          refine lv_goto (tgt := 4) hx hb dX7_pipedOf_113 (by decide) ?_
          exact ih4 ((255 : Int32) - x2) (x3 + (1 : Int32)) hf _ _ hS (lv_sub hl [3, 1, 0] rfl)
        · have hf := it_n hs11 hf
          by_cases hs12 : (f7_stepKind x3.toNatClampNeg) = (1 : Int32)
          · refine lv_tableIn (tgt := 61) (off := 35) hx hb dX7_pipedOf_26 (by rw [hs12]; decide) (by rw [hs12]; decide) (by rw [hs12]; rfl) (by decide) ?_
            have hf := it_p hs12 hf
            refine lv_iload hx hb dX7_pipedOf_61 (lv_at hl 0 rfl) ?_
            refine lv_iload_n hx hb dX7_pipedOf_63 rfl (lv_at hl 2 rfl) ?_
            refine lv_imul hx hb dX7_pipedOf_64 ?_
            refine lv_bipush (v := (16 : Int32)) hx hb dX7_pipedOf_65 (by decide) ?_
            refine lv_idiv hx hb dX7_pipedOf_67 (by decide) ?_
            refine lv_sipush (v := (255 : Int32)) hx hb dX7_pipedOf_68 (by decide) ?_
            obtain ⟨r13, hr13, hf⟩ := cl1_sp hf
            refine ro_S (As := [.int (((f7_stepBy x3.toNatClampNeg) * x2) / (16 : Int32)), .int (255 : Int32)]) ⟨hx, hb, hml, hown, hts⟩ (kX7_atMost l _ (((f7_stepBy x3.toNatClampNeg) * x2) / (16 : Int32)) (255 : Int32) r13 hr13) (va_cwS 2 hts gX7_pipedOf_X7_atMost rfl rfl rfl (by decide +kernel) ⟨Nat.le_of_ble_eq_true rfl, Nat.le_of_ble_eq_true rfl⟩) hS rfl hl.1 rfl (Nat.le_of_ble_eq_true rfl) dX7_pipedOf_71 (Nat.zero_le _) (Nat.zero_le _) (fun locs hS => ?_)
            refine lv_istore_n (lv' := [(2, .int r13), (4, .int (f7_stepBy x3.toNatClampNeg)), (0, .ref a7), (3, .int x3)]) hx hb dX7_pipedOf_74 rfl hl (by decide) rfl (fun ls hl => ?_)
            refine lv_goto (tgt := 110) hx hb dX7_pipedOf_75 (by decide) ?_
            refine lv_iinc (v := x3 + (1 : Int32)) (lv' := [(3, .int (x3 + (1 : Int32))), (2, .int r13), (4, .int (f7_stepBy x3.toNatClampNeg)), (0, .ref a7)]) hx hb dX7_pipedOf_110 hl (k := 3) rfl rfl (by decide) rfl (fun ls hl => ?_)
            refine lv_goto (tgt := 4) hx hb dX7_pipedOf_113 (by decide) ?_
            exact ih4 r13 (x3 + (1 : Int32)) hf _ _ hS (lv_sub hl [3, 1, 0] rfl)
          · have hf := it_n hs12 hf
            by_cases hs14 : (f7_stepKind x3.toNatClampNeg) = (2 : Int32)
            · refine lv_tableIn (tgt := 78) (off := 52) hx hb dX7_pipedOf_26 (by rw [hs14]; decide) (by rw [hs14]; decide) (by rw [hs14]; rfl) (by decide) ?_
              have hf := it_p hs14 hf
              refine lv_iload_n hx hb dX7_pipedOf_78 rfl (lv_at hl 2 rfl) ?_
              refine lv_iload hx hb dX7_pipedOf_79 (lv_at hl 0 rfl) ?_
              refine lv_iadd hx hb dX7_pipedOf_81 ?_
              refine lv_sipush (v := (255 : Int32)) hx hb dX7_pipedOf_82 (by decide) ?_
              obtain ⟨r15, hr15, hf⟩ := cl1_sp hf
              refine ro_S (As := [.int (x2 + (f7_stepBy x3.toNatClampNeg)), .int (255 : Int32)]) ⟨hx, hb, hml, hown, hts⟩ (kX7_atMost l _ (x2 + (f7_stepBy x3.toNatClampNeg)) (255 : Int32) r15 hr15) (va_cwS 2 hts gX7_pipedOf_X7_atMost rfl rfl rfl (by decide +kernel) ⟨Nat.le_of_ble_eq_true rfl, Nat.le_of_ble_eq_true rfl⟩) hS rfl hl.1 rfl (Nat.le_of_ble_eq_true rfl) dX7_pipedOf_85 (Nat.zero_le _) (Nat.zero_le _) (fun locs hS => ?_)
              refine lv_iconst (v := (0 : Int32)) hx hb dX7_pipedOf_88 (by decide) ?_
              obtain ⟨r16, hr16, hf⟩ := cl1_sp hf
              refine ro_S (As := [.int r15, .int (0 : Int32)]) ⟨hx, hb, hml, hown, hts⟩ (kX7_atLeast l _ r15 (0 : Int32) r16 hr16) (va_cwS 2 hts gX7_pipedOf_X7_atLeast rfl rfl rfl (by decide +kernel) ⟨Nat.le_of_ble_eq_true rfl, Nat.le_of_ble_eq_true rfl⟩) hS rfl hl.1 rfl (Nat.le_of_ble_eq_true rfl) dX7_pipedOf_89 (Nat.zero_le _) (Nat.zero_le _) (fun locs hS => ?_)
              refine lv_istore_n (lv' := [(2, .int r16), (4, .int (f7_stepBy x3.toNatClampNeg)), (0, .ref a7), (3, .int x3)]) hx hb dX7_pipedOf_92 rfl hl (by decide) rfl (fun ls hl => ?_)
              refine lv_goto (tgt := 110) hx hb dX7_pipedOf_93 (by decide) ?_
              refine lv_iinc (v := x3 + (1 : Int32)) (lv' := [(3, .int (x3 + (1 : Int32))), (2, .int r16), (4, .int (f7_stepBy x3.toNatClampNeg)), (0, .ref a7)]) hx hb dX7_pipedOf_110 hl (k := 3) rfl rfl (by decide) rfl (fun ls hl => ?_)
              refine lv_goto (tgt := 4) hx hb dX7_pipedOf_113 (by decide) ?_
              exact ih4 r16 (x3 + (1 : Int32)) hf _ _ hS (lv_sub hl [3, 1, 0] rfl)
            · have hf := it_n hs14 hf
              refine lv_tableOut (tgt := 96) hx hb dX7_pipedOf_26 (by have e0 := lv_neT hs11 (show ((0 : Int32)).toInt = 0 from by decide); have e1 := lv_neT hs12 (show ((1 : Int32)).toInt = 1 from by decide); have e2 := lv_neT hs14 (show ((2 : Int32)).toInt = 2 from by decide); omega) (by decide) ?_
              refine lv_iload_n hx hb dX7_pipedOf_96 rfl (lv_at hl 2 rfl) ?_
              refine lv_iload hx hb dX7_pipedOf_97 (lv_at hl 0 rfl) ?_
              refine lv_icmp_lt (tgt := 108) hx hb dX7_pipedOf_99 (by decide) (fun hc => ?_) (fun hc => ?_)
              · have hf := it_p hc hf
                refine lv_iconst (v := (0 : Int32)) hx hb dX7_pipedOf_108 (by decide) ?_
                refine lv_istore_n (lv' := [(2, .int (0 : Int32)), (4, .int (f7_stepBy x3.toNatClampNeg)), (0, .ref a7), (3, .int x3)]) hx hb dX7_pipedOf_109 rfl hl (by decide) rfl (fun ls hl => ?_)
                refine lv_iinc (v := x3 + (1 : Int32)) (lv' := [(3, .int (x3 + (1 : Int32))), (2, .int (0 : Int32)), (4, .int (f7_stepBy x3.toNatClampNeg)), (0, .ref a7)]) hx hb dX7_pipedOf_110 hl (k := 3) rfl rfl (by decide) rfl (fun ls hl => ?_)
                refine lv_goto (tgt := 4) hx hb dX7_pipedOf_113 (by decide) ?_
                exact ih4 (0 : Int32) (x3 + (1 : Int32)) hf _ _ hS (lv_sub hl [3, 1, 0] rfl)
              · have hf := it_n hc hf
                refine lv_sipush (v := (255 : Int32)) hx hb dX7_pipedOf_102 (by decide) ?_
                refine lv_goto (tgt := 109) hx hb dX7_pipedOf_105 (by decide) ?_
                refine lv_istore_n (lv' := [(2, .int (255 : Int32)), (4, .int (f7_stepBy x3.toNatClampNeg)), (0, .ref a7), (3, .int x3)]) hx hb dX7_pipedOf_109 rfl hl (by decide) rfl (fun ls hl => ?_)
                refine lv_iinc (v := x3 + (1 : Int32)) (lv' := [(3, .int (x3 + (1 : Int32))), (2, .int (255 : Int32)), (4, .int (f7_stepBy x3.toNatClampNeg)), (0, .ref a7)]) hx hb dX7_pipedOf_110 hl (k := 3) rfl rfl (by decide) rfl (fun ls hl => ?_)
                refine lv_goto (tgt := 4) hx hb dX7_pipedOf_113 (by decide) ?_
                exact ih4 (255 : Int32) (x3 + (1 : Int32)) hf _ _ hS (lv_sub hl [3, 1, 0] rfl)
  have hl := lv_entry ([.ref a7, .int p1]) (n := 5) (Nat.le_of_ble_eq_true rfl)
  rw [lg_entry_eq]
  generalize (lg_sl ([.ref a7, .int p1]) ++ List.replicate (5 - (lg_sl ([.ref a7, .int p1])).length) Slot.unset).toArray = ls at hl ⊢
  have hl : lv_has ls 5 [(0, .ref a7), (1, .int p1)] := hl
  unfold fX7_pipedOf at hf
  refine lv_iload_n hx hb dX7_pipedOf_0 rfl (lv_at hl 1 rfl) ?_
  refine lv_istore_n (lv' := [(2, .int p1), (0, .ref a7), (1, .int p1)]) hx hb dX7_pipedOf_1 rfl hl (by decide) rfl (fun ls hl => ?_)
  refine lv_iconst (v := (0 : Int32)) hx hb dX7_pipedOf_2 (by decide) ?_
  refine lv_istore_n (lv' := [(3, .int (0 : Int32)), (2, .int p1), (0, .ref a7), (1, .int p1)]) hx hb dX7_pipedOf_3 rfl hl (by decide) rfl (fun ls hl => ?_)
  exact hb_4 300 p1 (0 : Int32) hf _ _ hS (lv_sub hl [2, 1, 0] rfl)

set_option maxHeartbeats 4000000 in
set_option maxRecDepth 100000 in
theorem kX7_pageAt (l : Launch) (dC : Nat → ClassId) (dI : Nat → Nat → Nat) (cy : ClassId) (H : Heap) (a7 a7_offset a7_gain a7_dark a7_bright a7_fromRow a7_toRow a7_left a7_right a7_slant a7_tintOf a7_speckOf a7_leadOf a7_stepKind a7_stepBy a7_pixels : Nat) (f7_offset : Nat → Int32) (f7_gain : Nat → Int32) (f7_dark : Nat → Int32) (f7_bright : Nat → Int32) (v7_ground : Int32) (v7_patches : Int32) (f7_fromRow : Nat → Int32) (f7_toRow : Nat → Int32) (f7_left : Nat → Int32) (f7_right : Nat → Int32) (f7_slant : Nat → Int32) (f7_tintOf : Nat → Int32) (f7_speckOf : Nat → Int32) (f7_leadOf : Nat → Int32) (v7_steps : Int32) (f7_stepKind : Nat → Int32) (f7_stepBy : Nat → Int32) (v7_threshold : Int32) (v7_isOn : Int32) (v7_lines : Int32) (v7_done : Int32) (v7_taken : Int32) (v7_lastPosition : Int32) (v7_position : Int32) (v7_mode : Int32) (v7_next : Int32) (v7_outs : Int32) (v7_stops : Int32) (v7_ticks : Int32) (f7_pixels : Nat → Int32) (p1 : Int32) (p2 : Int32) (p3 : Int32) (r : Int32) (hf : fX7_pageAt v7_ground v7_patches f7_fromRow f7_toRow f7_left f7_right f7_slant f7_tintOf p1 p2 p3 = some r) : Met l yX7_pageAt wsX7_pageAt ({ frames := 2, cells := 0, slots := 0, locals := 45 }) (roP [.ref a7, .int p1, .int p2, .int p3] (dC, dI) vwCl (WX7 cy a7 a7_offset a7_gain a7_dark a7_bright a7_fromRow a7_toRow a7_left a7_right a7_slant a7_tintOf a7_speckOf a7_leadOf a7_stepKind a7_stepBy a7_pixels f7_offset f7_gain f7_dark f7_bright v7_ground v7_patches f7_fromRow f7_toRow f7_left f7_right f7_slant f7_tintOf f7_speckOf f7_leadOf v7_steps f7_stepKind f7_stepBy v7_threshold v7_isOn v7_lines v7_done v7_taken v7_lastPosition v7_position v7_mode v7_next v7_outs v7_stops v7_ticks f7_pixels) [(cy, .int)] H) (roQi r H) 0 0 (fun _ => False) := by
  refine Met.ofW (cc := cX7_pageAt) (maxL := 6) (ret := (some .int)) (by decide) rfl ?_
  intro p e s m args below meth c s₁ B hml hv
  obtain ⟨rfl, hH, hP, hK⟩ := hv
  have hx := B.exec
  have hb := B.bytes
  have hr := B.returns
  have hts := atoms_spec (ws := wsX7_pageAt) B.pre
  have hown : s.vm.findClass RX7 = some m.cls := findClass_of_methodNamed B.named
  have hlocks := B.notSynchronized
  have hiX7 : ∀ w ∈ u_ws RX7 TX7 30, w ∈ wsX7_pageAt := fun _ h => List.mem_cons_of_mem _ ((List.mem_append_right _ h))
  subst hH
  have hS : va_S (fun _ => False) s.heap s.heap [] := va_S.rf
  have hb_9 : ∀ (n : Nat) (x1 : Int32) (x2 : Int32) (x3 : Int32) (x4 : Int32) (x5 : Int32), bX7_pageAt_9 v7_patches f7_fromRow f7_toRow f7_left f7_right f7_slant f7_tintOf n x1 x2 x3 x4 x5 = some r → ∀ (locs : List Loc) (ls : Array Slot), va_S (fun _ => False) s.heap s.heap locs → lv_has ls 6 [(0, .ref a7), (1, .int x1), (2, .int x2), (3, .int x3), (4, .int x4), (5, .int x5)] → W p l e (headSpec wsX7_pageAt ({ frames := 2, cells := 0, slots := 0, locals := 45 })).room s m ([.ref a7, .int p1, .int p2, .int p3] : List Value).toArray below meth c s.heap locs 0 0 (MQ below (roQi r s.heap) ([.ref a7, .int p1, .int p2, .int p3] : List Value).toArray s 0 0 (fun _ => False)) (F0 m 9 ls []) := by
    intro n
    induction n with
    | zero => intro x1 x2 x3 x4 x5 hf; rw [bX7_pageAt_9] at hf; cases hf
    | succ n9 ih9 =>
      intro x1 x2 x3 x4 x5 hf locs ls hS hl
      rw [bX7_pageAt_9] at hf
      refine lv_iload hx hb dX7_pageAt_9 (lv_at hl 5 rfl) ?_
      refine lv_aload_n hx hb dX7_pageAt_11 rfl (lv_at hl 0 rfl) ?_
      refine va_get (D := (dC, dI)) (ci := 6) (v := .int v7_patches) (C := RX7) (T := TX7) (N := 30) hx hb hts hiX7 hown hK hP 0 rfl rfl 5 (by decide) (hts (.fieldLink RX7 107 "PageLinesModel" "patches" "I") (List.mem_of_getElem? (i := 2) rfl)) (fun _ h9 => h9) rfl dX7_pageAt_12 ?_
      refine lv_icmp_ge (tgt := 53) hx hb dX7_pageAt_15 (by decide) (fun hc => ?_) (fun hc => ?_)
      · have hf := it_p hc hf
        refine lv_iload hx hb dX7_pageAt_53 (lv_at hl 4 rfl) ?_
        exact W.iret (v := x4) hx hb hr (fun t ht hW => ⟨⟨_, (), rfl, Option.some.inj hf, ht⟩, hS.F ht⟩) hS.2.2 dX7_pageAt_55
      · have hf := it_n hc hf
        refine lv_aload_n hx hb dX7_pageAt_18 rfl (lv_at hl 0 rfl) ?_
        refine lv_iload hx hb dX7_pageAt_19 (lv_at hl 5 rfl) ?_
        refine lv_iload_n hx hb dX7_pageAt_21 rfl (lv_at hl 2 rfl) ?_
        refine lv_iload_n hx hb dX7_pageAt_22 rfl (lv_at hl 3 rfl) ?_
        obtain ⟨r3, hr3, hf⟩ := cl1_sp hf
        refine ro_V (As := [.int x5, .int x2, .int x3]) ⟨hx, hb, hml, hown, hts⟩ (kX7_isCovered l dC dI cy _ a7 a7_offset a7_gain a7_dark a7_bright a7_fromRow a7_toRow a7_left a7_right a7_slant a7_tintOf a7_speckOf a7_leadOf a7_stepKind a7_stepBy a7_pixels f7_offset f7_gain f7_dark f7_bright v7_ground v7_patches f7_fromRow f7_toRow f7_left f7_right f7_slant f7_tintOf f7_speckOf f7_leadOf v7_steps f7_stepKind f7_stepBy v7_threshold v7_isOn v7_lines v7_done v7_taken v7_lastPosition v7_position v7_mode v7_next v7_outs v7_stops v7_ticks f7_pixels x5 x2 x3 r3 hr3) (cwV 3 hts gX7_pageAt_X7_isCovered rfl rfl rfl (by decide +kernel) ⟨Nat.le_of_ble_eq_true rfl, Nat.le_of_ble_eq_true rfl⟩) (va_recv hK hP (ci := 6) (q0 := 0) rfl rfl) (hP.sub [0, 1, 2, 3, 4, 5, 6, 7, 8, 9, 10, 11, 12, 13, 14, 15] rfl) hK hS rfl hl.1 rfl (Nat.le_of_ble_eq_true rfl) dX7_pageAt_23 (Nat.zero_le _) (Nat.zero_le _) (fun locs hS => ?_)
        refine lv_if_eq (tgt := 43) hx hb dX7_pageAt_26 (by decide) (fun hc => ?_) (fun hc => ?_)
        · have hf := it_p hc hf
          refine lv_iload hx hb dX7_pageAt_43 (lv_at hl 4 rfl) ?_
          refine lv_istore (lv' := [(4, .int x4), (0, .ref a7), (1, .int x1), (2, .int x2), (3, .int x3), (5, .int x5)]) hx hb dX7_pageAt_45 hl (by decide) rfl (fun ls hl => ?_)
          refine lv_iinc (v := x5 + (1 : Int32)) (lv' := [(5, .int (x5 + (1 : Int32))), (4, .int x4), (0, .ref a7), (1, .int x1), (2, .int x2), (3, .int x3)]) hx hb dX7_pageAt_47 hl (k := 5) rfl rfl (by decide) rfl (fun ls hl => ?_)
          refine lv_goto (tgt := 9) hx hb dX7_pageAt_50 (by decide) ?_
          exact ih9 x1 x2 x3 x4 (x5 + (1 : Int32)) hf _ _ hS (lv_sub hl [2, 3, 4, 5, 1, 0] rfl)
        · have hf := it_n hc hf
          refine lv_aload_n hx hb dX7_pageAt_29 rfl (lv_at hl 0 rfl) ?_
          refine va_get (D := (dC, dI)) (ci := 6) (v := .ref a7_tintOf) (C := RX7) (T := TX7) (N := 30) hx hb hts hiX7 hown hK hP 0 rfl rfl 11 (by decide) (hts (.fieldLink RX7 41 "PageLinesModel" "tintOf" "[I") (List.mem_of_getElem? (i := 3) rfl)) (fun _ h9 => h9) rfl dX7_pageAt_30 ?_
          refine lv_iconst (v := (3 : Int32)) hx hb dX7_pageAt_33 (by decide) ?_
          refine lv_iload hx hb dX7_pageAt_34 (lv_at hl 5 rfl) ?_
          refine lv_imul hx hb dX7_pageAt_36 ?_
          refine lv_iload_n hx hb dX7_pageAt_37 rfl (lv_at hl 1 rfl) ?_
          refine lv_iadd hx hb dX7_pageAt_38 ?_
          obtain ⟨hi_4, hf⟩ := ckI_sp hf
          refine va_iald hx hb hK hP 10 0 rfl rfl hi_4 dX7_pageAt_39 ?_
          refine lv_goto (tgt := 45) hx hb dX7_pageAt_40 (by decide) ?_
          refine lv_istore (lv' := [(4, .int (f7_tintOf (((3 : Int32) * x5) + x1).toNatClampNeg)), (0, .ref a7), (1, .int x1), (2, .int x2), (3, .int x3), (5, .int x5)]) hx hb dX7_pageAt_45 hl (by decide) rfl (fun ls hl => ?_)
          refine lv_iinc (v := x5 + (1 : Int32)) (lv' := [(5, .int (x5 + (1 : Int32))), (4, .int (f7_tintOf (((3 : Int32) * x5) + x1).toNatClampNeg)), (0, .ref a7), (1, .int x1), (2, .int x2), (3, .int x3)]) hx hb dX7_pageAt_47 hl (k := 5) rfl rfl (by decide) rfl (fun ls hl => ?_)
          refine lv_goto (tgt := 9) hx hb dX7_pageAt_50 (by decide) ?_
          exact ih9 x1 x2 x3 (f7_tintOf (((3 : Int32) * x5) + x1).toNatClampNeg) (x5 + (1 : Int32)) hf _ _ hS (lv_sub hl [2, 3, 4, 5, 1, 0] rfl)
  have hl := lv_entry ([.ref a7, .int p1, .int p2, .int p3]) (n := 6) (Nat.le_of_ble_eq_true rfl)
  rw [lg_entry_eq]
  generalize (lg_sl ([.ref a7, .int p1, .int p2, .int p3]) ++ List.replicate (6 - (lg_sl ([.ref a7, .int p1, .int p2, .int p3])).length) Slot.unset).toArray = ls at hl ⊢
  have hl : lv_has ls 6 [(0, .ref a7), (1, .int p1), (2, .int p2), (3, .int p3)] := hl
  unfold fX7_pageAt at hf
  refine lv_aload_n hx hb dX7_pageAt_0 rfl (lv_at hl 0 rfl) ?_
  refine va_get (D := (dC, dI)) (ci := 6) (v := .int v7_ground) (C := RX7) (T := TX7) (N := 30) hx hb hts hiX7 hown hK hP 0 rfl rfl 4 (by decide) (hts (.fieldLink RX7 22 "PageLinesModel" "ground" "I") (List.mem_of_getElem? (i := 1) rfl)) (fun _ h9 => h9) rfl dX7_pageAt_1 ?_
  refine lv_istore (lv' := [(4, .int v7_ground), (0, .ref a7), (1, .int p1), (2, .int p2), (3, .int p3)]) hx hb dX7_pageAt_4 hl (by decide) rfl (fun ls hl => ?_)
  refine lv_iconst (v := (0 : Int32)) hx hb dX7_pageAt_6 (by decide) ?_
  refine lv_istore (lv' := [(5, .int (0 : Int32)), (4, .int v7_ground), (0, .ref a7), (1, .int p1), (2, .int p2), (3, .int p3)]) hx hb dX7_pageAt_7 hl (by decide) rfl (fun ls hl => ?_)
  exact hb_9 300 p1 p2 p3 v7_ground (0 : Int32) hf _ _ hS (lv_sub hl [2, 3, 4, 5, 1, 0] rfl)
set_option maxHeartbeats 4000000 in
set_option maxRecDepth 100000 in
theorem kX7_lightAt (l : Launch) (dC : Nat → ClassId) (dI : Nat → Nat → Nat) (cy : ClassId) (H : Heap) (a7 a7_offset a7_gain a7_dark a7_bright a7_fromRow a7_toRow a7_left a7_right a7_slant a7_tintOf a7_speckOf a7_leadOf a7_stepKind a7_stepBy a7_pixels : Nat) (f7_offset : Nat → Int32) (f7_gain : Nat → Int32) (f7_dark : Nat → Int32) (f7_bright : Nat → Int32) (v7_ground : Int32) (v7_patches : Int32) (f7_fromRow : Nat → Int32) (f7_toRow : Nat → Int32) (f7_left : Nat → Int32) (f7_right : Nat → Int32) (f7_slant : Nat → Int32) (f7_tintOf : Nat → Int32) (f7_speckOf : Nat → Int32) (f7_leadOf : Nat → Int32) (v7_steps : Int32) (f7_stepKind : Nat → Int32) (f7_stepBy : Nat → Int32) (v7_threshold : Int32) (v7_isOn : Int32) (v7_lines : Int32) (v7_done : Int32) (v7_taken : Int32) (v7_lastPosition : Int32) (v7_position : Int32) (v7_mode : Int32) (v7_next : Int32) (v7_outs : Int32) (v7_stops : Int32) (v7_ticks : Int32) (f7_pixels : Nat → Int32) (p1 : Int32) (p2 : Int32) (p3 : Int32) (r : Int32) (hf : fX7_lightAt v7_ground v7_patches f7_fromRow f7_toRow f7_left f7_right f7_slant f7_tintOf f7_speckOf p1 p2 p3 = some r) : Met l yX7_lightAt wsX7_lightAt ({ frames := 3, cells := 0, slots := 0, locals := 70 }) (roP [.ref a7, .int p1, .int p2, .int p3] (dC, dI) vwCl (WX7 cy a7 a7_offset a7_gain a7_dark a7_bright a7_fromRow a7_toRow a7_left a7_right a7_slant a7_tintOf a7_speckOf a7_leadOf a7_stepKind a7_stepBy a7_pixels f7_offset f7_gain f7_dark f7_bright v7_ground v7_patches f7_fromRow f7_toRow f7_left f7_right f7_slant f7_tintOf f7_speckOf f7_leadOf v7_steps f7_stepKind f7_stepBy v7_threshold v7_isOn v7_lines v7_done v7_taken v7_lastPosition v7_position v7_mode v7_next v7_outs v7_stops v7_ticks f7_pixels) [(cy, .int)] H) (roQi r H) 0 0 (fun _ => False) := by
  refine Met.ofW (cc := cX7_lightAt) (maxL := 7) (ret := (some .int)) (by decide) rfl ?_
  intro p e s m args below meth c s₁ B hml hv
  obtain ⟨rfl, hH, hP, hK⟩ := hv
  have hx := B.exec
  have hb := B.bytes
  have hr := B.returns
  have hts := atoms_spec (ws := wsX7_lightAt) B.pre
  have hown : s.vm.findClass RX7 = some m.cls := findClass_of_methodNamed B.named
  have hlocks := B.notSynchronized
  have hiX7 : ∀ w ∈ u_ws RX7 TX7 30, w ∈ wsX7_lightAt := fun _ h => List.mem_cons_of_mem _ ((List.mem_append_right _ h))
  subst hH
  have hS : va_S (fun _ => False) s.heap s.heap [] := va_S.rf
  have hl := lv_entry ([.ref a7, .int p1, .int p2, .int p3]) (n := 7) (Nat.le_of_ble_eq_true rfl)
  rw [lg_entry_eq]
  generalize (lg_sl ([.ref a7, .int p1, .int p2, .int p3]) ++ List.replicate (7 - (lg_sl ([.ref a7, .int p1, .int p2, .int p3])).length) Slot.unset).toArray = ls at hl ⊢
  have hl : lv_has ls 7 [(0, .ref a7), (1, .int p1), (2, .int p2), (3, .int p3)] := hl
  unfold fX7_lightAt at hf
  refine lv_iload_n hx hb dX7_lightAt_0 rfl (lv_at hl 3 rfl) ?_
  refine lv_iconst (v := (4 : Int32)) hx hb dX7_lightAt_1 (by decide) ?_
  obtain ⟨r1, hr1, hf⟩ := cl1_sp hf
  refine ro_S (As := [.int p3, .int (4 : Int32)]) ⟨hx, hb, hml, hown, hts⟩ (kX7_down l _ p3 (4 : Int32) r1 hr1) (va_cwS 2 hts gX7_lightAt_X7_down rfl rfl rfl (by decide +kernel) ⟨Nat.le_of_ble_eq_true rfl, Nat.le_of_ble_eq_true rfl⟩) hS rfl hl.1 rfl (Nat.le_of_ble_eq_true rfl) dX7_lightAt_2 (Nat.zero_le _) (Nat.zero_le _) (fun locs hS => ?_)
  refine lv_istore (lv' := [(4, .int r1), (0, .ref a7), (1, .int p1), (2, .int p2), (3, .int p3)]) hx hb dX7_lightAt_5 hl (by decide) rfl (fun ls hl => ?_)
  refine lv_iload_n hx hb dX7_lightAt_7 rfl (lv_at hl 4 rfl) ?_
  refine lv_iconst (v := (4 : Int32)) hx hb dX7_lightAt_8 (by decide) ?_
  refine lv_iload hx hb dX7_lightAt_9 (lv_at hl 0 rfl) ?_
  refine lv_imul hx hb dX7_lightAt_11 ?_
  refine lv_isub hx hb dX7_lightAt_12 ?_
  refine lv_istore (lv' := [(5, .int (p3 - ((4 : Int32) * r1))), (4, .int r1), (0, .ref a7), (1, .int p1), (2, .int p2), (3, .int p3)]) hx hb dX7_lightAt_13 hl (by decide) rfl (fun ls hl => ?_)
  refine lv_iconst (v := (4 : Int32)) hx hb dX7_lightAt_15 (by decide) ?_
  refine lv_iload hx hb dX7_lightAt_16 (lv_at hl 0 rfl) ?_
  refine lv_isub hx hb dX7_lightAt_18 ?_
  refine lv_aload_n hx hb dX7_lightAt_19 rfl (lv_at hl 2 rfl) ?_
  refine lv_iload_n hx hb dX7_lightAt_20 rfl (lv_at hl 3 rfl) ?_
  refine lv_iload hx hb dX7_lightAt_21 (lv_at hl 1 rfl) ?_
  refine lv_iload_n hx hb dX7_lightAt_23 rfl (lv_at hl 4 rfl) ?_
  obtain ⟨r2, hr2, hf⟩ := cl1_sp hf
  refine ro_V (As := [.int p1, .int r1, .int p2]) ⟨hx, hb, hml, hown, hts⟩ (kX7_pageAt l dC dI cy _ a7 a7_offset a7_gain a7_dark a7_bright a7_fromRow a7_toRow a7_left a7_right a7_slant a7_tintOf a7_speckOf a7_leadOf a7_stepKind a7_stepBy a7_pixels f7_offset f7_gain f7_dark f7_bright v7_ground v7_patches f7_fromRow f7_toRow f7_left f7_right f7_slant f7_tintOf f7_speckOf f7_leadOf v7_steps f7_stepKind f7_stepBy v7_threshold v7_isOn v7_lines v7_done v7_taken v7_lastPosition v7_position v7_mode v7_next v7_outs v7_stops v7_ticks f7_pixels p1 r1 p2 r2 hr2) (cwV 3 hts gX7_lightAt_X7_pageAt rfl rfl rfl (by decide +kernel) ⟨Nat.le_of_ble_eq_true rfl, Nat.le_of_ble_eq_true rfl⟩) (va_recv hK hP (ci := 6) (q0 := 0) rfl rfl) (hP.sub [0, 1, 2, 3, 4, 5, 6, 7, 8, 9, 10, 11, 12, 13, 14, 15] rfl) hK hS rfl hl.1 rfl (Nat.le_of_ble_eq_true rfl) dX7_lightAt_24 (Nat.zero_le _) (Nat.zero_le _) (fun locs hS => ?_)
  refine lv_imul hx hb dX7_lightAt_27 ?_
  refine lv_iload hx hb dX7_lightAt_28 (lv_at hl 0 rfl) ?_
  refine lv_aload_n hx hb dX7_lightAt_30 rfl (lv_at hl 2 rfl) ?_
  refine lv_iload_n hx hb dX7_lightAt_31 rfl (lv_at hl 3 rfl) ?_
  refine lv_iload hx hb dX7_lightAt_32 (lv_at hl 1 rfl) ?_
  refine lv_iconst (v := (1 : Int32)) hx hb dX7_lightAt_34 (by decide) ?_
  refine lv_iadd hx hb dX7_lightAt_35 ?_
  refine lv_iload_n hx hb dX7_lightAt_36 rfl (lv_at hl 4 rfl) ?_
  obtain ⟨r3, hr3, hf⟩ := cl1_sp hf
  refine ro_V (As := [.int p1, .int (r1 + (1 : Int32)), .int p2]) ⟨hx, hb, hml, hown, hts⟩ (kX7_pageAt l dC dI cy _ a7 a7_offset a7_gain a7_dark a7_bright a7_fromRow a7_toRow a7_left a7_right a7_slant a7_tintOf a7_speckOf a7_leadOf a7_stepKind a7_stepBy a7_pixels f7_offset f7_gain f7_dark f7_bright v7_ground v7_patches f7_fromRow f7_toRow f7_left f7_right f7_slant f7_tintOf f7_speckOf f7_leadOf v7_steps f7_stepKind f7_stepBy v7_threshold v7_isOn v7_lines v7_done v7_taken v7_lastPosition v7_position v7_mode v7_next v7_outs v7_stops v7_ticks f7_pixels p1 (r1 + (1 : Int32)) p2 r3 hr3) (cwV 3 hts gX7_lightAt_X7_pageAt rfl rfl rfl (by decide +kernel) ⟨Nat.le_of_ble_eq_true rfl, Nat.le_of_ble_eq_true rfl⟩) (va_recv hK hP (ci := 6) (q0 := 0) rfl rfl) (hP.sub [0, 1, 2, 3, 4, 5, 6, 7, 8, 9, 10, 11, 12, 13, 14, 15] rfl) hK hS rfl hl.1 rfl (Nat.le_of_ble_eq_true rfl) dX7_lightAt_37 (Nat.zero_le _) (Nat.zero_le _) (fun locs hS => ?_)
  refine lv_imul hx hb dX7_lightAt_40 ?_
  refine lv_iadd hx hb dX7_lightAt_41 ?_
  refine lv_istore (lv' := [(6, .int ((((4 : Int32) - (p3 - ((4 : Int32) * r1))) * r2) + ((p3 - ((4 : Int32) * r1)) * r3))), (5, .int (p3 - ((4 : Int32) * r1))), (4, .int r1), (0, .ref a7), (1, .int p1), (2, .int p2), (3, .int p3)]) hx hb dX7_lightAt_42 hl (by decide) rfl (fun ls hl => ?_)
  refine lv_iload hx hb dX7_lightAt_44 (lv_at hl 0 rfl) ?_
  refine lv_iconst (v := (4 : Int32)) hx hb dX7_lightAt_46 (by decide) ?_
  obtain ⟨r4, hr4, hf⟩ := cl1_sp hf
  refine ro_S (As := [.int ((((4 : Int32) - (p3 - ((4 : Int32) * r1))) * r2) + ((p3 - ((4 : Int32) * r1)) * r3)), .int (4 : Int32)]) ⟨hx, hb, hml, hown, hts⟩ (kX7_rounded l _ ((((4 : Int32) - (p3 - ((4 : Int32) * r1))) * r2) + ((p3 - ((4 : Int32) * r1)) * r3)) (4 : Int32) r4 hr4) (va_cwS 2 hts gX7_lightAt_X7_rounded rfl rfl rfl (by decide +kernel) ⟨Nat.le_of_ble_eq_true rfl, Nat.le_of_ble_eq_true rfl⟩) hS rfl hl.1 rfl (Nat.le_of_ble_eq_true rfl) dX7_lightAt_47 (Nat.zero_le _) (Nat.zero_le _) (fun locs hS => ?_)
  refine lv_aload_n hx hb dX7_lightAt_50 rfl (lv_at hl 3 rfl) ?_
  refine va_get (D := (dC, dI)) (ci := 6) (v := .ref a7_speckOf) (C := RX7) (T := TX7) (N := 30) hx hb hts hiX7 hown hK hP 0 rfl rfl 12 (by decide) (hts (.fieldLink RX7 44 "PageLinesModel" "speckOf" "[I") (List.mem_of_getElem? (i := 1) rfl)) (fun _ h9 => h9) rfl dX7_lightAt_51 ?_
  refine lv_iload_n hx hb dX7_lightAt_54 rfl (lv_at hl 5 rfl) ?_
  obtain ⟨hi_5, hf⟩ := ckI_sp hf
  refine va_iald hx hb hK hP 11 0 rfl rfl hi_5 dX7_lightAt_55 ?_
  refine lv_isub hx hb dX7_lightAt_56 ?_
  refine lv_iconst (v := (0 : Int32)) hx hb dX7_lightAt_57 (by decide) ?_
  obtain ⟨r6, hr6, hf⟩ := cl1_sp hf
  refine ro_S (As := [.int (r4 - (f7_speckOf p2.toNatClampNeg)), .int (0 : Int32)]) ⟨hx, hb, hml, hown, hts⟩ (kX7_atLeast l _ (r4 - (f7_speckOf p2.toNatClampNeg)) (0 : Int32) r6 hr6) (va_cwS 2 hts gX7_lightAt_X7_atLeast rfl rfl rfl (by decide +kernel) ⟨Nat.le_of_ble_eq_true rfl, Nat.le_of_ble_eq_true rfl⟩) hS rfl hl.1 rfl (Nat.le_of_ble_eq_true rfl) dX7_lightAt_58 (Nat.zero_le _) (Nat.zero_le _) (fun locs hS => ?_)
  exact W.iret (v := r6) hx hb hr (fun t ht hW => ⟨⟨_, (), rfl, Option.some.inj hf, ht⟩, hS.F ht⟩) hS.2.2 dX7_lightAt_61
set_option maxHeartbeats 4000000 in
set_option maxRecDepth 100000 in
theorem kX7_light (l : Launch) (dC : Nat → ClassId) (dI : Nat → Nat → Nat) (cy : ClassId) (H : Heap) (a7 a7_offset a7_gain a7_dark a7_bright a7_fromRow a7_toRow a7_left a7_right a7_slant a7_tintOf a7_speckOf a7_leadOf a7_stepKind a7_stepBy a7_pixels : Nat) (f7_offset : Nat → Int32) (f7_gain : Nat → Int32) (f7_dark : Nat → Int32) (f7_bright : Nat → Int32) (v7_ground : Int32) (v7_patches : Int32) (f7_fromRow : Nat → Int32) (f7_toRow : Nat → Int32) (f7_left : Nat → Int32) (f7_right : Nat → Int32) (f7_slant : Nat → Int32) (f7_tintOf : Nat → Int32) (f7_speckOf : Nat → Int32) (f7_leadOf : Nat → Int32) (v7_steps : Int32) (f7_stepKind : Nat → Int32) (f7_stepBy : Nat → Int32) (v7_threshold : Int32) (v7_isOn : Int32) (v7_lines : Int32) (v7_done : Int32) (v7_taken : Int32) (v7_lastPosition : Int32) (v7_position : Int32) (v7_mode : Int32) (v7_next : Int32) (v7_outs : Int32) (v7_stops : Int32) (v7_ticks : Int32) (f7_pixels : Nat → Int32) (p1 : Int32) (p2 : Int32) (p3 : Int32) (p4 : Int32) (r : Int32) (hf : fX7_light v7_ground v7_patches f7_fromRow f7_toRow f7_left f7_right f7_slant f7_tintOf f7_speckOf p1 p2 p3 p4 = some r) : Met l yX7_light wsX7_light ({ frames := 4, cells := 0, slots := 0, locals := 96 }) (roP [.ref a7, .int p1, .int p2, .int p3, .int p4] (dC, dI) vwCl (WX7 cy a7 a7_offset a7_gain a7_dark a7_bright a7_fromRow a7_toRow a7_left a7_right a7_slant a7_tintOf a7_speckOf a7_leadOf a7_stepKind a7_stepBy a7_pixels f7_offset f7_gain f7_dark f7_bright v7_ground v7_patches f7_fromRow f7_toRow f7_left f7_right f7_slant f7_tintOf f7_speckOf f7_leadOf v7_steps f7_stepKind f7_stepBy v7_threshold v7_isOn v7_lines v7_done v7_taken v7_lastPosition v7_position v7_mode v7_next v7_outs v7_stops v7_ticks f7_pixels) [(cy, .int)] H) (roQi r H) 0 0 (fun _ => False) := by
  refine Met.ofW (cc := cX7_light) (maxL := 5) (ret := (some .int)) (by decide) rfl ?_
  intro p e s m args below meth c s₁ B hml hv
  obtain ⟨rfl, hH, hP, hK⟩ := hv
  have hx := B.exec
  have hb := B.bytes
  have hr := B.returns
  have hts := atoms_spec (ws := wsX7_light) B.pre
  have hown : s.vm.findClass RX7 = some m.cls := findClass_of_methodNamed B.named
  have hlocks := B.notSynchronized
  have hiX7 : ∀ w ∈ u_ws RX7 TX7 30, w ∈ wsX7_light := fun _ h => List.mem_cons_of_mem _ ((List.mem_append_right _ h))
  subst hH
  have hS : va_S (fun _ => False) s.heap s.heap [] := va_S.rf
  have hl := lv_entry ([.ref a7, .int p1, .int p2, .int p3, .int p4]) (n := 5) (Nat.le_of_ble_eq_true rfl)
  rw [lg_entry_eq]
  generalize (lg_sl ([.ref a7, .int p1, .int p2, .int p3, .int p4]) ++ List.replicate (5 - (lg_sl ([.ref a7, .int p1, .int p2, .int p3, .int p4])).length) Slot.unset).toArray = ls at hl ⊢
  have hl : lv_has ls 5 [(0, .ref a7), (1, .int p1), (2, .int p2), (3, .int p3), (4, .int p4)] := hl
  unfold fX7_light at hf
  refine lv_iload_n hx hb dX7_light_0 rfl (lv_at hl 1 rfl) ?_
  refine lv_iload_n hx hb dX7_light_1 rfl (lv_at hl 2 rfl) ?_
  obtain ⟨r1, hr1, hf⟩ := cl1_sp hf
  refine ro_S (As := [.int p1, .int p2]) ⟨hx, hb, hml, hown, hts⟩ (kX7_isCell l _ p1 p2 r1 hr1) (va_cwS 2 hts gX7_light_X7_isCell rfl rfl rfl (by decide +kernel) ⟨Nat.le_of_ble_eq_true rfl, Nat.le_of_ble_eq_true rfl⟩) hS rfl hl.1 rfl (Nat.le_of_ble_eq_true rfl) dX7_light_2 (Nat.zero_le _) (Nat.zero_le _) (fun locs hS => ?_)
  refine lv_if_ne (tgt := 10) hx hb dX7_light_5 (by decide) (fun hc => ?_) (fun hc => ?_)
  · have hf := it_n hc hf
    refine lv_iload_n hx hb dX7_light_10 rfl (lv_at hl 3 rfl) ?_
    refine lv_sipush (v := (-1000 : Int32)) hx hb dX7_light_11 (by decide) ?_
    refine lv_sipush (v := (1000 : Int32)) hx hb dX7_light_14 (by decide) ?_
    obtain ⟨r2, hr2, hf⟩ := cl1_sp hf
    refine ro_S (As := [.int p3, .int (-1000 : Int32), .int (1000 : Int32)]) ⟨hx, hb, hml, hown, hts⟩ (kX7_within l _ p3 (-1000 : Int32) (1000 : Int32) r2 hr2) (va_cwS 3 hts gX7_light_X7_within rfl rfl rfl (by decide +kernel) ⟨Nat.le_of_ble_eq_true rfl, Nat.le_of_ble_eq_true rfl⟩) hS rfl hl.1 rfl (Nat.le_of_ble_eq_true rfl) dX7_light_17 (Nat.zero_le _) (Nat.zero_le _) (fun locs hS => ?_)
    refine lv_if_eq (tgt := 33) hx hb dX7_light_20 (by decide) (fun hc => ?_) (fun hc => ?_)
    · have hf := it_p hc hf
      refine lv_bipush (v := (-2 : Int32)) hx hb dX7_light_33 (by decide) ?_
      exact W.iret (v := (-2 : Int32)) hx hb hr (fun t ht hW => ⟨⟨_, (), rfl, Option.some.inj hf, ht⟩, hS.F ht⟩) hS.2.2 dX7_light_35
    · have hf := it_n hc hf
      refine lv_iload hx hb dX7_light_23 (lv_at hl 4 rfl) ?_
      refine lv_iconst (v := (0 : Int32)) hx hb dX7_light_25 (by decide) ?_
      refine lv_iconst (v := (3 : Int32)) hx hb dX7_light_26 (by decide) ?_
      obtain ⟨r3, hr3, hf⟩ := cl1_sp hf
      refine ro_S (As := [.int p4, .int (0 : Int32), .int (3 : Int32)]) ⟨hx, hb, hml, hown, hts⟩ (kX7_within l _ p4 (0 : Int32) (3 : Int32) r3 hr3) (va_cwS 3 hts gX7_light_X7_within rfl rfl rfl (by decide +kernel) ⟨Nat.le_of_ble_eq_true rfl, Nat.le_of_ble_eq_true rfl⟩) hS rfl hl.1 rfl (Nat.le_of_ble_eq_true rfl) dX7_light_27 (Nat.zero_le _) (Nat.zero_le _) (fun locs hS => ?_)
      refine lv_if_ne (tgt := 36) hx hb dX7_light_30 (by decide) (fun hc => ?_) (fun hc => ?_)
      · have hf := it_n hc hf
        refine lv_aload_n hx hb dX7_light_36 rfl (lv_at hl 0 rfl) ?_
        refine lv_iload_n hx hb dX7_light_37 rfl (lv_at hl 1 rfl) ?_
        refine lv_iload_n hx hb dX7_light_38 rfl (lv_at hl 2 rfl) ?_
        refine lv_iconst (v := (4 : Int32)) hx hb dX7_light_39 (by decide) ?_
        refine lv_iload_n hx hb dX7_light_40 rfl (lv_at hl 3 rfl) ?_
        refine lv_imul hx hb dX7_light_41 ?_
        refine lv_iload hx hb dX7_light_42 (lv_at hl 4 rfl) ?_
        refine lv_iadd hx hb dX7_light_44 ?_
        obtain ⟨r4, hr4, hf⟩ := cl1_sp hf
        refine ro_V (As := [.int p1, .int p2, .int (((4 : Int32) * p3) + p4)]) ⟨hx, hb, hml, hown, hts⟩ (kX7_lightAt l dC dI cy _ a7 a7_offset a7_gain a7_dark a7_bright a7_fromRow a7_toRow a7_left a7_right a7_slant a7_tintOf a7_speckOf a7_leadOf a7_stepKind a7_stepBy a7_pixels f7_offset f7_gain f7_dark f7_bright v7_ground v7_patches f7_fromRow f7_toRow f7_left f7_right f7_slant f7_tintOf f7_speckOf f7_leadOf v7_steps f7_stepKind f7_stepBy v7_threshold v7_isOn v7_lines v7_done v7_taken v7_lastPosition v7_position v7_mode v7_next v7_outs v7_stops v7_ticks f7_pixels p1 p2 (((4 : Int32) * p3) + p4) r4 hr4) (cwV 3 hts gX7_light_X7_lightAt rfl rfl rfl (by decide +kernel) ⟨Nat.le_of_ble_eq_true rfl, Nat.le_of_ble_eq_true rfl⟩) (va_recv hK hP (ci := 6) (q0 := 0) rfl rfl) (hP.sub [0, 1, 2, 3, 4, 5, 6, 7, 8, 9, 10, 11, 12, 13, 14, 15] rfl) hK hS rfl hl.1 rfl (Nat.le_of_ble_eq_true rfl) dX7_light_45 (Nat.zero_le _) (Nat.zero_le _) (fun locs hS => ?_)
        exact W.iret (v := r4) hx hb hr (fun t ht hW => ⟨⟨_, (), rfl, Option.some.inj hf, ht⟩, hS.F ht⟩) hS.2.2 dX7_light_48
      · have hf := it_p hc hf
        refine lv_bipush (v := (-2 : Int32)) hx hb dX7_light_33 (by decide) ?_
        exact W.iret (v := (-2 : Int32)) hx hb hr (fun t ht hW => ⟨⟨_, (), rfl, Option.some.inj hf, ht⟩, hS.F ht⟩) hS.2.2 dX7_light_35
  · have hf := it_p hc hf
    refine lv_iconst (v := (-1 : Int32)) hx hb dX7_light_8 (by decide) ?_
    exact W.iret (v := (-1 : Int32)) hx hb hr (fun t ht hW => ⟨⟨_, (), rfl, Option.some.inj hf, ht⟩, hS.F ht⟩) hS.2.2 dX7_light_9
set_option maxHeartbeats 4000000 in
set_option maxRecDepth 100000 in
theorem kX7_lead (l : Launch) (dC : Nat → ClassId) (dI : Nat → Nat → Nat) (cy : ClassId) (sz : Nat) (a7 a7_offset a7_gain a7_dark a7_bright a7_fromRow a7_toRow a7_left a7_right a7_slant a7_tintOf a7_speckOf a7_leadOf a7_stepKind a7_stepBy a7_pixels : Nat) (f7_offset : Nat → Int32) (f7_gain : Nat → Int32) (f7_dark : Nat → Int32) (f7_bright : Nat → Int32) (v7_ground : Int32) (v7_patches : Int32) (f7_fromRow : Nat → Int32) (f7_toRow : Nat → Int32) (f7_left : Nat → Int32) (f7_right : Nat → Int32) (f7_slant : Nat → Int32) (f7_tintOf : Nat → Int32) (f7_speckOf : Nat → Int32) (f7_leadOf : Nat → Int32) (v7_steps : Int32) (f7_stepKind : Nat → Int32) (f7_stepBy : Nat → Int32) (v7_threshold : Int32) (v7_isOn : Int32) (v7_lines : Int32) (v7_done : Int32) (v7_taken : Int32) (v7_lastPosition : Int32) (v7_position : Int32) (v7_mode : Int32) (v7_next : Int32) (v7_outs : Int32) (v7_stops : Int32) (v7_ticks : Int32) (f7_pixels : Nat → Int32) (p1 : Int32) (p2 : Int32) (r : Int32) (o_f7_leadOf : Nat → Int32) (hf : fX7_lead f7_leadOf v7_isOn p1 p2 = some (r, o_f7_leadOf)) : Met l yX7_lead wsX7_lead ({ frames := 1, cells := 0, slots := 0, locals := 22 }) (rwP [.ref a7, .int p1, .int p2] (dC, dI) vwCl (WX7 cy a7 a7_offset a7_gain a7_dark a7_bright a7_fromRow a7_toRow a7_left a7_right a7_slant a7_tintOf a7_speckOf a7_leadOf a7_stepKind a7_stepBy a7_pixels f7_offset f7_gain f7_dark f7_bright v7_ground v7_patches f7_fromRow f7_toRow f7_left f7_right f7_slant f7_tintOf f7_speckOf f7_leadOf v7_steps f7_stepKind f7_stepBy v7_threshold v7_isOn v7_lines v7_done v7_taken v7_lastPosition v7_position v7_mode v7_next v7_outs v7_stops v7_ticks f7_pixels) [(cy, .int)] sz) (rwQi r (dC, dI) vwCl (WX7 cy a7 a7_offset a7_gain a7_dark a7_bright a7_fromRow a7_toRow a7_left a7_right a7_slant a7_tintOf a7_speckOf a7_leadOf a7_stepKind a7_stepBy a7_pixels f7_offset f7_gain f7_dark f7_bright v7_ground v7_patches f7_fromRow f7_toRow f7_left f7_right f7_slant f7_tintOf f7_speckOf o_f7_leadOf v7_steps f7_stepKind f7_stepBy v7_threshold v7_isOn v7_lines v7_done v7_taken v7_lastPosition v7_position v7_mode v7_next v7_outs v7_stops v7_ticks f7_pixels) (va_A (WX7 cy a7 a7_offset a7_gain a7_dark a7_bright a7_fromRow a7_toRow a7_left a7_right a7_slant a7_tintOf a7_speckOf a7_leadOf a7_stepKind a7_stepBy a7_pixels f7_offset f7_gain f7_dark f7_bright v7_ground v7_patches f7_fromRow f7_toRow f7_left f7_right f7_slant f7_tintOf f7_speckOf f7_leadOf v7_steps f7_stepKind f7_stepBy v7_threshold v7_isOn v7_lines v7_done v7_taken v7_lastPosition v7_position v7_mode v7_next v7_outs v7_stops v7_ticks f7_pixels) sz)) 0 0 (va_A (WX7 cy a7 a7_offset a7_gain a7_dark a7_bright a7_fromRow a7_toRow a7_left a7_right a7_slant a7_tintOf a7_speckOf a7_leadOf a7_stepKind a7_stepBy a7_pixels f7_offset f7_gain f7_dark f7_bright v7_ground v7_patches f7_fromRow f7_toRow f7_left f7_right f7_slant f7_tintOf f7_speckOf f7_leadOf v7_steps f7_stepKind f7_stepBy v7_threshold v7_isOn v7_lines v7_done v7_taken v7_lastPosition v7_position v7_mode v7_next v7_outs v7_stops v7_ticks f7_pixels) sz) := by
  refine Met.ofW (cc := cX7_lead) (maxL := 4) (ret := (some .int)) (by decide) rfl ?_
  intro p e s m args below meth c s₁ B hml hv
  obtain ⟨rfl, hsz, hP, hK, hD0⟩ := hv
  have hx := B.exec
  have hb := B.bytes
  have hr := B.returns
  have hts := atoms_spec (ws := wsX7_lead) B.pre
  have hown : s.vm.findClass RX7 = some m.cls := findClass_of_methodNamed B.named
  have hlocks := B.notSynchronized
  have hiX7 : ∀ w ∈ u_ws RX7 TX7 30, w ∈ wsX7_lead := fun _ h => List.mem_cons_of_mem _ ((List.mem_append_right _ h))
  subst hsz
  have hD := hD0.self (sz := s.heap.size)
  generalize hAe : va_A (WX7 cy a7 a7_offset a7_gain a7_dark a7_bright a7_fromRow a7_toRow a7_left a7_right a7_slant a7_tintOf a7_speckOf a7_leadOf a7_stepKind a7_stepBy a7_pixels f7_offset f7_gain f7_dark f7_bright v7_ground v7_patches f7_fromRow f7_toRow f7_left f7_right f7_slant f7_tintOf f7_speckOf f7_leadOf v7_steps f7_stepKind f7_stepBy v7_threshold v7_isOn v7_lines v7_done v7_taken v7_lastPosition v7_position v7_mode v7_next v7_outs v7_stops v7_ticks f7_pixels) s.heap.size = A0 at hD ⊢
  have hA : ∀ q : Nat, s.heap.size ≤ q → A0 q := fun q h => by rw [← hAe]; exact Or.inr h
  have hS : va_S A0 s.heap s.heap [] := va_S.rf
  have hl := lv_entry ([.ref a7, .int p1, .int p2]) (n := 4) (Nat.le_of_ble_eq_true rfl)
  rw [lg_entry_eq]
  generalize (lg_sl ([.ref a7, .int p1, .int p2]) ++ List.replicate (4 - (lg_sl ([.ref a7, .int p1, .int p2])).length) Slot.unset).toArray = ls at hl ⊢
  have hl : lv_has ls 4 [(0, .ref a7), (1, .int p1), (2, .int p2)] := hl
  unfold fX7_lead at hf
  refine lv_iload_n hx hb dX7_lead_0 rfl (lv_at hl 1 rfl) ?_
  refine lv_iconst (v := (1 : Int32)) hx hb dX7_lead_1 (by decide) ?_
  refine lv_iconst (v := (2 : Int32)) hx hb dX7_lead_2 (by decide) ?_
  obtain ⟨r1, hr1, hf⟩ := cl1_sp hf
  refine ro_S (As := [.int p1, .int (1 : Int32), .int (2 : Int32)]) ⟨hx, hb, hml, hown, hts⟩ (kX7_within l _ p1 (1 : Int32) (2 : Int32) r1 hr1) (va_cwS 3 hts gX7_lead_X7_within rfl rfl rfl (by decide +kernel) ⟨Nat.le_of_ble_eq_true rfl, Nat.le_of_ble_eq_true rfl⟩) hS rfl hl.1 rfl (Nat.le_of_ble_eq_true rfl) dX7_lead_3 (Nat.zero_le _) (Nat.zero_le _) (fun locs hS => ?_)
  refine lv_if_ne (tgt := 11) hx hb dX7_lead_6 (by decide) (fun hc => ?_) (fun hc => ?_)
  · have hf := it_n hc hf
    refine lv_iload_n hx hb dX7_lead_11 rfl (lv_at hl 2 rfl) ?_
    refine lv_iconst (v := (0 : Int32)) hx hb dX7_lead_12 (by decide) ?_
    refine lv_bipush (v := (15 : Int32)) hx hb dX7_lead_13 (by decide) ?_
    obtain ⟨r2, hr2, hf⟩ := cl1_sp hf
    refine ro_S (As := [.int p2, .int (0 : Int32), .int (15 : Int32)]) ⟨hx, hb, hml, hown, hts⟩ (kX7_within l _ p2 (0 : Int32) (15 : Int32) r2 hr2) (va_cwS 3 hts gX7_lead_X7_within rfl rfl rfl (by decide +kernel) ⟨Nat.le_of_ble_eq_true rfl, Nat.le_of_ble_eq_true rfl⟩) hS rfl hl.1 rfl (Nat.le_of_ble_eq_true rfl) dX7_lead_15 (Nat.zero_le _) (Nat.zero_le _) (fun locs hS => ?_)
    refine lv_if_ne (tgt := 24) hx hb dX7_lead_18 (by decide) (fun hc => ?_) (fun hc => ?_)
    · have hf := it_n hc hf
      refine lv_aload_n hx hb dX7_lead_24 rfl (lv_at hl 0 rfl) ?_
      refine va_get (D := (dC, dI)) (ci := 6) (v := .int v7_isOn) (C := RX7) (T := TX7) (N := 30) hx hb hts hiX7 hown hK hP 0 rfl rfl 18 (by decide) (hts (.fieldLink RX7 83 "PageLinesModel" "isOn" "Z") (List.mem_of_getElem? (i := 1) rfl)) (fun _ h9 => h9) rfl dX7_lead_25 ?_
      refine lv_if_eq (tgt := 34) hx hb dX7_lead_28 (by decide) (fun hc => ?_) (fun hc => ?_)
      · have hf := it_p hc hf
        refine lv_aload_n hx hb dX7_lead_34 rfl (lv_at hl 0 rfl) ?_
        refine va_get (D := (dC, dI)) (ci := 6) (v := .ref a7_leadOf) (C := RX7) (T := TX7) (N := 30) hx hb hts hiX7 hown hK hP 0 rfl rfl 13 (by decide) (hts (.fieldLink RX7 47 "PageLinesModel" "leadOf" "[I") (List.mem_of_getElem? (i := 2) rfl)) (fun _ h9 => h9) rfl dX7_lead_35 ?_
        refine lv_iload_n hx hb dX7_lead_38 rfl (lv_at hl 1 rfl) ?_
        obtain ⟨hi_3, hf⟩ := ckI_sp hf
        refine va_iald hx hb hK hP 12 0 rfl rfl hi_3 dX7_lead_39 ?_
        refine lv_istore_n (lv' := [(3, .int (f7_leadOf p1.toNatClampNeg)), (0, .ref a7), (1, .int p1), (2, .int p2)]) hx hb dX7_lead_40 rfl hl (by decide) rfl (fun ls hl => ?_)
        refine lv_aload_n hx hb dX7_lead_41 rfl (lv_at hl 1 rfl) ?_
        refine va_get (D := (dC, dI)) (ci := 6) (v := .ref a7_leadOf) (C := RX7) (T := TX7) (N := 30) hx hb hts hiX7 hown hK hP 0 rfl rfl 13 (by decide) (hts (.fieldLink RX7 47 "PageLinesModel" "leadOf" "[I") (List.mem_of_getElem? (i := 2) rfl)) (fun _ h9 => h9) rfl dX7_lead_42 ?_
        refine lv_iload_n hx hb dX7_lead_45 rfl (lv_at hl 2 rfl) ?_
        refine lv_iload_n hx hb dX7_lead_46 rfl (lv_at hl 3 rfl) ?_
        obtain ⟨hi_4, hf⟩ := ckI_sp hf
        refine va_iast hx hb hK hP hD hS 12 0 rfl rfl hi_4 dX7_lead_47 (fun H locs hP hD hS => ?_)
        have hP : va_P (dC, dI) vwCl (WX7 cy a7 a7_offset a7_gain a7_dark a7_bright a7_fromRow a7_toRow a7_left a7_right a7_slant a7_tintOf a7_speckOf a7_leadOf a7_stepKind a7_stepBy a7_pixels f7_offset f7_gain f7_dark f7_bright v7_ground v7_patches f7_fromRow f7_toRow f7_left f7_right f7_slant f7_tintOf f7_speckOf (upd f7_leadOf p1.toNatClampNeg p2) v7_steps f7_stepKind f7_stepBy v7_threshold v7_isOn v7_lines v7_done v7_taken v7_lastPosition v7_position v7_mode v7_next v7_outs v7_stops v7_ticks f7_pixels) H := hP
        have hD : va_D A0 (WX7 cy a7 a7_offset a7_gain a7_dark a7_bright a7_fromRow a7_toRow a7_left a7_right a7_slant a7_tintOf a7_speckOf a7_leadOf a7_stepKind a7_stepBy a7_pixels f7_offset f7_gain f7_dark f7_bright v7_ground v7_patches f7_fromRow f7_toRow f7_left f7_right f7_slant f7_tintOf f7_speckOf (upd f7_leadOf p1.toNatClampNeg p2) v7_steps f7_stepKind f7_stepBy v7_threshold v7_isOn v7_lines v7_done v7_taken v7_lastPosition v7_position v7_mode v7_next v7_outs v7_stops v7_ticks f7_pixels) := hD
        refine lv_iload_n hx hb dX7_lead_48 rfl (lv_at hl 0 rfl) ?_
        cases hf
        exact W.iret hx hb hr (fun t ht hW => ⟨⟨_, (), rfl, rfl, by rw [ht]; exact hP, hD⟩, hS.F ht⟩) hS.2.2 dX7_lead_49
      · have hf := it_n hc hf
        refine lv_bipush (v := (-3 : Int32)) hx hb dX7_lead_31 (by decide) ?_
        cases hf
        exact W.iret hx hb hr (fun t ht hW => ⟨⟨_, (), rfl, rfl, by rw [ht]; exact hP, hD⟩, hS.F ht⟩) hS.2.2 dX7_lead_33
    · have hf := it_p hc hf
      refine lv_bipush (v := (-2 : Int32)) hx hb dX7_lead_21 (by decide) ?_
      cases hf
      exact W.iret hx hb hr (fun t ht hW => ⟨⟨_, (), rfl, rfl, by rw [ht]; exact hP, hD⟩, hS.F ht⟩) hS.2.2 dX7_lead_23
  · have hf := it_p hc hf
    refine lv_iconst (v := (-1 : Int32)) hx hb dX7_lead_9 (by decide) ?_
    cases hf
    exact W.iret hx hb hr (fun t ht hW => ⟨⟨_, (), rfl, rfl, by rw [ht]; exact hP, hD⟩, hS.F ht⟩) hS.2.2 dX7_lead_10
set_option maxHeartbeats 4000000 in
set_option maxRecDepth 100000 in
theorem kX7_isStep (l : Launch) (H : Heap) (p1 : Int32) (p2 : Int32) (r : Int32) (hf : fX7_isStep p1 p2 = some r) : Met l yX7_isStep wsX7_isStep ({ frames := 1, cells := 0, slots := 0, locals := 22 }) (roP0 [.int p1, .int p2] H) (roQi r H) 0 0 (fun _ => False) := by
  refine Met.ofW (cc := cX7_isStep) (maxL := 2) (ret := (some .boolean)) (by decide) rfl ?_
  intro p e s m args below meth c s₁ B hml hv
  obtain ⟨rfl, hH⟩ := hv
  have hx := B.exec
  have hb := B.bytes
  have hr := B.returns
  have hts := atoms_spec (ws := wsX7_isStep) B.pre
  have hown : s.vm.findClass RX7 = some m.cls := findClass_of_methodNamed B.named
  have hlocks := B.notSynchronized
  subst hH
  have hS : va_S (fun _ => False) s.heap s.heap [] := va_S.rf
  have hl := lv_entry ([.int p1, .int p2]) (n := 2) (Nat.le_of_ble_eq_true rfl)
  rw [lg_entry_eq]
  generalize (lg_sl ([.int p1, .int p2]) ++ List.replicate (2 - (lg_sl ([.int p1, .int p2])).length) Slot.unset).toArray = ls at hl ⊢
  have hl : lv_has ls 2 [(0, .int p1), (1, .int p2)] := hl
  unfold fX7_isStep at hf
  refine lv_iload_n hx hb dX7_isStep_0 rfl (lv_at hl 0 rfl) ?_
  by_cases hs1 : p1 = (0 : Int32)
  · refine lv_tableIn (tgt := 32) (off := 31) hx hb dX7_isStep_1 (by rw [hs1]; decide) (by rw [hs1]; decide) (by rw [hs1]; rfl) (by decide) ?_
    have hf := it_p hs1 hf
    refine lv_iconst (v := (1 : Int32)) hx hb dX7_isStep_32 (by decide) ?_
    exact W.zret (v := (1 : Int32)) hx hb hr rfl (fun t ht hW => ⟨⟨_, (), rfl, Option.some.inj hf, ht⟩, hS.F ht⟩) hS.2.2 dX7_isStep_33
  · have hf := it_n hs1 hf
    by_cases hs2 : p1 = (1 : Int32)
    · refine lv_tableIn (tgt := 45) (off := 44) hx hb dX7_isStep_1 (by rw [hs2]; decide) (by rw [hs2]; decide) (by rw [hs2]; rfl) (by decide) ?_
      have hf := it_p hs2 hf
      refine lv_iload_n hx hb dX7_isStep_45 rfl (lv_at hl 1 rfl) ?_
      refine lv_iconst (v := (0 : Int32)) hx hb dX7_isStep_46 (by decide) ?_
      refine lv_sipush (v := (255 : Int32)) hx hb dX7_isStep_47 (by decide) ?_
      obtain ⟨r3, hr3, hf⟩ := cl1_sp hf
      refine ro_S (As := [.int p2, .int (0 : Int32), .int (255 : Int32)]) ⟨hx, hb, hml, hown, hts⟩ (kX7_within l _ p2 (0 : Int32) (255 : Int32) r3 hr3) (va_cwS 3 hts gX7_isStep_X7_within rfl rfl rfl (by decide +kernel) ⟨Nat.le_of_ble_eq_true rfl, Nat.le_of_ble_eq_true rfl⟩) hS rfl hl.1 rfl (Nat.le_of_ble_eq_true rfl) dX7_isStep_50 (Nat.zero_le _) (Nat.zero_le _) (fun locs hS => ?_)
      obtain ⟨hnb, hf⟩ := ckB_sp hf
      exact W.zret (v := r3) hx hb hr hnb (fun t ht hW => ⟨⟨_, (), rfl, Option.some.inj hf, ht⟩, hS.F ht⟩) hS.2.2 dX7_isStep_53
    · have hf := it_n hs2 hf
      by_cases hs4 : p1 = (2 : Int32)
      · refine lv_tableIn (tgt := 34) (off := 33) hx hb dX7_isStep_1 (by rw [hs4]; decide) (by rw [hs4]; decide) (by rw [hs4]; rfl) (by decide) ?_
        have hf := it_p hs4 hf
        refine lv_iload_n hx hb dX7_isStep_34 rfl (lv_at hl 1 rfl) ?_
        refine lv_sipush (v := (-255 : Int32)) hx hb dX7_isStep_35 (by decide) ?_
        refine lv_sipush (v := (255 : Int32)) hx hb dX7_isStep_38 (by decide) ?_
        obtain ⟨r5, hr5, hf⟩ := cl1_sp hf
        refine ro_S (As := [.int p2, .int (-255 : Int32), .int (255 : Int32)]) ⟨hx, hb, hml, hown, hts⟩ (kX7_within l _ p2 (-255 : Int32) (255 : Int32) r5 hr5) (va_cwS 3 hts gX7_isStep_X7_within rfl rfl rfl (by decide +kernel) ⟨Nat.le_of_ble_eq_true rfl, Nat.le_of_ble_eq_true rfl⟩) hS rfl hl.1 rfl (Nat.le_of_ble_eq_true rfl) dX7_isStep_41 (Nat.zero_le _) (Nat.zero_le _) (fun locs hS => ?_)
        obtain ⟨hnb, hf⟩ := ckB_sp hf
        exact W.zret (v := r5) hx hb hr hnb (fun t ht hW => ⟨⟨_, (), rfl, Option.some.inj hf, ht⟩, hS.F ht⟩) hS.2.2 dX7_isStep_44
      · have hf := it_n hs4 hf
        by_cases hs6 : p1 = (3 : Int32)
        · refine lv_tableIn (tgt := 45) (off := 44) hx hb dX7_isStep_1 (by rw [hs6]; decide) (by rw [hs6]; decide) (by rw [hs6]; rfl) (by decide) ?_
          have hf := it_p hs6 hf
          refine lv_iload_n hx hb dX7_isStep_45 rfl (lv_at hl 1 rfl) ?_
          refine lv_iconst (v := (0 : Int32)) hx hb dX7_isStep_46 (by decide) ?_
          refine lv_sipush (v := (255 : Int32)) hx hb dX7_isStep_47 (by decide) ?_
          obtain ⟨r7, hr7, hf⟩ := cl1_sp hf
          refine ro_S (As := [.int p2, .int (0 : Int32), .int (255 : Int32)]) ⟨hx, hb, hml, hown, hts⟩ (kX7_within l _ p2 (0 : Int32) (255 : Int32) r7 hr7) (va_cwS 3 hts gX7_isStep_X7_within rfl rfl rfl (by decide +kernel) ⟨Nat.le_of_ble_eq_true rfl, Nat.le_of_ble_eq_true rfl⟩) hS rfl hl.1 rfl (Nat.le_of_ble_eq_true rfl) dX7_isStep_50 (Nat.zero_le _) (Nat.zero_le _) (fun locs hS => ?_)
          obtain ⟨hnb, hf⟩ := ckB_sp hf
          exact W.zret (v := r7) hx hb hr hnb (fun t ht hW => ⟨⟨_, (), rfl, Option.some.inj hf, ht⟩, hS.F ht⟩) hS.2.2 dX7_isStep_53
        · have hf := it_n hs6 hf
          refine lv_tableOut (tgt := 54) hx hb dX7_isStep_1 (by have e0 := lv_neT hs1 (show ((0 : Int32)).toInt = 0 from by decide); have e1 := lv_neT hs2 (show ((1 : Int32)).toInt = 1 from by decide); have e2 := lv_neT hs4 (show ((2 : Int32)).toInt = 2 from by decide); have e3 := lv_neT hs6 (show ((3 : Int32)).toInt = 3 from by decide); omega) (by decide) ?_
          refine lv_iconst (v := (0 : Int32)) hx hb dX7_isStep_54 (by decide) ?_
          exact W.zret (v := (0 : Int32)) hx hb hr rfl (fun t ht hW => ⟨⟨_, (), rfl, Option.some.inj hf, ht⟩, hS.F ht⟩) hS.2.2 dX7_isStep_55

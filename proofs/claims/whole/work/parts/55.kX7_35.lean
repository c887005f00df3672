set_option maxHeartbeats 4000000 in
set_option maxRecDepth 100000 in
theorem kX7_darkOf (l : Launch) (dC : Nat → ClassId) (dI : Nat → Nat → Nat) (cy : ClassId) (H : Heap) (a7 a7_offset a7_gain a7_dark a7_bright a7_fromRow a7_toRow a7_left a7_right a7_slant a7_tintOf a7_speckOf a7_leadOf a7_stepKind a7_stepBy a7_pixels : Nat) (f7_offset : Nat → Int32) (f7_gain : Nat → Int32) (f7_dark : Nat → Int32) (f7_bright : Nat → Int32) (v7_ground : Int32) (v7_patches : Int32) (f7_fromRow : Nat → Int32) (f7_toRow : Nat → Int32) (f7_left : Nat → Int32) (f7_right : Nat → Int32) (f7_slant : Nat → Int32) (f7_tintOf : Nat → Int32) (f7_speckOf : Nat → Int32) (f7_leadOf : Nat → Int32) (v7_steps : Int32) (f7_stepKind : Nat → Int32) (f7_stepBy : Nat → Int32) (v7_threshold : Int32) (v7_isOn : Int32) (v7_lines : Int32) (v7_done : Int32) (v7_taken : Int32) (v7_lastPosition : Int32) (v7_position : Int32) (v7_mode : Int32) (v7_next : Int32) (v7_outs : Int32) (v7_stops : Int32) (v7_ticks : Int32) (f7_pixels : Nat → Int32) (p1 : Int32) (r : Int32) (hf : fX7_darkOf v7_threshold f7_pixels p1 = some r) : Met l yX7_darkOf wsX7_darkOf ({ frames := 2, cells := 0, slots := 0, locals := 44 }) (roP [.ref a7, .int p1] (dC, dI) vwCl (WX7 cy a7 a7_offset a7_gain a7_dark a7_bright a7_fromRow a7_toRow a7_left a7_right a7_slant a7_tintOf a7_speckOf a7_leadOf a7_stepKind a7_stepBy a7_pixels f7_offset f7_gain f7_dark f7_bright v7_ground v7_patches f7_fromRow f7_toRow f7_left f7_right f7_slant f7_tintOf f7_speckOf f7_leadOf v7_steps f7_stepKind f7_stepBy v7_threshold v7_isOn v7_lines v7_done v7_taken v7_lastPosition v7_position v7_mode v7_next v7_outs v7_stops v7_ticks f7_pixels) [(cy, .int)] H) (roQi r H) 0 0 (fun _ => False) := by
  refine Met.ofW (cc := cX7_darkOf) (maxL := 4) (ret := (some .int)) (by decide) rfl ?_
  intro p e s m args below meth c s₁ B hml hv
  obtain ⟨rfl, hH, hP, hK⟩ := hv
  have hx := B.exec
  have hb := B.bytes
  have hr := B.returns
  have hts := atoms_spec (ws := wsX7_darkOf) B.pre
  have hown : s.vm.findClass RX7 = some m.cls := findClass_of_methodNamed B.named
  have hlocks := B.notSynchronized
  have hiX7 : ∀ w ∈ u_ws RX7 TX7 30, w ∈ wsX7_darkOf := fun _ h => List.mem_cons_of_mem _ ((List.mem_append_right _ h))
  subst hH
  have hS : va_S (fun _ => False) s.heap s.heap [] := va_S.rf
  have hb_4 : ∀ (n : Nat) (x1 : Int32) (x2 : Int32) (x3 : Int32), bX7_darkOf_4 v7_threshold f7_pixels n x1 x2 x3 = some r → ∀ (locs : List Loc) (ls : Array Slot), va_S (fun _ => False) s.heap s.heap locs → lv_has ls 4 [(0, .ref a7), (1, .int x1), (2, .int x2), (3, .int x3)] → W p l e (headSpec wsX7_darkOf ({ frames := 2, cells := 0, slots := 0, locals := 44 })).room s m ([.ref a7, .int p1] : List Value).toArray below meth c s.heap locs 0 0 (MQ below (roQi r s.heap) ([.ref a7, .int p1] : List Value).toArray s 0 0 (fun _ => False)) (F0 m 4 ls []) := by
    intro n
    induction n with
    | zero => intro x1 x2 x3 hf; rw [bX7_darkOf_4] at hf; cases hf
    | succ n4 ih4 =>
      intro x1 x2 x3 hf locs ls hS hl
      rw [bX7_darkOf_4] at hf
      refine lv_iload_n hx hb dX7_darkOf_4 rfl (lv_at hl 3 rfl) ?_
      refine lv_bipush (v := (12 : Int32)) hx hb dX7_darkOf_5 (by decide) ?_
      refine lv_icmp_ge (tgt := 39) hx hb dX7_darkOf_7 (by decide) (fun hc => ?_) (fun hc => ?_)
      · have hf := it_p hc hf
        refine lv_iload_n hx hb dX7_darkOf_39 rfl (lv_at hl 2 rfl) ?_
        exact W.iret (v := x2) hx hb hr (fun t ht hW => ⟨⟨_, (), rfl, Option.some.inj hf, ht⟩, hS.F ht⟩) hS.2.2 dX7_darkOf_40
      · have hf := it_n hc hf
        refine lv_iload_n hx hb dX7_darkOf_10 rfl (lv_at hl 2 rfl) ?_
        refine lv_aload_n hx hb dX7_darkOf_11 rfl (lv_at hl 0 rfl) ?_
        refine lv_iload_n hx hb dX7_darkOf_12 rfl (lv_at hl 1 rfl) ?_
        refine lv_iload_n hx hb dX7_darkOf_13 rfl (lv_at hl 3 rfl) ?_
        obtain ⟨r2, hr2, hf⟩ := cl1_sp hf
        refine ro_V (As := [.int x1, .int x3]) ⟨hx, hb, hml, hown, hts⟩ (kX7_greyOf l dC dI cy _ a7 a7_offset a7_gain a7_dark a7_bright a7_fromRow a7_toRow a7_left a7_right a7_slant a7_tintOf a7_speckOf a7_leadOf a7_stepKind a7_stepBy a7_pixels f7_offset f7_gain f7_dark f7_bright v7_ground v7_patches f7_fromRow f7_toRow f7_left f7_right f7_slant f7_tintOf f7_speckOf f7_leadOf v7_steps f7_stepKind f7_stepBy v7_threshold v7_isOn v7_lines v7_done v7_taken v7_lastPosition v7_position v7_mode v7_next v7_outs v7_stops v7_ticks f7_pixels x1 x3 r2 hr2) (cwV 2 hts gX7_darkOf_X7_greyOf rfl rfl rfl (by decide +kernel) ⟨Nat.le_of_ble_eq_true rfl, Nat.le_of_ble_eq_true rfl⟩) (va_recv hK hP (ci := 6) (q0 := 0) rfl rfl) (hP.sub [0, 1, 2, 3, 4, 5, 6, 7, 8, 9, 10, 11, 12, 13, 14, 15] rfl) hK hS rfl hl.1 rfl (Nat.le_of_ble_eq_true rfl) dX7_darkOf_14 (Nat.zero_le _) (Nat.zero_le _) (fun locs hS => ?_)
        refine lv_aload_n hx hb dX7_darkOf_17 rfl (lv_at hl 0 rfl) ?_
        refine va_get (D := (dC, dI)) (ci := 6) (v := .int v7_threshold) (C := RX7) (T := TX7) (N := 30) hx hb hts hiX7 hown hK hP 0 rfl rfl 17 (by decide) (hts (.fieldLink RX7 56 "PageLinesModel" "threshold" "I") (List.mem_of_getElem? (i := 1) rfl)) (fun _ h9 => h9) rfl dX7_darkOf_18 ?_
        refine lv_icmp_ge (tgt := 30) hx hb dX7_darkOf_21 (by decide) (fun hc => ?_) (fun hc => ?_)
        · have hf := it_p hc hf
          refine lv_iconst (v := (0 : Int32)) hx hb dX7_darkOf_30 (by decide) ?_
          refine lv_ior hx hb dX7_darkOf_31 ?_
          refine lv_istore_n (lv' := [(2, .int (x2 ||| (0 : Int32))), (0, .ref a7), (1, .int x1), (3, .int x3)]) hx hb dX7_darkOf_32 rfl hl (by decide) rfl (fun ls hl => ?_)
          refine lv_iinc (v := x3 + (1 : Int32)) (lv' := [(3, .int (x3 + (1 : Int32))), (2, .int (x2 ||| (0 : Int32))), (0, .ref a7), (1, .int x1)]) hx hb dX7_darkOf_33 hl (k := 3) rfl rfl (by decide) rfl (fun ls hl => ?_)
          refine lv_goto (tgt := 4) hx hb dX7_darkOf_36 (by decide) ?_
          exact ih4 x1 (x2 ||| (0 : Int32)) (x3 + (1 : Int32)) hf _ _ hS (lv_sub hl [2, 3, 1, 0] rfl)
        · have hf := it_n hc hf
          refine lv_iconst (v := (1 : Int32)) hx hb dX7_darkOf_24 (by decide) ?_
          refine lv_iload_n hx hb dX7_darkOf_25 rfl (lv_at hl 3 rfl) ?_
          refine lv_ishl hx hb dX7_darkOf_26 ?_
          refine lv_goto (tgt := 31) hx hb dX7_darkOf_27 (by decide) ?_
          refine lv_ior hx hb dX7_darkOf_31 ?_
          refine lv_istore_n (lv' := [(2, .int (x2 ||| ((1 : Int32) <<< (x3 &&& 31)))), (0, .ref a7), (1, .int x1), (3, .int x3)]) hx hb dX7_darkOf_32 rfl hl (by decide) rfl (fun ls hl => ?_)
          refine lv_iinc (v := x3 + (1 : Int32)) (lv' := [(3, .int (x3 + (1 : Int32))), (2, .int (x2 ||| ((1 : Int32) <<< (x3 &&& 31)))), (0, .ref a7), (1, .int x1)]) hx hb dX7_darkOf_33 hl (k := 3) rfl rfl (by decide) rfl (fun ls hl => ?_)
          refine lv_goto (tgt := 4) hx hb dX7_darkOf_36 (by decide) ?_
          exact ih4 x1 (x2 ||| ((1 : Int32) <<< (x3 &&& 31))) (x3 + (1 : Int32)) hf _ _ hS (lv_sub hl [2, 3, 1, 0] rfl)
  have hl := lv_entry ([.ref a7, .int p1]) (n := 4) (Nat.le_of_ble_eq_true rfl)
  rw [lg_entry_eq]
  generalize (lg_sl ([.ref a7, .int p1]) ++ List.replicate (4 - (lg_sl ([.ref a7, .int p1])).length) Slot.unset).toArray = ls at hl ⊢
  have hl : lv_has ls 4 [(0, .ref a7), (1, .int p1)] := hl
  unfold fX7_darkOf at hf
  refine lv_iconst (v := (0 : Int32)) hx hb dX7_darkOf_0 (by decide) ?_
  refine lv_istore_n (lv' := [(2, .int (0 : Int32)), (0, .ref a7), (1, .int p1)]) hx hb dX7_darkOf_1 rfl hl (by decide) rfl (fun ls hl => ?_)
  refine lv_iconst (v := (0 : Int32)) hx hb dX7_darkOf_2 (by decide) ?_
  refine lv_istore_n (lv' := [(3, .int (0 : Int32)), (2, .int (0 : Int32)), (0, .ref a7), (1, .int p1)]) hx hb dX7_darkOf_3 rfl hl (by decide) rfl (fun ls hl => ?_)
  exact hb_4 300 p1 (0 : Int32) (0 : Int32) hf _ _ hS (lv_sub hl [2, 3, 1, 0] rfl)
set_option maxHeartbeats 4000000 in
set_option maxRecDepth 100000 in
theorem kX7_dark (l : Launch) (dC : Nat → ClassId) (dI : Nat → Nat → Nat) (cy : ClassId) (H : Heap) (a7 a7_offset a7_gain a7_dark a7_bright a7_fromRow a7_toRow a7_left a7_right a7_slant a7_tintOf a7_speckOf a7_leadOf a7_stepKind a7_stepBy a7_pixels : Nat) (f7_offset : Nat → Int32) (f7_gain : Nat → Int32) (f7_dark : Nat → Int32) (f7_bright : Nat → Int32) (v7_ground : Int32) (v7_patches : Int32) (f7_fromRow : Nat → Int32) (f7_toRow : Nat → Int32) (f7_left : Nat → Int32) (f7_right : Nat → Int32) (f7_slant : Nat → Int32) (f7_tintOf : Nat → Int32) (f7_speckOf : Nat → Int32) (f7_leadOf : Nat → Int32) (v7_steps : Int32) (f7_stepKind : Nat → Int32) (f7_stepBy : Nat → Int32) (v7_threshold : Int32) (v7_isOn : Int32) (v7_lines : Int32) (v7_done : Int32) (v7_taken : Int32) (v7_lastPosition : Int32) (v7_position : Int32) (v7_mode : Int32) (v7_next : Int32) (v7_outs : Int32) (v7_stops : Int32) (v7_ticks : Int32) (f7_pixels : Nat → Int32) (p1 : Int32) (r : Int32) (hf : fX7_dark v7_threshold v7_taken f7_pixels p1 = some r) : Met l yX7_dark wsX7_dark ({ frames := 3, cells := 0, slots := 0, locals := 67 }) (roP [.ref a7, .int p1] (dC, dI) vwCl (WX7 cy a7 a7_offset a7_gain a7_dark a7_bright a7_fromRow a7_toRow a7_left a7_right a7_slant a7_tintOf a7_speckOf a7_leadOf a7_stepKind a7_stepBy a7_pixels f7_offset f7_gain f7_dark f7_bright v7_ground v7_patches f7_fromRow f7_toRow f7_left f7_right f7_slant f7_tintOf f7_speckOf f7_leadOf v7_steps f7_stepKind f7_stepBy v7_threshold v7_isOn v7_lines v7_done v7_taken v7_lastPosition v7_position v7_mode v7_next v7_outs v7_stops v7_ticks f7_pixels) [(cy, .int)] H) (roQi r H) 0 0 (fun _ => False) := by
  refine Met.ofW (cc := cX7_dark) (maxL := 2) (ret := (some .int)) (by decide) rfl ?_
  intro p e s m args below meth c s₁ B hml hv
  obtain ⟨rfl, hH, hP, hK⟩ := hv
  have hx := B.exec
  have hb := B.bytes
  have hr := B.returns
  have hts := atoms_spec (ws := wsX7_dark) B.pre
  have hown : s.vm.findClass RX7 = some m.cls := findClass_of_methodNamed B.named
  have hlocks := B.notSynchronized
  have hiX7 : ∀ w ∈ u_ws RX7 TX7 30, w ∈ wsX7_dark := fun _ h => List.mem_cons_of_mem _ ((List.mem_append_right _ h))
  subst hH
  have hS : va_S (fun _ => False) s.heap s.heap [] := va_S.rf
  have hl := lv_entry ([.ref a7, .int p1]) (n := 2) (Nat.le_of_ble_eq_true rfl)
  rw [lg_entry_eq]
  generalize (lg_sl ([.ref a7, .int p1]) ++ List.replicate (2 - (lg_sl ([.ref a7, .int p1])).length) Slot.unset).toArray = ls at hl ⊢
  have hl : lv_has ls 2 [(0, .ref a7), (1, .int p1)] := hl
  unfold fX7_dark at hf
  refine lv_aload_n hx hb dX7_dark_0 rfl (lv_at hl 0 rfl) ?_
  refine lv_iload_n hx hb dX7_dark_1 rfl (lv_at hl 1 rfl) ?_
  obtain ⟨r1, hr1, hf⟩ := cl1_sp hf
  refine ro_V (As := [.int p1]) ⟨hx, hb, hml, hown, hts⟩ (kX7_isTaken l dC dI cy _ a7 a7_offset a7_gain a7_dark a7_bright a7_fromRow a7_toRow a7_left a7_right a7_slant a7_tintOf a7_speckOf a7_leadOf a7_stepKind a7_stepBy a7_pixels f7_offset f7_gain f7_dark f7_bright v7_ground v7_patches f7_fromRow f7_toRow f7_left f7_right f7_slant f7_tintOf f7_speckOf f7_leadOf v7_steps f7_stepKind f7_stepBy v7_threshold v7_isOn v7_lines v7_done v7_taken v7_lastPosition v7_position v7_mode v7_next v7_outs v7_stops v7_ticks f7_pixels p1 r1 hr1) (cwV 1 hts gX7_dark_X7_isTaken rfl rfl rfl (by decide +kernel) ⟨Nat.le_of_ble_eq_true rfl, Nat.le_of_ble_eq_true rfl⟩) (va_recv hK hP (ci := 6) (q0 := 0) rfl rfl) (hP.sub [0, 1, 2, 3, 4, 5, 6, 7, 8, 9, 10, 11, 12, 13, 14, 15] rfl) hK hS rfl hl.1 rfl (Nat.le_of_ble_eq_true rfl) dX7_dark_2 (Nat.zero_le _) (Nat.zero_le _) (fun locs hS => ?_)
  refine lv_if_eq (tgt := 16) hx hb dX7_dark_5 (by decide) (fun hc => ?_) (fun hc => ?_)
  · have hf := it_p hc hf
    refine lv_iconst (v := (-1 : Int32)) hx hb dX7_dark_16 (by decide) ?_
    exact W.iret (v := (-1 : Int32)) hx hb hr (fun t ht hW => ⟨⟨_, (), rfl, Option.some.inj hf, ht⟩, hS.F ht⟩) hS.2.2 dX7_dark_17
  · have hf := it_n hc hf
    refine lv_aload_n hx hb dX7_dark_8 rfl (lv_at hl 0 rfl) ?_
    refine lv_iload_n hx hb dX7_dark_9 rfl (lv_at hl 1 rfl) ?_
    obtain ⟨r2, hr2, hf⟩ := cl1_sp hf
    refine ro_V (As := [.int p1]) ⟨hx, hb, hml, hown, hts⟩ (kX7_darkOf l dC dI cy _ a7 a7_offset a7_gain a7_dark a7_bright a7_fromRow a7_toRow a7_left a7_right a7_slant a7_tintOf a7_speckOf a7_leadOf a7_stepKind a7_stepBy a7_pixels f7_offset f7_gain f7_dark f7_bright v7_ground v7_patches f7_fromRow f7_toRow f7_left f7_right f7_slant f7_tintOf f7_speckOf f7_leadOf v7_steps f7_stepKind f7_stepBy v7_threshold v7_isOn v7_lines v7_done v7_taken v7_lastPosition v7_position v7_mode v7_next v7_outs v7_stops v7_ticks f7_pixels p1 r2 hr2) (cwV 1 hts gX7_dark_X7_darkOf rfl rfl rfl (by decide +kernel) ⟨Nat.le_of_ble_eq_true rfl, Nat.le_of_ble_eq_true rfl⟩) (va_recv hK hP (ci := 6) (q0 := 0) rfl rfl) (hP.sub [0, 1, 2, 3, 4, 5, 6, 7, 8, 9, 10, 11, 12, 13, 14, 15] rfl) hK hS rfl hl.1 rfl (Nat.le_of_ble_eq_true rfl) dX7_dark_10 (Nat.zero_le _) (Nat.zero_le _) (fun locs hS => ?_)
    refine lv_goto (tgt := 17) hx hb dX7_dark_13 (by decide) ?_
    exact W.iret (v := r2) hx hb hr (fun t ht hW => ⟨⟨_, (), rfl, Option.some.inj hf, ht⟩, hS.F ht⟩) hS.2.2 dX7_dark_17
set_option maxHeartbeats 4000000 in
set_option maxRecDepth 100000 in
theorem kX7_begins (l : Launch) (H : Heap) (p1 : Int32) (r : Int32) (hf : fX7_begins p1 = some r) : Met l yX7_begins wsX7_begins ({ frames := 0, cells := 0, slots := 0, locals := 0 }) (roP0 [.int p1] H) (roQi r H) 0 0 (fun _ => False) := by
  refine Met.ofW (cc := cX7_begins) (maxL := 1) (ret := (some .int)) (by decide) rfl ?_
  intro p e s m args below meth c s₁ B hml hv
  obtain ⟨rfl, hH⟩ := hv
  have hx := B.exec
  have hb := B.bytes
  have hr := B.returns
  have hts := atoms_spec (ws := wsX7_begins) B.pre
  have hown : s.vm.findClass RX7 = some m.cls := findClass_of_methodNamed B.named
  have hlocks := B.notSynchronized
  subst hH
  have hS : va_S (fun _ => False) s.heap s.heap [] := va_S.rf
  have hl := lv_entry ([.int p1]) (n := 1) (Nat.le_of_ble_eq_true rfl)
  rw [lg_entry_eq]
  generalize (lg_sl ([.int p1]) ++ List.replicate (1 - (lg_sl ([.int p1])).length) Slot.unset).toArray = ls at hl ⊢
  have hl : lv_has ls 1 [(0, .int p1)] := hl
  unfold fX7_begins at hf
  refine lv_iload_n hx hb dX7_begins_0 rfl (lv_at hl 0 rfl) ?_
  refine lv_iload_n hx hb dX7_begins_1 rfl (lv_at hl 0 rfl) ?_
  refine lv_iconst (v := (1 : Int32)) hx hb dX7_begins_2 (by decide) ?_
  refine lv_ishl hx hb dX7_begins_3 ?_
  refine lv_iconst (v := (-1 : Int32)) hx hb dX7_begins_4 (by decide) ?_
  refine lv_ixor hx hb dX7_begins_5 ?_
  refine lv_iand hx hb dX7_begins_6 ?_
  exact W.iret (v := p1 &&& ((p1 <<< ((1 : Int32) &&& 31)) ^^^ (-1 : Int32))) hx hb hr (fun t ht hW => ⟨⟨_, (), rfl, Option.some.inj hf, ht⟩, hS.F ht⟩) hS.2.2 dX7_begins_7
set_option maxHeartbeats 4000000 in
set_option maxRecDepth 100000 in
theorem kX7_sizeOf (l : Launch) (H : Heap) (p1 : Int32) (r : Int32) (hf : fX7_sizeOf p1 = some r) : Met l yX7_sizeOf wsX7_sizeOf ({ frames := 0, cells := 0, slots := 0, locals := 0 }) (roP0 [.int p1] H) (roQi r H) 0 0 (fun _ => False) := by
  refine Met.ofW (cc := cX7_sizeOf) (maxL := 3) (ret := (some .int)) (by decide) rfl ?_
  intro p e s m args below meth c s₁ B hml hv
  obtain ⟨rfl, hH⟩ := hv
  have hx := B.exec
  have hb := B.bytes
  have hr := B.returns
  have hts := atoms_spec (ws := wsX7_sizeOf) B.pre
  have hown : s.vm.findClass RX7 = some m.cls := findClass_of_methodNamed B.named
  have hlocks := B.notSynchronized
  subst hH
  have hS : va_S (fun _ => False) s.heap s.heap [] := va_S.rf
  have hb_4 : ∀ (n : Nat) (x0 : Int32) (x1 : Int32) (x2 : Int32), bX7_sizeOf_4 n x0 x1 x2 = some r → ∀ (locs : List Loc) (ls : Array Slot), va_S (fun _ => False) s.heap s.heap locs → lv_has ls 3 [(0, .int x0), (1, .int x1), (2, .int x2)] → W p l e (headSpec wsX7_sizeOf ({ frames := 0, cells := 0, slots := 0, locals := 0 })).room s m ([.int p1] : List Value).toArray below meth c s.heap locs 0 0 (MQ below (roQi r s.heap) ([.int p1] : List Value).toArray s 0 0 (fun _ => False)) (F0 m 4 ls []) := by
    intro n
    induction n with
    | zero => intro x0 x1 x2 hf; rw [bX7_sizeOf_4] at hf; cases hf
    | succ n4 ih4 =>
      intro x0 x1 x2 hf locs ls hS hl
      rw [bX7_sizeOf_4] at hf
      refine lv_iload_n hx hb dX7_sizeOf_4 rfl (lv_at hl 2 rfl) ?_
      refine lv_bipush (v := (12 : Int32)) hx hb dX7_sizeOf_5 (by decide) ?_
      refine lv_icmp_ge (tgt := 24) hx hb dX7_sizeOf_7 (by decide) (fun hc => ?_) (fun hc => ?_)
      · have hf := it_p hc hf
        refine lv_iload_n hx hb dX7_sizeOf_24 rfl (lv_at hl 1 rfl) ?_
        exact W.iret (v := x1) hx hb hr (fun t ht hW => ⟨⟨_, (), rfl, Option.some.inj hf, ht⟩, hS.F ht⟩) hS.2.2 dX7_sizeOf_25
      · have hf := it_n hc hf
        refine lv_iload_n hx hb dX7_sizeOf_10 rfl (lv_at hl 1 rfl) ?_
        refine lv_iload_n hx hb dX7_sizeOf_11 rfl (lv_at hl 0 rfl) ?_
        refine lv_iload_n hx hb dX7_sizeOf_12 rfl (lv_at hl 2 rfl) ?_
        refine lv_ishr hx hb dX7_sizeOf_13 ?_
        refine lv_iconst (v := (1 : Int32)) hx hb dX7_sizeOf_14 (by decide) ?_
        refine lv_iand hx hb dX7_sizeOf_15 ?_
        refine lv_iadd hx hb dX7_sizeOf_16 ?_
        refine lv_istore_n (lv' := [(1, .int (x1 + ((x0 >>> (x2 &&& 31)) &&& (1 : Int32)))), (0, .int x0), (2, .int x2)]) hx hb dX7_sizeOf_17 rfl hl (by decide) rfl (fun ls hl => ?_)
        refine lv_iinc (v := x2 + (1 : Int32)) (lv' := [(2, .int (x2 + (1 : Int32))), (1, .int (x1 + ((x0 >>> (x2 &&& 31)) &&& (1 : Int32)))), (0, .int x0)]) hx hb dX7_sizeOf_18 hl (k := 2) rfl rfl (by decide) rfl (fun ls hl => ?_)
        refine lv_goto (tgt := 4) hx hb dX7_sizeOf_21 (by decide) ?_
        exact ih4 x0 (x1 + ((x0 >>> (x2 &&& 31)) &&& (1 : Int32))) (x2 + (1 : Int32)) hf _ _ hS (lv_sub hl [2, 1, 0] rfl)
  have hl := lv_entry ([.int p1]) (n := 3) (Nat.le_of_ble_eq_true rfl)
  rw [lg_entry_eq]
  generalize (lg_sl ([.int p1]) ++ List.replicate (3 - (lg_sl ([.int p1])).length) Slot.unset).toArray = ls at hl ⊢
  have hl : lv_has ls 3 [(0, .int p1)] := hl
  unfold fX7_sizeOf at hf
  refine lv_iconst (v := (0 : Int32)) hx hb dX7_sizeOf_0 (by decide) ?_
  refine lv_istore_n (lv' := [(1, .int (0 : Int32)), (0, .int p1)]) hx hb dX7_sizeOf_1 rfl hl (by decide) rfl (fun ls hl => ?_)
  refine lv_iconst (v := (0 : Int32)) hx hb dX7_sizeOf_2 (by decide) ?_
  refine lv_istore_n (lv' := [(2, .int (0 : Int32)), (1, .int (0 : Int32)), (0, .int p1)]) hx hb dX7_sizeOf_3 rfl hl (by decide) rfl (fun ls hl => ?_)
  exact hb_4 300 p1 (0 : Int32) (0 : Int32) hf _ _ hS (lv_sub hl [2, 1, 0] rfl)
set_option maxHeartbeats 4000000 in
set_option maxRecDepth 100000 in
theorem kX7_run (l : Launch) (dC : Nat → ClassId) (dI : Nat → Nat → Nat) (cy : ClassId) (H : Heap) (a7 a7_offset a7_gain a7_dark a7_bright a7_fromRow a7_toRow a7_left a7_right a7_slant a7_tintOf a7_speckOf a7_leadOf a7_stepKind a7_stepBy a7_pixels : Nat) (f7_offset : Nat → Int32) (f7_gain : Nat → Int32) (f7_dark : Nat → Int32) (f7_bright : Nat → Int32) (v7_ground : Int32) (v7_patches : Int32) (f7_fromRow : Nat → Int32) (f7_toRow : Nat → Int32) (f7_left : Nat → Int32) (f7_right : Nat → Int32) (f7_slant : Nat → Int32) (f7_tintOf : Nat → Int32) (f7_speckOf : Nat → Int32) (f7_leadOf : Nat → Int32) (v7_steps : Int32) (f7_stepKind : Nat → Int32) (f7_stepBy : Nat → Int32) (v7_threshold : Int32) (v7_isOn : Int32) (v7_lines : Int32) (v7_done : Int32) (v7_taken : Int32) (v7_lastPosition : Int32) (v7_position : Int32) (v7_mode : Int32) (v7_next : Int32) (v7_outs : Int32) (v7_stops : Int32) (v7_ticks : Int32) (f7_pixels : Nat → Int32) (p1 : Int32) (p2 : Int32) (p3 : Int32) (r : Int32) (hf : fX7_run v7_threshold v7_taken f7_pixels p1 p2 p3 = some r) : Met l yX7_run wsX7_run ({ frames := 3, cells := 0, slots := 0, locals := 67 }) (roP [.ref a7, .int p1, .int p2, .int p3] (dC, dI) vwCl (WX7 cy a7 a7_offset a7_gain a7_dark a7_bright a7_fromRow a7_toRow a7_left a7_right a7_slant a7_tintOf a7_speckOf a7_leadOf a7_stepKind a7_stepBy a7_pixels f7_offset f7_gain f7_dark f7_bright v7_ground v7_patches f7_fromRow f7_toRow f7_left f7_right f7_slant f7_tintOf f7_speckOf f7_leadOf v7_steps f7_stepKind f7_stepBy v7_threshold v7_isOn v7_lines v7_done v7_taken v7_lastPosition v7_position v7_mode v7_next v7_outs v7_stops v7_ticks f7_pixels) [(cy, .int)] H) (roQi r H) 0 0 (fun _ => False) := by
  refine Met.ofW (cc := cX7_run) (maxL := 8) (ret := (some .int)) (by decide) rfl ?_
  intro p e s m args below meth c s₁ B hml hv
  obtain ⟨rfl, hH, hP, hK⟩ := hv
  have hx := B.exec
  have hb := B.bytes
  have hr := B.returns
  have hts := atoms_spec (ws := wsX7_run) B.pre
  have hown : s.vm.findClass RX7 = some m.cls := findClass_of_methodNamed B.named
  have hlocks := B.notSynchronized
  have hiX7 : ∀ w ∈ u_ws RX7 TX7 30, w ∈ wsX7_run := fun _ h => List.mem_cons_of_mem _ ((List.mem_append_right _ h))
  subst hH
  have hS : va_S (fun _ => False) s.heap s.heap [] := va_S.rf
  have hb_117 : ∀  (x3 : Int32) (x5 : Int32) (x7 : Int32), bX7_run_117 x3 x5 x7 = some r → ∀ (locs : List Loc) (ls : Array Slot), va_S (fun _ => False) s.heap s.heap locs → lv_has ls 8 [(3, .int x3), (5, .int x5), (7, .int x7)] → W p l e (headSpec wsX7_run ({ frames := 3, cells := 0, slots := 0, locals := 67 })).room s m ([.ref a7, .int p1, .int p2, .int p3] : List Value).toArray below meth c s.heap locs 0 0 (MQ below (roQi r s.heap) ([.ref a7, .int p1, .int p2, .int p3] : List Value).toArray s 0 0 (fun _ => False)) (F0 m 117 ls []) := by
    intro x3 x5 x7 hf locs ls hS hl
    unfold bX7_run_117 at hf
    refine lv_iload_n hx hb dX7_run_117 rfl (lv_at hl 0 rfl) ?_
    refine lv_if_ne (tgt := 126) hx hb dX7_run_118 (by decide) (fun hc => ?_) (fun hc => ?_)
    · have hf := it_n hc hf
      refine lv_iload hx hb dX7_run_126 (lv_at hl 2 rfl) ?_
      exact W.iret (v := x7) hx hb hr (fun t ht hW => ⟨⟨_, (), rfl, Option.some.inj hf, ht⟩, hS.F ht⟩) hS.2.2 dX7_run_128
    · have hf := it_p hc hf
      refine lv_iload hx hb dX7_run_121 (lv_at hl 1 rfl) ?_
      refine lv_goto (tgt := 128) hx hb dX7_run_123 (by decide) ?_
      exact W.iret (v := x5) hx hb hr (fun t ht hW => ⟨⟨_, (), rfl, Option.some.inj hf, ht⟩, hS.F ht⟩) hS.2.2 dX7_run_128
  have hb_97 : ∀ (n : Nat) (x3 : Int32) (x4 : Int32) (x5 : Int32) (x7 : Int32), bX7_run_97 n x3 x4 x5 x7 = some r → ∀ (locs : List Loc) (ls : Array Slot), va_S (fun _ => False) s.heap s.heap locs → lv_has ls 8 [(3, .int x3), (4, .int x4), (5, .int x5), (7, .int x7)] → W p l e (headSpec wsX7_run ({ frames := 3, cells := 0, slots := 0, locals := 67 })).room s m ([.ref a7, .int p1, .int p2, .int p3] : List Value).toArray below meth c s.heap locs 0 0 (MQ below (roQi r s.heap) ([.ref a7, .int p1, .int p2, .int p3] : List Value).toArray s 0 0 (fun _ => False)) (F0 m 97 ls []) := by
    intro n
    induction n with
    | zero => intro x3 x4 x5 x7 hf; rw [bX7_run_97] at hf; cases hf
    | succ n97 ih97 =>
      intro x3 x4 x5 x7 hf locs ls hS hl
      rw [bX7_run_97] at hf
      refine lv_iload hx hb dX7_run_97 (lv_at hl 1 rfl) ?_
      refine lv_iload hx hb dX7_run_99 (lv_at hl 2 rfl) ?_
      refine lv_iload hx hb dX7_run_101 (lv_at hl 3 rfl) ?_
      refine lv_iadd hx hb dX7_run_103 ?_
      refine lv_ishr hx hb dX7_run_104 ?_
      refine lv_iconst (v := (1 : Int32)) hx hb dX7_run_105 (by decide) ?_
      refine lv_iand hx hb dX7_run_106 ?_
      refine lv_iconst (v := (1 : Int32)) hx hb dX7_run_107 (by decide) ?_
      refine lv_icmp_ne (tgt := 117) hx hb dX7_run_108 (by decide) (fun hc => ?_) (fun hc => ?_)
      · have hf := it_n hc hf
        exact hb_117 x3 x5 x7 hf _ _ hS (lv_sub hl [0, 2, 3] rfl)
      · have hf := it_p hc hf
        refine lv_iinc (v := x7 + (1 : Int32)) (lv' := [(7, .int (x7 + (1 : Int32))), (3, .int x3), (4, .int x4), (5, .int x5)]) hx hb dX7_run_111 hl (k := 3) rfl rfl (by decide) rfl (fun ls hl => ?_)
        refine lv_goto (tgt := 97) hx hb dX7_run_114 (by decide) ?_
        exact ih97 x3 x4 x5 (x7 + (1 : Int32)) hf _ _ hS (lv_sub hl [1, 2, 3, 0] rfl)
  have hb_94 : ∀  (x3 : Int32) (x4 : Int32) (x5 : Int32), bX7_run_94 x3 x4 x5 = some r → ∀ (locs : List Loc) (ls : Array Slot), va_S (fun _ => False) s.heap s.heap locs → lv_has ls 8 [(3, .int x3), (4, .int x4), (5, .int x5)] → W p l e (headSpec wsX7_run ({ frames := 3, cells := 0, slots := 0, locals := 67 })).room s m ([.ref a7, .int p1, .int p2, .int p3] : List Value).toArray below meth c s.heap locs 0 0 (MQ below (roQi r s.heap) ([.ref a7, .int p1, .int p2, .int p3] : List Value).toArray s 0 0 (fun _ => False)) (F0 m 94 ls []) := by
    intro x3 x4 x5 hf locs ls hS hl
    unfold bX7_run_94 at hf
    refine lv_iconst (v := (0 : Int32)) hx hb dX7_run_94 (by decide) ?_
    refine lv_istore (lv' := [(7, .int (0 : Int32)), (3, .int x3), (4, .int x4), (5, .int x5)]) hx hb dX7_run_95 hl (by decide) rfl (fun ls hl => ?_)
    exact hb_97 300 x3 x4 x5 (0 : Int32) hf _ _ hS (lv_sub hl [1, 2, 3, 0] rfl)
  have hb_55 : ∀ (n : Nat) (x3 : Int32) (x4 : Int32) (x5 : Int32) (x6 : Int32), bX7_run_55 n x3 x4 x5 x6 = some r → ∀ (locs : List Loc) (ls : Array Slot), va_S (fun _ => False) s.heap s.heap locs → lv_has ls 8 [(3, .int x3), (4, .int x4), (5, .int x5), (6, .int x6)] → W p l e (headSpec wsX7_run ({ frames := 3, cells := 0, slots := 0, locals := 67 })).room s m ([.ref a7, .int p1, .int p2, .int p3] : List Value).toArray below meth c s.heap locs 0 0 (MQ below (roQi r s.heap) ([.ref a7, .int p1, .int p2, .int p3] : List Value).toArray s 0 0 (fun _ => False)) (F0 m 55 ls []) := by
    intro n
    induction n with
    | zero => intro x3 x4 x5 x6 hf; rw [bX7_run_55] at hf; cases hf
    | succ n55 ih55 =>
      intro x3 x4 x5 x6 hf locs ls hS hl
      rw [bX7_run_55] at hf
      refine lv_iload hx hb dX7_run_55 (lv_at hl 3 rfl) ?_
      refine lv_if_gt (tgt := 73) hx hb dX7_run_57 (by decide) (fun hc => ?_) (fun hc => ?_)
      · have hf := it_p hc hf
        refine lv_iload hx hb dX7_run_73 (lv_at hl 3 rfl) ?_
        refine lv_iload hx hb dX7_run_75 (lv_at hl 1 rfl) ?_
        obtain ⟨r10, hr10, hf⟩ := cl1_sp hf
        refine ro_S (As := [.int x4]) ⟨hx, hb, hml, hown, hts⟩ (kX7_begins l _ x4 r10 hr10) (va_cwS 1 hts gX7_run_X7_begins rfl rfl rfl (by decide +kernel) ⟨Nat.le_of_ble_eq_true rfl, Nat.le_of_ble_eq_true rfl⟩) hS rfl hl.1 rfl (Nat.le_of_ble_eq_true rfl) dX7_run_77 (Nat.zero_le _) (Nat.zero_le _) (fun locs hS => ?_)
        refine lv_iload hx hb dX7_run_80 (lv_at hl 2 rfl) ?_
        refine lv_ishr hx hb dX7_run_82 ?_
        refine lv_iconst (v := (1 : Int32)) hx hb dX7_run_83 (by decide) ?_
        refine lv_iand hx hb dX7_run_84 ?_
        refine lv_isub hx hb dX7_run_85 ?_
        refine lv_istore (lv' := [(6, .int (x6 - ((r10 >>> (x5 &&& 31)) &&& (1 : Int32)))), (3, .int x3), (4, .int x4), (5, .int x5)]) hx hb dX7_run_86 hl (by decide) rfl (fun ls hl => ?_)
        refine lv_iinc (v := x5 + (1 : Int32)) (lv' := [(5, .int (x5 + (1 : Int32))), (6, .int (x6 - ((r10 >>> (x5 &&& 31)) &&& (1 : Int32)))), (3, .int x3), (4, .int x4)]) hx hb dX7_run_88 hl (k := 3) rfl rfl (by decide) rfl (fun ls hl => ?_)
        refine lv_goto (tgt := 55) hx hb dX7_run_91 (by decide) ?_
        exact ih55 x3 x4 (x5 + (1 : Int32)) (x6 - ((r10 >>> (x5 &&& 31)) &&& (1 : Int32))) hf _ _ hS (lv_sub hl [2, 3, 0, 1] rfl)
      · have hf := it_n hc hf
        refine lv_iload hx hb dX7_run_60 (lv_at hl 1 rfl) ?_
        obtain ⟨r11, hr11, hf⟩ := cl1_sp hf
        refine ro_S (As := [.int x4]) ⟨hx, hb, hml, hown, hts⟩ (kX7_begins l _ x4 r11 hr11) (va_cwS 1 hts gX7_run_X7_begins rfl rfl rfl (by decide +kernel) ⟨Nat.le_of_ble_eq_true rfl, Nat.le_of_ble_eq_true rfl⟩) hS rfl hl.1 rfl (Nat.le_of_ble_eq_true rfl) dX7_run_62 (Nat.zero_le _) (Nat.zero_le _) (fun locs hS => ?_)
        refine lv_iload hx hb dX7_run_65 (lv_at hl 2 rfl) ?_
        refine lv_ishr hx hb dX7_run_67 ?_
        refine lv_iconst (v := (1 : Int32)) hx hb dX7_run_68 (by decide) ?_
        refine lv_iand hx hb dX7_run_69 ?_
        refine lv_if_ne (tgt := 94) hx hb dX7_run_70 (by decide) (fun hc => ?_) (fun hc => ?_)
        · have hf := it_n hc hf
          exact hb_94 x3 x4 x5 hf _ _ hS (lv_sub hl [0, 1, 2] rfl)
        · have hf := it_p hc hf
          refine lv_iload hx hb dX7_run_73 (lv_at hl 3 rfl) ?_
          refine lv_iload hx hb dX7_run_75 (lv_at hl 1 rfl) ?_
          obtain ⟨r12, hr12, hf⟩ := cl1_sp hf
          refine ro_S (As := [.int x4]) ⟨hx, hb, hml, hown, hts⟩ (kX7_begins l _ x4 r12 hr12) (va_cwS 1 hts gX7_run_X7_begins rfl rfl rfl (by decide +kernel) ⟨Nat.le_of_ble_eq_true rfl, Nat.le_of_ble_eq_true rfl⟩) hS rfl hl.1 rfl (Nat.le_of_ble_eq_true rfl) dX7_run_77 (Nat.zero_le _) (Nat.zero_le _) (fun locs hS => ?_)
          refine lv_iload hx hb dX7_run_80 (lv_at hl 2 rfl) ?_
          refine lv_ishr hx hb dX7_run_82 ?_
          refine lv_iconst (v := (1 : Int32)) hx hb dX7_run_83 (by decide) ?_
          refine lv_iand hx hb dX7_run_84 ?_
          refine lv_isub hx hb dX7_run_85 ?_
          refine lv_istore (lv' := [(6, .int (x6 - ((r12 >>> (x5 &&& 31)) &&& (1 : Int32)))), (3, .int x3), (4, .int x4), (5, .int x5)]) hx hb dX7_run_86 hl (by decide) rfl (fun ls hl => ?_)
          refine lv_iinc (v := x5 + (1 : Int32)) (lv' := [(5, .int (x5 + (1 : Int32))), (6, .int (x6 - ((r12 >>> (x5 &&& 31)) &&& (1 : Int32)))), (3, .int x3), (4, .int x4)]) hx hb dX7_run_88 hl (k := 3) rfl rfl (by decide) rfl (fun ls hl => ?_)
          refine lv_goto (tgt := 55) hx hb dX7_run_91 (by decide) ?_
          exact ih55 x3 x4 (x5 + (1 : Int32)) (x6 - ((r12 >>> (x5 &&& 31)) &&& (1 : Int32))) hf _ _ hS (lv_sub hl [2, 3, 0, 1] rfl)
  have hl := lv_entry ([.ref a7, .int p1, .int p2, .int p3]) (n := 8) (Nat.le_of_ble_eq_true rfl)
  rw [lg_entry_eq]
  generalize (lg_sl ([.ref a7, .int p1, .int p2, .int p3]) ++ List.replicate (8 - (lg_sl ([.ref a7, .int p1, .int p2, .int p3])).length) Slot.unset).toArray = ls at hl ⊢
  have hl : lv_has ls 8 [(0, .ref a7), (1, .int p1), (2, .int p2), (3, .int p3)] := hl
  unfold fX7_run at hf
  refine lv_aload_n hx hb dX7_run_0 rfl (lv_at hl 0 rfl) ?_
  refine lv_iload_n hx hb dX7_run_1 rfl (lv_at hl 1 rfl) ?_
  obtain ⟨r1, hr1, hf⟩ := cl1_sp hf
  refine ro_V (As := [.int p1]) ⟨hx, hb, hml, hown, hts⟩ (kX7_isTaken l dC dI cy _ a7 a7_offset a7_gain a7_dark a7_bright a7_fromRow a7_toRow a7_left a7_right a7_slant a7_tintOf a7_speckOf a7_leadOf a7_stepKind a7_stepBy a7_pixels f7_offset f7_gain f7_dark f7_bright v7_ground v7_patches f7_fromRow f7_toRow f7_left f7_right f7_slant f7_tintOf f7_speckOf f7_leadOf v7_steps f7_stepKind f7_stepBy v7_threshold v7_isOn v7_lines v7_done v7_taken v7_lastPosition v7_position v7_mode v7_next v7_outs v7_stops v7_ticks f7_pixels p1 r1 hr1) (cwV 1 hts gX7_run_X7_isTaken rfl rfl rfl (by decide +kernel) ⟨Nat.le_of_ble_eq_true rfl, Nat.le_of_ble_eq_true rfl⟩) (va_recv hK hP (ci := 6) (q0 := 0) rfl rfl) (hP.sub [0, 1, 2, 3, 4, 5, 6, 7, 8, 9, 10, 11, 12, 13, 14, 15] rfl) hK hS rfl hl.1 rfl (Nat.le_of_ble_eq_true rfl) dX7_run_2 (Nat.zero_le _) (Nat.zero_le _) (fun locs hS => ?_)
  refine lv_if_ne (tgt := 10) hx hb dX7_run_5 (by decide) (fun hc => ?_) (fun hc => ?_)
  · have hf := it_n hc hf
    refine lv_aload_n hx hb dX7_run_10 rfl (lv_at hl 0 rfl) ?_
    refine lv_iload_n hx hb dX7_run_11 rfl (lv_at hl 1 rfl) ?_
    obtain ⟨r2, hr2, hf⟩ := cl1_sp hf
    refine ro_V (As := [.int p1]) ⟨hx, hb, hml, hown, hts⟩ (kX7_darkOf l dC dI cy _ a7 a7_offset a7_gain a7_dark a7_bright a7_fromRow a7_toRow a7_left a7_right a7_slant a7_tintOf a7_speckOf a7_leadOf a7_stepKind a7_stepBy a7_pixels f7_offset f7_gain f7_dark f7_bright v7_ground v7_patches f7_fromRow f7_toRow f7_left f7_right f7_slant f7_tintOf f7_speckOf f7_leadOf v7_steps f7_stepKind f7_stepBy v7_threshold v7_isOn v7_lines v7_done v7_taken v7_lastPosition v7_position v7_mode v7_next v7_outs v7_stops v7_ticks f7_pixels p1 r2 hr2) (cwV 1 hts gX7_run_X7_darkOf rfl rfl rfl (by decide +kernel) ⟨Nat.le_of_ble_eq_true rfl, Nat.le_of_ble_eq_true rfl⟩) (va_recv hK hP (ci := 6) (q0 := 0) rfl rfl) (hP.sub [0, 1, 2, 3, 4, 5, 6, 7, 8, 9, 10, 11, 12, 13, 14, 15] rfl) hK hS rfl hl.1 rfl (Nat.le_of_ble_eq_true rfl) dX7_run_12 (Nat.zero_le _) (Nat.zero_le _) (fun locs hS => ?_)
    refine lv_istore (lv' := [(4, .int r2), (0, .ref a7), (1, .int p1), (2, .int p2), (3, .int p3)]) hx hb dX7_run_15 hl (by decide) rfl (fun ls hl => ?_)
    refine lv_iload_n hx hb dX7_run_17 rfl (lv_at hl 3 rfl) ?_
    refine lv_iconst (v := (0 : Int32)) hx hb dX7_run_18 (by decide) ?_
    refine lv_iload hx hb dX7_run_19 (lv_at hl 0 rfl) ?_
    obtain ⟨r3, hr3, hf⟩ := cl1_sp hf
    refine ro_S (As := [.int r2]) ⟨hx, hb, hml, hown, hts⟩ (kX7_begins l _ r2 r3 hr3) (va_cwS 1 hts gX7_run_X7_begins rfl rfl rfl (by decide +kernel) ⟨Nat.le_of_ble_eq_true rfl, Nat.le_of_ble_eq_true rfl⟩) hS rfl hl.1 rfl (Nat.le_of_ble_eq_true rfl) dX7_run_21 (Nat.zero_le _) (Nat.zero_le _) (fun locs hS => ?_)
    obtain ⟨r4, hr4, hf⟩ := cl1_sp hf
    refine ro_S (As := [.int r3]) ⟨hx, hb, hml, hown, hts⟩ (kX7_sizeOf l _ r3 r4 hr4) (va_cwS 1 hts gX7_run_X7_sizeOf rfl rfl rfl (by decide +kernel) ⟨Nat.le_of_ble_eq_true rfl, Nat.le_of_ble_eq_true rfl⟩) hS rfl hl.1 rfl (Nat.le_of_ble_eq_true rfl) dX7_run_24 (Nat.zero_le _) (Nat.zero_le _) (fun locs hS => ?_)
    refine lv_iconst (v := (1 : Int32)) hx hb dX7_run_27 (by decide) ?_
    refine lv_isub hx hb dX7_run_28 ?_
    obtain ⟨r5, hr5, hf⟩ := cl1_sp hf
    refine ro_S (As := [.int p2, .int (0 : Int32), .int (r4 - (1 : Int32))]) ⟨hx, hb, hml, hown, hts⟩ (kX7_within l _ p2 (0 : Int32) (r4 - (1 : Int32)) r5 hr5) (va_cwS 3 hts gX7_run_X7_within rfl rfl rfl (by decide +kernel) ⟨Nat.le_of_ble_eq_true rfl, Nat.le_of_ble_eq_true rfl⟩) hS rfl hl.1 rfl (Nat.le_of_ble_eq_true rfl) dX7_run_29 (Nat.zero_le _) (Nat.zero_le _) (fun locs hS => ?_)
    refine lv_if_ne (tgt := 37) hx hb dX7_run_32 (by decide) (fun hc => ?_) (fun hc => ?_)
    · have hf := it_n hc hf
      refine lv_iload_n hx hb dX7_run_37 rfl (lv_at hl 4 rfl) ?_
      refine lv_iconst (v := (0 : Int32)) hx hb dX7_run_38 (by decide) ?_
      refine lv_iconst (v := (1 : Int32)) hx hb dX7_run_39 (by decide) ?_
      obtain ⟨r6, hr6, hf⟩ := cl1_sp hf
      refine ro_S (As := [.int p3, .int (0 : Int32), .int (1 : Int32)]) ⟨hx, hb, hml, hown, hts⟩ (kX7_within l _ p3 (0 : Int32) (1 : Int32) r6 hr6) (va_cwS 3 hts gX7_run_X7_within rfl rfl rfl (by decide +kernel) ⟨Nat.le_of_ble_eq_true rfl, Nat.le_of_ble_eq_true rfl⟩) hS rfl hl.1 rfl (Nat.le_of_ble_eq_true rfl) dX7_run_40 (Nat.zero_le _) (Nat.zero_le _) (fun locs hS => ?_)
      refine lv_if_ne (tgt := 49) hx hb dX7_run_43 (by decide) (fun hc => ?_) (fun hc => ?_)
      · have hf := it_n hc hf
        refine lv_iconst (v := (0 : Int32)) hx hb dX7_run_49 (by decide) ?_
        refine lv_istore (lv' := [(5, .int (0 : Int32)), (4, .int r2), (0, .ref a7), (1, .int p1), (2, .int p2), (3, .int p3)]) hx hb dX7_run_50 hl (by decide) rfl (fun ls hl => ?_)
        refine lv_iload_n hx hb dX7_run_52 rfl (lv_at hl 4 rfl) ?_
        refine lv_istore (lv' := [(6, .int p2), (5, .int (0 : Int32)), (4, .int r2), (0, .ref a7), (1, .int p1), (2, .int p2), (3, .int p3)]) hx hb dX7_run_53 hl (by decide) rfl (fun ls hl => ?_)
        exact hb_55 300 p3 r2 (0 : Int32) p2 hf _ _ hS (lv_sub hl [6, 2, 1, 0] rfl)
      · have hf := it_p hc hf
        refine lv_bipush (v := (-2 : Int32)) hx hb dX7_run_46 (by decide) ?_
        exact W.iret (v := (-2 : Int32)) hx hb hr (fun t ht hW => ⟨⟨_, (), rfl, Option.some.inj hf, ht⟩, hS.F ht⟩) hS.2.2 dX7_run_48
    · have hf := it_p hc hf
      refine lv_iconst (v := (-1 : Int32)) hx hb dX7_run_35 (by decide) ?_
      exact W.iret (v := (-1 : Int32)) hx hb hr (fun t ht hW => ⟨⟨_, (), rfl, Option.some.inj hf, ht⟩, hS.F ht⟩) hS.2.2 dX7_run_36
  · have hf := it_p hc hf
    refine lv_iconst (v := (-1 : Int32)) hx hb dX7_run_8 (by decide) ?_
    exact W.iret (v := (-1 : Int32)) hx hb hr (fun t ht hW => ⟨⟨_, (), rfl, Option.some.inj hf, ht⟩, hS.F ht⟩) hS.2.2 dX7_run_9
set_option maxHeartbeats 4000000 in
set_option maxRecDepth 100000 in
theorem kX7_edgeOf (l : Launch) (dC : Nat → ClassId) (dI : Nat → Nat → Nat) (cy : ClassId) (H : Heap) (a7 a7_offset a7_gain a7_dark a7_bright a7_fromRow a7_toRow a7_left a7_right a7_slant a7_tintOf a7_speckOf a7_leadOf a7_stepKind a7_stepBy a7_pixels : Nat) (f7_offset : Nat → Int32) (f7_gain : Nat → Int32) (f7_dark : Nat → Int32) (f7_bright : Nat → Int32) (v7_ground : Int32) (v7_patches : Int32) (f7_fromRow : Nat → Int32) (f7_toRow : Nat → Int32) (f7_left : Nat → Int32) (f7_right : Nat → Int32) (f7_slant : Nat → Int32) (f7_tintOf : Nat → Int32) (f7_speckOf : Nat → Int32) (f7_leadOf : Nat → Int32) (v7_steps : Int32) (f7_stepKind : Nat → Int32) (f7_stepBy : Nat → Int32) (v7_threshold : Int32) (v7_isOn : Int32) (v7_lines : Int32) (v7_done : Int32) (v7_taken : Int32) (v7_lastPosition : Int32) (v7_position : Int32) (v7_mode : Int32) (v7_next : Int32) (v7_outs : Int32) (v7_stops : Int32) (v7_ticks : Int32) (f7_pixels : Nat → Int32) (p1 : Int32) (r : Int32) (hf : fX7_edgeOf v7_threshold f7_pixels p1 = some r) : Met l yX7_edgeOf wsX7_edgeOf ({ frames := 3, cells := 0, slots := 0, locals := 67 }) (roP [.ref a7, .int p1] (dC, dI) vwCl (WX7 cy a7 a7_offset a7_gain a7_dark a7_bright a7_fromRow a7_toRow a7_left a7_right a7_slant a7_tintOf a7_speckOf a7_leadOf a7_stepKind a7_stepBy a7_pixels f7_offset f7_gain f7_dark f7_bright v7_ground v7_patches f7_fromRow f7_toRow f7_left f7_right f7_slant f7_tintOf f7_speckOf f7_leadOf v7_steps f7_stepKind f7_stepBy v7_threshold v7_isOn v7_lines v7_done v7_taken v7_lastPosition v7_position v7_mode v7_next v7_outs v7_stops v7_ticks f7_pixels) [(cy, .int)] H) (roQi r H) 0 0 (fun _ => False) := by
  refine Met.ofW (cc := cX7_edgeOf) (maxL := 4) (ret := (some .int)) (by decide) rfl ?_
  intro p e s m args below meth c s₁ B hml hv
  obtain ⟨rfl, hH, hP, hK⟩ := hv
  have hx := B.exec
  have hb := B.bytes
  have hr := B.returns
  have hts := atoms_spec (ws := wsX7_edgeOf) B.pre
  have hown : s.vm.findClass RX7 = some m.cls := findClass_of_methodNamed B.named
  have hlocks := B.notSynchronized
  have hiX7 : ∀ w ∈ u_ws RX7 TX7 30, w ∈ wsX7_edgeOf := fun _ h => List.mem_cons_of_mem _ ((List.mem_append_right _ h))
  subst hH
  have hS : va_S (fun _ => False) s.heap s.heap [] := va_S.rf
  have hb_8 : ∀ (n : Nat) (x2 : Int32) (x3 : Int32), bX7_edgeOf_8 n x2 x3 = some r → ∀ (locs : List Loc) (ls : Array Slot), va_S (fun _ => False) s.heap s.heap locs → lv_has ls 4 [(2, .int x2), (3, .int x3)] → W p l e (headSpec wsX7_edgeOf ({ frames := 3, cells := 0, slots := 0, locals := 67 })).room s m ([.ref a7, .int p1] : List Value).toArray below meth c s.heap locs 0 0 (MQ below (roQi r s.heap) ([.ref a7, .int p1] : List Value).toArray s 0 0 (fun _ => False)) (F0 m 8 ls []) := by
    intro n
    induction n with
    | zero => intro x2 x3 hf; rw [bX7_edgeOf_8] at hf; cases hf
    | succ n8 ih8 =>
      intro x2 x3 hf locs ls hS hl
      rw [bX7_edgeOf_8] at hf
      refine lv_iload_n hx hb dX7_edgeOf_8 rfl (lv_at hl 1 rfl) ?_
      refine lv_bipush (v := (12 : Int32)) hx hb dX7_edgeOf_9 (by decide) ?_
      refine lv_icmp_ge (tgt := 31) hx hb dX7_edgeOf_11 (by decide) (fun hc => ?_) (fun hc => ?_)
      · have hf := it_p hc hf
        refine lv_bipush (v := (-9 : Int32)) hx hb dX7_edgeOf_31 (by decide) ?_
        exact W.iret (v := (-9 : Int32)) hx hb hr (fun t ht hW => ⟨⟨_, (), rfl, Option.some.inj hf, ht⟩, hS.F ht⟩) hS.2.2 dX7_edgeOf_33
      · have hf := it_n hc hf
        refine lv_iload_n hx hb dX7_edgeOf_14 rfl (lv_at hl 0 rfl) ?_
        refine lv_iload_n hx hb dX7_edgeOf_15 rfl (lv_at hl 1 rfl) ?_
        refine lv_ishr hx hb dX7_edgeOf_16 ?_
        refine lv_iconst (v := (1 : Int32)) hx hb dX7_edgeOf_17 (by decide) ?_
        refine lv_iand hx hb dX7_edgeOf_18 ?_
        refine lv_iconst (v := (1 : Int32)) hx hb dX7_edgeOf_19 (by decide) ?_
        refine lv_icmp_ne (tgt := 25) hx hb dX7_edgeOf_20 (by decide) (fun hc => ?_) (fun hc => ?_)
        · have hf := it_n hc hf
          refine lv_iinc (v := x3 + (1 : Int32)) (lv' := [(3, .int (x3 + (1 : Int32))), (2, .int x2)]) hx hb dX7_edgeOf_25 hl (k := 1) rfl rfl (by decide) rfl (fun ls hl => ?_)
          refine lv_goto (tgt := 8) hx hb dX7_edgeOf_28 (by decide) ?_
          exact ih8 x2 (x3 + (1 : Int32)) hf _ _ hS (lv_sub hl [1, 0] rfl)
        · have hf := it_p hc hf
          refine lv_iload_n hx hb dX7_edgeOf_23 rfl (lv_at hl 1 rfl) ?_
          exact W.iret (v := x3) hx hb hr (fun t ht hW => ⟨⟨_, (), rfl, Option.some.inj hf, ht⟩, hS.F ht⟩) hS.2.2 dX7_edgeOf_24
  have hl := lv_entry ([.ref a7, .int p1]) (n := 4) (Nat.le_of_ble_eq_true rfl)
  rw [lg_entry_eq]
  generalize (lg_sl ([.ref a7, .int p1]) ++ List.replicate (4 - (lg_sl ([.ref a7, .int p1])).length) Slot.unset).toArray = ls at hl ⊢
  have hl : lv_has ls 4 [(0, .ref a7), (1, .int p1)] := hl
  unfold fX7_edgeOf at hf
  refine lv_aload_n hx hb dX7_edgeOf_0 rfl (lv_at hl 0 rfl) ?_
  refine lv_iload_n hx hb dX7_edgeOf_1 rfl (lv_at hl 1 rfl) ?_
  obtain ⟨r1, hr1, hf⟩ := cl1_sp hf
  refine ro_V (As := [.int p1]) ⟨hx, hb, hml, hown, hts⟩ (kX7_darkOf l dC dI cy _ a7 a7_offset a7_gain a7_dark a7_bright a7_fromRow a7_toRow a7_left a7_right a7_slant a7_tintOf a7_speckOf a7_leadOf a7_stepKind a7_stepBy a7_pixels f7_offset f7_gain f7_dark f7_bright v7_ground v7_patches f7_fromRow f7_toRow f7_left f7_right f7_slant f7_tintOf f7_speckOf f7_leadOf v7_steps f7_stepKind f7_stepBy v7_threshold v7_isOn v7_lines v7_done v7_taken v7_lastPosition v7_position v7_mode v7_next v7_outs v7_stops v7_ticks f7_pixels p1 r1 hr1) (cwV 1 hts gX7_edgeOf_X7_darkOf rfl rfl rfl (by decide +kernel) ⟨Nat.le_of_ble_eq_true rfl, Nat.le_of_ble_eq_true rfl⟩) (va_recv hK hP (ci := 6) (q0 := 0) rfl rfl) (hP.sub [0, 1, 2, 3, 4, 5, 6, 7, 8, 9, 10, 11, 12, 13, 14, 15] rfl) hK hS rfl hl.1 rfl (Nat.le_of_ble_eq_true rfl) dX7_edgeOf_2 (Nat.zero_le _) (Nat.zero_le _) (fun locs hS => ?_)
  refine lv_istore_n (lv' := [(2, .int r1), (0, .ref a7), (1, .int p1)]) hx hb dX7_edgeOf_5 rfl hl (by decide) rfl (fun ls hl => ?_)
  refine lv_iconst (v := (0 : Int32)) hx hb dX7_edgeOf_6 (by decide) ?_
  refine lv_istore_n (lv' := [(3, .int (0 : Int32)), (2, .int r1), (0, .ref a7), (1, .int p1)]) hx hb dX7_edgeOf_7 rfl hl (by decide) rfl (fun ls hl => ?_)
  exact hb_8 300 r1 (0 : Int32) hf _ _ hS (lv_sub hl [1, 0] rfl)

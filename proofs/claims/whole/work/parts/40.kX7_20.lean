set_option maxHeartbeats 4000000 in
set_option maxRecDepth 100000 in
theorem kX7_within (l : Launch) (H : Heap) (p1 : Int32) (p2 : Int32) (p3 : Int32) (r : Int32) (hf : fX7_within p1 p2 p3 = some r) : Met l yX7_within wsX7_within ({ frames := 0, cells := 0, slots := 0, locals := 0 }) (roP0 [.int p1, .int p2, .int p3] H) (roQi r H) 0 0 (fun _ => False) := by
  refine Met.ofW (cc := cX7_within) (maxL := 3) (ret := (some .boolean)) (by decide) rfl ?_
  intro p e s m args below meth c s₁ B hml hv
  obtain ⟨rfl, hH⟩ := hv
  have hx := B.exec
  have hb := B.bytes
  have hr := B.returns
  have hts := atoms_spec (ws := wsX7_within) B.pre
  have hown : s.vm.findClass RX7 = some m.cls := findClass_of_methodNamed B.named
  have hlocks := B.notSynchronized
  subst hH
  have hS : va_S (fun _ => False) s.heap s.heap [] := va_S.rf
  have hl := lv_entry ([.int p1, .int p2, .int p3]) (n := 3) (Nat.le_of_ble_eq_true rfl)
  rw [lg_entry_eq]
  generalize (lg_sl ([.int p1, .int p2, .int p3]) ++ List.replicate (3 - (lg_sl ([.int p1, .int p2, .int p3])).length) Slot.unset).toArray = ls at hl ⊢
  have hl : lv_has ls 3 [(0, .int p1), (1, .int p2), (2, .int p3)] := hl
  unfold fX7_within at hf
  refine lv_iload_n hx hb dX7_within_0 rfl (lv_at hl 0 rfl) ?_
  refine lv_iload_n hx hb dX7_within_1 rfl (lv_at hl 1 rfl) ?_
  refine lv_icmp_lt (tgt := 14) hx hb dX7_within_2 (by decide) (fun hc => ?_) (fun hc => ?_)
  · have hf := it_p hc hf
    refine lv_iconst (v := (0 : Int32)) hx hb dX7_within_14 (by decide) ?_
    exact W.zret (v := (0 : Int32)) hx hb hr rfl (fun t ht hW => ⟨⟨_, (), rfl, Option.some.inj hf, ht⟩, hS.F ht⟩) hS.2.2 dX7_within_15
  · have hf := it_n hc hf
    refine lv_iload_n hx hb dX7_within_5 rfl (lv_at hl 0 rfl) ?_
    refine lv_iload_n hx hb dX7_within_6 rfl (lv_at hl 2 rfl) ?_
    refine lv_icmp_gt (tgt := 14) hx hb dX7_within_7 (by decide) (fun hc => ?_) (fun hc => ?_)
    · have hf := it_p hc hf
      refine lv_iconst (v := (0 : Int32)) hx hb dX7_within_14 (by decide) ?_
      exact W.zret (v := (0 : Int32)) hx hb hr rfl (fun t ht hW => ⟨⟨_, (), rfl, Option.some.inj hf, ht⟩, hS.F ht⟩) hS.2.2 dX7_within_15
    · have hf := it_n hc hf
      refine lv_iconst (v := (1 : Int32)) hx hb dX7_within_10 (by decide) ?_
      refine lv_goto (tgt := 15) hx hb dX7_within_11 (by decide) ?_
      exact W.zret (v := (1 : Int32)) hx hb hr rfl (fun t ht hW => ⟨⟨_, (), rfl, Option.some.inj hf, ht⟩, hS.F ht⟩) hS.2.2 dX7_within_15
set_option maxHeartbeats 4000000 in
set_option maxRecDepth 100000 in
theorem kX7_isColour (l : Launch) (H : Heap) (p1 : Int32) (r : Int32) (hf : fX7_isColour p1 = some r) : Met l yX7_isColour wsX7_isColour ({ frames := 1, cells := 0, slots := 0, locals := 22 }) (roP0 [.int p1] H) (roQi r H) 0 0 (fun _ => False) := by
  refine Met.ofW (cc := cX7_isColour) (maxL := 1) (ret := (some .boolean)) (by decide) rfl ?_
  intro p e s m args below meth c s₁ B hml hv
  obtain ⟨rfl, hH⟩ := hv
  have hx := B.exec
  have hb := B.bytes
  have hr := B.returns
  have hts := atoms_spec (ws := wsX7_isColour) B.pre
  have hown : s.vm.findClass RX7 = some m.cls := findClass_of_methodNamed B.named
  have hlocks := B.notSynchronized
  subst hH
  have hS : va_S (fun _ => False) s.heap s.heap [] := va_S.rf
  have hl := lv_entry ([.int p1]) (n := 1) (Nat.le_of_ble_eq_true rfl)
  rw [lg_entry_eq]
  generalize (lg_sl ([.int p1]) ++ List.replicate (1 - (lg_sl ([.int p1])).length) Slot.unset).toArray = ls at hl ⊢
  have hl : lv_has ls 1 [(0, .int p1)] := hl
  unfold fX7_isColour at hf
  refine lv_iload_n hx hb dX7_isColour_0 rfl (lv_at hl 0 rfl) ?_
  refine lv_iconst (v := (0 : Int32)) hx hb dX7_isColour_1 (by decide) ?_
  refine lv_iconst (v := (2 : Int32)) hx hb dX7_isColour_2 (by decide) ?_
  obtain ⟨r1, hr1, hf⟩ := cl1_sp hf
  refine ro_S (As := [.int p1, .int (0 : Int32), .int (2 : Int32)]) ⟨hx, hb, hml, hown, hts⟩ (kX7_within l _ p1 (0 : Int32) (2 : Int32) r1 hr1) (va_cwS 3 hts gX7_isColour_X7_within rfl rfl rfl (by decide +kernel) ⟨Nat.le_of_ble_eq_true rfl, Nat.le_of_ble_eq_true rfl⟩) hS rfl hl.1 rfl (Nat.le_of_ble_eq_true rfl) dX7_isColour_3 (Nat.zero_le _) (Nat.zero_le _) (fun locs hS => ?_)
  obtain ⟨hnb, hf⟩ := ckB_sp hf
  exact W.zret (v := r1) hx hb hr hnb (fun t ht hW => ⟨⟨_, (), rfl, Option.some.inj hf, ht⟩, hS.F ht⟩) hS.2.2 dX7_isColour_6
set_option maxHeartbeats 4000000 in
set_option maxRecDepth 100000 in
theorem kX7_isColumn (l : Launch) (H : Heap) (p1 : Int32) (r : Int32) (hf : fX7_isColumn p1 = some r) : Met l yX7_isColumn wsX7_isColumn ({ frames := 1, cells := 0, slots := 0, locals := 22 }) (roP0 [.int p1] H) (roQi r H) 0 0 (fun _ => False) := by
  refine Met.ofW (cc := cX7_isColumn) (maxL := 1) (ret := (some .boolean)) (by decide) rfl ?_
  intro p e s m args below meth c s₁ B hml hv
  obtain ⟨rfl, hH⟩ := hv
  have hx := B.exec
  have hb := B.bytes
  have hr := B.returns
  have hts := atoms_spec (ws := wsX7_isColumn) B.pre
  have hown : s.vm.findClass RX7 = some m.cls := findClass_of_methodNamed B.named
  have hlocks := B.notSynchronized
  subst hH
  have hS : va_S (fun _ => False) s.heap s.heap [] := va_S.rf
  have hl := lv_entry ([.int p1]) (n := 1) (Nat.le_of_ble_eq_true rfl)
  rw [lg_entry_eq]
  generalize (lg_sl ([.int p1]) ++ List.replicate (1 - (lg_sl ([.int p1])).length) Slot.unset).toArray = ls at hl ⊢
  have hl : lv_has ls 1 [(0, .int p1)] := hl
  unfold fX7_isColumn at hf
  refine lv_iload_n hx hb dX7_isColumn_0 rfl (lv_at hl 0 rfl) ?_
  refine lv_iconst (v := (0 : Int32)) hx hb dX7_isColumn_1 (by decide) ?_
  refine lv_bipush (v := (11 : Int32)) hx hb dX7_isColumn_2 (by decide) ?_
  obtain ⟨r1, hr1, hf⟩ := cl1_sp hf
  refine ro_S (As := [.int p1, .int (0 : Int32), .int (11 : Int32)]) ⟨hx, hb, hml, hown, hts⟩ (kX7_within l _ p1 (0 : Int32) (11 : Int32) r1 hr1) (va_cwS 3 hts gX7_isColumn_X7_within rfl rfl rfl (by decide +kernel) ⟨Nat.le_of_ble_eq_true rfl, Nat.le_of_ble_eq_true rfl⟩) hS rfl hl.1 rfl (Nat.le_of_ble_eq_true rfl) dX7_isColumn_4 (Nat.zero_le _) (Nat.zero_le _) (fun locs hS => ?_)
  obtain ⟨hnb, hf⟩ := ckB_sp hf
  exact W.zret (v := r1) hx hb hr hnb (fun t ht hW => ⟨⟨_, (), rfl, Option.some.inj hf, ht⟩, hS.F ht⟩) hS.2.2 dX7_isColumn_7
set_option maxHeartbeats 4000000 in
set_option maxRecDepth 100000 in
theorem kX7_isCell (l : Launch) (H : Heap) (p1 : Int32) (p2 : Int32) (r : Int32) (hf : fX7_isCell p1 p2 = some r) : Met l yX7_isCell wsX7_isCell ({ frames := 2, cells := 0, slots := 0, locals := 42 }) (roP0 [.int p1, .int p2] H) (roQi r H) 0 0 (fun _ => False) := by
  refine Met.ofW (cc := cX7_isCell) (maxL := 2) (ret := (some .boolean)) (by decide) rfl ?_
  intro p e s m args below meth c s₁ B hml hv
  obtain ⟨rfl, hH⟩ := hv
  have hx := B.exec
  have hb := B.bytes
  have hr := B.returns
  have hts := atoms_spec (ws := wsX7_isCell) B.pre
  have hown : s.vm.findClass RX7 = some m.cls := findClass_of_methodNamed B.named
  have hlocks := B.notSynchronized
  subst hH
  have hS : va_S (fun _ => False) s.heap s.heap [] := va_S.rf
  have hl := lv_entry ([.int p1, .int p2]) (n := 2) (Nat.le_of_ble_eq_true rfl)
  rw [lg_entry_eq]
  generalize (lg_sl ([.int p1, .int p2]) ++ List.replicate (2 - (lg_sl ([.int p1, .int p2])).length) Slot.unset).toArray = ls at hl ⊢
  have hl : lv_has ls 2 [(0, .int p1), (1, .int p2)] := hl
  unfold fX7_isCell at hf
  refine lv_iload_n hx hb dX7_isCell_0 rfl (lv_at hl 0 rfl) ?_
  obtain ⟨r1, hr1, hf⟩ := cl1_sp hf
  refine ro_S (As := [.int p1]) ⟨hx, hb, hml, hown, hts⟩ (kX7_isColour l _ p1 r1 hr1) (va_cwS 1 hts gX7_isCell_X7_isColour rfl rfl rfl (by decide +kernel) ⟨Nat.le_of_ble_eq_true rfl, Nat.le_of_ble_eq_true rfl⟩) hS rfl hl.1 rfl (Nat.le_of_ble_eq_true rfl) dX7_isCell_1 (Nat.zero_le _) (Nat.zero_le _) (fun locs hS => ?_)
  refine lv_if_eq (tgt := 18) hx hb dX7_isCell_4 (by decide) (fun hc => ?_) (fun hc => ?_)
  · have hf := it_p hc hf
    refine lv_iconst (v := (0 : Int32)) hx hb dX7_isCell_18 (by decide) ?_
    exact W.zret (v := (0 : Int32)) hx hb hr rfl (fun t ht hW => ⟨⟨_, (), rfl, Option.some.inj hf, ht⟩, hS.F ht⟩) hS.2.2 dX7_isCell_19
  · have hf := it_n hc hf
    refine lv_iload_n hx hb dX7_isCell_7 rfl (lv_at hl 1 rfl) ?_
    obtain ⟨r2, hr2, hf⟩ := cl1_sp hf
    refine ro_S (As := [.int p2]) ⟨hx, hb, hml, hown, hts⟩ (kX7_isColumn l _ p2 r2 hr2) (va_cwS 1 hts gX7_isCell_X7_isColumn rfl rfl rfl (by decide +kernel) ⟨Nat.le_of_ble_eq_true rfl, Nat.le_of_ble_eq_true rfl⟩) hS rfl hl.1 rfl (Nat.le_of_ble_eq_true rfl) dX7_isCell_8 (Nat.zero_le _) (Nat.zero_le _) (fun locs hS => ?_)
    refine lv_if_eq (tgt := 18) hx hb dX7_isCell_11 (by decide) (fun hc => ?_) (fun hc => ?_)
    · have hf := it_p hc hf
      refine lv_iconst (v := (0 : Int32)) hx hb dX7_isCell_18 (by decide) ?_
      exact W.zret (v := (0 : Int32)) hx hb hr rfl (fun t ht hW => ⟨⟨_, (), rfl, Option.some.inj hf, ht⟩, hS.F ht⟩) hS.2.2 dX7_isCell_19
    · have hf := it_n hc hf
      refine lv_iconst (v := (1 : Int32)) hx hb dX7_isCell_14 (by decide) ?_
      refine lv_goto (tgt := 19) hx hb dX7_isCell_15 (by decide) ?_
      exact W.zret (v := (1 : Int32)) hx hb hr rfl (fun t ht hW => ⟨⟨_, (), rfl, Option.some.inj hf, ht⟩, hS.F ht⟩) hS.2.2 dX7_isCell_19
set_option maxHeartbeats 4000000 in
set_option maxRecDepth 100000 in
theorem kX7_atMost (l : Launch) (H : Heap) (p1 : Int32) (p2 : Int32) (r : Int32) (hf : fX7_atMost p1 p2 = some r) : Met l yX7_atMost wsX7_atMost ({ frames := 0, cells := 0, slots := 0, locals := 0 }) (roP0 [.int p1, .int p2] H) (roQi r H) 0 0 (fun _ => False) := by
  refine Met.ofW (cc := cX7_atMost) (maxL := 2) (ret := (some .int)) (by decide) rfl ?_
  intro p e s m args below meth c s₁ B hml hv
  obtain ⟨rfl, hH⟩ := hv
  have hx := B.exec
  have hb := B.bytes
  have hr := B.returns
  have hts := atoms_spec (ws := wsX7_atMost) B.pre
  have hown : s.vm.findClass RX7 = some m.cls := findClass_of_methodNamed B.named
  have hlocks := B.notSynchronized
  subst hH
  have hS : va_S (fun _ => False) s.heap s.heap [] := va_S.rf
  have hl := lv_entry ([.int p1, .int p2]) (n := 2) (Nat.le_of_ble_eq_true rfl)
  rw [lg_entry_eq]
  generalize (lg_sl ([.int p1, .int p2]) ++ List.replicate (2 - (lg_sl ([.int p1, .int p2])).length) Slot.unset).toArray = ls at hl ⊢
  have hl : lv_has ls 2 [(0, .int p1), (1, .int p2)] := hl
  unfold fX7_atMost at hf
  refine lv_iload_n hx hb dX7_atMost_0 rfl (lv_at hl 0 rfl) ?_
  refine lv_iload_n hx hb dX7_atMost_1 rfl (lv_at hl 1 rfl) ?_
  refine lv_icmp_le (tgt := 9) hx hb dX7_atMost_2 (by decide) (fun hc => ?_) (fun hc => ?_)
  · have hf := it_p hc hf
    refine lv_iload_n hx hb dX7_atMost_9 rfl (lv_at hl 0 rfl) ?_
    exact W.iret (v := p1) hx hb hr (fun t ht hW => ⟨⟨_, (), rfl, Option.some.inj hf, ht⟩, hS.F ht⟩) hS.2.2 dX7_atMost_10
  · have hf := it_n hc hf
    refine lv_iload_n hx hb dX7_atMost_5 rfl (lv_at hl 1 rfl) ?_
    refine lv_goto (tgt := 10) hx hb dX7_atMost_6 (by decide) ?_
    exact W.iret (v := p2) hx hb hr (fun t ht hW => ⟨⟨_, (), rfl, Option.some.inj hf, ht⟩, hS.F ht⟩) hS.2.2 dX7_atMost_10
set_option maxHeartbeats 4000000 in
set_option maxRecDepth 100000 in
theorem kX7_atLeast (l : Launch) (H : Heap) (p1 : Int32) (p2 : Int32) (r : Int32) (hf : fX7_atLeast p1 p2 = some r) : Met l yX7_atLeast wsX7_atLeast ({ frames := 0, cells := 0, slots := 0, locals := 0 }) (roP0 [.int p1, .int p2] H) (roQi r H) 0 0 (fun _ => False) := by
  refine Met.ofW (cc := cX7_atLeast) (maxL := 2) (ret := (some .int)) (by decide) rfl ?_
  intro p e s m args below meth c s₁ B hml hv
  obtain ⟨rfl, hH⟩ := hv
  have hx := B.exec
  have hb := B.bytes
  have hr := B.returns
  have hts := atoms_spec (ws := wsX7_atLeast) B.pre
  have hown : s.vm.findClass RX7 = some m.cls := findClass_of_methodNamed B.named
  have hlocks := B.notSynchronized
  subst hH
  have hS : va_S (fun _ => False) s.heap s.heap [] := va_S.rf
  have hl := lv_entry ([.int p1, .int p2]) (n := 2) (Nat.le_of_ble_eq_true rfl)
  rw [lg_entry_eq]
  generalize (lg_sl ([.int p1, .int p2]) ++ List.replicate (2 - (lg_sl ([.int p1, .int p2])).length) Slot.unset).toArray = ls at hl ⊢
  have hl : lv_has ls 2 [(0, .int p1), (1, .int p2)] := hl
  unfold fX7_atLeast at hf
  refine lv_iload_n hx hb dX7_atLeast_0 rfl (lv_at hl 0 rfl) ?_
  refine lv_iload_n hx hb dX7_atLeast_1 rfl (lv_at hl 1 rfl) ?_
  refine lv_icmp_ge (tgt := 9) hx hb dX7_atLeast_2 (by decide) (fun hc => ?_) (fun hc => ?_)
  · have hf := it_p hc hf
    refine lv_iload_n hx hb dX7_atLeast_9 rfl (lv_at hl 0 rfl) ?_
    exact W.iret (v := p1) hx hb hr (fun t ht hW => ⟨⟨_, (), rfl, Option.some.inj hf, ht⟩, hS.F ht⟩) hS.2.2 dX7_atLeast_10
  · have hf := it_n hc hf
    refine lv_iload_n hx hb dX7_atLeast_5 rfl (lv_at hl 1 rfl) ?_
    refine lv_goto (tgt := 10) hx hb dX7_atLeast_6 (by decide) ?_
    exact W.iret (v := p2) hx hb hr (fun t ht hW => ⟨⟨_, (), rfl, Option.some.inj hf, ht⟩, hS.F ht⟩) hS.2.2 dX7_atLeast_10
set_option maxHeartbeats 4000000 in
set_option maxRecDepth 100000 in
theorem kX7_rounded (l : Launch) (H : Heap) (p1 : Int32) (p2 : Int32) (r : Int32) (hf : fX7_rounded p1 p2 = some r) : Met l yX7_rounded wsX7_rounded ({ frames := 0, cells := 0, slots := 0, locals := 0 }) (roP0 [.int p1, .int p2] H) (roQi r H) 0 0 (fun _ => False) := by
  refine Met.ofW (cc := cX7_rounded) (maxL := 2) (ret := (some .int)) (by decide) rfl ?_
  intro p e s m args below meth c s₁ B hml hv
  obtain ⟨rfl, hH⟩ := hv
  have hx := B.exec
  have hb := B.bytes
  have hr := B.returns
  have hts := atoms_spec (ws := wsX7_rounded) B.pre
  have hown : s.vm.findClass RX7 = some m.cls := findClass_of_methodNamed B.named
  have hlocks := B.notSynchronized
  subst hH
  have hS : va_S (fun _ => False) s.heap s.heap [] := va_S.rf
  have hl := lv_entry ([.int p1, .int p2]) (n := 2) (Nat.le_of_ble_eq_true rfl)
  rw [lg_entry_eq]
  generalize (lg_sl ([.int p1, .int p2]) ++ List.replicate (2 - (lg_sl ([.int p1, .int p2])).length) Slot.unset).toArray = ls at hl ⊢
  have hl : lv_has ls 2 [(0, .int p1), (1, .int p2)] := hl
  unfold fX7_rounded at hf
  refine lv_iconst (v := (2 : Int32)) hx hb dX7_rounded_0 (by decide) ?_
  refine lv_iload_n hx hb dX7_rounded_1 rfl (lv_at hl 0 rfl) ?_
  refine lv_imul hx hb dX7_rounded_2 ?_
  refine lv_iload_n hx hb dX7_rounded_3 rfl (lv_at hl 1 rfl) ?_
  refine lv_iadd hx hb dX7_rounded_4 ?_
  refine lv_iconst (v := (2 : Int32)) hx hb dX7_rounded_5 (by decide) ?_
  refine lv_iload_n hx hb dX7_rounded_6 rfl (lv_at hl 1 rfl) ?_
  refine lv_imul hx hb dX7_rounded_7 ?_
  obtain ⟨hz1, hf⟩ := ckZ_sp hf
  refine lv_idiv hx hb dX7_rounded_8 hz1 ?_
  exact W.iret (v := (((2 : Int32) * p1) + p2) / ((2 : Int32) * p2)) hx hb hr (fun t ht hW => ⟨⟨_, (), rfl, Option.some.inj hf, ht⟩, hS.F ht⟩) hS.2.2 dX7_rounded_9
set_option maxHeartbeats 4000000 in
set_option maxRecDepth 100000 in
theorem kX7_cell (l : Launch) (dC : Nat → ClassId) (dI : Nat → Nat → Nat) (cy : ClassId) (sz : Nat) (a7 a7_offset a7_gain a7_dark a7_bright a7_fromRow a7_toRow a7_left a7_right a7_slant a7_tintOf a7_speckOf a7_leadOf a7_stepKind a7_stepBy a7_pixels : Nat) (f7_offset : Nat → Int32) (f7_gain : Nat → Int32) (f7_dark : Nat → Int32) (f7_bright : Nat → Int32) (v7_ground : Int32) (v7_patches : Int32) (f7_fromRow : Nat → Int32) (f7_toRow : Nat → Int32) (f7_left : Nat → Int32) (f7_right : Nat → Int32) (f7_slant : Nat → Int32) (f7_tintOf : Nat → Int32) (f7_speckOf : Nat → Int32) (f7_leadOf : Nat → Int32) (v7_steps : Int32) (f7_stepKind : Nat → Int32) (f7_stepBy : Nat → Int32) (v7_threshold : Int32) (v7_isOn : Int32) (v7_lines : Int32) (v7_done : Int32) (v7_taken : Int32) (v7_lastPosition : Int32) (v7_position : Int32) (v7_mode : Int32) (v7_next : Int32) (v7_outs : Int32) (v7_stops : Int32) (v7_ticks : Int32) (f7_pixels : Nat → Int32) (p1 : Int32) (p2 : Int32) (p3 : Int32) (p4 : Int32) (r : Int32) (o_f7_offset : Nat → Int32) (o_f7_gain : Nat → Int32) (hf : fX7_cell f7_offset f7_gain v7_isOn p1 p2 p3 p4 = some (r, o_f7_offset, o_f7_gain)) : Met l yX7_cell wsX7_cell ({ frames := 3, cells := 0, slots := 0, locals := 63 }) (rwP [.ref a7, .int p1, .int p2, .int p3, .int p4] (dC, dI) vwCl (WX7 cy a7 a7_offset a7_gain a7_dark a7_bright a7_fromRow a7_toRow a7_left a7_right a7_slant a7_tintOf a7_speckOf a7_leadOf a7_stepKind a7_stepBy a7_pixels f7_offset f7_gain f7_dark f7_bright v7_ground v7_patches f7_fromRow f7_toRow f7_left f7_right f7_slant f7_tintOf f7_speckOf f7_leadOf v7_steps f7_stepKind f7_stepBy v7_threshold v7_isOn v7_lines v7_done v7_taken v7_lastPosition v7_position v7_mode v7_next v7_outs v7_stops v7_ticks f7_pixels) [(cy, .int)] sz) (rwQi r (dC, dI) vwCl (WX7 cy a7 a7_offset a7_gain a7_dark a7_bright a7_fromRow a7_toRow a7_left a7_right a7_slant a7_tintOf a7_speckOf a7_leadOf a7_stepKind a7_stepBy a7_pixels o_f7_offset o_f7_gain f7_dark f7_bright v7_ground v7_patches f7_fromRow f7_toRow f7_left f7_right f7_slant f7_tintOf f7_speckOf f7_leadOf v7_steps f7_stepKind f7_stepBy v7_threshold v7_isOn v7_lines v7_done v7_taken v7_lastPosition v7_position v7_mode v7_next v7_outs v7_stops v7_ticks f7_pixels) (va_A (WX7 cy a7 a7_offset a7_gain a7_dark a7_bright a7_fromRow a7_toRow a7_left a7_right a7_slant a7_tintOf a7_speckOf a7_leadOf a7_stepKind a7_stepBy a7_pixels f7_offset f7_gain f7_dark f7_bright v7_ground v7_patches f7_fromRow f7_toRow f7_left f7_right f7_slant f7_tintOf f7_speckOf f7_leadOf v7_steps f7_stepKind f7_stepBy v7_threshold v7_isOn v7_lines v7_done v7_taken v7_lastPosition v7_position v7_mode v7_next v7_outs v7_stops v7_ticks f7_pixels) sz)) 0 0 (va_A (WX7 cy a7 a7_offset a7_gain a7_dark a7_bright a7_fromRow a7_toRow a7_left a7_right a7_slant a7_tintOf a7_speckOf a7_leadOf a7_stepKind a7_stepBy a7_pixels f7_offset f7_gain f7_dark f7_bright v7_ground v7_patches f7_fromRow f7_toRow f7_left f7_right f7_slant f7_tintOf f7_speckOf f7_leadOf v7_steps f7_stepKind f7_stepBy v7_threshold v7_isOn v7_lines v7_done v7_taken v7_lastPosition v7_position v7_mode v7_next v7_outs v7_stops v7_ticks f7_pixels) sz) := by
  refine Met.ofW (cc := cX7_cell) (maxL := 5) (ret := (some .int)) (by decide) rfl ?_
  intro p e s m args below meth c s₁ B hml hv
  obtain ⟨rfl, hsz, hP, hK, hD0⟩ := hv
  have hx := B.exec
  have hb := B.bytes
  have hr := B.returns
  have hts := atoms_spec (ws := wsX7_cell) B.pre
  have hown : s.vm.findClass RX7 = some m.cls := findClass_of_methodNamed B.named
  have hlocks := B.notSynchronized
  have hiX7 : ∀ w ∈ u_ws RX7 TX7 30, w ∈ wsX7_cell := fun _ h => List.mem_cons_of_mem _ ((List.mem_append_right _ h))
  subst hsz
  have hD := hD0.self (sz := s.heap.size)
  generalize hAe : va_A (WX7 cy a7 a7_offset a7_gain a7_dark a7_bright a7_fromRow a7_toRow a7_left a7_right a7_slant a7_tintOf a7_speckOf a7_leadOf a7_stepKind a7_stepBy a7_pixels f7_offset f7_gain f7_dark f7_bright v7_ground v7_patches f7_fromRow f7_toRow f7_left f7_right f7_slant f7_tintOf f7_speckOf f7_leadOf v7_steps f7_stepKind f7_stepBy v7_threshold v7_isOn v7_lines v7_done v7_taken v7_lastPosition v7_position v7_mode v7_next v7_outs v7_stops v7_ticks f7_pixels) s.heap.size = A0 at hD ⊢
  have hA : ∀ q : Nat, s.heap.size ≤ q → A0 q := fun q h => by rw [← hAe]; exact Or.inr h
  have hS : va_S A0 s.heap s.heap [] := va_S.rf
  have hl := lv_entry ([.ref a7, .int p1, .int p2, .int p3, .int p4]) (n := 5) (Nat.le_of_ble_eq_true rfl)
  rw [lg_entry_eq]
  generalize (lg_sl ([.ref a7, .int p1, .int p2, .int p3, .int p4]) ++ List.replicate (5 - (lg_sl ([.ref a7, .int p1, .int p2, .int p3, .int p4])).length) Slot.unset).toArray = ls at hl ⊢
  have hl : lv_has ls 5 [(0, .ref a7), (1, .int p1), (2, .int p2), (3, .int p3), (4, .int p4)] := hl
  unfold fX7_cell at hf
  refine lv_iload_n hx hb dX7_cell_0 rfl (lv_at hl 1 rfl) ?_
  refine lv_iload_n hx hb dX7_cell_1 rfl (lv_at hl 2 rfl) ?_
  obtain ⟨r1, hr1, hf⟩ := cl1_sp hf
  refine ro_S (As := [.int p1, .int p2]) ⟨hx, hb, hml, hown, hts⟩ (kX7_isCell l _ p1 p2 r1 hr1) (va_cwS 2 hts gX7_cell_X7_isCell rfl rfl rfl (by decide +kernel) ⟨Nat.le_of_ble_eq_true rfl, Nat.le_of_ble_eq_true rfl⟩) hS rfl hl.1 rfl (Nat.le_of_ble_eq_true rfl) dX7_cell_2 (Nat.zero_le _) (Nat.zero_le _) (fun locs hS => ?_)
  refine lv_if_ne (tgt := 10) hx hb dX7_cell_5 (by decide) (fun hc => ?_) (fun hc => ?_)
  · have hf := it_n hc hf
    refine lv_iload_n hx hb dX7_cell_10 rfl (lv_at hl 3 rfl) ?_
    refine lv_iconst (v := (0 : Int32)) hx hb dX7_cell_11 (by decide) ?_
    refine lv_bipush (v := (63 : Int32)) hx hb dX7_cell_12 (by decide) ?_
    obtain ⟨r2, hr2, hf⟩ := cl1_sp hf
    refine ro_S (As := [.int p3, .int (0 : Int32), .int (63 : Int32)]) ⟨hx, hb, hml, hown, hts⟩ (kX7_within l _ p3 (0 : Int32) (63 : Int32) r2 hr2) (va_cwS 3 hts gX7_cell_X7_within rfl rfl rfl (by decide +kernel) ⟨Nat.le_of_ble_eq_true rfl, Nat.le_of_ble_eq_true rfl⟩) hS rfl hl.1 rfl (Nat.le_of_ble_eq_true rfl) dX7_cell_14 (Nat.zero_le _) (Nat.zero_le _) (fun locs hS => ?_)
    refine lv_if_eq (tgt := 31) hx hb dX7_cell_17 (by decide) (fun hc => ?_) (fun hc => ?_)
    · have hf := it_p hc hf
      refine lv_bipush (v := (-2 : Int32)) hx hb dX7_cell_31 (by decide) ?_
      cases hf
      exact W.iret hx hb hr (fun t ht hW => ⟨⟨_, (), rfl, rfl, by rw [ht]; exact hP, hD⟩, hS.F ht⟩) hS.2.2 dX7_cell_33
    · have hf := it_n hc hf
      refine lv_iload hx hb dX7_cell_20 (lv_at hl 4 rfl) ?_
      refine lv_iconst (v := (0 : Int32)) hx hb dX7_cell_22 (by decide) ?_
      refine lv_bipush (v := (127 : Int32)) hx hb dX7_cell_23 (by decide) ?_
      obtain ⟨r3, hr3, hf⟩ := cl1_sp hf
      refine ro_S (As := [.int p4, .int (0 : Int32), .int (127 : Int32)]) ⟨hx, hb, hml, hown, hts⟩ (kX7_within l _ p4 (0 : Int32) (127 : Int32) r3 hr3) (va_cwS 3 hts gX7_cell_X7_within rfl rfl rfl (by decide +kernel) ⟨Nat.le_of_ble_eq_true rfl, Nat.le_of_ble_eq_true rfl⟩) hS rfl hl.1 rfl (Nat.le_of_ble_eq_true rfl) dX7_cell_25 (Nat.zero_le _) (Nat.zero_le _) (fun locs hS => ?_)
      refine lv_if_ne (tgt := 34) hx hb dX7_cell_28 (by decide) (fun hc => ?_) (fun hc => ?_)
      · have hf := it_n hc hf
        refine lv_aload_n hx hb dX7_cell_34 rfl (lv_at hl 0 rfl) ?_
        refine va_get (D := (dC, dI)) (ci := 6) (v := .int v7_isOn) (C := RX7) (T := TX7) (N := 30) hx hb hts hiX7 hown hK hP 0 rfl rfl 18 (by decide) (hts (.fieldLink RX7 83 "PageLinesModel" "isOn" "Z") (List.mem_of_getElem? (i := 1) rfl)) (fun _ h9 => h9) rfl dX7_cell_35 ?_
        refine lv_if_eq (tgt := 44) hx hb dX7_cell_38 (by decide) (fun hc => ?_) (fun hc => ?_)
        · have hf := it_p hc hf
          refine lv_aload_n hx hb dX7_cell_44 rfl (lv_at hl 0 rfl) ?_
          refine va_get (D := (dC, dI)) (ci := 6) (v := .ref a7_offset) (C := RX7) (T := TX7) (N := 30) hx hb hts hiX7 hown hK hP 0 rfl rfl 0 (by decide) (hts (.fieldLink RX7 7 "PageLinesModel" "offset" "[I") (List.mem_of_getElem? (i := 2) rfl)) (fun _ h9 => h9) rfl dX7_cell_45 ?_
          refine lv_bipush (v := (12 : Int32)) hx hb dX7_cell_48 (by decide) ?_
          refine lv_iload_n hx hb dX7_cell_50 rfl (lv_at hl 1 rfl) ?_
          refine lv_imul hx hb dX7_cell_51 ?_
          refine lv_iload_n hx hb dX7_cell_52 rfl (lv_at hl 2 rfl) ?_
          refine lv_iadd hx hb dX7_cell_53 ?_
          refine lv_iload_n hx hb dX7_cell_54 rfl (lv_at hl 3 rfl) ?_
          obtain ⟨hi_4, hf⟩ := ckI_sp hf
          refine va_iast hx hb hK hP hD hS 1 0 rfl rfl hi_4 dX7_cell_55 (fun H locs hP hD hS => ?_)
          have hP : va_P (dC, dI) vwCl (WX7 cy a7 a7_offset a7_gain a7_dark a7_bright a7_fromRow a7_toRow a7_left a7_right a7_slant a7_tintOf a7_speckOf a7_leadOf a7_stepKind a7_stepBy a7_pixels (upd f7_offset (((12 : Int32) * p1) + p2).toNatClampNeg p3) f7_gain f7_dark f7_bright v7_ground v7_patches f7_fromRow f7_toRow f7_left f7_right f7_slant f7_tintOf f7_speckOf f7_leadOf v7_steps f7_stepKind f7_stepBy v7_threshold v7_isOn v7_lines v7_done v7_taken v7_lastPosition v7_position v7_mode v7_next v7_outs v7_stops v7_ticks f7_pixels) H := hP
          have hD : va_D A0 (WX7 cy a7 a7_offset a7_gain a7_dark a7_bright a7_fromRow a7_toRow a7_left a7_right a7_slant a7_tintOf a7_speckOf a7_leadOf a7_stepKind a7_stepBy a7_pixels (upd f7_offset (((12 : Int32) * p1) + p2).toNatClampNeg p3) f7_gain f7_dark f7_bright v7_ground v7_patches f7_fromRow f7_toRow f7_left f7_right f7_slant f7_tintOf f7_speckOf f7_leadOf v7_steps f7_stepKind f7_stepBy v7_threshold v7_isOn v7_lines v7_done v7_taken v7_lastPosition v7_position v7_mode v7_next v7_outs v7_stops v7_ticks f7_pixels) := hD
          refine lv_aload_n hx hb dX7_cell_56 rfl (lv_at hl 0 rfl) ?_
          refine va_get (D := (dC, dI)) (ci := 6) (v := .ref a7_gain) (C := RX7) (T := TX7) (N := 30) hx hb hts hiX7 hown hK hP 0 rfl rfl 1 (by decide) (hts (.fieldLink RX7 13 "PageLinesModel" "gain" "[I") (List.mem_of_getElem? (i := 3) rfl)) (fun _ h9 => h9) rfl dX7_cell_57 ?_
          refine lv_bipush (v := (12 : Int32)) hx hb dX7_cell_60 (by decide) ?_
          refine lv_iload_n hx hb dX7_cell_62 rfl (lv_at hl 1 rfl) ?_
          refine lv_imul hx hb dX7_cell_63 ?_
          refine lv_iload_n hx hb dX7_cell_64 rfl (lv_at hl 2 rfl) ?_
          refine lv_iadd hx hb dX7_cell_65 ?_
          refine lv_iload hx hb dX7_cell_66 (lv_at hl 4 rfl) ?_
          obtain ⟨hi_5, hf⟩ := ckI_sp hf
          refine va_iast hx hb hK hP hD hS 2 0 rfl rfl hi_5 dX7_cell_68 (fun H locs hP hD hS => ?_)
          have hP : va_P (dC, dI) vwCl (WX7 cy a7 a7_offset a7_gain a7_dark a7_bright a7_fromRow a7_toRow a7_left a7_right a7_slant a7_tintOf a7_speckOf a7_leadOf a7_stepKind a7_stepBy a7_pixels (upd f7_offset (((12 : Int32) * p1) + p2).toNatClampNeg p3) (upd f7_gain (((12 : Int32) * p1) + p2).toNatClampNeg p4) f7_dark f7_bright v7_ground v7_patches f7_fromRow f7_toRow f7_left f7_right f7_slant f7_tintOf f7_speckOf f7_leadOf v7_steps f7_stepKind f7_stepBy v7_threshold v7_isOn v7_lines v7_done v7_taken v7_lastPosition v7_position v7_mode v7_next v7_outs v7_stops v7_ticks f7_pixels) H := hP
          have hD : va_D A0 (WX7 cy a7 a7_offset a7_gain a7_dark a7_bright a7_fromRow a7_toRow a7_left a7_right a7_slant a7_tintOf a7_speckOf a7_leadOf a7_stepKind a7_stepBy a7_pixels (upd f7_offset (((12 : Int32) * p1) + p2).toNatClampNeg p3) (upd f7_gain (((12 : Int32) * p1) + p2).toNatClampNeg p4) f7_dark f7_bright v7_ground v7_patches f7_fromRow f7_toRow f7_left f7_right f7_slant f7_tintOf f7_speckOf f7_leadOf v7_steps f7_stepKind f7_stepBy v7_threshold v7_isOn v7_lines v7_done v7_taken v7_lastPosition v7_position v7_mode v7_next v7_outs v7_stops v7_ticks f7_pixels) := hD
          refine lv_iconst (v := (1 : Int32)) hx hb dX7_cell_69 (by decide) ?_
          cases hf
          exact W.iret hx hb hr (fun t ht hW => ⟨⟨_, (), rfl, rfl, by rw [ht]; exact hP, hD⟩, hS.F ht⟩) hS.2.2 dX7_cell_70
        · have hf := it_n hc hf
          refine lv_bipush (v := (-3 : Int32)) hx hb dX7_cell_41 (by decide) ?_
          cases hf
          exact W.iret hx hb hr (fun t ht hW => ⟨⟨_, (), rfl, rfl, by rw [ht]; exact hP, hD⟩, hS.F ht⟩) hS.2.2 dX7_cell_43
      · have hf := it_p hc hf
        refine lv_bipush (v := (-2 : Int32)) hx hb dX7_cell_31 (by decide) ?_
        cases hf
        exact W.iret hx hb hr (fun t ht hW => ⟨⟨_, (), rfl, rfl, by rw [ht]; exact hP, hD⟩, hS.F ht⟩) hS.2.2 dX7_cell_33
  · have hf := it_p hc hf
    refine lv_iconst (v := (-1 : Int32)) hx hb dX7_cell_8 (by decide) ?_
    cases hf
    exact W.iret hx hb hr (fun t ht hW => ⟨⟨_, (), rfl, rfl, by rw [ht]; exact hP, hD⟩, hS.F ht⟩) hS.2.2 dX7_cell_9
set_option maxHeartbeats 4000000 in
set_option maxRecDepth 100000 in
theorem kX7_readingOf (l : Launch) (dC : Nat → ClassId) (dI : Nat → Nat → Nat) (cy : ClassId) (H : Heap) (a7 a7_offset a7_gain a7_dark a7_bright a7_fromRow a7_toRow a7_left a7_right a7_slant a7_tintOf a7_speckOf a7_leadOf a7_stepKind a7_stepBy a7_pixels : Nat) (f7_offset : Nat → Int32) (f7_gain : Nat → Int32) (f7_dark : Nat → Int32) (f7_bright : Nat → Int32) (v7_ground : Int32) (v7_patches : Int32) (f7_fromRow : Nat → Int32) (f7_toRow : Nat → Int32) (f7_left : Nat → Int32) (f7_right : Nat → Int32) (f7_slant : Nat → Int32) (f7_tintOf : Nat → Int32) (f7_speckOf : Nat → Int32) (f7_leadOf : Nat → Int32) (v7_steps : Int32) (f7_stepKind : Nat → Int32) (f7_stepBy : Nat → Int32) (v7_threshold : Int32) (v7_isOn : Int32) (v7_lines : Int32) (v7_done : Int32) (v7_taken : Int32) (v7_lastPosition : Int32) (v7_position : Int32) (v7_mode : Int32) (v7_next : Int32) (v7_outs : Int32) (v7_stops : Int32) (v7_ticks : Int32) (f7_pixels : Nat → Int32) (p1 : Int32) (p2 : Int32) (r : Int32) (hf : fX7_readingOf f7_offset f7_gain p1 p2 = some r) : Met l yX7_readingOf wsX7_readingOf ({ frames := 1, cells := 0, slots := 0, locals := 21 }) (roP [.ref a7, .int p1, .int p2] (dC, dI) vwCl (WX7 cy a7 a7_offset a7_gain a7_dark a7_bright a7_fromRow a7_toRow a7_left a7_right a7_slant a7_tintOf a7_speckOf a7_leadOf a7_stepKind a7_stepBy a7_pixels f7_offset f7_gain f7_dark f7_bright v7_ground v7_patches f7_fromRow f7_toRow f7_left f7_right f7_slant f7_tintOf f7_speckOf f7_leadOf v7_steps f7_stepKind f7_stepBy v7_threshold v7_isOn v7_lines v7_done v7_taken v7_lastPosition v7_position v7_mode v7_next v7_outs v7_stops v7_ticks f7_pixels) [(cy, .int)] H) (roQi r H) 0 0 (fun _ => False) := by
  refine Met.ofW (cc := cX7_readingOf) (maxL := 3) (ret := (some .int)) (by decide) rfl ?_
  intro p e s m args below meth c s₁ B hml hv
  obtain ⟨rfl, hH, hP, hK⟩ := hv
  have hx := B.exec
  have hb := B.bytes
  have hr := B.returns
  have hts := atoms_spec (ws := wsX7_readingOf) B.pre
  have hown : s.vm.findClass RX7 = some m.cls := findClass_of_methodNamed B.named
  have hlocks := B.notSynchronized
  have hiX7 : ∀ w ∈ u_ws RX7 TX7 30, w ∈ wsX7_readingOf := fun _ h => List.mem_cons_of_mem _ ((List.mem_append_right _ h))
  subst hH
  have hS : va_S (fun _ => False) s.heap s.heap [] := va_S.rf
  have hl := lv_entry ([.ref a7, .int p1, .int p2]) (n := 3) (Nat.le_of_ble_eq_true rfl)
  rw [lg_entry_eq]
  generalize (lg_sl ([.ref a7, .int p1, .int p2]) ++ List.replicate (3 - (lg_sl ([.ref a7, .int p1, .int p2])).length) Slot.unset).toArray = ls at hl ⊢
  have hl : lv_has ls 3 [(0, .ref a7), (1, .int p1), (2, .int p2)] := hl
  unfold fX7_readingOf at hf
  refine lv_aload_n hx hb dX7_readingOf_0 rfl (lv_at hl 0 rfl) ?_
  refine va_get (D := (dC, dI)) (ci := 6) (v := .ref a7_offset) (C := RX7) (T := TX7) (N := 30) hx hb hts hiX7 hown hK hP 0 rfl rfl 0 (by decide) (hts (.fieldLink RX7 7 "PageLinesModel" "offset" "[I") (List.mem_of_getElem? (i := 1) rfl)) (fun _ h9 => h9) rfl dX7_readingOf_1 ?_
  refine lv_iload_n hx hb dX7_readingOf_4 rfl (lv_at hl 1 rfl) ?_
  obtain ⟨hi_1, hf⟩ := ckI_sp hf
  refine va_iald hx hb hK hP 1 0 rfl rfl hi_1 dX7_readingOf_5 ?_
  refine lv_iload_n hx hb dX7_readingOf_6 rfl (lv_at hl 2 rfl) ?_
  refine lv_aload_n hx hb dX7_readingOf_7 rfl (lv_at hl 0 rfl) ?_
  refine va_get (D := (dC, dI)) (ci := 6) (v := .ref a7_gain) (C := RX7) (T := TX7) (N := 30) hx hb hts hiX7 hown hK hP 0 rfl rfl 1 (by decide) (hts (.fieldLink RX7 13 "PageLinesModel" "gain" "[I") (List.mem_of_getElem? (i := 2) rfl)) (fun _ h9 => h9) rfl dX7_readingOf_8 ?_
  refine lv_iload_n hx hb dX7_readingOf_11 rfl (lv_at hl 1 rfl) ?_
  obtain ⟨hi_2, hf⟩ := ckI_sp hf
  refine va_iald hx hb hK hP 2 0 rfl rfl hi_2 dX7_readingOf_12 ?_
  refine lv_imul hx hb dX7_readingOf_13 ?_
  refine lv_bipush (v := (64 : Int32)) hx hb dX7_readingOf_14 (by decide) ?_
  refine lv_idiv hx hb dX7_readingOf_16 (by decide) ?_
  refine lv_iadd hx hb dX7_readingOf_17 ?_
  refine lv_sipush (v := (255 : Int32)) hx hb dX7_readingOf_18 (by decide) ?_
  obtain ⟨r3, hr3, hf⟩ := cl1_sp hf
  refine ro_S (As := [.int ((f7_offset p1.toNatClampNeg) + ((p2 * (f7_gain p1.toNatClampNeg)) / (64 : Int32))), .int (255 : Int32)]) ⟨hx, hb, hml, hown, hts⟩ (kX7_atMost l _ ((f7_offset p1.toNatClampNeg) + ((p2 * (f7_gain p1.toNatClampNeg)) / (64 : Int32))) (255 : Int32) r3 hr3) (va_cwS 2 hts gX7_readingOf_X7_atMost rfl rfl rfl (by decide +kernel) ⟨Nat.le_of_ble_eq_true rfl, Nat.le_of_ble_eq_true rfl⟩) hS rfl hl.1 rfl (Nat.le_of_ble_eq_true rfl) dX7_readingOf_21 (Nat.zero_le _) (Nat.zero_le _) (fun locs hS => ?_)
  exact W.iret (v := r3) hx hb hr (fun t ht hW => ⟨⟨_, (), rfl, Option.some.inj hf, ht⟩, hS.F ht⟩) hS.2.2 dX7_readingOf_24
set_option maxHeartbeats 4000000 in
set_option maxRecDepth 100000 in
theorem kX7_isLive (l : Launch) (dC : Nat → ClassId) (dI : Nat → Nat → Nat) (cy : ClassId) (H : Heap) (a7 a7_offset a7_gain a7_dark a7_bright a7_fromRow a7_toRow a7_left a7_right a7_slant a7_tintOf a7_speckOf a7_leadOf a7_stepKind a7_stepBy a7_pixels : Nat) (f7_offset : Nat → Int32) (f7_gain : Nat → Int32) (f7_dark : Nat → Int32) (f7_bright : Nat → Int32) (v7_ground : Int32) (v7_patches : Int32) (f7_fromRow : Nat → Int32) (f7_toRow : Nat → Int32) (f7_left : Nat → Int32) (f7_right : Nat → Int32) (f7_slant : Nat → Int32) (f7_tintOf : Nat → Int32) (f7_speckOf : Nat → Int32) (f7_leadOf : Nat → Int32) (v7_steps : Int32) (f7_stepKind : Nat → Int32) (f7_stepBy : Nat → Int32) (v7_threshold : Int32) (v7_isOn : Int32) (v7_lines : Int32) (v7_done : Int32) (v7_taken : Int32) (v7_lastPosition : Int32) (v7_position : Int32) (v7_mode : Int32) (v7_next : Int32) (v7_outs : Int32) (v7_stops : Int32) (v7_ticks : Int32) (f7_pixels : Nat → Int32) (p1 : Int32) (r : Int32) (hf : fX7_isLive f7_dark f7_bright p1 = some r) : Met l yX7_isLive wsX7_isLive ({ frames := 0, cells := 0, slots := 0, locals := 0 }) (roP [.ref a7, .int p1] (dC, dI) vwCl (WX7 cy a7 a7_offset a7_gain a7_dark a7_bright a7_fromRow a7_toRow a7_left a7_right a7_slant a7_tintOf a7_speckOf a7_leadOf a7_stepKind a7_stepBy a7_pixels f7_offset f7_gain f7_dark f7_bright v7_ground v7_patches f7_fromRow f7_toRow f7_left f7_right f7_slant f7_tintOf f7_speckOf f7_leadOf v7_steps f7_stepKind f7_stepBy v7_threshold v7_isOn v7_lines v7_done v7_taken v7_lastPosition v7_position v7_mode v7_next v7_outs v7_stops v7_ticks f7_pixels) [(cy, .int)] H) (roQi r H) 0 0 (fun _ => False) := by
  refine Met.ofW (cc := cX7_isLive) (maxL := 2) (ret := (some .boolean)) (by decide) rfl ?_
  intro p e s m args below meth c s₁ B hml hv
  obtain ⟨rfl, hH, hP, hK⟩ := hv
  have hx := B.exec
  have hb := B.bytes
  have hr := B.returns
  have hts := atoms_spec (ws := wsX7_isLive) B.pre
  have hown : s.vm.findClass RX7 = some m.cls := findClass_of_methodNamed B.named
  have hlocks := B.notSynchronized
  have hiX7 : ∀ w ∈ u_ws RX7 TX7 30, w ∈ wsX7_isLive := fun _ h => List.mem_cons_of_mem _ ((List.mem_append_right _ h))
  subst hH
  have hS : va_S (fun _ => False) s.heap s.heap [] := va_S.rf
  have hl := lv_entry ([.ref a7, .int p1]) (n := 2) (Nat.le_of_ble_eq_true rfl)
  rw [lg_entry_eq]
  generalize (lg_sl ([.ref a7, .int p1]) ++ List.replicate (2 - (lg_sl ([.ref a7, .int p1])).length) Slot.unset).toArray = ls at hl ⊢
  have hl : lv_has ls 2 [(0, .ref a7), (1, .int p1)] := hl
  unfold fX7_isLive at hf
  refine lv_aload_n hx hb dX7_isLive_0 rfl (lv_at hl 0 rfl) ?_
  refine va_get (D := (dC, dI)) (ci := 6) (v := .ref a7_bright) (C := RX7) (T := TX7) (N := 30) hx hb hts hiX7 hown hK hP 0 rfl rfl 3 (by decide) (hts (.fieldLink RX7 19 "PageLinesModel" "bright" "[I") (List.mem_of_getElem? (i := 1) rfl)) (fun _ h9 => h9) rfl dX7_isLive_1 ?_
  refine lv_iload_n hx hb dX7_isLive_4 rfl (lv_at hl 1 rfl) ?_
  obtain ⟨hi_1, hf⟩ := ckI_sp hf
  refine va_iald hx hb hK hP 4 0 rfl rfl hi_1 dX7_isLive_5 ?_
  refine lv_aload_n hx hb dX7_isLive_6 rfl (lv_at hl 0 rfl) ?_
  refine va_get (D := (dC, dI)) (ci := 6) (v := .ref a7_dark) (C := RX7) (T := TX7) (N := 30) hx hb hts hiX7 hown hK hP 0 rfl rfl 2 (by decide) (hts (.fieldLink RX7 16 "PageLinesModel" "dark" "[I") (List.mem_of_getElem? (i := 2) rfl)) (fun _ h9 => h9) rfl dX7_isLive_7 ?_
  refine lv_iload_n hx hb dX7_isLive_10 rfl (lv_at hl 1 rfl) ?_
  obtain ⟨hi_2, hf⟩ := ckI_sp hf
  refine va_iald hx hb hK hP 3 0 rfl rfl hi_2 dX7_isLive_11 ?_
  refine lv_bipush (v := (16 : Int32)) hx hb dX7_isLive_12 (by decide) ?_
  refine lv_iadd hx hb dX7_isLive_14 ?_
  refine lv_icmp_lt (tgt := 22) hx hb dX7_isLive_15 (by decide) (fun hc => ?_) (fun hc => ?_)
  · have hf := it_p hc hf
    refine lv_iconst (v := (0 : Int32)) hx hb dX7_isLive_22 (by decide) ?_
    exact W.zret (v := (0 : Int32)) hx hb hr rfl (fun t ht hW => ⟨⟨_, (), rfl, Option.some.inj hf, ht⟩, hS.F ht⟩) hS.2.2 dX7_isLive_23
  · have hf := it_n hc hf
    refine lv_iconst (v := (1 : Int32)) hx hb dX7_isLive_18 (by decide) ?_
    refine lv_goto (tgt := 23) hx hb dX7_isLive_19 (by decide) ?_
    exact W.zret (v := (1 : Int32)) hx hb hr rfl (fun t ht hW => ⟨⟨_, (), rfl, Option.some.inj hf, ht⟩, hS.F ht⟩) hS.2.2 dX7_isLive_23
set_option maxHeartbeats 4000000 in
set_option maxRecDepth 100000 in
theorem kX7_manyLive (l : Launch) (dC : Nat → ClassId) (dI : Nat → Nat → Nat) (cy : ClassId) (H : Heap) (a7 a7_offset a7_gain a7_dark a7_bright a7_fromRow a7_toRow a7_left a7_right a7_slant a7_tintOf a7_speckOf a7_leadOf a7_stepKind a7_stepBy a7_pixels : Nat) (f7_offset : Nat → Int32) (f7_gain : Nat → Int32) (f7_dark : Nat → Int32) (f7_bright : Nat → Int32) (v7_ground : Int32) (v7_patches : Int32) (f7_fromRow : Nat → Int32) (f7_toRow : Nat → Int32) (f7_left : Nat → Int32) (f7_right : Nat → Int32) (f7_slant : Nat → Int32) (f7_tintOf : Nat → Int32) (f7_speckOf : Nat → Int32) (f7_leadOf : Nat → Int32) (v7_steps : Int32) (f7_stepKind : Nat → Int32) (f7_stepBy : Nat → Int32) (v7_threshold : Int32) (v7_isOn : Int32) (v7_lines : Int32) (v7_done : Int32) (v7_taken : Int32) (v7_lastPosition : Int32) (v7_position : Int32) (v7_mode : Int32) (v7_next : Int32) (v7_outs : Int32) (v7_stops : Int32) (v7_ticks : Int32) (f7_pixels : Nat → Int32) (r : Int32) (hf : fX7_manyLive f7_dark f7_bright = some r) : Met l yX7_manyLive wsX7_manyLive ({ frames := 1, cells := 0, slots := 0, locals := 21 }) (roP [.ref a7] (dC, dI) vwCl (WX7 cy a7 a7_offset a7_gain a7_dark a7_bright a7_fromRow a7_toRow a7_left a7_right a7_slant a7_tintOf a7_speckOf a7_leadOf a7_stepKind a7_stepBy a7_pixels f7_offset f7_gain f7_dark f7_bright v7_ground v7_patches f7_fromRow f7_toRow f7_left f7_right f7_slant f7_tintOf f7_speckOf f7_leadOf v7_steps f7_stepKind f7_stepBy v7_threshold v7_isOn v7_lines v7_done v7_taken v7_lastPosition v7_position v7_mode v7_next v7_outs v7_stops v7_ticks f7_pixels) [(cy, .int)] H) (roQi r H) 0 0 (fun _ => False) := by
  refine Met.ofW (cc := cX7_manyLive) (maxL := 3) (ret := (some .int)) (by decide) rfl ?_
  intro p e s m args below meth c s₁ B hml hv
  obtain ⟨rfl, hH, hP, hK⟩ := hv
  have hx := B.exec
  have hb := B.bytes
  have hr := B.returns
  have hts := atoms_spec (ws := wsX7_manyLive) B.pre
  have hown : s.vm.findClass RX7 = some m.cls := findClass_of_methodNamed B.named
  have hlocks := B.notSynchronized
  have hiX7 : ∀ w ∈ u_ws RX7 TX7 30, w ∈ wsX7_manyLive := fun _ h => List.mem_cons_of_mem _ ((List.mem_append_right _ h))
  subst hH
  have hS : va_S (fun _ => False) s.heap s.heap [] := va_S.rf
  have hb_4 : ∀ (n : Nat) (x1 : Int32) (x2 : Int32), bX7_manyLive_4 f7_dark f7_bright n x1 x2 = some r → ∀ (locs : List Loc) (ls : Array Slot), va_S (fun _ => False) s.heap s.heap locs → lv_has ls 3 [(0, .ref a7), (1, .int x1), (2, .int x2)] → W p l e (headSpec wsX7_manyLive ({ frames := 1, cells := 0, slots := 0, locals := 21 })).room s m ([.ref a7] : List Value).toArray below meth c s.heap locs 0 0 (MQ below (roQi r s.heap) ([.ref a7] : List Value).toArray s 0 0 (fun _ => False)) (F0 m 4 ls []) := by
    intro n
    induction n with
    | zero => intro x1 x2 hf; rw [bX7_manyLive_4] at hf; cases hf
    | succ n4 ih4 =>
      intro x1 x2 hf locs ls hS hl
      rw [bX7_manyLive_4] at hf
      refine lv_iload_n hx hb dX7_manyLive_4 rfl (lv_at hl 2 rfl) ?_
      refine lv_bipush (v := (36 : Int32)) hx hb dX7_manyLive_5 (by decide) ?_
      refine lv_icmp_ge (tgt := 32) hx hb dX7_manyLive_7 (by decide) (fun hc => ?_) (fun hc => ?_)
      · have hf := it_p hc hf
        refine lv_iload_n hx hb dX7_manyLive_32 rfl (lv_at hl 1 rfl) ?_
        exact W.iret (v := x1) hx hb hr (fun t ht hW => ⟨⟨_, (), rfl, Option.some.inj hf, ht⟩, hS.F ht⟩) hS.2.2 dX7_manyLive_33
      · have hf := it_n hc hf
        refine lv_iload_n hx hb dX7_manyLive_10 rfl (lv_at hl 1 rfl) ?_
        refine lv_aload_n hx hb dX7_manyLive_11 rfl (lv_at hl 0 rfl) ?_
        refine lv_iload_n hx hb dX7_manyLive_12 rfl (lv_at hl 2 rfl) ?_
        obtain ⟨r2, hr2, hf⟩ := cl1_sp hf
        refine ro_V (As := [.int x2]) ⟨hx, hb, hml, hown, hts⟩ (kX7_isLive l dC dI cy _ a7 a7_offset a7_gain a7_dark a7_bright a7_fromRow a7_toRow a7_left a7_right a7_slant a7_tintOf a7_speckOf a7_leadOf a7_stepKind a7_stepBy a7_pixels f7_offset f7_gain f7_dark f7_bright v7_ground v7_patches f7_fromRow f7_toRow f7_left f7_right f7_slant f7_tintOf f7_speckOf f7_leadOf v7_steps f7_stepKind f7_stepBy v7_threshold v7_isOn v7_lines v7_done v7_taken v7_lastPosition v7_position v7_mode v7_next v7_outs v7_stops v7_ticks f7_pixels x2 r2 hr2) (cwV 1 hts gX7_manyLive_X7_isLive rfl rfl rfl (by decide +kernel) ⟨Nat.le_of_ble_eq_true rfl, Nat.le_of_ble_eq_true rfl⟩) (va_recv hK hP (ci := 6) (q0 := 0) rfl rfl) (hP.sub [0, 1, 2, 3, 4, 5, 6, 7, 8, 9, 10, 11, 12, 13, 14, 15] rfl) hK hS rfl hl.1 rfl (Nat.le_of_ble_eq_true rfl) dX7_manyLive_13 (Nat.zero_le _) (Nat.zero_le _) (fun locs hS => ?_)
        refine lv_if_eq (tgt := 23) hx hb dX7_manyLive_16 (by decide) (fun hc => ?_) (fun hc => ?_)
        · have hf := it_p hc hf
          refine lv_iconst (v := (0 : Int32)) hx hb dX7_manyLive_23 (by decide) ?_
          refine lv_iadd hx hb dX7_manyLive_24 ?_
          refine lv_istore_n (lv' := [(1, .int (x1 + (0 : Int32))), (0, .ref a7), (2, .int x2)]) hx hb dX7_manyLive_25 rfl hl (by decide) rfl (fun ls hl => ?_)
          refine lv_iinc (v := x2 + (1 : Int32)) (lv' := [(2, .int (x2 + (1 : Int32))), (1, .int (x1 + (0 : Int32))), (0, .ref a7)]) hx hb dX7_manyLive_26 hl (k := 2) rfl rfl (by decide) rfl (fun ls hl => ?_)
          refine lv_goto (tgt := 4) hx hb dX7_manyLive_29 (by decide) ?_
          exact ih4 (x1 + (0 : Int32)) (x2 + (1 : Int32)) hf _ _ hS (lv_sub hl [2, 1, 0] rfl)
        · have hf := it_n hc hf
          refine lv_iconst (v := (1 : Int32)) hx hb dX7_manyLive_19 (by decide) ?_
          refine lv_goto (tgt := 24) hx hb dX7_manyLive_20 (by decide) ?_
          refine lv_iadd hx hb dX7_manyLive_24 ?_
          refine lv_istore_n (lv' := [(1, .int (x1 + (1 : Int32))), (0, .ref a7), (2, .int x2)]) hx hb dX7_manyLive_25 rfl hl (by decide) rfl (fun ls hl => ?_)
          refine lv_iinc (v := x2 + (1 : Int32)) (lv' := [(2, .int (x2 + (1 : Int32))), (1, .int (x1 + (1 : Int32))), (0, .ref a7)]) hx hb dX7_manyLive_26 hl (k := 2) rfl rfl (by decide) rfl (fun ls hl => ?_)
          refine lv_goto (tgt := 4) hx hb dX7_manyLive_29 (by decide) ?_
          exact ih4 (x1 + (1 : Int32)) (x2 + (1 : Int32)) hf _ _ hS (lv_sub hl [2, 1, 0] rfl)
  have hl := lv_entry ([.ref a7]) (n := 3) (Nat.le_of_ble_eq_true rfl)
  rw [lg_entry_eq]
  generalize (lg_sl ([.ref a7]) ++ List.replicate (3 - (lg_sl ([.ref a7])).length) Slot.unset).toArray = ls at hl ⊢
  have hl : lv_has ls 3 [(0, .ref a7)] := hl
  unfold fX7_manyLive at hf
  refine lv_iconst (v := (0 : Int32)) hx hb dX7_manyLive_0 (by decide) ?_
  refine lv_istore_n (lv' := [(1, .int (0 : Int32)), (0, .ref a7)]) hx hb dX7_manyLive_1 rfl hl (by decide) rfl (fun ls hl => ?_)
  refine lv_iconst (v := (0 : Int32)) hx hb dX7_manyLive_2 (by decide) ?_
  refine lv_istore_n (lv' := [(2, .int (0 : Int32)), (1, .int (0 : Int32)), (0, .ref a7)]) hx hb dX7_manyLive_3 rfl hl (by decide) rfl (fun ls hl => ?_)
  exact hb_4 300 (0 : Int32) (0 : Int32) hf _ _ hS (lv_sub hl [2, 1, 0] rfl)

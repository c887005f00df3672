set_option maxHeartbeats 4000000 in
set_option maxRecDepth 100000 in
theorem kX7_edge (l : Launch) (dC : Nat → ClassId) (dI : Nat → Nat → Nat) (cy : ClassId) (H : Heap) (a7 a7_offset a7_gain a7_dark a7_bright a7_fromRow a7_toRow a7_left a7_right a7_slant a7_tintOf a7_speckOf a7_leadOf a7_stepKind a7_stepBy a7_pixels : Nat) (f7_offset : Nat → Int32) (f7_gain : Nat → Int32) (f7_dark : Nat → Int32) (f7_bright : Nat → Int32) (v7_ground : Int32) (v7_patches : Int32) (f7_fromRow : Nat → Int32) (f7_toRow : Nat → Int32) (f7_left : Nat → Int32) (f7_right : Nat → Int32) (f7_slant : Nat → Int32) (f7_tintOf : Nat → Int32) (f7_speckOf : Nat → Int32) (f7_leadOf : Nat → Int32) (v7_steps : Int32) (f7_stepKind : Nat → Int32) (f7_stepBy : Nat → Int32) (v7_threshold : Int32) (v7_isOn : Int32) (v7_lines : Int32) (v7_done : Int32) (v7_taken : Int32) (v7_lastPosition : Int32) (v7_position : Int32) (v7_mode : Int32) (v7_next : Int32) (v7_outs : Int32) (v7_stops : Int32) (v7_ticks : Int32) (f7_pixels : Nat → Int32) (p1 : Int32) (r : Int32) (hf : fX7_edge v7_threshold v7_taken f7_pixels p1 = some r) : Met l yX7_edge wsX7_edge ({ frames := 4, cells := 0, slots := 0, locals := 90 }) (roP [.ref a7, .int p1] (dC, dI) vwCl (WX7 cy a7 a7_offset a7_gain a7_dark a7_bright a7_fromRow a7_toRow a7_left a7_right a7_slant a7_tintOf a7_speckOf a7_leadOf a7_stepKind a7_stepBy a7_pixels f7_offset f7_gain f7_dark f7_bright v7_ground v7_patches f7_fromRow f7_toRow f7_left f7_right f7_slant f7_tintOf f7_speckOf f7_leadOf v7_steps f7_stepKind f7_stepBy v7_threshold v7_isOn v7_lines v7_done v7_taken v7_lastPosition v7_position v7_mode v7_next v7_outs v7_stops v7_ticks f7_pixels) [(cy, .int)] H) (roQi r H) 0 0 (fun _ => False) := by
  refine Met.ofW (cc := cX7_edge) (maxL := 2) (ret := (some .int)) (by decide) rfl ?_
  intro p e s m args below meth c s₁ B hml hv
  obtain ⟨rfl, hH, hP, hK⟩ := hv
  have hx := B.exec
  have hb := B.bytes
  have hr := B.returns
  have hts := atoms_spec (ws := wsX7_edge) B.pre
  have hown : s.vm.findClass RX7 = some m.cls := findClass_of_methodNamed B.named
  have hlocks := B.notSynchronized
  have hiX7 : ∀ w ∈ u_ws RX7 TX7 30, w ∈ wsX7_edge := fun _ h => List.mem_cons_of_mem _ ((List.mem_append_right _ h))
  subst hH
  have hS : va_S (fun _ => False) s.heap s.heap [] := va_S.rf
  have hl := lv_entry ([.ref a7, .int p1]) (n := 2) (Nat.le_of_ble_eq_true rfl)
  rw [lg_entry_eq]
  generalize (lg_sl ([.ref a7, .int p1]) ++ List.replicate (2 - (lg_sl ([.ref a7, .int p1])).length) Slot.unset).toArray = ls at hl ⊢
  have hl : lv_has ls 2 [(0, .ref a7), (1, .int p1)] := hl
  unfold fX7_edge at hf
  refine lv_aload_n hx hb dX7_edge_0 rfl (lv_at hl 0 rfl) ?_
  refine lv_iload_n hx hb dX7_edge_1 rfl (lv_at hl 1 rfl) ?_
  obtain ⟨r1, hr1, hf⟩ := cl1_sp hf
  refine ro_V (As := [.int p1]) ⟨hx, hb, hml, hown, hts⟩ (kX7_isTaken l dC dI cy _ a7 a7_offset a7_gain a7_dark a7_bright a7_fromRow a7_toRow a7_left a7_right a7_slant a7_tintOf a7_speckOf a7_leadOf a7_stepKind a7_stepBy a7_pixels f7_offset f7_gain f7_dark f7_bright v7_ground v7_patches f7_fromRow f7_toRow f7_left f7_right f7_slant f7_tintOf f7_speckOf f7_leadOf v7_steps f7_stepKind f7_stepBy v7_threshold v7_isOn v7_lines v7_done v7_taken v7_lastPosition v7_position v7_mode v7_next v7_outs v7_stops v7_ticks f7_pixels p1 r1 hr1) (cwV 1 hts gX7_edge_X7_isTaken rfl rfl rfl (by decide +kernel) ⟨Nat.le_of_ble_eq_true rfl, Nat.le_of_ble_eq_true rfl⟩) (va_recv hK hP (ci := 6) (q0 := 0) rfl rfl) (hP.sub [0, 1, 2, 3, 4, 5, 6, 7, 8, 9, 10, 11, 12, 13, 14, 15] rfl) hK hS rfl hl.1 rfl (Nat.le_of_ble_eq_true rfl) dX7_edge_2 (Nat.zero_le _) (Nat.zero_le _) (fun locs hS => ?_)
  refine lv_if_eq (tgt := 16) hx hb dX7_edge_5 (by decide) (fun hc => ?_) (fun hc => ?_)
  · have hf := it_p hc hf
    refine lv_iconst (v := (-1 : Int32)) hx hb dX7_edge_16 (by decide) ?_
    exact W.iret (v := (-1 : Int32)) hx hb hr (fun t ht hW => ⟨⟨_, (), rfl, Option.some.inj hf, ht⟩, hS.F ht⟩) hS.2.2 dX7_edge_17
  · have hf := it_n hc hf
    refine lv_aload_n hx hb dX7_edge_8 rfl (lv_at hl 0 rfl) ?_
    refine lv_iload_n hx hb dX7_edge_9 rfl (lv_at hl 1 rfl) ?_
    obtain ⟨r2, hr2, hf⟩ := cl1_sp hf
    refine ro_V (As := [.int p1]) ⟨hx, hb, hml, hown, hts⟩ (kX7_edgeOf l dC dI cy _ a7 a7_offset a7_gain a7_dark a7_bright a7_fromRow a7_toRow a7_left a7_right a7_slant a7_tintOf a7_speckOf a7_leadOf a7_stepKind a7_stepBy a7_pixels f7_offset f7_gain f7_dark f7_bright v7_ground v7_patches f7_fromRow f7_toRow f7_left f7_right f7_slant f7_tintOf f7_speckOf f7_leadOf v7_steps f7_stepKind f7_stepBy v7_threshold v7_isOn v7_lines v7_done v7_taken v7_lastPosition v7_position v7_mode v7_next v7_outs v7_stops v7_ticks f7_pixels p1 r2 hr2) (cwV 1 hts gX7_edge_X7_edgeOf rfl rfl rfl (by decide +kernel) ⟨Nat.le_of_ble_eq_true rfl, Nat.le_of_ble_eq_true rfl⟩) (va_recv hK hP (ci := 6) (q0 := 0) rfl rfl) (hP.sub [0, 1, 2, 3, 4, 5, 6, 7, 8, 9, 10, 11, 12, 13, 14, 15] rfl) hK hS rfl hl.1 rfl (Nat.le_of_ble_eq_true rfl) dX7_edge_10 (Nat.zero_le _) (Nat.zero_le _) (fun locs hS => ?_)
    refine lv_goto (tgt := 17) hx hb dX7_edge_13 (by decide) ?_
    exact W.iret (v := r2) hx hb hr (fun t ht hW => ⟨⟨_, (), rfl, Option.some.inj hf, ht⟩, hS.F ht⟩) hS.2.2 dX7_edge_17
set_option maxHeartbeats 4000000 in
set_option maxRecDepth 100000 in
theorem kX7_inLeastTerms (l : Launch) (H : Heap) (p1 : Int64) (p2 : Int64) (p3 : Int32) (r : Int64) (hf : fX7_inLeastTerms p1 p2 p3 = some r) : Met l yX7_inLeastTerms wsX7_inLeastTerms ({ frames := 0, cells := 0, slots := 0, locals := 0 }) (roP0 [.long p1, .long p2, .int p3] H) (roQl r H) 0 0 (fun _ => False) := by
  refine Met.ofW (cc := cX7_inLeastTerms) (maxL := 11) (ret := (some .long)) (by decide) rfl ?_
  intro p e s m args below meth c s₁ B hml hv
  obtain ⟨rfl, hH⟩ := hv
  have hx := B.exec
  have hb := B.bytes
  have hr := B.returns
  have hts := atoms_spec (ws := wsX7_inLeastTerms) B.pre
  have hown : s.vm.findClass RX7 = some m.cls := findClass_of_methodNamed B.named
  have hlocks := B.notSynchronized
  subst hH
  have hS : va_S (fun _ => False) s.heap s.heap [] := va_S.rf
  have hb_42 : ∀  (x0 : Int64) (x2 : Int64) (x4 : Int32) (x5 : Int64), bX7_inLeastTerms_42 x0 x2 x4 x5 = some r → ∀ (locs : List Loc) (ls : Array Slot), va_S (fun _ => False) s.heap s.heap locs → lv_has ls 11 [(0, .long x0), (2, .long x2), (4, .int x4), (5, .long x5)] → W p l e (headSpec wsX7_inLeastTerms ({ frames := 0, cells := 0, slots := 0, locals := 0 })).room s m ([.long p1, .long p2, .int p3] : List Value).toArray below meth c s.heap locs 0 0 (MQ below (roQl r s.heap) ([.long p1, .long p2, .int p3] : List Value).toArray s 0 0 (fun _ => False)) (F0 m 42 ls []) := by
    intro x0 x2 x4 x5 hf locs ls hS hl
    unfold bX7_inLeastTerms_42 at hf
    refine lv_iload hx hb dX7_inLeastTerms_42 (lv_at hl 2 rfl) ?_
    refine lv_if_ne (tgt := 54) hx hb dX7_inLeastTerms_44 (by decide) (fun hc => ?_) (fun hc => ?_)
    · have hf := it_n hc hf
      refine lv_lload_n hx hb dX7_inLeastTerms_54 rfl (lv_at hl 1 rfl) ?_
      refine lv_lload hx hb dX7_inLeastTerms_55 (lv_at hl 3 rfl) ?_
      obtain ⟨hz3, hf⟩ := ckL_sp hf
      refine lv_ldiv hx hb dX7_inLeastTerms_57 hz3 ?_
      exact W.lret (v := x2 / x5) hx hb hr (fun t ht hW => ⟨⟨_, (), rfl, Option.some.inj hf, ht⟩, hS.F ht⟩) hS.2.2 dX7_inLeastTerms_58
    · have hf := it_p hc hf
      refine lv_lload_n hx hb dX7_inLeastTerms_47 rfl (lv_at hl 0 rfl) ?_
      refine lv_lload hx hb dX7_inLeastTerms_48 (lv_at hl 3 rfl) ?_
      obtain ⟨hz4, hf⟩ := ckL_sp hf
      refine lv_ldiv hx hb dX7_inLeastTerms_50 hz4 ?_
      refine lv_goto (tgt := 58) hx hb dX7_inLeastTerms_51 (by decide) ?_
      exact W.lret (v := x0 / x5) hx hb hr (fun t ht hW => ⟨⟨_, (), rfl, Option.some.inj hf, ht⟩, hS.F ht⟩) hS.2.2 dX7_inLeastTerms_58
  have hb_17 : ∀ (n : Nat) (x0 : Int64) (x2 : Int64) (x4 : Int32) (x5 : Int64) (x7 : Int64), bX7_inLeastTerms_17 n x0 x2 x4 x5 x7 = some r → ∀ (locs : List Loc) (ls : Array Slot), va_S (fun _ => False) s.heap s.heap locs → lv_has ls 11 [(0, .long x0), (2, .long x2), (4, .int x4), (5, .long x5), (7, .long x7)] → W p l e (headSpec wsX7_inLeastTerms ({ frames := 0, cells := 0, slots := 0, locals := 0 })).room s m ([.long p1, .long p2, .int p3] : List Value).toArray below meth c s.heap locs 0 0 (MQ below (roQl r s.heap) ([.long p1, .long p2, .int p3] : List Value).toArray s 0 0 (fun _ => False)) (F0 m 17 ls []) := by
    intro n
    induction n with
    | zero => intro x0 x2 x4 x5 x7 hf; rw [bX7_inLeastTerms_17] at hf; cases hf
    | succ n17 ih17 =>
      intro x0 x2 x4 x5 x7 hf locs ls hS hl
      rw [bX7_inLeastTerms_17] at hf
      refine lv_lload hx hb dX7_inLeastTerms_17 (lv_at hl 4 rfl) ?_
      refine lv_lconst (v := (0 : Int64)) hx hb dX7_inLeastTerms_19 (by decide) ?_
      refine W.lcmp hx hb dX7_inLeastTerms_20 ?_
      refine lv_if_eq (tgt := 42) hx hb dX7_inLeastTerms_21 (by decide) (fun hc => ?_) (fun hc => ?_)
      · have hf := it_p hc hf
        exact hb_42 x0 x2 x4 x5 hf _ _ hS (lv_sub hl [0, 1, 2, 3] rfl)
      · have hf := it_n hc hf
        refine lv_lload hx hb dX7_inLeastTerms_24 (lv_at hl 3 rfl) ?_
        refine lv_lload hx hb dX7_inLeastTerms_26 (lv_at hl 4 rfl) ?_
        obtain ⟨hz6, hf⟩ := ckL_sp hf
        refine lv_lrem hx hb dX7_inLeastTerms_28 hz6 ?_
        refine lv_lstore (lv' := [(9, .long (x5 - x5 / x7 * x7)), (0, .long x0), (2, .long x2), (4, .int x4), (5, .long x5), (7, .long x7)]) hx hb dX7_inLeastTerms_29 hl (by decide) rfl (fun ls hl => ?_)
        refine lv_lload hx hb dX7_inLeastTerms_31 (lv_at hl 5 rfl) ?_
        refine lv_lstore (lv' := [(5, .long x7), (9, .long (x5 - x5 / x7 * x7)), (0, .long x0), (2, .long x2), (4, .int x4), (7, .long x7)]) hx hb dX7_inLeastTerms_33 hl (by decide) rfl (fun ls hl => ?_)
        refine lv_lload hx hb dX7_inLeastTerms_35 (lv_at hl 1 rfl) ?_
        refine lv_lstore (lv' := [(7, .long (x5 - x5 / x7 * x7)), (5, .long x7), (9, .long (x5 - x5 / x7 * x7)), (0, .long x0), (2, .long x2), (4, .int x4)]) hx hb dX7_inLeastTerms_37 hl (by decide) rfl (fun ls hl => ?_)
        refine lv_goto (tgt := 17) hx hb dX7_inLeastTerms_39 (by decide) ?_
        exact ih17 x0 x2 x4 x7 (x5 - x5 / x7 * x7) hf _ _ hS (lv_sub hl [3, 4, 5, 1, 0] rfl)
  have hl := lv_entry ([.long p1, .long p2, .int p3]) (n := 11) (Nat.le_of_ble_eq_true rfl)
  rw [lg_entry_eq]
  generalize (lg_sl ([.long p1, .long p2, .int p3]) ++ List.replicate (11 - (lg_sl ([.long p1, .long p2, .int p3])).length) Slot.unset).toArray = ls at hl ⊢
  have hl : lv_has ls 11 [(0, .long p1), (2, .long p2), (4, .int p3)] := hl
  unfold fX7_inLeastTerms at hf
  refine lv_lload_n hx hb dX7_inLeastTerms_0 rfl (lv_at hl 0 rfl) ?_
  refine lv_lconst (v := (0 : Int64)) hx hb dX7_inLeastTerms_1 (by decide) ?_
  refine W.lcmp hx hb dX7_inLeastTerms_2 ?_
  refine lv_if_ge (tgt := 11) hx hb dX7_inLeastTerms_3 (by decide) (fun hc => ?_) (fun hc => ?_)
  · have hf := it_p hc hf
    refine lv_lload_n hx hb dX7_inLeastTerms_11 rfl (lv_at hl 0 rfl) ?_
    refine lv_lstore (lv' := [(5, .long p1), (0, .long p1), (2, .long p2), (4, .int p3)]) hx hb dX7_inLeastTerms_12 hl (by decide) rfl (fun ls hl => ?_)
    refine lv_lload_n hx hb dX7_inLeastTerms_14 rfl (lv_at hl 2 rfl) ?_
    refine lv_lstore (lv' := [(7, .long p2), (5, .long p1), (0, .long p1), (2, .long p2), (4, .int p3)]) hx hb dX7_inLeastTerms_15 hl (by decide) rfl (fun ls hl => ?_)
    exact hb_17 300 p1 p2 p3 p1 p2 hf _ _ hS (lv_sub hl [2, 3, 4, 1, 0] rfl)
  · have hf := it_n hc hf
    refine lv_lload_n hx hb dX7_inLeastTerms_6 rfl (lv_at hl 0 rfl) ?_
    refine lv_lneg hx hb dX7_inLeastTerms_7 ?_
    refine lv_goto (tgt := 12) hx hb dX7_inLeastTerms_8 (by decide) ?_
    refine lv_lstore (lv' := [(5, .long (-p1)), (0, .long p1), (2, .long p2), (4, .int p3)]) hx hb dX7_inLeastTerms_12 hl (by decide) rfl (fun ls hl => ?_)
    refine lv_lload_n hx hb dX7_inLeastTerms_14 rfl (lv_at hl 2 rfl) ?_
    refine lv_lstore (lv' := [(7, .long p2), (5, .long (-p1)), (0, .long p1), (2, .long p2), (4, .int p3)]) hx hb dX7_inLeastTerms_15 hl (by decide) rfl (fun ls hl => ?_)
    exact hb_17 300 p1 p2 p3 (-p1) p2 hf _ _ hS (lv_sub hl [2, 3, 4, 1, 0] rfl)
set_option maxHeartbeats 4000000 in
set_option maxRecDepth 100000 in
theorem kX7_skew (l : Launch) (dC : Nat → ClassId) (dI : Nat → Nat → Nat) (cy : ClassId) (H : Heap) (a7 a7_offset a7_gain a7_dark a7_bright a7_fromRow a7_toRow a7_left a7_right a7_slant a7_tintOf a7_speckOf a7_leadOf a7_stepKind a7_stepBy a7_pixels : Nat) (f7_offset : Nat → Int32) (f7_gain : Nat → Int32) (f7_dark : Nat → Int32) (f7_bright : Nat → Int32) (v7_ground : Int32) (v7_patches : Int32) (f7_fromRow : Nat → Int32) (f7_toRow : Nat → Int32) (f7_left : Nat → Int32) (f7_right : Nat → Int32) (f7_slant : Nat → Int32) (f7_tintOf : Nat → Int32) (f7_speckOf : Nat → Int32) (f7_leadOf : Nat → Int32) (v7_steps : Int32) (f7_stepKind : Nat → Int32) (f7_stepBy : Nat → Int32) (v7_threshold : Int32) (v7_isOn : Int32) (v7_lines : Int32) (v7_done : Int32) (v7_taken : Int32) (v7_lastPosition : Int32) (v7_position : Int32) (v7_mode : Int32) (v7_next : Int32) (v7_outs : Int32) (v7_stops : Int32) (v7_ticks : Int32) (f7_pixels : Nat → Int32) (p1 : Int32) (r : Int64) (hf : fX7_skew v7_threshold v7_taken f7_pixels p1 = some r) : Met l yX7_skew wsX7_skew ({ frames := 4, cells := 0, slots := 0, locals := 90 }) (roP [.ref a7, .int p1] (dC, dI) vwCl (WX7 cy a7 a7_offset a7_gain a7_dark a7_bright a7_fromRow a7_toRow a7_left a7_right a7_slant a7_tintOf a7_speckOf a7_leadOf a7_stepKind a7_stepBy a7_pixels f7_offset f7_gain f7_dark f7_bright v7_ground v7_patches f7_fromRow f7_toRow f7_left f7_right f7_slant f7_tintOf f7_speckOf f7_leadOf v7_steps f7_stepKind f7_stepBy v7_threshold v7_isOn v7_lines v7_done v7_taken v7_lastPosition v7_position v7_mode v7_next v7_outs v7_stops v7_ticks f7_pixels) [(cy, .int)] H) (roQl r H) 0 0 (fun _ => False) := by
  refine Met.ofW (cc := cX7_skew) (maxL := 14) (ret := (some .long)) (by decide) rfl ?_
  intro p e s m args below meth c s₁ B hml hv
  obtain ⟨rfl, hH, hP, hK⟩ := hv
  have hx := B.exec
  have hb := B.bytes
  have hr := B.returns
  have hts := atoms_spec (ws := wsX7_skew) B.pre
  have hown : s.vm.findClass RX7 = some m.cls := findClass_of_methodNamed B.named
  have hlocks := B.notSynchronized
  have hiX7 : ∀ w ∈ u_ws RX7 TX7 30, w ∈ wsX7_skew := fun _ h => List.mem_cons_of_mem _ ((List.mem_append_right _ h))
  subst hH
  have hS : va_S (fun _ => False) s.heap s.heap [] := va_S.rf
  have hb_102 : ∀  (x1 : Int32) (x2 : Int64) (x4 : Int64) (x6 : Int64) (x8 : Int64) (x10 : Int64), bX7_skew_102 x1 x2 x4 x6 x8 x10 = some r → ∀ (locs : List Loc) (ls : Array Slot), va_S (fun _ => False) s.heap s.heap locs → lv_has ls 14 [(1, .int x1), (2, .long x2), (4, .long x4), (6, .long x6), (8, .long x8), (10, .long x10)] → W p l e (headSpec wsX7_skew ({ frames := 4, cells := 0, slots := 0, locals := 90 })).room s m ([.ref a7, .int p1] : List Value).toArray below meth c s.heap locs 0 0 (MQ below (roQl r s.heap) ([.ref a7, .int p1] : List Value).toArray s 0 0 (fun _ => False)) (F0 m 102 ls []) := by
    intro x1 x2 x4 x6 x8 x10 hf locs ls hS hl
    unfold bX7_skew_102 at hf
    refine lv_lload_n hx hb dX7_skew_102 rfl (lv_at hl 1 rfl) ?_
    refine lv_ldc2 hx hb hown (hts (.constantLong RX7 205 (2)) (List.mem_of_getElem? (i := 3) rfl)) dX7_skew_103 ?_
    refine W.lcmp hx hb dX7_skew_106 ?_
    refine lv_if_ge (tgt := 114) hx hb dX7_skew_107 (by decide) (fun hc => ?_) (fun hc => ?_)
    · have hf := it_p hc hf
      refine lv_lload_n hx hb dX7_skew_114 rfl (lv_at hl 1 rfl) ?_
      refine lv_lload hx hb dX7_skew_115 (lv_at hl 4 rfl) ?_
      refine lv_lmul hx hb dX7_skew_117 ?_
      refine lv_lload hx hb dX7_skew_118 (lv_at hl 2 rfl) ?_
      refine lv_lload hx hb dX7_skew_120 (lv_at hl 3 rfl) ?_
      refine lv_lmul hx hb dX7_skew_122 ?_
      refine lv_lsub hx hb dX7_skew_123 ?_
      refine lv_lload_n hx hb dX7_skew_124 rfl (lv_at hl 1 rfl) ?_
      refine lv_lload hx hb dX7_skew_125 (lv_at hl 5 rfl) ?_
      refine lv_lmul hx hb dX7_skew_127 ?_
      refine lv_lload hx hb dX7_skew_128 (lv_at hl 2 rfl) ?_
      refine lv_lload hx hb dX7_skew_130 (lv_at hl 2 rfl) ?_
      refine lv_lmul hx hb dX7_skew_132 ?_
      refine lv_lsub hx hb dX7_skew_133 ?_
      refine lv_iload_n hx hb dX7_skew_134 rfl (lv_at hl 0 rfl) ?_
      obtain ⟨r3, hr3, hf⟩ := cl1_sp hf
      refine ro_Sl (As := [.long ((x2 * x8) - (x4 * x6)), .long ((x2 * x10) - (x4 * x4)), .int x1]) ⟨hx, hb, hml, hown, hts⟩ (kX7_inLeastTerms l _ ((x2 * x8) - (x4 * x6)) ((x2 * x10) - (x4 * x4)) x1 r3 hr3) (va_cwS 3 hts gX7_skew_X7_inLeastTerms rfl rfl rfl (by decide +kernel) ⟨Nat.le_of_ble_eq_true rfl, Nat.le_of_ble_eq_true rfl⟩) hS rfl hl.1 rfl (Nat.le_of_ble_eq_true rfl) dX7_skew_135 (Nat.zero_le _) (Nat.zero_le _) (fun locs hS => ?_)
      exact W.lret (v := r3) hx hb hr (fun t ht hW => ⟨⟨_, (), rfl, Option.some.inj hf, ht⟩, hS.F ht⟩) hS.2.2 dX7_skew_138
    · have hf := it_n hc hf
      refine lv_ldc2 hx hb hown (hts (.constantLong RX7 203 (-9223372036854775808)) (List.mem_of_getElem? (i := 1) rfl)) dX7_skew_110 ?_
      exact W.lret (v := (-9223372036854775808 : Int64)) hx hb hr (fun t ht hW => ⟨⟨_, (), rfl, Option.some.inj hf, ht⟩, hS.F ht⟩) hS.2.2 dX7_skew_113
  have hb_30 : ∀ (n : Nat) (x1 : Int32) (x2 : Int64) (x4 : Int64) (x6 : Int64) (x8 : Int64) (x10 : Int64) (x12 : Int32), bX7_skew_30 v7_threshold v7_taken f7_pixels n x1 x2 x4 x6 x8 x10 x12 = some r → ∀ (locs : List Loc) (ls : Array Slot), va_S (fun _ => False) s.heap s.heap locs → lv_has ls 14 [(0, .ref a7), (1, .int x1), (2, .long x2), (4, .long x4), (6, .long x6), (8, .long x8), (10, .long x10), (12, .int x12)] → W p l e (headSpec wsX7_skew ({ frames := 4, cells := 0, slots := 0, locals := 90 })).room s m ([.ref a7, .int p1] : List Value).toArray below meth c s.heap locs 0 0 (MQ below (roQl r s.heap) ([.ref a7, .int p1] : List Value).toArray s 0 0 (fun _ => False)) (F0 m 30 ls []) := by
    intro n
    induction n with
    | zero => intro x1 x2 x4 x6 x8 x10 x12 hf; rw [bX7_skew_30] at hf; cases hf
    | succ n30 ih30 =>
      intro x1 x2 x4 x6 x8 x10 x12 hf locs ls hS hl
      rw [bX7_skew_30] at hf
      refine lv_iload hx hb dX7_skew_30 (lv_at hl 7 rfl) ?_
      refine lv_aload_n hx hb dX7_skew_32 rfl (lv_at hl 0 rfl) ?_
      refine va_get (D := (dC, dI)) (ci := 6) (v := .int v7_taken) (C := RX7) (T := TX7) (N := 30) hx hb hts hiX7 hown hK hP 0 rfl rfl 21 (by decide) (hts (.fieldLink RX7 154 "PageLinesModel" "taken" "I") (List.mem_of_getElem? (i := 2) rfl)) (fun _ h9 => h9) rfl dX7_skew_33 ?_
      refine lv_icmp_ge (tgt := 102) hx hb dX7_skew_36 (by decide) (fun hc => ?_) (fun hc => ?_)
      · have hf := it_p hc hf
        exact hb_102 x1 x2 x4 x6 x8 x10 hf _ _ hS (lv_sub hl [1, 2, 3, 4, 5, 6] rfl)
      · have hf := it_n hc hf
        refine lv_aload_n hx hb dX7_skew_39 rfl (lv_at hl 0 rfl) ?_
        refine lv_iload hx hb dX7_skew_40 (lv_at hl 7 rfl) ?_
        obtain ⟨r5, hr5, hf⟩ := cl1_sp hf
        refine ro_V (As := [.int x12]) ⟨hx, hb, hml, hown, hts⟩ (kX7_edgeOf l dC dI cy _ a7 a7_offset a7_gain a7_dark a7_bright a7_fromRow a7_toRow a7_left a7_right a7_slant a7_tintOf a7_speckOf a7_leadOf a7_stepKind a7_stepBy a7_pixels f7_offset f7_gain f7_dark f7_bright v7_ground v7_patches f7_fromRow f7_toRow f7_left f7_right f7_slant f7_tintOf f7_speckOf f7_leadOf v7_steps f7_stepKind f7_stepBy v7_threshold v7_isOn v7_lines v7_done v7_taken v7_lastPosition v7_position v7_mode v7_next v7_outs v7_stops v7_ticks f7_pixels x12 r5 hr5) (cwV 1 hts gX7_skew_X7_edgeOf rfl rfl rfl (by decide +kernel) ⟨Nat.le_of_ble_eq_true rfl, Nat.le_of_ble_eq_true rfl⟩) (va_recv hK hP (ci := 6) (q0 := 0) rfl rfl) (hP.sub [0, 1, 2, 3, 4, 5, 6, 7, 8, 9, 10, 11, 12, 13, 14, 15] rfl) hK hS rfl hl.1 rfl (Nat.le_of_ble_eq_true rfl) dX7_skew_42 (Nat.zero_le _) (Nat.zero_le _) (fun locs hS => ?_)
        refine lv_istore (lv' := [(13, .int r5), (0, .ref a7), (1, .int x1), (2, .long x2), (4, .long x4), (6, .long x6), (8, .long x8), (10, .long x10), (12, .int x12)]) hx hb dX7_skew_45 hl (by decide) rfl (fun ls hl => ?_)
        refine lv_iload hx hb dX7_skew_47 (lv_at hl 0 rfl) ?_
        refine lv_bipush (v := (-9 : Int32)) hx hb dX7_skew_49 (by decide) ?_
        refine lv_icmp_eq (tgt := 96) hx hb dX7_skew_51 (by decide) (fun hc => ?_) (fun hc => ?_)
        · have hf := it_p hc hf
          refine lv_iinc (v := x12 + (1 : Int32)) (lv' := [(12, .int (x12 + (1 : Int32))), (13, .int r5), (0, .ref a7), (1, .int x1), (2, .long x2), (4, .long x4), (6, .long x6), (8, .long x8), (10, .long x10)]) hx hb dX7_skew_96 hl (k := 8) rfl rfl (by decide) rfl (fun ls hl => ?_)
          refine lv_goto (tgt := 30) hx hb dX7_skew_99 (by decide) ?_
          exact ih30 x1 x2 x4 x6 x8 x10 (x12 + (1 : Int32)) hf _ _ hS (lv_sub hl [2, 3, 4, 5, 6, 7, 8, 0] rfl)
        · have hf := it_n hc hf
          refine lv_lload_n hx hb dX7_skew_54 rfl (lv_at hl 3 rfl) ?_
          refine lv_lconst (v := (1 : Int64)) hx hb dX7_skew_55 (by decide) ?_
          refine lv_ladd hx hb dX7_skew_56 ?_
          refine lv_lstore_n (lv' := [(2, .long (x2 + (1 : Int64))), (13, .int r5), (0, .ref a7), (1, .int x1), (4, .long x4), (6, .long x6), (8, .long x8), (10, .long x10), (12, .int x12)]) hx hb dX7_skew_57 rfl hl (by decide) rfl (fun ls hl => ?_)
          refine lv_lload hx hb dX7_skew_58 (lv_at hl 4 rfl) ?_
          refine lv_iload hx hb dX7_skew_60 (lv_at hl 8 rfl) ?_
          refine lv_i2l hx hb dX7_skew_62 rfl ?_
          refine lv_ladd hx hb dX7_skew_63 ?_
          refine lv_lstore (lv' := [(4, .long (x4 + (x12.toInt64))), (2, .long (x2 + (1 : Int64))), (13, .int r5), (0, .ref a7), (1, .int x1), (6, .long x6), (8, .long x8), (10, .long x10), (12, .int x12)]) hx hb dX7_skew_64 hl (by decide) rfl (fun ls hl => ?_)
          refine lv_lload hx hb dX7_skew_66 (lv_at hl 5 rfl) ?_
          refine lv_iload hx hb dX7_skew_68 (lv_at hl 2 rfl) ?_
          refine lv_i2l hx hb dX7_skew_70 rfl ?_
          refine lv_ladd hx hb dX7_skew_71 ?_
          refine lv_lstore (lv' := [(6, .long (x6 + (r5.toInt64))), (4, .long (x4 + (x12.toInt64))), (2, .long (x2 + (1 : Int64))), (13, .int r5), (0, .ref a7), (1, .int x1), (8, .long x8), (10, .long x10), (12, .int x12)]) hx hb dX7_skew_72 hl (by decide) rfl (fun ls hl => ?_)
          refine lv_lload hx hb dX7_skew_74 (lv_at hl 6 rfl) ?_
          refine lv_iload hx hb dX7_skew_76 (lv_at hl 8 rfl) ?_
          refine lv_iload hx hb dX7_skew_78 (lv_at hl 3 rfl) ?_
          refine lv_imul hx hb dX7_skew_80 ?_
          refine lv_i2l hx hb dX7_skew_81 rfl ?_
          refine lv_ladd hx hb dX7_skew_82 ?_
          refine lv_lstore (lv' := [(8, .long (x8 + ((x12 * r5).toInt64))), (6, .long (x6 + (r5.toInt64))), (4, .long (x4 + (x12.toInt64))), (2, .long (x2 + (1 : Int64))), (13, .int r5), (0, .ref a7), (1, .int x1), (10, .long x10), (12, .int x12)]) hx hb dX7_skew_83 hl (by decide) rfl (fun ls hl => ?_)
          refine lv_lload hx hb dX7_skew_85 (lv_at hl 7 rfl) ?_
          refine lv_iload hx hb dX7_skew_87 (lv_at hl 8 rfl) ?_
          refine lv_iload hx hb dX7_skew_89 (lv_at hl 8 rfl) ?_
          refine lv_imul hx hb dX7_skew_91 ?_
          refine lv_i2l hx hb dX7_skew_92 rfl ?_
          refine lv_ladd hx hb dX7_skew_93 ?_
          refine lv_lstore (lv' := [(10, .long (x10 + ((x12 * x12).toInt64))), (8, .long (x8 + ((x12 * r5).toInt64))), (6, .long (x6 + (r5.toInt64))), (4, .long (x4 + (x12.toInt64))), (2, .long (x2 + (1 : Int64))), (13, .int r5), (0, .ref a7), (1, .int x1), (12, .int x12)]) hx hb dX7_skew_94 hl (by decide) rfl (fun ls hl => ?_)
          refine lv_iinc (v := x12 + (1 : Int32)) (lv' := [(12, .int (x12 + (1 : Int32))), (10, .long (x10 + ((x12 * x12).toInt64))), (8, .long (x8 + ((x12 * r5).toInt64))), (6, .long (x6 + (r5.toInt64))), (4, .long (x4 + (x12.toInt64))), (2, .long (x2 + (1 : Int64))), (13, .int r5), (0, .ref a7), (1, .int x1)]) hx hb dX7_skew_96 hl (k := 8) rfl rfl (by decide) rfl (fun ls hl => ?_)
          refine lv_goto (tgt := 30) hx hb dX7_skew_99 (by decide) ?_
          exact ih30 x1 (x2 + (1 : Int64)) (x4 + (x12.toInt64)) (x6 + (r5.toInt64)) (x8 + ((x12 * r5).toInt64)) (x10 + ((x12 * x12).toInt64)) (x12 + (1 : Int32)) hf _ _ hS (lv_sub hl [7, 8, 5, 4, 3, 2, 1, 0] rfl)
  have hl := lv_entry ([.ref a7, .int p1]) (n := 14) (Nat.le_of_ble_eq_true rfl)
  rw [lg_entry_eq]
  generalize (lg_sl ([.ref a7, .int p1]) ++ List.replicate (14 - (lg_sl ([.ref a7, .int p1])).length) Slot.unset).toArray = ls at hl ⊢
  have hl : lv_has ls 14 [(0, .ref a7), (1, .int p1)] := hl
  unfold fX7_skew at hf
  refine lv_iload_n hx hb dX7_skew_0 rfl (lv_at hl 1 rfl) ?_
  refine lv_iconst (v := (0 : Int32)) hx hb dX7_skew_1 (by decide) ?_
  refine lv_iconst (v := (1 : Int32)) hx hb dX7_skew_2 (by decide) ?_
  obtain ⟨r1, hr1, hf⟩ := cl1_sp hf
  refine ro_S (As := [.int p1, .int (0 : Int32), .int (1 : Int32)]) ⟨hx, hb, hml, hown, hts⟩ (kX7_within l _ p1 (0 : Int32) (1 : Int32) r1 hr1) (va_cwS 3 hts gX7_skew_X7_within rfl rfl rfl (by decide +kernel) ⟨Nat.le_of_ble_eq_true rfl, Nat.le_of_ble_eq_true rfl⟩) hS rfl hl.1 rfl (Nat.le_of_ble_eq_true rfl) dX7_skew_3 (Nat.zero_le _) (Nat.zero_le _) (fun locs hS => ?_)
  refine lv_if_ne (tgt := 13) hx hb dX7_skew_6 (by decide) (fun hc => ?_) (fun hc => ?_)
  · have hf := it_n hc hf
    refine lv_lconst (v := (0 : Int64)) hx hb dX7_skew_13 (by decide) ?_
    refine lv_lstore_n (lv' := [(2, .long (0 : Int64)), (0, .ref a7), (1, .int p1)]) hx hb dX7_skew_14 rfl hl (by decide) rfl (fun ls hl => ?_)
    refine lv_lconst (v := (0 : Int64)) hx hb dX7_skew_15 (by decide) ?_
    refine lv_lstore (lv' := [(4, .long (0 : Int64)), (2, .long (0 : Int64)), (0, .ref a7), (1, .int p1)]) hx hb dX7_skew_16 hl (by decide) rfl (fun ls hl => ?_)
    refine lv_lconst (v := (0 : Int64)) hx hb dX7_skew_18 (by decide) ?_
    refine lv_lstore (lv' := [(6, .long (0 : Int64)), (4, .long (0 : Int64)), (2, .long (0 : Int64)), (0, .ref a7), (1, .int p1)]) hx hb dX7_skew_19 hl (by decide) rfl (fun ls hl => ?_)
    refine lv_lconst (v := (0 : Int64)) hx hb dX7_skew_21 (by decide) ?_
    refine lv_lstore (lv' := [(8, .long (0 : Int64)), (6, .long (0 : Int64)), (4, .long (0 : Int64)), (2, .long (0 : Int64)), (0, .ref a7), (1, .int p1)]) hx hb dX7_skew_22 hl (by decide) rfl (fun ls hl => ?_)
    refine lv_lconst (v := (0 : Int64)) hx hb dX7_skew_24 (by decide) ?_
    refine lv_lstore (lv' := [(10, .long (0 : Int64)), (8, .long (0 : Int64)), (6, .long (0 : Int64)), (4, .long (0 : Int64)), (2, .long (0 : Int64)), (0, .ref a7), (1, .int p1)]) hx hb dX7_skew_25 hl (by decide) rfl (fun ls hl => ?_)
    refine lv_iconst (v := (0 : Int32)) hx hb dX7_skew_27 (by decide) ?_
    refine lv_istore (lv' := [(12, .int (0 : Int32)), (10, .long (0 : Int64)), (8, .long (0 : Int64)), (6, .long (0 : Int64)), (4, .long (0 : Int64)), (2, .long (0 : Int64)), (0, .ref a7), (1, .int p1)]) hx hb dX7_skew_28 hl (by decide) rfl (fun ls hl => ?_)
    exact hb_30 300 p1 (0 : Int64) (0 : Int64) (0 : Int64) (0 : Int64) (0 : Int64) (0 : Int32) hf _ _ hS (lv_sub hl [6, 7, 5, 4, 3, 2, 1, 0] rfl)
  · have hf := it_p hc hf
    refine lv_ldc2 hx hb hown (hts (.constantLong RX7 203 (-9223372036854775808)) (List.mem_of_getElem? (i := 1) rfl)) dX7_skew_9 ?_
    exact W.lret (v := (-9223372036854775808 : Int64)) hx hb hr (fun t ht hW => ⟨⟨_, (), rfl, Option.some.inj hf, ht⟩, hS.F ht⟩) hS.2.2 dX7_skew_12
set_option maxHeartbeats 4000000 in
set_option maxRecDepth 100000 in
theorem kX7_sticks (l : Launch) (dC : Nat → ClassId) (dI : Nat → Nat → Nat) (cy : ClassId) (H : Heap) (a7 a7_offset a7_gain a7_dark a7_bright a7_fromRow a7_toRow a7_left a7_right a7_slant a7_tintOf a7_speckOf a7_leadOf a7_stepKind a7_stepBy a7_pixels : Nat) (f7_offset : Nat → Int32) (f7_gain : Nat → Int32) (f7_dark : Nat → Int32) (f7_bright : Nat → Int32) (v7_ground : Int32) (v7_patches : Int32) (f7_fromRow : Nat → Int32) (f7_toRow : Nat → Int32) (f7_left : Nat → Int32) (f7_right : Nat → Int32) (f7_slant : Nat → Int32) (f7_tintOf : Nat → Int32) (f7_speckOf : Nat → Int32) (f7_leadOf : Nat → Int32) (v7_steps : Int32) (f7_stepKind : Nat → Int32) (f7_stepBy : Nat → Int32) (v7_threshold : Int32) (v7_isOn : Int32) (v7_lines : Int32) (v7_done : Int32) (v7_taken : Int32) (v7_lastPosition : Int32) (v7_position : Int32) (v7_mode : Int32) (v7_next : Int32) (v7_outs : Int32) (v7_stops : Int32) (v7_ticks : Int32) (f7_pixels : Nat → Int32) (p1 : Int32) (p2 : Int32) (r : Int32) (hf : fX7_sticks f7_pixels p1 p2 = some r) : Met l yX7_sticks wsX7_sticks ({ frames := 2, cells := 0, slots := 0, locals := 44 }) (roP [.ref a7, .int p1, .int p2] (dC, dI) vwCl (WX7 cy a7 a7_offset a7_gain a7_dark a7_bright a7_fromRow a7_toRow a7_left a7_right a7_slant a7_tintOf a7_speckOf a7_leadOf a7_stepKind a7_stepBy a7_pixels f7_offset f7_gain f7_dark f7_bright v7_ground v7_patches f7_fromRow f7_toRow f7_left f7_right f7_slant f7_tintOf f7_speckOf f7_leadOf v7_steps f7_stepKind f7_stepBy v7_threshold v7_isOn v7_lines v7_done v7_taken v7_lastPosition v7_position v7_mode v7_next v7_outs v7_stops v7_ticks f7_pixels) [(cy, .int)] H) (roQi r H) 0 0 (fun _ => False) := by
  refine Met.ofW (cc := cX7_sticks) (maxL := 5) (ret := (some .int)) (by decide) rfl ?_
  intro p e s m args below meth c s₁ B hml hv
  obtain ⟨rfl, hH, hP, hK⟩ := hv
  have hx := B.exec
  have hb := B.bytes
  have hr := B.returns
  have hts := atoms_spec (ws := wsX7_sticks) B.pre
  have hown : s.vm.findClass RX7 = some m.cls := findClass_of_methodNamed B.named
  have hlocks := B.notSynchronized
  have hiX7 : ∀ w ∈ u_ws RX7 TX7 30, w ∈ wsX7_sticks := fun _ h => List.mem_cons_of_mem _ ((List.mem_append_right _ h))
  subst hH
  have hS : va_S (fun _ => False) s.heap s.heap [] := va_S.rf
  have hl := lv_entry ([.ref a7, .int p1, .int p2]) (n := 5) (Nat.le_of_ble_eq_true rfl)
  rw [lg_entry_eq]
  generalize (lg_sl ([.ref a7, .int p1, .int p2]) ++ List.replicate (5 - (lg_sl ([.ref a7, .int p1, .int p2])).length) Slot.unset).toArray = ls at hl ⊢
  have hl : lv_has ls 5 [(0, .ref a7), (1, .int p1), (2, .int p2)] := hl
  unfold fX7_sticks at hf
  refine lv_aload_n hx hb dX7_sticks_0 rfl (lv_at hl 0 rfl) ?_
  refine lv_iload_n hx hb dX7_sticks_1 rfl (lv_at hl 1 rfl) ?_
  refine lv_iload_n hx hb dX7_sticks_2 rfl (lv_at hl 2 rfl) ?_
  obtain ⟨r1, hr1, hf⟩ := cl1_sp hf
  refine ro_V (As := [.int p1, .int p2]) ⟨hx, hb, hml, hown, hts⟩ (kX7_greyOf l dC dI cy _ a7 a7_offset a7_gain a7_dark a7_bright a7_fromRow a7_toRow a7_left a7_right a7_slant a7_tintOf a7_speckOf a7_leadOf a7_stepKind a7_stepBy a7_pixels f7_offset f7_gain f7_dark f7_bright v7_ground v7_patches f7_fromRow f7_toRow f7_left f7_right f7_slant f7_tintOf f7_speckOf f7_leadOf v7_steps f7_stepKind f7_stepBy v7_threshold v7_isOn v7_lines v7_done v7_taken v7_lastPosition v7_position v7_mode v7_next v7_outs v7_stops v7_ticks f7_pixels p1 p2 r1 hr1) (cwV 2 hts gX7_sticks_X7_greyOf rfl rfl rfl (by decide +kernel) ⟨Nat.le_of_ble_eq_true rfl, Nat.le_of_ble_eq_true rfl⟩) (va_recv hK hP (ci := 6) (q0 := 0) rfl rfl) (hP.sub [0, 1, 2, 3, 4, 5, 6, 7, 8, 9, 10, 11, 12, 13, 14, 15] rfl) hK hS rfl hl.1 rfl (Nat.le_of_ble_eq_true rfl) dX7_sticks_3 (Nat.zero_le _) (Nat.zero_le _) (fun locs hS => ?_)
  refine lv_aload_n hx hb dX7_sticks_6 rfl (lv_at hl 0 rfl) ?_
  refine lv_iload_n hx hb dX7_sticks_7 rfl (lv_at hl 1 rfl) ?_
  refine lv_iload_n hx hb dX7_sticks_8 rfl (lv_at hl 2 rfl) ?_
  refine lv_iconst (v := (1 : Int32)) hx hb dX7_sticks_9 (by decide) ?_
  refine lv_isub hx hb dX7_sticks_10 ?_
  obtain ⟨r2, hr2, hf⟩ := cl1_sp hf
  refine ro_V (As := [.int p1, .int (p2 - (1 : Int32))]) ⟨hx, hb, hml, hown, hts⟩ (kX7_greyOf l dC dI cy _ a7 a7_offset a7_gain a7_dark a7_bright a7_fromRow a7_toRow a7_left a7_right a7_slant a7_tintOf a7_speckOf a7_leadOf a7_stepKind a7_stepBy a7_pixels f7_offset f7_gain f7_dark f7_bright v7_ground v7_patches f7_fromRow f7_toRow f7_left f7_right f7_slant f7_tintOf f7_speckOf f7_leadOf v7_steps f7_stepKind f7_stepBy v7_threshold v7_isOn v7_lines v7_done v7_taken v7_lastPosition v7_position v7_mode v7_next v7_outs v7_stops v7_ticks f7_pixels p1 (p2 - (1 : Int32)) r2 hr2) (cwV 2 hts gX7_sticks_X7_greyOf rfl rfl rfl (by decide +kernel) ⟨Nat.le_of_ble_eq_true rfl, Nat.le_of_ble_eq_true rfl⟩) (va_recv hK hP (ci := 6) (q0 := 0) rfl rfl) (hP.sub [0, 1, 2, 3, 4, 5, 6, 7, 8, 9, 10, 11, 12, 13, 14, 15] rfl) hK hS rfl hl.1 rfl (Nat.le_of_ble_eq_true rfl) dX7_sticks_11 (Nat.zero_le _) (Nat.zero_le _) (fun locs hS => ?_)
  refine lv_isub hx hb dX7_sticks_14 ?_
  refine lv_istore_n (lv' := [(3, .int (r1 - r2)), (0, .ref a7), (1, .int p1), (2, .int p2)]) hx hb dX7_sticks_15 rfl hl (by decide) rfl (fun ls hl => ?_)
  refine lv_aload_n hx hb dX7_sticks_16 rfl (lv_at hl 1 rfl) ?_
  refine lv_iload_n hx hb dX7_sticks_17 rfl (lv_at hl 2 rfl) ?_
  refine lv_iload_n hx hb dX7_sticks_18 rfl (lv_at hl 3 rfl) ?_
  obtain ⟨r3, hr3, hf⟩ := cl1_sp hf
  refine ro_V (As := [.int p1, .int p2]) ⟨hx, hb, hml, hown, hts⟩ (kX7_greyOf l dC dI cy _ a7 a7_offset a7_gain a7_dark a7_bright a7_fromRow a7_toRow a7_left a7_right a7_slant a7_tintOf a7_speckOf a7_leadOf a7_stepKind a7_stepBy a7_pixels f7_offset f7_gain f7_dark f7_bright v7_ground v7_patches f7_fromRow f7_toRow f7_left f7_right f7_slant f7_tintOf f7_speckOf f7_leadOf v7_steps f7_stepKind f7_stepBy v7_threshold v7_isOn v7_lines v7_done v7_taken v7_lastPosition v7_position v7_mode v7_next v7_outs v7_stops v7_ticks f7_pixels p1 p2 r3 hr3) (cwV 2 hts gX7_sticks_X7_greyOf rfl rfl rfl (by decide +kernel) ⟨Nat.le_of_ble_eq_true rfl, Nat.le_of_ble_eq_true rfl⟩) (va_recv hK hP (ci := 6) (q0 := 0) rfl rfl) (hP.sub [0, 1, 2, 3, 4, 5, 6, 7, 8, 9, 10, 11, 12, 13, 14, 15] rfl) hK hS rfl hl.1 rfl (Nat.le_of_ble_eq_true rfl) dX7_sticks_19 (Nat.zero_le _) (Nat.zero_le _) (fun locs hS => ?_)
  refine lv_aload_n hx hb dX7_sticks_22 rfl (lv_at hl 1 rfl) ?_
  refine lv_iload_n hx hb dX7_sticks_23 rfl (lv_at hl 2 rfl) ?_
  refine lv_iload_n hx hb dX7_sticks_24 rfl (lv_at hl 3 rfl) ?_
  refine lv_iconst (v := (1 : Int32)) hx hb dX7_sticks_25 (by decide) ?_
  refine lv_iadd hx hb dX7_sticks_26 ?_
  obtain ⟨r4, hr4, hf⟩ := cl1_sp hf
  refine ro_V (As := [.int p1, .int (p2 + (1 : Int32))]) ⟨hx, hb, hml, hown, hts⟩ (kX7_greyOf l dC dI cy _ a7 a7_offset a7_gain a7_dark a7_bright a7_fromRow a7_toRow a7_left a7_right a7_slant a7_tintOf a7_speckOf a7_leadOf a7_stepKind a7_stepBy a7_pixels f7_offset f7_gain f7_dark f7_bright v7_ground v7_patches f7_fromRow f7_toRow f7_left f7_right f7_slant f7_tintOf f7_speckOf f7_leadOf v7_steps f7_stepKind f7_stepBy v7_threshold v7_isOn v7_lines v7_done v7_taken v7_lastPosition v7_position v7_mode v7_next v7_outs v7_stops v7_ticks f7_pixels p1 (p2 + (1 : Int32)) r4 hr4) (cwV 2 hts gX7_sticks_X7_greyOf rfl rfl rfl (by decide +kernel) ⟨Nat.le_of_ble_eq_true rfl, Nat.le_of_ble_eq_true rfl⟩) (va_recv hK hP (ci := 6) (q0 := 0) rfl rfl) (hP.sub [0, 1, 2, 3, 4, 5, 6, 7, 8, 9, 10, 11, 12, 13, 14, 15] rfl) hK hS rfl hl.1 rfl (Nat.le_of_ble_eq_true rfl) dX7_sticks_27 (Nat.zero_le _) (Nat.zero_le _) (fun locs hS => ?_)
  refine lv_isub hx hb dX7_sticks_30 ?_
  refine lv_istore (lv' := [(4, .int (r3 - r4)), (3, .int (r1 - r2)), (0, .ref a7), (1, .int p1), (2, .int p2)]) hx hb dX7_sticks_31 hl (by decide) rfl (fun ls hl => ?_)
  refine lv_iload_n hx hb dX7_sticks_33 rfl (lv_at hl 1 rfl) ?_
  refine lv_bipush (v := (24 : Int32)) hx hb dX7_sticks_34 (by decide) ?_
  refine lv_icmp_lt (tgt := 50) hx hb dX7_sticks_36 (by decide) (fun hc => ?_) (fun hc => ?_)
  · have hf := it_p hc hf
    refine lv_iload_n hx hb dX7_sticks_50 rfl (lv_at hl 1 rfl) ?_
    refine lv_bipush (v := (-24 : Int32)) hx hb dX7_sticks_51 (by decide) ?_
    refine lv_icmp_gt (tgt := 67) hx hb dX7_sticks_53 (by decide) (fun hc => ?_) (fun hc => ?_)
    · have hf := it_p hc hf
      refine lv_iconst (v := (0 : Int32)) hx hb dX7_sticks_67 (by decide) ?_
      exact W.iret (v := (0 : Int32)) hx hb hr (fun t ht hW => ⟨⟨_, (), rfl, Option.some.inj hf, ht⟩, hS.F ht⟩) hS.2.2 dX7_sticks_68
    · have hf := it_n hc hf
      refine lv_iload hx hb dX7_sticks_56 (lv_at hl 0 rfl) ?_
      refine lv_bipush (v := (-24 : Int32)) hx hb dX7_sticks_58 (by decide) ?_
      refine lv_icmp_gt (tgt := 67) hx hb dX7_sticks_60 (by decide) (fun hc => ?_) (fun hc => ?_)
      · have hf := it_p hc hf
        refine lv_iconst (v := (0 : Int32)) hx hb dX7_sticks_67 (by decide) ?_
        exact W.iret (v := (0 : Int32)) hx hb hr (fun t ht hW => ⟨⟨_, (), rfl, Option.some.inj hf, ht⟩, hS.F ht⟩) hS.2.2 dX7_sticks_68
      · have hf := it_n hc hf
        refine lv_iconst (v := (-1 : Int32)) hx hb dX7_sticks_63 (by decide) ?_
        refine lv_goto (tgt := 68) hx hb dX7_sticks_64 (by decide) ?_
        exact W.iret (v := (-1 : Int32)) hx hb hr (fun t ht hW => ⟨⟨_, (), rfl, Option.some.inj hf, ht⟩, hS.F ht⟩) hS.2.2 dX7_sticks_68
  · have hf := it_n hc hf
    refine lv_iload hx hb dX7_sticks_39 (lv_at hl 0 rfl) ?_
    refine lv_bipush (v := (24 : Int32)) hx hb dX7_sticks_41 (by decide) ?_
    refine lv_icmp_lt (tgt := 50) hx hb dX7_sticks_43 (by decide) (fun hc => ?_) (fun hc => ?_)
    · have hf := it_p hc hf
      refine lv_iload_n hx hb dX7_sticks_50 rfl (lv_at hl 1 rfl) ?_
      refine lv_bipush (v := (-24 : Int32)) hx hb dX7_sticks_51 (by decide) ?_
      refine lv_icmp_gt (tgt := 67) hx hb dX7_sticks_53 (by decide) (fun hc => ?_) (fun hc => ?_)
      · have hf := it_p hc hf
        refine lv_iconst (v := (0 : Int32)) hx hb dX7_sticks_67 (by decide) ?_
        exact W.iret (v := (0 : Int32)) hx hb hr (fun t ht hW => ⟨⟨_, (), rfl, Option.some.inj hf, ht⟩, hS.F ht⟩) hS.2.2 dX7_sticks_68
      · have hf := it_n hc hf
        refine lv_iload hx hb dX7_sticks_56 (lv_at hl 0 rfl) ?_
        refine lv_bipush (v := (-24 : Int32)) hx hb dX7_sticks_58 (by decide) ?_
        refine lv_icmp_gt (tgt := 67) hx hb dX7_sticks_60 (by decide) (fun hc => ?_) (fun hc => ?_)
        · have hf := it_p hc hf
          refine lv_iconst (v := (0 : Int32)) hx hb dX7_sticks_67 (by decide) ?_
          exact W.iret (v := (0 : Int32)) hx hb hr (fun t ht hW => ⟨⟨_, (), rfl, Option.some.inj hf, ht⟩, hS.F ht⟩) hS.2.2 dX7_sticks_68
        · have hf := it_n hc hf
          refine lv_iconst (v := (-1 : Int32)) hx hb dX7_sticks_63 (by decide) ?_
          refine lv_goto (tgt := 68) hx hb dX7_sticks_64 (by decide) ?_
          exact W.iret (v := (-1 : Int32)) hx hb hr (fun t ht hW => ⟨⟨_, (), rfl, Option.some.inj hf, ht⟩, hS.F ht⟩) hS.2.2 dX7_sticks_68
    · have hf := it_n hc hf
      refine lv_iconst (v := (1 : Int32)) hx hb dX7_sticks_46 (by decide) ?_
      refine lv_goto (tgt := 68) hx hb dX7_sticks_47 (by decide) ?_
      exact W.iret (v := (1 : Int32)) hx hb hr (fun t ht hW => ⟨⟨_, (), rfl, Option.some.inj hf, ht⟩, hS.F ht⟩) hS.2.2 dX7_sticks_68

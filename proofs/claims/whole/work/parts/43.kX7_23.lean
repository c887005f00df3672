set_option maxHeartbeats 4000000 in
set_option maxRecDepth 100000 in
theorem kX7_patch (l : Launch) (dC : Nat → ClassId) (dI : Nat → Nat → Nat) (cy : ClassId) (sz : Nat) (a7 a7_offset a7_gain a7_dark a7_bright a7_fromRow a7_toRow a7_left a7_right a7_slant a7_tintOf a7_speckOf a7_leadOf a7_stepKind a7_stepBy a7_pixels : Nat) (f7_offset : Nat → Int32) (f7_gain : Nat → Int32) (f7_dark : Nat → Int32) (f7_bright : Nat → Int32) (v7_ground : Int32) (v7_patches : Int32) (f7_fromRow : Nat → Int32) (f7_toRow : Nat → Int32) (f7_left : Nat → Int32) (f7_right : Nat → Int32) (f7_slant : Nat → Int32) (f7_tintOf : Nat → Int32) (f7_speckOf : Nat → Int32) (f7_leadOf : Nat → Int32) (v7_steps : Int32) (f7_stepKind : Nat → Int32) (f7_stepBy : Nat → Int32) (v7_threshold : Int32) (v7_isOn : Int32) (v7_lines : Int32) (v7_done : Int32) (v7_taken : Int32) (v7_lastPosition : Int32) (v7_position : Int32) (v7_mode : Int32) (v7_next : Int32) (v7_outs : Int32) (v7_stops : Int32) (v7_ticks : Int32) (f7_pixels : Nat → Int32) (p1 : Int32) (p2 : Int32) (p3 : Int32) (p4 : Int32) (p5 : Int32) (r : Int32) (o_v7_patches : Int32) (o_f7_fromRow : Nat → Int32) (o_f7_toRow : Nat → Int32) (o_f7_left : Nat → Int32) (o_f7_right : Nat → Int32) (o_f7_slant : Nat → Int32) (o_f7_tintOf : Nat → Int32) (hf : fX7_patch v7_patches f7_fromRow f7_toRow f7_left f7_right f7_slant f7_tintOf v7_isOn p1 p2 p3 p4 p5 = some (r, o_v7_patches, o_f7_fromRow, o_f7_toRow, o_f7_left, o_f7_right, o_f7_slant, o_f7_tintOf)) : Met l yX7_patch wsX7_patch ({ frames := 1, cells := 0, slots := 0, locals := 22 }) (rwP [.ref a7, .int p1, .int p2, .int p3, .int p4, .int p5] (dC, dI) vwCl (WX7 cy a7 a7_offset a7_gain a7_dark a7_bright a7_fromRow a7_toRow a7_left a7_right a7_slant a7_tintOf a7_speckOf a7_leadOf a7_stepKind a7_stepBy a7_pixels f7_offset f7_gain f7_dark f7_bright v7_ground v7_patches f7_fromRow f7_toRow f7_left f7_right f7_slant f7_tintOf f7_speckOf f7_leadOf v7_steps f7_stepKind f7_stepBy v7_threshold v7_isOn v7_lines v7_done v7_taken v7_lastPosition v7_position v7_mode v7_next v7_outs v7_stops v7_ticks f7_pixels) [(cy, .int)] sz) (rwQi r (dC, dI) vwCl (WX7 cy a7 a7_offset a7_gain a7_dark a7_bright a7_fromRow a7_toRow a7_left a7_right a7_slant a7_tintOf a7_speckOf a7_leadOf a7_stepKind a7_stepBy a7_pixels f7_offset f7_gain f7_dark f7_bright v7_ground o_v7_patches o_f7_fromRow o_f7_toRow o_f7_left o_f7_right o_f7_slant o_f7_tintOf f7_speckOf f7_leadOf v7_steps f7_stepKind f7_stepBy v7_threshold v7_isOn v7_lines v7_done v7_taken v7_lastPosition v7_position v7_mode v7_next v7_outs v7_stops v7_ticks f7_pixels) (va_A (WX7 cy a7 a7_offset a7_gain a7_dark a7_bright a7_fromRow a7_toRow a7_left a7_right a7_slant a7_tintOf a7_speckOf a7_leadOf a7_stepKind a7_stepBy a7_pixels f7_offset f7_gain f7_dark f7_bright v7_ground v7_patches f7_fromRow f7_toRow f7_left f7_right f7_slant f7_tintOf f7_speckOf f7_leadOf v7_steps f7_stepKind f7_stepBy v7_threshold v7_isOn v7_lines v7_done v7_taken v7_lastPosition v7_position v7_mode v7_next v7_outs v7_stops v7_ticks f7_pixels) sz)) 0 0 (va_A (WX7 cy a7 a7_offset a7_gain a7_dark a7_bright a7_fromRow a7_toRow a7_left a7_right a7_slant a7_tintOf a7_speckOf a7_leadOf a7_stepKind a7_stepBy a7_pixels f7_offset f7_gain f7_dark f7_bright v7_ground v7_patches f7_fromRow f7_toRow f7_left f7_right f7_slant f7_tintOf f7_speckOf f7_leadOf v7_steps f7_stepKind f7_stepBy v7_threshold v7_isOn v7_lines v7_done v7_taken v7_lastPosition v7_position v7_mode v7_next v7_outs v7_stops v7_ticks f7_pixels) sz) := by
  refine Met.ofW (cc := cX7_patch) (maxL := 7) (ret := (some .int)) (by decide) rfl ?_
  intro p e s m args below meth c s₁ B hml hv
  obtain ⟨rfl, hsz, hP, hK, hD0⟩ := hv
  have hx := B.exec
  have hb := B.bytes
  have hr := B.returns
  have hts := atoms_spec (ws := wsX7_patch) B.pre
  have hown : s.vm.findClass RX7 = some m.cls := findClass_of_methodNamed B.named
  have hlocks := B.notSynchronized
  have hiX7 : ∀ w ∈ u_ws RX7 TX7 30, w ∈ wsX7_patch := fun _ h => List.mem_cons_of_mem _ ((List.mem_append_right _ h))
  subst hsz
  have hD := hD0.self (sz := s.heap.size)
  generalize hAe : va_A (WX7 cy a7 a7_offset a7_gain a7_dark a7_bright a7_fromRow a7_toRow a7_left a7_right a7_slant a7_tintOf a7_speckOf a7_leadOf a7_stepKind a7_stepBy a7_pixels f7_offset f7_gain f7_dark f7_bright v7_ground v7_patches f7_fromRow f7_toRow f7_left f7_right f7_slant f7_tintOf f7_speckOf f7_leadOf v7_steps f7_stepKind f7_stepBy v7_threshold v7_isOn v7_lines v7_done v7_taken v7_lastPosition v7_position v7_mode v7_next v7_outs v7_stops v7_ticks f7_pixels) s.heap.size = A0 at hD ⊢
  have hA : ∀ q : Nat, s.heap.size ≤ q → A0 q := fun q h => by rw [← hAe]; exact Or.inr h
  have hS : va_S A0 s.heap s.heap [] := va_S.rf
  have hb_151 : ∀  (v7_patches : Int32) (f7_fromRow : Nat → Int32) (f7_toRow : Nat → Int32) (f7_left : Nat → Int32) (f7_right : Nat → Int32) (f7_slant : Nat → Int32) (f7_tintOf : Nat → Int32), bX7_patch_151 v7_patches f7_fromRow f7_toRow f7_left f7_right f7_slant f7_tintOf = some (r, o_v7_patches, o_f7_fromRow, o_f7_toRow, o_f7_left, o_f7_right, o_f7_slant, o_f7_tintOf) → ∀ (H : Heap) (locs : List Loc) (ls : Array Slot), va_P (dC, dI) vwCl (WX7 cy a7 a7_offset a7_gain a7_dark a7_bright a7_fromRow a7_toRow a7_left a7_right a7_slant a7_tintOf a7_speckOf a7_leadOf a7_stepKind a7_stepBy a7_pixels f7_offset f7_gain f7_dark f7_bright v7_ground v7_patches f7_fromRow f7_toRow f7_left f7_right f7_slant f7_tintOf f7_speckOf f7_leadOf v7_steps f7_stepKind f7_stepBy v7_threshold v7_isOn v7_lines v7_done v7_taken v7_lastPosition v7_position v7_mode v7_next v7_outs v7_stops v7_ticks f7_pixels) H → va_D A0 (WX7 cy a7 a7_offset a7_gain a7_dark a7_bright a7_fromRow a7_toRow a7_left a7_right a7_slant a7_tintOf a7_speckOf a7_leadOf a7_stepKind a7_stepBy a7_pixels f7_offset f7_gain f7_dark f7_bright v7_ground v7_patches f7_fromRow f7_toRow f7_left f7_right f7_slant f7_tintOf f7_speckOf f7_leadOf v7_steps f7_stepKind f7_stepBy v7_threshold v7_isOn v7_lines v7_done v7_taken v7_lastPosition v7_position v7_mode v7_next v7_outs v7_stops v7_ticks f7_pixels) → va_S A0 s.heap H locs → lv_has ls 7 [(0, .ref a7)] → W p l e (headSpec wsX7_patch ({ frames := 1, cells := 0, slots := 0, locals := 22 })).room s m ([.ref a7, .int p1, .int p2, .int p3, .int p4, .int p5] : List Value).toArray below meth c H locs 0 0 (MQ below (rwQi r (dC, dI) vwCl (WX7 cy a7 a7_offset a7_gain a7_dark a7_bright a7_fromRow a7_toRow a7_left a7_right a7_slant a7_tintOf a7_speckOf a7_leadOf a7_stepKind a7_stepBy a7_pixels f7_offset f7_gain f7_dark f7_bright v7_ground o_v7_patches o_f7_fromRow o_f7_toRow o_f7_left o_f7_right o_f7_slant o_f7_tintOf f7_speckOf f7_leadOf v7_steps f7_stepKind f7_stepBy v7_threshold v7_isOn v7_lines v7_done v7_taken v7_lastPosition v7_position v7_mode v7_next v7_outs v7_stops v7_ticks f7_pixels) A0) ([.ref a7, .int p1, .int p2, .int p3, .int p4, .int p5] : List Value).toArray s 0 0 A0) (F0 m 151 ls []) := by
    intro v7_patches f7_fromRow f7_toRow f7_left f7_right f7_slant f7_tintOf hf H locs ls hP hD hS hl
    unfold bX7_patch_151 at hf
    refine lv_aload_n hx hb dX7_patch_151 rfl (lv_at hl 0 rfl) ?_
    refine lv_dup hx hb dX7_patch_152 rfl ?_
    refine va_get (D := (dC, dI)) (ci := 6) (v := .int v7_patches) (C := RX7) (T := TX7) (N := 30) hx hb hts hiX7 hown hK hP 0 rfl rfl 5 (by decide) (hts (.fieldLink RX7 107 "PageLinesModel" "patches" "I") (List.mem_of_getElem? (i := 2) rfl)) (fun _ h9 => h9) rfl dX7_patch_153 ?_
    refine lv_iconst (v := (1 : Int32)) hx hb dX7_patch_156 (by decide) ?_
    refine lv_iadd hx hb dX7_patch_157 ?_
    refine va_put (D := (dC, dI)) (ci := 6) (v := .int (v7_patches + (1 : Int32))) (ty := .int) (C := RX7) (T := TX7) (N := 30) hx hb hts hiX7 tyX7 tyX7_ok nmX7 hown hK hP hD hS 0 rfl rfl 5 (by decide) (hts (.fieldLink RX7 107 "PageLinesModel" "patches" "I") (List.mem_of_getElem? (i := 2) rfl)) (fun _ h9 => h9) rfl (by decide +kernel) rfl rfl (Nat.le_of_ble_eq_true rfl) dX7_patch_158 (fun H locs hP hD hS => ?_)
    have hP : va_P (dC, dI) vwCl (WX7 cy a7 a7_offset a7_gain a7_dark a7_bright a7_fromRow a7_toRow a7_left a7_right a7_slant a7_tintOf a7_speckOf a7_leadOf a7_stepKind a7_stepBy a7_pixels f7_offset f7_gain f7_dark f7_bright v7_ground (v7_patches + (1 : Int32)) f7_fromRow f7_toRow f7_left f7_right f7_slant f7_tintOf f7_speckOf f7_leadOf v7_steps f7_stepKind f7_stepBy v7_threshold v7_isOn v7_lines v7_done v7_taken v7_lastPosition v7_position v7_mode v7_next v7_outs v7_stops v7_ticks f7_pixels) H := hP
    have hD : va_D A0 (WX7 cy a7 a7_offset a7_gain a7_dark a7_bright a7_fromRow a7_toRow a7_left a7_right a7_slant a7_tintOf a7_speckOf a7_leadOf a7_stepKind a7_stepBy a7_pixels f7_offset f7_gain f7_dark f7_bright v7_ground (v7_patches + (1 : Int32)) f7_fromRow f7_toRow f7_left f7_right f7_slant f7_tintOf f7_speckOf f7_leadOf v7_steps f7_stepKind f7_stepBy v7_threshold v7_isOn v7_lines v7_done v7_taken v7_lastPosition v7_position v7_mode v7_next v7_outs v7_stops v7_ticks f7_pixels) := hD
    refine lv_aload_n hx hb dX7_patch_161 rfl (lv_at hl 0 rfl) ?_
    refine va_get (D := (dC, dI)) (ci := 6) (v := .int (v7_patches + (1 : Int32))) (C := RX7) (T := TX7) (N := 30) hx hb hts hiX7 hown hK hP 0 rfl rfl 5 (by decide) (hts (.fieldLink RX7 107 "PageLinesModel" "patches" "I") (List.mem_of_getElem? (i := 2) rfl)) (fun _ h9 => h9) rfl dX7_patch_162 ?_
    refine lv_iconst (v := (1 : Int32)) hx hb dX7_patch_165 (by decide) ?_
    refine lv_isub hx hb dX7_patch_166 ?_
    cases hf
    exact W.iret hx hb hr (fun t ht hW => ⟨⟨_, (), rfl, rfl, by rw [ht]; exact hP, hD⟩, hS.F ht⟩) hS.2.2 dX7_patch_167
  have hb_124 : ∀ (n : Nat) (v7_patches : Int32) (f7_fromRow : Nat → Int32) (f7_toRow : Nat → Int32) (f7_left : Nat → Int32) (f7_right : Nat → Int32) (f7_slant : Nat → Int32) (f7_tintOf : Nat → Int32) (x6 : Int32), bX7_patch_124 n v7_patches f7_fromRow f7_toRow f7_left f7_right f7_slant f7_tintOf x6 = some (r, o_v7_patches, o_f7_fromRow, o_f7_toRow, o_f7_left, o_f7_right, o_f7_slant, o_f7_tintOf) → ∀ (H : Heap) (locs : List Loc) (ls : Array Slot), va_P (dC, dI) vwCl (WX7 cy a7 a7_offset a7_gain a7_dark a7_bright a7_fromRow a7_toRow a7_left a7_right a7_slant a7_tintOf a7_speckOf a7_leadOf a7_stepKind a7_stepBy a7_pixels f7_offset f7_gain f7_dark f7_bright v7_ground v7_patches f7_fromRow f7_toRow f7_left f7_right f7_slant f7_tintOf f7_speckOf f7_leadOf v7_steps f7_stepKind f7_stepBy v7_threshold v7_isOn v7_lines v7_done v7_taken v7_lastPosition v7_position v7_mode v7_next v7_outs v7_stops v7_ticks f7_pixels) H → va_D A0 (WX7 cy a7 a7_offset a7_gain a7_dark a7_bright a7_fromRow a7_toRow a7_left a7_right a7_slant a7_tintOf a7_speckOf a7_leadOf a7_stepKind a7_stepBy a7_pixels f7_offset f7_gain f7_dark f7_bright v7_ground v7_patches f7_fromRow f7_toRow f7_left f7_right f7_slant f7_tintOf f7_speckOf f7_leadOf v7_steps f7_stepKind f7_stepBy v7_threshold v7_isOn v7_lines v7_done v7_taken v7_lastPosition v7_position v7_mode v7_next v7_outs v7_stops v7_ticks f7_pixels) → va_S A0 s.heap H locs → lv_has ls 7 [(0, .ref a7), (6, .int x6)] → W p l e (headSpec wsX7_patch ({ frames := 1, cells := 0, slots := 0, locals := 22 })).room s m ([.ref a7, .int p1, .int p2, .int p3, .int p4, .int p5] : List Value).toArray below meth c H locs 0 0 (MQ below (rwQi r (dC, dI) vwCl (WX7 cy a7 a7_offset a7_gain a7_dark a7_bright a7_fromRow a7_toRow a7_left a7_right a7_slant a7_tintOf a7_speckOf a7_leadOf a7_stepKind a7_stepBy a7_pixels f7_offset f7_gain f7_dark f7_bright v7_ground o_v7_patches o_f7_fromRow o_f7_toRow o_f7_left o_f7_right o_f7_slant o_f7_tintOf f7_speckOf f7_leadOf v7_steps f7_stepKind f7_stepBy v7_threshold v7_isOn v7_lines v7_done v7_taken v7_lastPosition v7_position v7_mode v7_next v7_outs v7_stops v7_ticks f7_pixels) A0) ([.ref a7, .int p1, .int p2, .int p3, .int p4, .int p5] : List Value).toArray s 0 0 A0) (F0 m 124 ls []) := by
    intro n
    induction n with
    | zero => intro v7_patches f7_fromRow f7_toRow f7_left f7_right f7_slant f7_tintOf x6 hf; rw [bX7_patch_124] at hf; cases hf
    | succ n124 ih124 =>
      intro v7_patches f7_fromRow f7_toRow f7_left f7_right f7_slant f7_tintOf x6 hf H locs ls hP hD hS hl
      rw [bX7_patch_124] at hf
      refine lv_iload hx hb dX7_patch_124 (lv_at hl 1 rfl) ?_
      refine lv_iconst (v := (3 : Int32)) hx hb dX7_patch_126 (by decide) ?_
      refine lv_icmp_ge (tgt := 151) hx hb dX7_patch_127 (by decide) (fun hc => ?_) (fun hc => ?_)
      · have hf := it_p hc hf
        exact hb_151 v7_patches f7_fromRow f7_toRow f7_left f7_right f7_slant f7_tintOf hf _ _ _ hP hD hS (lv_sub hl [0] rfl)
      · have hf := it_n hc hf
        refine lv_aload_n hx hb dX7_patch_130 rfl (lv_at hl 0 rfl) ?_
        refine va_get (D := (dC, dI)) (ci := 6) (v := .ref a7_tintOf) (C := RX7) (T := TX7) (N := 30) hx hb hts hiX7 hown hK hP 0 rfl rfl 11 (by decide) (hts (.fieldLink RX7 41 "PageLinesModel" "tintOf" "[I") (List.mem_of_getElem? (i := 8) rfl)) (fun _ h9 => h9) rfl dX7_patch_131 ?_
        refine lv_iconst (v := (3 : Int32)) hx hb dX7_patch_134 (by decide) ?_
        refine lv_aload_n hx hb dX7_patch_135 rfl (lv_at hl 0 rfl) ?_
        refine va_get (D := (dC, dI)) (ci := 6) (v := .int v7_patches) (C := RX7) (T := TX7) (N := 30) hx hb hts hiX7 hown hK hP 0 rfl rfl 5 (by decide) (hts (.fieldLink RX7 107 "PageLinesModel" "patches" "I") (List.mem_of_getElem? (i := 2) rfl)) (fun _ h9 => h9) rfl dX7_patch_136 ?_
        refine lv_imul hx hb dX7_patch_139 ?_
        refine lv_iload hx hb dX7_patch_140 (lv_at hl 1 rfl) ?_
        refine lv_iadd hx hb dX7_patch_142 ?_
        refine lv_iconst (v := (0 : Int32)) hx hb dX7_patch_143 (by decide) ?_
        obtain ⟨hi_8, hf⟩ := ckI_sp hf
        refine va_iast hx hb hK hP hD hS 10 0 rfl rfl hi_8 dX7_patch_144 (fun H locs hP hD hS => ?_)
        have hP : va_P (dC, dI) vwCl (WX7 cy a7 a7_offset a7_gain a7_dark a7_bright a7_fromRow a7_toRow a7_left a7_right a7_slant a7_tintOf a7_speckOf a7_leadOf a7_stepKind a7_stepBy a7_pixels f7_offset f7_gain f7_dark f7_bright v7_ground v7_patches f7_fromRow f7_toRow f7_left f7_right f7_slant (upd f7_tintOf (((3 : Int32) * v7_patches) + x6).toNatClampNeg (0 : Int32)) f7_speckOf f7_leadOf v7_steps f7_stepKind f7_stepBy v7_threshold v7_isOn v7_lines v7_done v7_taken v7_lastPosition v7_position v7_mode v7_next v7_outs v7_stops v7_ticks f7_pixels) H := hP
        have hD : va_D A0 (WX7 cy a7 a7_offset a7_gain a7_dark a7_bright a7_fromRow a7_toRow a7_left a7_right a7_slant a7_tintOf a7_speckOf a7_leadOf a7_stepKind a7_stepBy a7_pixels f7_offset f7_gain f7_dark f7_bright v7_ground v7_patches f7_fromRow f7_toRow f7_left f7_right f7_slant (upd f7_tintOf (((3 : Int32) * v7_patches) + x6).toNatClampNeg (0 : Int32)) f7_speckOf f7_leadOf v7_steps f7_stepKind f7_stepBy v7_threshold v7_isOn v7_lines v7_done v7_taken v7_lastPosition v7_position v7_mode v7_next v7_outs v7_stops v7_ticks f7_pixels) := hD
        refine lv_iinc (v := x6 + (1 : Int32)) (lv' := [(6, .int (x6 + (1 : Int32))), (0, .ref a7)]) hx hb dX7_patch_145 hl (k := 1) rfl rfl (by decide) rfl (fun ls hl => ?_)
        refine lv_goto (tgt := 124) hx hb dX7_patch_148 (by decide) ?_
        exact ih124 v7_patches f7_fromRow f7_toRow f7_left f7_right f7_slant (upd f7_tintOf (((3 : Int32) * v7_patches) + x6).toNatClampNeg (0 : Int32)) (x6 + (1 : Int32)) hf _ _ _ hP hD hS (lv_sub hl [1, 0] rfl)
  have hl := lv_entry ([.ref a7, .int p1, .int p2, .int p3, .int p4, .int p5]) (n := 7) (Nat.le_of_ble_eq_true rfl)
  rw [lg_entry_eq]
  generalize (lg_sl ([.ref a7, .int p1, .int p2, .int p3, .int p4, .int p5]) ++ List.replicate (7 - (lg_sl ([.ref a7, .int p1, .int p2, .int p3, .int p4, .int p5])).length) Slot.unset).toArray = ls at hl ⊢
  have hl : lv_has ls 7 [(0, .ref a7), (1, .int p1), (2, .int p2), (3, .int p3), (4, .int p4), (5, .int p5)] := hl
  unfold fX7_patch at hf
  refine lv_iload_n hx hb dX7_patch_0 rfl (lv_at hl 1 rfl) ?_
  refine lv_if_lt (tgt := 44) hx hb dX7_patch_1 (by decide) (fun hc => ?_) (fun hc => ?_)
  · have hf := it_p hc hf
    refine lv_bipush (v := (-2 : Int32)) hx hb dX7_patch_44 (by decide) ?_
    cases hf
    exact W.iret hx hb hr (fun t ht hW => ⟨⟨_, (), rfl, rfl, by rw [ht]; exact hP, hD⟩, hS.F ht⟩) hS.2.2 dX7_patch_46
  · have hf := it_n hc hf
    refine lv_iload_n hx hb dX7_patch_4 rfl (lv_at hl 1 rfl) ?_
    refine lv_iload_n hx hb dX7_patch_5 rfl (lv_at hl 2 rfl) ?_
    refine lv_icmp_gt (tgt := 44) hx hb dX7_patch_6 (by decide) (fun hc => ?_) (fun hc => ?_)
    · have hf := it_p hc hf
      refine lv_bipush (v := (-2 : Int32)) hx hb dX7_patch_44 (by decide) ?_
      cases hf
      exact W.iret hx hb hr (fun t ht hW => ⟨⟨_, (), rfl, rfl, by rw [ht]; exact hP, hD⟩, hS.F ht⟩) hS.2.2 dX7_patch_46
    · have hf := it_n hc hf
      refine lv_iload_n hx hb dX7_patch_9 rfl (lv_at hl 2 rfl) ?_
      refine lv_bipush (v := (63 : Int32)) hx hb dX7_patch_10 (by decide) ?_
      refine lv_icmp_gt (tgt := 44) hx hb dX7_patch_12 (by decide) (fun hc => ?_) (fun hc => ?_)
      · have hf := it_p hc hf
        refine lv_bipush (v := (-2 : Int32)) hx hb dX7_patch_44 (by decide) ?_
        cases hf
        exact W.iret hx hb hr (fun t ht hW => ⟨⟨_, (), rfl, rfl, by rw [ht]; exact hP, hD⟩, hS.F ht⟩) hS.2.2 dX7_patch_46
      · have hf := it_n hc hf
        refine lv_iload_n hx hb dX7_patch_15 rfl (lv_at hl 3 rfl) ?_
        refine lv_if_lt (tgt := 44) hx hb dX7_patch_16 (by decide) (fun hc => ?_) (fun hc => ?_)
        · have hf := it_p hc hf
          refine lv_bipush (v := (-2 : Int32)) hx hb dX7_patch_44 (by decide) ?_
          cases hf
          exact W.iret hx hb hr (fun t ht hW => ⟨⟨_, (), rfl, rfl, by rw [ht]; exact hP, hD⟩, hS.F ht⟩) hS.2.2 dX7_patch_46
        · have hf := it_n hc hf
          refine lv_iload_n hx hb dX7_patch_19 rfl (lv_at hl 3 rfl) ?_
          refine lv_iload hx hb dX7_patch_20 (lv_at hl 4 rfl) ?_
          refine lv_icmp_gt (tgt := 44) hx hb dX7_patch_22 (by decide) (fun hc => ?_) (fun hc => ?_)
          · have hf := it_p hc hf
            refine lv_bipush (v := (-2 : Int32)) hx hb dX7_patch_44 (by decide) ?_
            cases hf
            exact W.iret hx hb hr (fun t ht hW => ⟨⟨_, (), rfl, rfl, by rw [ht]; exact hP, hD⟩, hS.F ht⟩) hS.2.2 dX7_patch_46
          · have hf := it_n hc hf
            refine lv_iload hx hb dX7_patch_25 (lv_at hl 4 rfl) ?_
            refine lv_bipush (v := (12 : Int32)) hx hb dX7_patch_27 (by decide) ?_
            refine lv_icmp_ge (tgt := 44) hx hb dX7_patch_29 (by decide) (fun hc => ?_) (fun hc => ?_)
            · have hf := it_p hc hf
              refine lv_bipush (v := (-2 : Int32)) hx hb dX7_patch_44 (by decide) ?_
              cases hf
              exact W.iret hx hb hr (fun t ht hW => ⟨⟨_, (), rfl, rfl, by rw [ht]; exact hP, hD⟩, hS.F ht⟩) hS.2.2 dX7_patch_46
            · have hf := it_n hc hf
              refine lv_iload hx hb dX7_patch_32 (lv_at hl 5 rfl) ?_
              refine lv_bipush (v := (-16 : Int32)) hx hb dX7_patch_34 (by decide) ?_
              refine lv_bipush (v := (16 : Int32)) hx hb dX7_patch_36 (by decide) ?_
              obtain ⟨r1, hr1, hf⟩ := cl1_sp hf
              refine ro_S (As := [.int p5, .int (-16 : Int32), .int (16 : Int32)]) ⟨hx, hb, hml, hown, hts⟩ (kX7_within l _ p5 (-16 : Int32) (16 : Int32) r1 hr1) (va_cwS 3 hts gX7_patch_X7_within rfl rfl rfl (by decide +kernel) ⟨Nat.le_of_ble_eq_true rfl, Nat.le_of_ble_eq_true rfl⟩) hS rfl hl.1 rfl (Nat.le_of_ble_eq_true rfl) dX7_patch_38 (Nat.zero_le _) (Nat.zero_le _) (fun locs hS => ?_)
              refine lv_if_ne (tgt := 47) hx hb dX7_patch_41 (by decide) (fun hc => ?_) (fun hc => ?_)
              · have hf := it_n hc hf
                refine lv_aload_n hx hb dX7_patch_47 rfl (lv_at hl 0 rfl) ?_
                refine va_get (D := (dC, dI)) (ci := 6) (v := .int v7_isOn) (C := RX7) (T := TX7) (N := 30) hx hb hts hiX7 hown hK hP 0 rfl rfl 18 (by decide) (hts (.fieldLink RX7 83 "PageLinesModel" "isOn" "Z") (List.mem_of_getElem? (i := 1) rfl)) (fun _ h9 => h9) rfl dX7_patch_48 ?_
                refine lv_if_eq (tgt := 57) hx hb dX7_patch_51 (by decide) (fun hc => ?_) (fun hc => ?_)
                · have hf := it_p hc hf
                  refine lv_aload_n hx hb dX7_patch_57 rfl (lv_at hl 0 rfl) ?_
                  refine va_get (D := (dC, dI)) (ci := 6) (v := .int v7_patches) (C := RX7) (T := TX7) (N := 30) hx hb hts hiX7 hown hK hP 0 rfl rfl 5 (by decide) (hts (.fieldLink RX7 107 "PageLinesModel" "patches" "I") (List.mem_of_getElem? (i := 2) rfl)) (fun _ h9 => h9) rfl dX7_patch_58 ?_
                  refine lv_bipush (v := (12 : Int32)) hx hb dX7_patch_61 (by decide) ?_
                  refine lv_icmp_ne (tgt := 69) hx hb dX7_patch_63 (by decide) (fun hc => ?_) (fun hc => ?_)
                  · have hf := it_n hc hf
                    refine lv_aload_n hx hb dX7_patch_69 rfl (lv_at hl 0 rfl) ?_
                    refine va_get (D := (dC, dI)) (ci := 6) (v := .ref a7_fromRow) (C := RX7) (T := TX7) (N := 30) hx hb hts hiX7 hown hK hP 0 rfl rfl 6 (by decide) (hts (.fieldLink RX7 26 "PageLinesModel" "fromRow" "[I") (List.mem_of_getElem? (i := 3) rfl)) (fun _ h9 => h9) rfl dX7_patch_70 ?_
                    refine lv_aload_n hx hb dX7_patch_73 rfl (lv_at hl 0 rfl) ?_
                    refine va_get (D := (dC, dI)) (ci := 6) (v := .int v7_patches) (C := RX7) (T := TX7) (N := 30) hx hb hts hiX7 hown hK hP 0 rfl rfl 5 (by decide) (hts (.fieldLink RX7 107 "PageLinesModel" "patches" "I") (List.mem_of_getElem? (i := 2) rfl)) (fun _ h9 => h9) rfl dX7_patch_74 ?_
                    refine lv_iload_n hx hb dX7_patch_77 rfl (lv_at hl 1 rfl) ?_
                    obtain ⟨hi_2, hf⟩ := ckI_sp hf
                    refine va_iast hx hb hK hP hD hS 5 0 rfl rfl hi_2 dX7_patch_78 (fun H locs hP hD hS => ?_)
                    have hP : va_P (dC, dI) vwCl (WX7 cy a7 a7_offset a7_gain a7_dark a7_bright a7_fromRow a7_toRow a7_left a7_right a7_slant a7_tintOf a7_speckOf a7_leadOf a7_stepKind a7_stepBy a7_pixels f7_offset f7_gain f7_dark f7_bright v7_ground v7_patches (upd f7_fromRow v7_patches.toNatClampNeg p1) f7_toRow f7_left f7_right f7_slant f7_tintOf f7_speckOf f7_leadOf v7_steps f7_stepKind f7_stepBy v7_threshold v7_isOn v7_lines v7_done v7_taken v7_lastPosition v7_position v7_mode v7_next v7_outs v7_stops v7_ticks f7_pixels) H := hP
                    have hD : va_D A0 (WX7 cy a7 a7_offset a7_gain a7_dark a7_bright a7_fromRow a7_toRow a7_left a7_right a7_slant a7_tintOf a7_speckOf a7_leadOf a7_stepKind a7_stepBy a7_pixels f7_offset f7_gain f7_dark f7_bright v7_ground v7_patches (upd f7_fromRow v7_patches.toNatClampNeg p1) f7_toRow f7_left f7_right f7_slant f7_tintOf f7_speckOf f7_leadOf v7_steps f7_stepKind f7_stepBy v7_threshold v7_isOn v7_lines v7_done v7_taken v7_lastPosition v7_position v7_mode v7_next v7_outs v7_stops v7_ticks f7_pixels) := hD
                    refine lv_aload_n hx hb dX7_patch_79 rfl (lv_at hl 0 rfl) ?_
                    refine va_get (D := (dC, dI)) (ci := 6) (v := .ref a7_toRow) (C := RX7) (T := TX7) (N := 30) hx hb hts hiX7 hown hK hP 0 rfl rfl 7 (by decide) (hts (.fieldLink RX7 29 "PageLinesModel" "toRow" "[I") (List.mem_of_getElem? (i := 4) rfl)) (fun _ h9 => h9) rfl dX7_patch_80 ?_
                    refine lv_aload_n hx hb dX7_patch_83 rfl (lv_at hl 0 rfl) ?_
                    refine va_get (D := (dC, dI)) (ci := 6) (v := .int v7_patches) (C := RX7) (T := TX7) (N := 30) hx hb hts hiX7 hown hK hP 0 rfl rfl 5 (by decide) (hts (.fieldLink RX7 107 "PageLinesModel" "patches" "I") (List.mem_of_getElem? (i := 2) rfl)) (fun _ h9 => h9) rfl dX7_patch_84 ?_
                    refine lv_iload_n hx hb dX7_patch_87 rfl (lv_at hl 2 rfl) ?_
                    obtain ⟨hi_3, hf⟩ := ckI_sp hf
                    refine va_iast hx hb hK hP hD hS 6 0 rfl rfl hi_3 dX7_patch_88 (fun H locs hP hD hS => ?_)
                    have hP : va_P (dC, dI) vwCl (WX7 cy a7 a7_offset a7_gain a7_dark a7_bright a7_fromRow a7_toRow a7_left a7_right a7_slant a7_tintOf a7_speckOf a7_leadOf a7_stepKind a7_stepBy a7_pixels f7_offset f7_gain f7_dark f7_bright v7_ground v7_patches (upd f7_fromRow v7_patches.toNatClampNeg p1) (upd f7_toRow v7_patches.toNatClampNeg p2) f7_left f7_right f7_slant f7_tintOf f7_speckOf f7_leadOf v7_steps f7_stepKind f7_stepBy v7_threshold v7_isOn v7_lines v7_done v7_taken v7_lastPosition v7_position v7_mode v7_next v7_outs v7_stops v7_ticks f7_pixels) H := hP
                    have hD : va_D A0 (WX7 cy a7 a7_offset a7_gain a7_dark a7_bright a7_fromRow a7_toRow a7_left a7_right a7_slant a7_tintOf a7_speckOf a7_leadOf a7_stepKind a7_stepBy a7_pixels f7_offset f7_gain f7_dark f7_bright v7_ground v7_patches (upd f7_fromRow v7_patches.toNatClampNeg p1) (upd f7_toRow v7_patches.toNatClampNeg p2) f7_left f7_right f7_slant f7_tintOf f7_speckOf f7_leadOf v7_steps f7_stepKind f7_stepBy v7_threshold v7_isOn v7_lines v7_done v7_taken v7_lastPosition v7_position v7_mode v7_next v7_outs v7_stops v7_ticks f7_pixels) := hD
                    refine lv_aload_n hx hb dX7_patch_89 rfl (lv_at hl 0 rfl) ?_
                    refine va_get (D := (dC, dI)) (ci := 6) (v := .ref a7_left) (C := RX7) (T := TX7) (N := 30) hx hb hts hiX7 hown hK hP 0 rfl rfl 8 (by decide) (hts (.fieldLink RX7 32 "PageLinesModel" "left" "[I") (List.mem_of_getElem? (i := 5) rfl)) (fun _ h9 => h9) rfl dX7_patch_90 ?_
                    refine lv_aload_n hx hb dX7_patch_93 rfl (lv_at hl 0 rfl) ?_
                    refine va_get (D := (dC, dI)) (ci := 6) (v := .int v7_patches) (C := RX7) (T := TX7) (N := 30) hx hb hts hiX7 hown hK hP 0 rfl rfl 5 (by decide) (hts (.fieldLink RX7 107 "PageLinesModel" "patches" "I") (List.mem_of_getElem? (i := 2) rfl)) (fun _ h9 => h9) rfl dX7_patch_94 ?_
                    refine lv_iload_n hx hb dX7_patch_97 rfl (lv_at hl 3 rfl) ?_
                    obtain ⟨hi_4, hf⟩ := ckI_sp hf
                    refine va_iast hx hb hK hP hD hS 7 0 rfl rfl hi_4 dX7_patch_98 (fun H locs hP hD hS => ?_)
                    have hP : va_P (dC, dI) vwCl (WX7 cy a7 a7_offset a7_gain a7_dark a7_bright a7_fromRow a7_toRow a7_left a7_right a7_slant a7_tintOf a7_speckOf a7_leadOf a7_stepKind a7_stepBy a7_pixels f7_offset f7_gain f7_dark f7_bright v7_ground v7_patches (upd f7_fromRow v7_patches.toNatClampNeg p1) (upd f7_toRow v7_patches.toNatClampNeg p2) (upd f7_left v7_patches.toNatClampNeg p3) f7_right f7_slant f7_tintOf f7_speckOf f7_leadOf v7_steps f7_stepKind f7_stepBy v7_threshold v7_isOn v7_lines v7_done v7_taken v7_lastPosition v7_position v7_mode v7_next v7_outs v7_stops v7_ticks f7_pixels) H := hP
                    have hD : va_D A0 (WX7 cy a7 a7_offset a7_gain a7_dark a7_bright a7_fromRow a7_toRow a7_left a7_right a7_slant a7_tintOf a7_speckOf a7_leadOf a7_stepKind a7_stepBy a7_pixels f7_offset f7_gain f7_dark f7_bright v7_ground v7_patches (upd f7_fromRow v7_patches.toNatClampNeg p1) (upd f7_toRow v7_patches.toNatClampNeg p2) (upd f7_left v7_patches.toNatClampNeg p3) f7_right f7_slant f7_tintOf f7_speckOf f7_leadOf v7_steps f7_stepKind f7_stepBy v7_threshold v7_isOn v7_lines v7_done v7_taken v7_lastPosition v7_position v7_mode v7_next v7_outs v7_stops v7_ticks f7_pixels) := hD
                    refine lv_aload_n hx hb dX7_patch_99 rfl (lv_at hl 0 rfl) ?_
                    refine va_get (D := (dC, dI)) (ci := 6) (v := .ref a7_right) (C := RX7) (T := TX7) (N := 30) hx hb hts hiX7 hown hK hP 0 rfl rfl 9 (by decide) (hts (.fieldLink RX7 35 "PageLinesModel" "right" "[I") (List.mem_of_getElem? (i := 6) rfl)) (fun _ h9 => h9) rfl dX7_patch_100 ?_
                    refine lv_aload_n hx hb dX7_patch_103 rfl (lv_at hl 0 rfl) ?_
                    refine va_get (D := (dC, dI)) (ci := 6) (v := .int v7_patches) (C := RX7) (T := TX7) (N := 30) hx hb hts hiX7 hown hK hP 0 rfl rfl 5 (by decide) (hts (.fieldLink RX7 107 "PageLinesModel" "patches" "I") (List.mem_of_getElem? (i := 2) rfl)) (fun _ h9 => h9) rfl dX7_patch_104 ?_
                    refine lv_iload hx hb dX7_patch_107 (lv_at hl 4 rfl) ?_
                    obtain ⟨hi_5, hf⟩ := ckI_sp hf
                    refine va_iast hx hb hK hP hD hS 8 0 rfl rfl hi_5 dX7_patch_109 (fun H locs hP hD hS => ?_)
                    have hP : va_P (dC, dI) vwCl (WX7 cy a7 a7_offset a7_gain a7_dark a7_bright a7_fromRow a7_toRow a7_left a7_right a7_slant a7_tintOf a7_speckOf a7_leadOf a7_stepKind a7_stepBy a7_pixels f7_offset f7_gain f7_dark f7_bright v7_ground v7_patches (upd f7_fromRow v7_patches.toNatClampNeg p1) (upd f7_toRow v7_patches.toNatClampNeg p2) (upd f7_left v7_patches.toNatClampNeg p3) (upd f7_right v7_patches.toNatClampNeg p4) f7_slant f7_tintOf f7_speckOf f7_leadOf v7_steps f7_stepKind f7_stepBy v7_threshold v7_isOn v7_lines v7_done v7_taken v7_lastPosition v7_position v7_mode v7_next v7_outs v7_stops v7_ticks f7_pixels) H := hP
                    have hD : va_D A0 (WX7 cy a7 a7_offset a7_gain a7_dark a7_bright a7_fromRow a7_toRow a7_left a7_right a7_slant a7_tintOf a7_speckOf a7_leadOf a7_stepKind a7_stepBy a7_pixels f7_offset f7_gain f7_dark f7_bright v7_ground v7_patches (upd f7_fromRow v7_patches.toNatClampNeg p1) (upd f7_toRow v7_patches.toNatClampNeg p2) (upd f7_left v7_patches.toNatClampNeg p3) (upd f7_right v7_patches.toNatClampNeg p4) f7_slant f7_tintOf f7_speckOf f7_leadOf v7_steps f7_stepKind f7_stepBy v7_threshold v7_isOn v7_lines v7_done v7_taken v7_lastPosition v7_position v7_mode v7_next v7_outs v7_stops v7_ticks f7_pixels) := hD
                    refine lv_aload_n hx hb dX7_patch_110 rfl (lv_at hl 0 rfl) ?_
                    refine va_get (D := (dC, dI)) (ci := 6) (v := .ref a7_slant) (C := RX7) (T := TX7) (N := 30) hx hb hts hiX7 hown hK hP 0 rfl rfl 10 (by decide) (hts (.fieldLink RX7 38 "PageLinesModel" "slant" "[I") (List.mem_of_getElem? (i := 7) rfl)) (fun _ h9 => h9) rfl dX7_patch_111 ?_
                    refine lv_aload_n hx hb dX7_patch_114 rfl (lv_at hl 0 rfl) ?_
                    refine va_get (D := (dC, dI)) (ci := 6) (v := .int v7_patches) (C := RX7) (T := TX7) (N := 30) hx hb hts hiX7 hown hK hP 0 rfl rfl 5 (by decide) (hts (.fieldLink RX7 107 "PageLinesModel" "patches" "I") (List.mem_of_getElem? (i := 2) rfl)) (fun _ h9 => h9) rfl dX7_patch_115 ?_
                    refine lv_iload hx hb dX7_patch_118 (lv_at hl 5 rfl) ?_
                    obtain ⟨hi_6, hf⟩ := ckI_sp hf
                    refine va_iast hx hb hK hP hD hS 9 0 rfl rfl hi_6 dX7_patch_120 (fun H locs hP hD hS => ?_)
                    have hP : va_P (dC, dI) vwCl (WX7 cy a7 a7_offset a7_gain a7_dark a7_bright a7_fromRow a7_toRow a7_left a7_right a7_slant a7_tintOf a7_speckOf a7_leadOf a7_stepKind a7_stepBy a7_pixels f7_offset f7_gain f7_dark f7_bright v7_ground v7_patches (upd f7_fromRow v7_patches.toNatClampNeg p1) (upd f7_toRow v7_patches.toNatClampNeg p2) (upd f7_left v7_patches.toNatClampNeg p3) (upd f7_right v7_patches.toNatClampNeg p4) (upd f7_slant v7_patches.toNatClampNeg p5) f7_tintOf f7_speckOf f7_leadOf v7_steps f7_stepKind f7_stepBy v7_threshold v7_isOn v7_lines v7_done v7_taken v7_lastPosition v7_position v7_mode v7_next v7_outs v7_stops v7_ticks f7_pixels) H := hP
                    have hD : va_D A0 (WX7 cy a7 a7_offset a7_gain a7_dark a7_bright a7_fromRow a7_toRow a7_left a7_right a7_slant a7_tintOf a7_speckOf a7_leadOf a7_stepKind a7_stepBy a7_pixels f7_offset f7_gain f7_dark f7_bright v7_ground v7_patches (upd f7_fromRow v7_patches.toNatClampNeg p1) (upd f7_toRow v7_patches.toNatClampNeg p2) (upd f7_left v7_patches.toNatClampNeg p3) (upd f7_right v7_patches.toNatClampNeg p4) (upd f7_slant v7_patches.toNatClampNeg p5) f7_tintOf f7_speckOf f7_leadOf v7_steps f7_stepKind f7_stepBy v7_threshold v7_isOn v7_lines v7_done v7_taken v7_lastPosition v7_position v7_mode v7_next v7_outs v7_stops v7_ticks f7_pixels) := hD
                    refine lv_iconst (v := (0 : Int32)) hx hb dX7_patch_121 (by decide) ?_
                    refine lv_istore (lv' := [(6, .int (0 : Int32)), (0, .ref a7), (1, .int p1), (2, .int p2), (3, .int p3), (4, .int p4), (5, .int p5)]) hx hb dX7_patch_122 hl (by decide) rfl (fun ls hl => ?_)
                    exact hb_124 300 v7_patches (upd f7_fromRow v7_patches.toNatClampNeg p1) (upd f7_toRow v7_patches.toNatClampNeg p2) (upd f7_left v7_patches.toNatClampNeg p3) (upd f7_right v7_patches.toNatClampNeg p4) (upd f7_slant v7_patches.toNatClampNeg p5) f7_tintOf (0 : Int32) hf _ _ _ hP hD hS (lv_sub hl [1, 0] rfl)
                  · have hf := it_p hc hf
                    refine lv_bipush (v := (-4 : Int32)) hx hb dX7_patch_66 (by decide) ?_
                    cases hf
                    exact W.iret hx hb hr (fun t ht hW => ⟨⟨_, (), rfl, rfl, by rw [ht]; exact hP, hD⟩, hS.F ht⟩) hS.2.2 dX7_patch_68
                · have hf := it_n hc hf
                  refine lv_bipush (v := (-3 : Int32)) hx hb dX7_patch_54 (by decide) ?_
                  cases hf
                  exact W.iret hx hb hr (fun t ht hW => ⟨⟨_, (), rfl, rfl, by rw [ht]; exact hP, hD⟩, hS.F ht⟩) hS.2.2 dX7_patch_56
              · have hf := it_p hc hf
                refine lv_bipush (v := (-2 : Int32)) hx hb dX7_patch_44 (by decide) ?_
                cases hf
                exact W.iret hx hb hr (fun t ht hW => ⟨⟨_, (), rfl, rfl, by rw [ht]; exact hP, hD⟩, hS.F ht⟩) hS.2.2 dX7_patch_46

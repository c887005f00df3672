set_option maxHeartbeats 4000000 in
set_option maxRecDepth 100000 in
theorem kX7_strip (l : Launch) (dC : Nat → ClassId) (dI : Nat → Nat → Nat) (cy : ClassId) (sz : Nat) (a7 a7_offset a7_gain a7_dark a7_bright a7_fromRow a7_toRow a7_left a7_right a7_slant a7_tintOf a7_speckOf a7_leadOf a7_stepKind a7_stepBy a7_pixels : Nat) (f7_offset : Nat → Int32) (f7_gain : Nat → Int32) (f7_dark : Nat → Int32) (f7_bright : Nat → Int32) (v7_ground : Int32) (v7_patches : Int32) (f7_fromRow : Nat → Int32) (f7_toRow : Nat → Int32) (f7_left : Nat → Int32) (f7_right : Nat → Int32) (f7_slant : Nat → Int32) (f7_tintOf : Nat → Int32) (f7_speckOf : Nat → Int32) (f7_leadOf : Nat → Int32) (v7_steps : Int32) (f7_stepKind : Nat → Int32) (f7_stepBy : Nat → Int32) (v7_threshold : Int32) (v7_isOn : Int32) (v7_lines : Int32) (v7_done : Int32) (v7_taken : Int32) (v7_lastPosition : Int32) (v7_position : Int32) (v7_mode : Int32) (v7_next : Int32) (v7_outs : Int32) (v7_stops : Int32) (v7_ticks : Int32) (f7_pixels : Nat → Int32) (p1 : Int32) (r : Int32) (o_f7_dark : Nat → Int32) (o_f7_bright : Nat → Int32) (hf : fX7_strip f7_offset f7_gain f7_dark f7_bright v7_isOn p1 = some (r, o_f7_dark, o_f7_bright)) : Met l yX7_strip wsX7_strip ({ frames := 2, cells := 0, slots := 0, locals := 43 }) (rwP [.ref a7, .int p1] (dC, dI) vwCl (WX7 cy a7 a7_offset a7_gain a7_dark a7_bright a7_fromRow a7_toRow a7_left a7_right a7_slant a7_tintOf a7_speckOf a7_leadOf a7_stepKind a7_stepBy a7_pixels f7_offset f7_gain f7_dark f7_bright v7_ground v7_patches f7_fromRow f7_toRow f7_left f7_right f7_slant f7_tintOf f7_speckOf f7_leadOf v7_steps f7_stepKind f7_stepBy v7_threshold v7_isOn v7_lines v7_done v7_taken v7_lastPosition v7_position v7_mode v7_next v7_outs v7_stops v7_ticks f7_pixels) [(cy, .int)] sz) (rwQi r (dC, dI) vwCl (WX7 cy a7 a7_offset a7_gain a7_dark a7_bright a7_fromRow a7_toRow a7_left a7_right a7_slant a7_tintOf a7_speckOf a7_leadOf a7_stepKind a7_stepBy a7_pixels f7_offset f7_gain o_f7_dark o_f7_bright v7_ground v7_patches f7_fromRow f7_toRow f7_left f7_right f7_slant f7_tintOf f7_speckOf f7_leadOf v7_steps f7_stepKind f7_stepBy v7_threshold v7_isOn v7_lines v7_done v7_taken v7_lastPosition v7_position v7_mode v7_next v7_outs v7_stops v7_ticks f7_pixels) (va_A (WX7 cy a7 a7_offset a7_gain a7_dark a7_bright a7_fromRow a7_toRow a7_left a7_right a7_slant a7_tintOf a7_speckOf a7_leadOf a7_stepKind a7_stepBy a7_pixels f7_offset f7_gain f7_dark f7_bright v7_ground v7_patches f7_fromRow f7_toRow f7_left f7_right f7_slant f7_tintOf f7_speckOf f7_leadOf v7_steps f7_stepKind f7_stepBy v7_threshold v7_isOn v7_lines v7_done v7_taken v7_lastPosition v7_position v7_mode v7_next v7_outs v7_stops v7_ticks f7_pixels) sz)) 0 0 (va_A (WX7 cy a7 a7_offset a7_gain a7_dark a7_bright a7_fromRow a7_toRow a7_left a7_right a7_slant a7_tintOf a7_speckOf a7_leadOf a7_stepKind a7_stepBy a7_pixels f7_offset f7_gain f7_dark f7_bright v7_ground v7_patches f7_fromRow f7_toRow f7_left f7_right f7_slant f7_tintOf f7_speckOf f7_leadOf v7_steps f7_stepKind f7_stepBy v7_threshold v7_isOn v7_lines v7_done v7_taken v7_lastPosition v7_position v7_mode v7_next v7_outs v7_stops v7_ticks f7_pixels) sz) := by
  refine Met.ofW (cc := cX7_strip) (maxL := 3) (ret := (some .int)) (by decide) rfl ?_
  intro p e s m args below meth c s₁ B hml hv
  obtain ⟨rfl, hsz, hP, hK, hD0⟩ := hv
  have hx := B.exec
  have hb := B.bytes
  have hr := B.returns
  have hts := atoms_spec (ws := wsX7_strip) B.pre
  have hown : s.vm.findClass RX7 = some m.cls := findClass_of_methodNamed B.named
  have hlocks := B.notSynchronized
  have hiX7 : ∀ w ∈ u_ws RX7 TX7 30, w ∈ wsX7_strip := fun _ h => List.mem_cons_of_mem _ ((List.mem_append_right _ h))
  subst hsz
  have hD := hD0.self (sz := s.heap.size)
  generalize hAe : va_A (WX7 cy a7 a7_offset a7_gain a7_dark a7_bright a7_fromRow a7_toRow a7_left a7_right a7_slant a7_tintOf a7_speckOf a7_leadOf a7_stepKind a7_stepBy a7_pixels f7_offset f7_gain f7_dark f7_bright v7_ground v7_patches f7_fromRow f7_toRow f7_left f7_right f7_slant f7_tintOf f7_speckOf f7_leadOf v7_steps f7_stepKind f7_stepBy v7_threshold v7_isOn v7_lines v7_done v7_taken v7_lastPosition v7_position v7_mode v7_next v7_outs v7_stops v7_ticks f7_pixels) s.heap.size = A0 at hD ⊢
  have hA : ∀ q : Nat, s.heap.size ≤ q → A0 q := fun q h => by rw [← hAe]; exact Or.inr h
  have hS : va_S A0 s.heap s.heap [] := va_S.rf
  have hb_24 : ∀ (n : Nat) (f7_dark : Nat → Int32) (f7_bright : Nat → Int32) (x1 : Int32) (x2 : Int32), bX7_strip_24 f7_offset f7_gain n f7_dark f7_bright x1 x2 = some (r, o_f7_dark, o_f7_bright) → ∀ (H : Heap) (locs : List Loc) (ls : Array Slot), va_P (dC, dI) vwCl (WX7 cy a7 a7_offset a7_gain a7_dark a7_bright a7_fromRow a7_toRow a7_left a7_right a7_slant a7_tintOf a7_speckOf a7_leadOf a7_stepKind a7_stepBy a7_pixels f7_offset f7_gain f7_dark f7_bright v7_ground v7_patches f7_fromRow f7_toRow f7_left f7_right f7_slant f7_tintOf f7_speckOf f7_leadOf v7_steps f7_stepKind f7_stepBy v7_threshold v7_isOn v7_lines v7_done v7_taken v7_lastPosition v7_position v7_mode v7_next v7_outs v7_stops v7_ticks f7_pixels) H → va_D A0 (WX7 cy a7 a7_offset a7_gain a7_dark a7_bright a7_fromRow a7_toRow a7_left a7_right a7_slant a7_tintOf a7_speckOf a7_leadOf a7_stepKind a7_stepBy a7_pixels f7_offset f7_gain f7_dark f7_bright v7_ground v7_patches f7_fromRow f7_toRow f7_left f7_right f7_slant f7_tintOf f7_speckOf f7_leadOf v7_steps f7_stepKind f7_stepBy v7_threshold v7_isOn v7_lines v7_done v7_taken v7_lastPosition v7_position v7_mode v7_next v7_outs v7_stops v7_ticks f7_pixels) → va_S A0 s.heap H locs → lv_has ls 3 [(0, .ref a7), (1, .int x1), (2, .int x2)] → W p l e (headSpec wsX7_strip ({ frames := 2, cells := 0, slots := 0, locals := 43 })).room s m ([.ref a7, .int p1] : List Value).toArray below meth c H locs 0 0 (MQ below (rwQi r (dC, dI) vwCl (WX7 cy a7 a7_offset a7_gain a7_dark a7_bright a7_fromRow a7_toRow a7_left a7_right a7_slant a7_tintOf a7_speckOf a7_leadOf a7_stepKind a7_stepBy a7_pixels f7_offset f7_gain o_f7_dark o_f7_bright v7_ground v7_patches f7_fromRow f7_toRow f7_left f7_right f7_slant f7_tintOf f7_speckOf f7_leadOf v7_steps f7_stepKind f7_stepBy v7_threshold v7_isOn v7_lines v7_done v7_taken v7_lastPosition v7_position v7_mode v7_next v7_outs v7_stops v7_ticks f7_pixels) A0) ([.ref a7, .int p1] : List Value).toArray s 0 0 A0) (F0 m 24 ls []) := by
    intro n
    induction n with
    | zero => intro f7_dark f7_bright x1 x2 hf; rw [bX7_strip_24] at hf; cases hf
    | succ n24 ih24 =>
      intro f7_dark f7_bright x1 x2 hf H locs ls hP hD hS hl
      rw [bX7_strip_24] at hf
      refine lv_iload_n hx hb dX7_strip_24 rfl (lv_at hl 2 rfl) ?_
      refine lv_bipush (v := (36 : Int32)) hx hb dX7_strip_25 (by decide) ?_
      refine lv_icmp_ge (tgt := 89) hx hb dX7_strip_27 (by decide) (fun hc => ?_) (fun hc => ?_)
      · have hf := it_p hc hf
        refine lv_aload_n hx hb dX7_strip_89 rfl (lv_at hl 0 rfl) ?_
        obtain ⟨r15, hr15, hf⟩ := cl1_sp hf
        refine ro_V (As := []) ⟨hx, hb, hml, hown, hts⟩ (kX7_manyLive l dC dI cy _ a7 a7_offset a7_gain a7_dark a7_bright a7_fromRow a7_toRow a7_left a7_right a7_slant a7_tintOf a7_speckOf a7_leadOf a7_stepKind a7_stepBy a7_pixels f7_offset f7_gain f7_dark f7_bright v7_ground v7_patches f7_fromRow f7_toRow f7_left f7_right f7_slant f7_tintOf f7_speckOf f7_leadOf v7_steps f7_stepKind f7_stepBy v7_threshold v7_isOn v7_lines v7_done v7_taken v7_lastPosition v7_position v7_mode v7_next v7_outs v7_stops v7_ticks f7_pixels r15 hr15) (cwV 0 hts gX7_strip_X7_manyLive rfl rfl rfl (by decide +kernel) ⟨Nat.le_of_ble_eq_true rfl, Nat.le_of_ble_eq_true rfl⟩) (va_recv hK hP (ci := 6) (q0 := 0) rfl rfl) (hP.sub [0, 1, 2, 3, 4, 5, 6, 7, 8, 9, 10, 11, 12, 13, 14, 15] rfl) hK hS rfl hl.1 rfl (Nat.le_of_ble_eq_true rfl) dX7_strip_90 (Nat.zero_le _) (Nat.zero_le _) (fun locs hS => ?_)
        cases hf
        exact W.iret hx hb hr (fun t ht hW => ⟨⟨_, (), rfl, rfl, by rw [ht]; exact hP, hD⟩, hS.F ht⟩) hS.2.2 dX7_strip_93
      · have hf := it_n hc hf
        refine lv_aload_n hx hb dX7_strip_30 rfl (lv_at hl 0 rfl) ?_
        refine va_get (D := (dC, dI)) (ci := 6) (v := .ref a7_dark) (C := RX7) (T := TX7) (N := 30) hx hb hts hiX7 hown hK hP 0 rfl rfl 2 (by decide) (hts (.fieldLink RX7 16 "PageLinesModel" "dark" "[I") (List.mem_of_getElem? (i := 2) rfl)) (fun _ h9 => h9) rfl dX7_strip_31 ?_
        refine lv_iload_n hx hb dX7_strip_34 rfl (lv_at hl 2 rfl) ?_
        refine lv_iload_n hx hb dX7_strip_35 rfl (lv_at hl 1 rfl) ?_
        refine lv_if_ne (tgt := 48) hx hb dX7_strip_36 (by decide) (fun hc => ?_) (fun hc => ?_)
        · have hf := it_n hc hf
          refine lv_aload_n hx hb dX7_strip_48 rfl (lv_at hl 0 rfl) ?_
          refine va_get (D := (dC, dI)) (ci := 6) (v := .ref a7_dark) (C := RX7) (T := TX7) (N := 30) hx hb hts hiX7 hown hK hP 0 rfl rfl 2 (by decide) (hts (.fieldLink RX7 16 "PageLinesModel" "dark" "[I") (List.mem_of_getElem? (i := 2) rfl)) (fun _ h9 => h9) rfl dX7_strip_49 ?_
          refine lv_iload_n hx hb dX7_strip_52 rfl (lv_at hl 2 rfl) ?_
          obtain ⟨hi_16, hf⟩ := ckI_sp hf
          refine va_iald hx hb hK hP 3 0 rfl rfl hi_16 dX7_strip_53 ?_
          obtain ⟨hi_17, hf⟩ := ckI_sp hf
          refine va_iast hx hb hK hP hD hS 3 0 rfl rfl hi_17 dX7_strip_54 (fun H locs hP hD hS => ?_)
          have hP : va_P (dC, dI) vwCl (WX7 cy a7 a7_offset a7_gain a7_dark a7_bright a7_fromRow a7_toRow a7_left a7_right a7_slant a7_tintOf a7_speckOf a7_leadOf a7_stepKind a7_stepBy a7_pixels f7_offset f7_gain (upd f7_dark x2.toNatClampNeg (f7_dark x2.toNatClampNeg)) f7_bright v7_ground v7_patches f7_fromRow f7_toRow f7_left f7_right f7_slant f7_tintOf f7_speckOf f7_leadOf v7_steps f7_stepKind f7_stepBy v7_threshold v7_isOn v7_lines v7_done v7_taken v7_lastPosition v7_position v7_mode v7_next v7_outs v7_stops v7_ticks f7_pixels) H := hP
          have hD : va_D A0 (WX7 cy a7 a7_offset a7_gain a7_dark a7_bright a7_fromRow a7_toRow a7_left a7_right a7_slant a7_tintOf a7_speckOf a7_leadOf a7_stepKind a7_stepBy a7_pixels f7_offset f7_gain (upd f7_dark x2.toNatClampNeg (f7_dark x2.toNatClampNeg)) f7_bright v7_ground v7_patches f7_fromRow f7_toRow f7_left f7_right f7_slant f7_tintOf f7_speckOf f7_leadOf v7_steps f7_stepKind f7_stepBy v7_threshold v7_isOn v7_lines v7_done v7_taken v7_lastPosition v7_position v7_mode v7_next v7_outs v7_stops v7_ticks f7_pixels) := hD
          refine lv_aload_n hx hb dX7_strip_55 rfl (lv_at hl 0 rfl) ?_
          refine va_get (D := (dC, dI)) (ci := 6) (v := .ref a7_bright) (C := RX7) (T := TX7) (N := 30) hx hb hts hiX7 hown hK hP 0 rfl rfl 3 (by decide) (hts (.fieldLink RX7 19 "PageLinesModel" "bright" "[I") (List.mem_of_getElem? (i := 3) rfl)) (fun _ h9 => h9) rfl dX7_strip_56 ?_
          refine lv_iload_n hx hb dX7_strip_59 rfl (lv_at hl 2 rfl) ?_
          refine lv_iload_n hx hb dX7_strip_60 rfl (lv_at hl 1 rfl) ?_
          refine lv_iconst (v := (1 : Int32)) hx hb dX7_strip_61 (by decide) ?_
          refine lv_icmp_ne (tgt := 76) hx hb dX7_strip_62 (by decide) (fun hc => ?_) (fun hc => ?_)
          · have hf := it_n hc hf
            refine lv_aload_n hx hb dX7_strip_76 rfl (lv_at hl 0 rfl) ?_
            refine va_get (D := (dC, dI)) (ci := 6) (v := .ref a7_bright) (C := RX7) (T := TX7) (N := 30) hx hb hts hiX7 hown hK hP 0 rfl rfl 3 (by decide) (hts (.fieldLink RX7 19 "PageLinesModel" "bright" "[I") (List.mem_of_getElem? (i := 3) rfl)) (fun _ h9 => h9) rfl dX7_strip_77 ?_
            refine lv_iload_n hx hb dX7_strip_80 rfl (lv_at hl 2 rfl) ?_
            obtain ⟨hi_18, hf⟩ := ckI_sp hf
            refine va_iald hx hb hK hP 4 0 rfl rfl hi_18 dX7_strip_81 ?_
            obtain ⟨hi_19, hf⟩ := ckI_sp hf
            refine va_iast hx hb hK hP hD hS 4 0 rfl rfl hi_19 dX7_strip_82 (fun H locs hP hD hS => ?_)
            have hP : va_P (dC, dI) vwCl (WX7 cy a7 a7_offset a7_gain a7_dark a7_bright a7_fromRow a7_toRow a7_left a7_right a7_slant a7_tintOf a7_speckOf a7_leadOf a7_stepKind a7_stepBy a7_pixels f7_offset f7_gain (upd f7_dark x2.toNatClampNeg (f7_dark x2.toNatClampNeg)) (upd f7_bright x2.toNatClampNeg (f7_bright x2.toNatClampNeg)) v7_ground v7_patches f7_fromRow f7_toRow f7_left f7_right f7_slant f7_tintOf f7_speckOf f7_leadOf v7_steps f7_stepKind f7_stepBy v7_threshold v7_isOn v7_lines v7_done v7_taken v7_lastPosition v7_position v7_mode v7_next v7_outs v7_stops v7_ticks f7_pixels) H := hP
            have hD : va_D A0 (WX7 cy a7 a7_offset a7_gain a7_dark a7_bright a7_fromRow a7_toRow a7_left a7_right a7_slant a7_tintOf a7_speckOf a7_leadOf a7_stepKind a7_stepBy a7_pixels f7_offset f7_gain (upd f7_dark x2.toNatClampNeg (f7_dark x2.toNatClampNeg)) (upd f7_bright x2.toNatClampNeg (f7_bright x2.toNatClampNeg)) v7_ground v7_patches f7_fromRow f7_toRow f7_left f7_right f7_slant f7_tintOf f7_speckOf f7_leadOf v7_steps f7_stepKind f7_stepBy v7_threshold v7_isOn v7_lines v7_done v7_taken v7_lastPosition v7_position v7_mode v7_next v7_outs v7_stops v7_ticks f7_pixels) := hD
            refine lv_iinc (v := x2 + (1 : Int32)) (lv' := [(2, .int (x2 + (1 : Int32))), (0, .ref a7), (1, .int x1)]) hx hb dX7_strip_83 hl (k := 2) rfl rfl (by decide) rfl (fun ls hl => ?_)
            refine lv_goto (tgt := 24) hx hb dX7_strip_86 (by decide) ?_
            exact ih24 (upd f7_dark x2.toNatClampNeg (f7_dark x2.toNatClampNeg)) (upd f7_bright x2.toNatClampNeg (f7_bright x2.toNatClampNeg)) x1 (x2 + (1 : Int32)) hf _ _ _ hP hD hS (lv_sub hl [1, 2, 0] rfl)
          · have hf := it_p hc hf
            refine lv_aload_n hx hb dX7_strip_65 rfl (lv_at hl 0 rfl) ?_
            refine lv_iload_n hx hb dX7_strip_66 rfl (lv_at hl 2 rfl) ?_
            refine lv_sipush (v := (255 : Int32)) hx hb dX7_strip_67 (by decide) ?_
            obtain ⟨r20, hr20, hf⟩ := cl1_sp hf
            refine ro_V (As := [.int x2, .int (255 : Int32)]) ⟨hx, hb, hml, hown, hts⟩ (kX7_readingOf l dC dI cy _ a7 a7_offset a7_gain a7_dark a7_bright a7_fromRow a7_toRow a7_left a7_right a7_slant a7_tintOf a7_speckOf a7_leadOf a7_stepKind a7_stepBy a7_pixels f7_offset f7_gain (upd f7_dark x2.toNatClampNeg (f7_dark x2.toNatClampNeg)) f7_bright v7_ground v7_patches f7_fromRow f7_toRow f7_left f7_right f7_slant f7_tintOf f7_speckOf f7_leadOf v7_steps f7_stepKind f7_stepBy v7_threshold v7_isOn v7_lines v7_done v7_taken v7_lastPosition v7_position v7_mode v7_next v7_outs v7_stops v7_ticks f7_pixels x2 (255 : Int32) r20 hr20) (cwV 2 hts gX7_strip_X7_readingOf rfl rfl rfl (by decide +kernel) ⟨Nat.le_of_ble_eq_true rfl, Nat.le_of_ble_eq_true rfl⟩) (va_recv hK hP (ci := 6) (q0 := 0) rfl rfl) (hP.sub [0, 1, 2, 3, 4, 5, 6, 7, 8, 9, 10, 11, 12, 13, 14, 15] rfl) hK hS rfl hl.1 rfl (Nat.le_of_ble_eq_true rfl) dX7_strip_70 (Nat.zero_le _) (Nat.zero_le _) (fun locs hS => ?_)
            refine lv_goto (tgt := 82) hx hb dX7_strip_73 (by decide) ?_
            obtain ⟨hi_21, hf⟩ := ckI_sp hf
            refine va_iast hx hb hK hP hD hS 4 0 rfl rfl hi_21 dX7_strip_82 (fun H locs hP hD hS => ?_)
            have hP : va_P (dC, dI) vwCl (WX7 cy a7 a7_offset a7_gain a7_dark a7_bright a7_fromRow a7_toRow a7_left a7_right a7_slant a7_tintOf a7_speckOf a7_leadOf a7_stepKind a7_stepBy a7_pixels f7_offset f7_gain (upd f7_dark x2.toNatClampNeg (f7_dark x2.toNatClampNeg)) (upd f7_bright x2.toNatClampNeg r20) v7_ground v7_patches f7_fromRow f7_toRow f7_left f7_right f7_slant f7_tintOf f7_speckOf f7_leadOf v7_steps f7_stepKind f7_stepBy v7_threshold v7_isOn v7_lines v7_done v7_taken v7_lastPosition v7_position v7_mode v7_next v7_outs v7_stops v7_ticks f7_pixels) H := hP
            have hD : va_D A0 (WX7 cy a7 a7_offset a7_gain a7_dark a7_bright a7_fromRow a7_toRow a7_left a7_right a7_slant a7_tintOf a7_speckOf a7_leadOf a7_stepKind a7_stepBy a7_pixels f7_offset f7_gain (upd f7_dark x2.toNatClampNeg (f7_dark x2.toNatClampNeg)) (upd f7_bright x2.toNatClampNeg r20) v7_ground v7_patches f7_fromRow f7_toRow f7_left f7_right f7_slant f7_tintOf f7_speckOf f7_leadOf v7_steps f7_stepKind f7_stepBy v7_threshold v7_isOn v7_lines v7_done v7_taken v7_lastPosition v7_position v7_mode v7_next v7_outs v7_stops v7_ticks f7_pixels) := hD
            refine lv_iinc (v := x2 + (1 : Int32)) (lv' := [(2, .int (x2 + (1 : Int32))), (0, .ref a7), (1, .int x1)]) hx hb dX7_strip_83 hl (k := 2) rfl rfl (by decide) rfl (fun ls hl => ?_)
            refine lv_goto (tgt := 24) hx hb dX7_strip_86 (by decide) ?_
            exact ih24 (upd f7_dark x2.toNatClampNeg (f7_dark x2.toNatClampNeg)) (upd f7_bright x2.toNatClampNeg r20) x1 (x2 + (1 : Int32)) hf _ _ _ hP hD hS (lv_sub hl [1, 2, 0] rfl)
        · have hf := it_p hc hf
          refine lv_aload_n hx hb dX7_strip_39 rfl (lv_at hl 0 rfl) ?_
          refine lv_iload_n hx hb dX7_strip_40 rfl (lv_at hl 2 rfl) ?_
          refine lv_iconst (v := (0 : Int32)) hx hb dX7_strip_41 (by decide) ?_
          obtain ⟨r22, hr22, hf⟩ := cl1_sp hf
          refine ro_V (As := [.int x2, .int (0 : Int32)]) ⟨hx, hb, hml, hown, hts⟩ (kX7_readingOf l dC dI cy _ a7 a7_offset a7_gain a7_dark a7_bright a7_fromRow a7_toRow a7_left a7_right a7_slant a7_tintOf a7_speckOf a7_leadOf a7_stepKind a7_stepBy a7_pixels f7_offset f7_gain f7_dark f7_bright v7_ground v7_patches f7_fromRow f7_toRow f7_left f7_right f7_slant f7_tintOf f7_speckOf f7_leadOf v7_steps f7_stepKind f7_stepBy v7_threshold v7_isOn v7_lines v7_done v7_taken v7_lastPosition v7_position v7_mode v7_next v7_outs v7_stops v7_ticks f7_pixels x2 (0 : Int32) r22 hr22) (cwV 2 hts gX7_strip_X7_readingOf rfl rfl rfl (by decide +kernel) ⟨Nat.le_of_ble_eq_true rfl, Nat.le_of_ble_eq_true rfl⟩) (va_recv hK hP (ci := 6) (q0 := 0) rfl rfl) (hP.sub [0, 1, 2, 3, 4, 5, 6, 7, 8, 9, 10, 11, 12, 13, 14, 15] rfl) hK hS rfl hl.1 rfl (Nat.le_of_ble_eq_true rfl) dX7_strip_42 (Nat.zero_le _) (Nat.zero_le _) (fun locs hS => ?_)
          refine lv_goto (tgt := 54) hx hb dX7_strip_45 (by decide) ?_
          obtain ⟨hi_23, hf⟩ := ckI_sp hf
          refine va_iast hx hb hK hP hD hS 3 0 rfl rfl hi_23 dX7_strip_54 (fun H locs hP hD hS => ?_)
          have hP : va_P (dC, dI) vwCl (WX7 cy a7 a7_offset a7_gain a7_dark a7_bright a7_fromRow a7_toRow a7_left a7_right a7_slant a7_tintOf a7_speckOf a7_leadOf a7_stepKind a7_stepBy a7_pixels f7_offset f7_gain (upd f7_dark x2.toNatClampNeg r22) f7_bright v7_ground v7_patches f7_fromRow f7_toRow f7_left f7_right f7_slant f7_tintOf f7_speckOf f7_leadOf v7_steps f7_stepKind f7_stepBy v7_threshold v7_isOn v7_lines v7_done v7_taken v7_lastPosition v7_position v7_mode v7_next v7_outs v7_stops v7_ticks f7_pixels) H := hP
          have hD : va_D A0 (WX7 cy a7 a7_offset a7_gain a7_dark a7_bright a7_fromRow a7_toRow a7_left a7_right a7_slant a7_tintOf a7_speckOf a7_leadOf a7_stepKind a7_stepBy a7_pixels f7_offset f7_gain (upd f7_dark x2.toNatClampNeg r22) f7_bright v7_ground v7_patches f7_fromRow f7_toRow f7_left f7_right f7_slant f7_tintOf f7_speckOf f7_leadOf v7_steps f7_stepKind f7_stepBy v7_threshold v7_isOn v7_lines v7_done v7_taken v7_lastPosition v7_position v7_mode v7_next v7_outs v7_stops v7_ticks f7_pixels) := hD
          refine lv_aload_n hx hb dX7_strip_55 rfl (lv_at hl 0 rfl) ?_
          refine va_get (D := (dC, dI)) (ci := 6) (v := .ref a7_bright) (C := RX7) (T := TX7) (N := 30) hx hb hts hiX7 hown hK hP 0 rfl rfl 3 (by decide) (hts (.fieldLink RX7 19 "PageLinesModel" "bright" "[I") (List.mem_of_getElem? (i := 3) rfl)) (fun _ h9 => h9) rfl dX7_strip_56 ?_
          refine lv_iload_n hx hb dX7_strip_59 rfl (lv_at hl 2 rfl) ?_
          refine lv_iload_n hx hb dX7_strip_60 rfl (lv_at hl 1 rfl) ?_
          refine lv_iconst (v := (1 : Int32)) hx hb dX7_strip_61 (by decide) ?_
          refine lv_icmp_ne (tgt := 76) hx hb dX7_strip_62 (by decide) (fun hc => ?_) (fun hc => ?_)
          · have hf := it_n hc hf
            refine lv_aload_n hx hb dX7_strip_76 rfl (lv_at hl 0 rfl) ?_
            refine va_get (D := (dC, dI)) (ci := 6) (v := .ref a7_bright) (C := RX7) (T := TX7) (N := 30) hx hb hts hiX7 hown hK hP 0 rfl rfl 3 (by decide) (hts (.fieldLink RX7 19 "PageLinesModel" "bright" "[I") (List.mem_of_getElem? (i := 3) rfl)) (fun _ h9 => h9) rfl dX7_strip_77 ?_
            refine lv_iload_n hx hb dX7_strip_80 rfl (lv_at hl 2 rfl) ?_
            obtain ⟨hi_24, hf⟩ := ckI_sp hf
            refine va_iald hx hb hK hP 4 0 rfl rfl hi_24 dX7_strip_81 ?_
            obtain ⟨hi_25, hf⟩ := ckI_sp hf
            refine va_iast hx hb hK hP hD hS 4 0 rfl rfl hi_25 dX7_strip_82 (fun H locs hP hD hS => ?_)
            have hP : va_P (dC, dI) vwCl (WX7 cy a7 a7_offset a7_gain a7_dark a7_bright a7_fromRow a7_toRow a7_left a7_right a7_slant a7_tintOf a7_speckOf a7_leadOf a7_stepKind a7_stepBy a7_pixels f7_offset f7_gain (upd f7_dark x2.toNatClampNeg r22) (upd f7_bright x2.toNatClampNeg (f7_bright x2.toNatClampNeg)) v7_ground v7_patches f7_fromRow f7_toRow f7_left f7_right f7_slant f7_tintOf f7_speckOf f7_leadOf v7_steps f7_stepKind f7_stepBy v7_threshold v7_isOn v7_lines v7_done v7_taken v7_lastPosition v7_position v7_mode v7_next v7_outs v7_stops v7_ticks f7_pixels) H := hP
            have hD : va_D A0 (WX7 cy a7 a7_offset a7_gain a7_dark a7_bright a7_fromRow a7_toRow a7_left a7_right a7_slant a7_tintOf a7_speckOf a7_leadOf a7_stepKind a7_stepBy a7_pixels f7_offset f7_gain (upd f7_dark x2.toNatClampNeg r22) (upd f7_bright x2.toNatClampNeg (f7_bright x2.toNatClampNeg)) v7_ground v7_patches f7_fromRow f7_toRow f7_left f7_right f7_slant f7_tintOf f7_speckOf f7_leadOf v7_steps f7_stepKind f7_stepBy v7_threshold v7_isOn v7_lines v7_done v7_taken v7_lastPosition v7_position v7_mode v7_next v7_outs v7_stops v7_ticks f7_pixels) := hD
            refine lv_iinc (v := x2 + (1 : Int32)) (lv' := [(2, .int (x2 + (1 : Int32))), (0, .ref a7), (1, .int x1)]) hx hb dX7_strip_83 hl (k := 2) rfl rfl (by decide) rfl (fun ls hl => ?_)
            refine lv_goto (tgt := 24) hx hb dX7_strip_86 (by decide) ?_
            exact ih24 (upd f7_dark x2.toNatClampNeg r22) (upd f7_bright x2.toNatClampNeg (f7_bright x2.toNatClampNeg)) x1 (x2 + (1 : Int32)) hf _ _ _ hP hD hS (lv_sub hl [1, 2, 0] rfl)
          · have hf := it_p hc hf
            refine lv_aload_n hx hb dX7_strip_65 rfl (lv_at hl 0 rfl) ?_
            refine lv_iload_n hx hb dX7_strip_66 rfl (lv_at hl 2 rfl) ?_
            refine lv_sipush (v := (255 : Int32)) hx hb dX7_strip_67 (by decide) ?_
            obtain ⟨r26, hr26, hf⟩ := cl1_sp hf
            refine ro_V (As := [.int x2, .int (255 : Int32)]) ⟨hx, hb, hml, hown, hts⟩ (kX7_readingOf l dC dI cy _ a7 a7_offset a7_gain a7_dark a7_bright a7_fromRow a7_toRow a7_left a7_right a7_slant a7_tintOf a7_speckOf a7_leadOf a7_stepKind a7_stepBy a7_pixels f7_offset f7_gain (upd f7_dark x2.toNatClampNeg r22) f7_bright v7_ground v7_patches f7_fromRow f7_toRow f7_left f7_right f7_slant f7_tintOf f7_speckOf f7_leadOf v7_steps f7_stepKind f7_stepBy v7_threshold v7_isOn v7_lines v7_done v7_taken v7_lastPosition v7_position v7_mode v7_next v7_outs v7_stops v7_ticks f7_pixels x2 (255 : Int32) r26 hr26) (cwV 2 hts gX7_strip_X7_readingOf rfl rfl rfl (by decide +kernel) ⟨Nat.le_of_ble_eq_true rfl, Nat.le_of_ble_eq_true rfl⟩) (va_recv hK hP (ci := 6) (q0 := 0) rfl rfl) (hP.sub [0, 1, 2, 3, 4, 5, 6, 7, 8, 9, 10, 11, 12, 13, 14, 15] rfl) hK hS rfl hl.1 rfl (Nat.le_of_ble_eq_true rfl) dX7_strip_70 (Nat.zero_le _) (Nat.zero_le _) (fun locs hS => ?_)
            refine lv_goto (tgt := 82) hx hb dX7_strip_73 (by decide) ?_
            obtain ⟨hi_27, hf⟩ := ckI_sp hf
            refine va_iast hx hb hK hP hD hS 4 0 rfl rfl hi_27 dX7_strip_82 (fun H locs hP hD hS => ?_)
            have hP : va_P (dC, dI) vwCl (WX7 cy a7 a7_offset a7_gain a7_dark a7_bright a7_fromRow a7_toRow a7_left a7_right a7_slant a7_tintOf a7_speckOf a7_leadOf a7_stepKind a7_stepBy a7_pixels f7_offset f7_gain (upd f7_dark x2.toNatClampNeg r22) (upd f7_bright x2.toNatClampNeg r26) v7_ground v7_patches f7_fromRow f7_toRow f7_left f7_right f7_slant f7_tintOf f7_speckOf f7_leadOf v7_steps f7_stepKind f7_stepBy v7_threshold v7_isOn v7_lines v7_done v7_taken v7_lastPosition v7_position v7_mode v7_next v7_outs v7_stops v7_ticks f7_pixels) H := hP
            have hD : va_D A0 (WX7 cy a7 a7_offset a7_gain a7_dark a7_bright a7_fromRow a7_toRow a7_left a7_right a7_slant a7_tintOf a7_speckOf a7_leadOf a7_stepKind a7_stepBy a7_pixels f7_offset f7_gain (upd f7_dark x2.toNatClampNeg r22) (upd f7_bright x2.toNatClampNeg r26) v7_ground v7_patches f7_fromRow f7_toRow f7_left f7_right f7_slant f7_tintOf f7_speckOf f7_leadOf v7_steps f7_stepKind f7_stepBy v7_threshold v7_isOn v7_lines v7_done v7_taken v7_lastPosition v7_position v7_mode v7_next v7_outs v7_stops v7_ticks f7_pixels) := hD
            refine lv_iinc (v := x2 + (1 : Int32)) (lv' := [(2, .int (x2 + (1 : Int32))), (0, .ref a7), (1, .int x1)]) hx hb dX7_strip_83 hl (k := 2) rfl rfl (by decide) rfl (fun ls hl => ?_)
            refine lv_goto (tgt := 24) hx hb dX7_strip_86 (by decide) ?_
            exact ih24 (upd f7_dark x2.toNatClampNeg r22) (upd f7_bright x2.toNatClampNeg r26) x1 (x2 + (1 : Int32)) hf _ _ _ hP hD hS (lv_sub hl [1, 2, 0] rfl)
  have hl := lv_entry ([.ref a7, .int p1]) (n := 3) (Nat.le_of_ble_eq_true rfl)
  rw [lg_entry_eq]
  generalize (lg_sl ([.ref a7, .int p1]) ++ List.replicate (3 - (lg_sl ([.ref a7, .int p1])).length) Slot.unset).toArray = ls at hl ⊢
  have hl : lv_has ls 3 [(0, .ref a7), (1, .int p1)] := hl
  unfold fX7_strip at hf
  refine lv_iload_n hx hb dX7_strip_0 rfl (lv_at hl 1 rfl) ?_
  refine lv_iconst (v := (0 : Int32)) hx hb dX7_strip_1 (by decide) ?_
  refine lv_iconst (v := (1 : Int32)) hx hb dX7_strip_2 (by decide) ?_
  obtain ⟨r1, hr1, hf⟩ := cl1_sp hf
  refine ro_S (As := [.int p1, .int (0 : Int32), .int (1 : Int32)]) ⟨hx, hb, hml, hown, hts⟩ (kX7_within l _ p1 (0 : Int32) (1 : Int32) r1 hr1) (va_cwS 3 hts gX7_strip_X7_within rfl rfl rfl (by decide +kernel) ⟨Nat.le_of_ble_eq_true rfl, Nat.le_of_ble_eq_true rfl⟩) hS rfl hl.1 rfl (Nat.le_of_ble_eq_true rfl) dX7_strip_3 (Nat.zero_le _) (Nat.zero_le _) (fun locs hS => ?_)
  refine lv_if_ne (tgt := 12) hx hb dX7_strip_6 (by decide) (fun hc => ?_) (fun hc => ?_)
  · have hf := it_n hc hf
    refine lv_aload_n hx hb dX7_strip_12 rfl (lv_at hl 0 rfl) ?_
    refine va_get (D := (dC, dI)) (ci := 6) (v := .int v7_isOn) (C := RX7) (T := TX7) (N := 30) hx hb hts hiX7 hown hK hP 0 rfl rfl 18 (by decide) (hts (.fieldLink RX7 83 "PageLinesModel" "isOn" "Z") (List.mem_of_getElem? (i := 1) rfl)) (fun _ h9 => h9) rfl dX7_strip_13 ?_
    refine lv_if_eq (tgt := 22) hx hb dX7_strip_16 (by decide) (fun hc => ?_) (fun hc => ?_)
    · have hf := it_p hc hf
      refine lv_iconst (v := (0 : Int32)) hx hb dX7_strip_22 (by decide) ?_
      refine lv_istore_n (lv' := [(2, .int (0 : Int32)), (0, .ref a7), (1, .int p1)]) hx hb dX7_strip_23 rfl hl (by decide) rfl (fun ls hl => ?_)
      exact hb_24 300 f7_dark f7_bright p1 (0 : Int32) hf _ _ _ hP hD hS (lv_sub hl [1, 2, 0] rfl)
    · have hf := it_n hc hf
      refine lv_bipush (v := (-3 : Int32)) hx hb dX7_strip_19 (by decide) ?_
      cases hf
      exact W.iret hx hb hr (fun t ht hW => ⟨⟨_, (), rfl, rfl, by rw [ht]; exact hP, hD⟩, hS.F ht⟩) hS.2.2 dX7_strip_21
  · have hf := it_p hc hf
    refine lv_bipush (v := (-2 : Int32)) hx hb dX7_strip_9 (by decide) ?_
    cases hf
    exact W.iret hx hb hr (fun t ht hW => ⟨⟨_, (), rfl, rfl, by rw [ht]; exact hP, hD⟩, hS.F ht⟩) hS.2.2 dX7_strip_11
set_option maxHeartbeats 4000000 in
set_option maxRecDepth 100000 in
theorem kX7_ofCell (l : Launch) (dC : Nat → ClassId) (dI : Nat → Nat → Nat) (cy : ClassId) (H : Heap) (a7 a7_offset a7_gain a7_dark a7_bright a7_fromRow a7_toRow a7_left a7_right a7_slant a7_tintOf a7_speckOf a7_leadOf a7_stepKind a7_stepBy a7_pixels : Nat) (f7_offset : Nat → Int32) (f7_gain : Nat → Int32) (f7_dark : Nat → Int32) (f7_bright : Nat → Int32) (v7_ground : Int32) (v7_patches : Int32) (f7_fromRow : Nat → Int32) (f7_toRow : Nat → Int32) (f7_left : Nat → Int32) (f7_right : Nat → Int32) (f7_slant : Nat → Int32) (f7_tintOf : Nat → Int32) (f7_speckOf : Nat → Int32) (f7_leadOf : Nat → Int32) (v7_steps : Int32) (f7_stepKind : Nat → Int32) (f7_stepBy : Nat → Int32) (v7_threshold : Int32) (v7_isOn : Int32) (v7_lines : Int32) (v7_done : Int32) (v7_taken : Int32) (v7_lastPosition : Int32) (v7_position : Int32) (v7_mode : Int32) (v7_next : Int32) (v7_outs : Int32) (v7_stops : Int32) (v7_ticks : Int32) (f7_pixels : Nat → Int32) (p1 : Int32) (p2 : Int32) (p3 : Int32) (r : Int32) (hf : fX7_ofCell f7_offset f7_gain f7_dark f7_bright p1 p2 p3 = some r) : Met l yX7_ofCell wsX7_ofCell ({ frames := 3, cells := 0, slots := 0, locals := 63 }) (roP [.ref a7, .int p1, .int p2, .int p3] (dC, dI) vwCl (WX7 cy a7 a7_offset a7_gain a7_dark a7_bright a7_fromRow a7_toRow a7_left a7_right a7_slant a7_tintOf a7_speckOf a7_leadOf a7_stepKind a7_stepBy a7_pixels f7_offset f7_gain f7_dark f7_bright v7_ground v7_patches f7_fromRow f7_toRow f7_left f7_right f7_slant f7_tintOf f7_speckOf f7_leadOf v7_steps f7_stepKind f7_stepBy v7_threshold v7_isOn v7_lines v7_done v7_taken v7_lastPosition v7_position v7_mode v7_next v7_outs v7_stops v7_ticks f7_pixels) [(cy, .int)] H) (roQi r H) 0 0 (fun _ => False) := by
  refine Met.ofW (cc := cX7_ofCell) (maxL := 5) (ret := (some .int)) (by decide) rfl ?_
  intro p e s m args below meth c s₁ B hml hv
  obtain ⟨rfl, hH, hP, hK⟩ := hv
  have hx := B.exec
  have hb := B.bytes
  have hr := B.returns
  have hts := atoms_spec (ws := wsX7_ofCell) B.pre
  have hown : s.vm.findClass RX7 = some m.cls := findClass_of_methodNamed B.named
  have hlocks := B.notSynchronized
  have hiX7 : ∀ w ∈ u_ws RX7 TX7 30, w ∈ wsX7_ofCell := fun _ h => List.mem_cons_of_mem _ ((List.mem_append_right _ h))
  subst hH
  have hS : va_S (fun _ => False) s.heap s.heap [] := va_S.rf
  have hl := lv_entry ([.ref a7, .int p1, .int p2, .int p3]) (n := 5) (Nat.le_of_ble_eq_true rfl)
  rw [lg_entry_eq]
  generalize (lg_sl ([.ref a7, .int p1, .int p2, .int p3]) ++ List.replicate (5 - (lg_sl ([.ref a7, .int p1, .int p2, .int p3])).length) Slot.unset).toArray = ls at hl ⊢
  have hl : lv_has ls 5 [(0, .ref a7), (1, .int p1), (2, .int p2), (3, .int p3)] := hl
  unfold fX7_ofCell at hf
  refine lv_iload_n hx hb dX7_ofCell_0 rfl (lv_at hl 1 rfl) ?_
  refine lv_iload_n hx hb dX7_ofCell_1 rfl (lv_at hl 2 rfl) ?_
  obtain ⟨r1, hr1, hf⟩ := cl1_sp hf
  refine ro_S (As := [.int p1, .int p2]) ⟨hx, hb, hml, hown, hts⟩ (kX7_isCell l _ p1 p2 r1 hr1) (va_cwS 2 hts gX7_ofCell_X7_isCell rfl rfl rfl (by decide +kernel) ⟨Nat.le_of_ble_eq_true rfl, Nat.le_of_ble_eq_true rfl⟩) hS rfl hl.1 rfl (Nat.le_of_ble_eq_true rfl) dX7_ofCell_2 (Nat.zero_le _) (Nat.zero_le _) (fun locs hS => ?_)
  refine lv_if_ne (tgt := 10) hx hb dX7_ofCell_5 (by decide) (fun hc => ?_) (fun hc => ?_)
  · have hf := it_n hc hf
    refine lv_bipush (v := (12 : Int32)) hx hb dX7_ofCell_10 (by decide) ?_
    refine lv_iload_n hx hb dX7_ofCell_12 rfl (lv_at hl 1 rfl) ?_
    refine lv_imul hx hb dX7_ofCell_13 ?_
    refine lv_iload_n hx hb dX7_ofCell_14 rfl (lv_at hl 2 rfl) ?_
    refine lv_iadd hx hb dX7_ofCell_15 ?_
    refine lv_istore (lv' := [(4, .int (((12 : Int32) * p1) + p2)), (0, .ref a7), (1, .int p1), (2, .int p2), (3, .int p3)]) hx hb dX7_ofCell_16 hl (by decide) rfl (fun ls hl => ?_)
    refine lv_iload_n hx hb dX7_ofCell_18 rfl (lv_at hl 4 rfl) ?_
    by_cases hs2 : p3 = (0 : Int32)
    · refine lv_tableIn (tgt := 52) (off := 33) hx hb dX7_ofCell_19 (by rw [hs2]; decide) (by rw [hs2]; decide) (by rw [hs2]; rfl) (by decide) ?_
      have hf := it_p hs2 hf
      refine lv_aload_n hx hb dX7_ofCell_52 rfl (lv_at hl 1 rfl) ?_
      refine va_get (D := (dC, dI)) (ci := 6) (v := .ref a7_offset) (C := RX7) (T := TX7) (N := 30) hx hb hts hiX7 hown hK hP 0 rfl rfl 0 (by decide) (hts (.fieldLink RX7 7 "PageLinesModel" "offset" "[I") (List.mem_of_getElem? (i := 1) rfl)) (fun _ h9 => h9) rfl dX7_ofCell_53 ?_
      refine lv_iload hx hb dX7_ofCell_56 (lv_at hl 0 rfl) ?_
      obtain ⟨hi_3, hf⟩ := ckI_sp hf
      refine va_iald hx hb hK hP 1 0 rfl rfl hi_3 dX7_ofCell_58 ?_
      exact W.iret (v := f7_offset (((12 : Int32) * p1) + p2).toNatClampNeg) hx hb hr (fun t ht hW => ⟨⟨_, (), rfl, Option.some.inj hf, ht⟩, hS.F ht⟩) hS.2.2 dX7_ofCell_59
    · have hf := it_n hs2 hf
      by_cases hs4 : p3 = (1 : Int32)
      · refine lv_tableIn (tgt := 60) (off := 41) hx hb dX7_ofCell_19 (by rw [hs4]; decide) (by rw [hs4]; decide) (by rw [hs4]; rfl) (by decide) ?_
        have hf := it_p hs4 hf
        refine lv_aload_n hx hb dX7_ofCell_60 rfl (lv_at hl 1 rfl) ?_
        refine va_get (D := (dC, dI)) (ci := 6) (v := .ref a7_gain) (C := RX7) (T := TX7) (N := 30) hx hb hts hiX7 hown hK hP 0 rfl rfl 1 (by decide) (hts (.fieldLink RX7 13 "PageLinesModel" "gain" "[I") (List.mem_of_getElem? (i := 2) rfl)) (fun _ h9 => h9) rfl dX7_ofCell_61 ?_
        refine lv_iload hx hb dX7_ofCell_64 (lv_at hl 0 rfl) ?_
        obtain ⟨hi_5, hf⟩ := ckI_sp hf
        refine va_iald hx hb hK hP 2 0 rfl rfl hi_5 dX7_ofCell_66 ?_
        exact W.iret (v := f7_gain (((12 : Int32) * p1) + p2).toNatClampNeg) hx hb hr (fun t ht hW => ⟨⟨_, (), rfl, Option.some.inj hf, ht⟩, hS.F ht⟩) hS.2.2 dX7_ofCell_67
      · have hf := it_n hs4 hf
        by_cases hs6 : p3 = (2 : Int32)
        · refine lv_tableIn (tgt := 68) (off := 49) hx hb dX7_ofCell_19 (by rw [hs6]; decide) (by rw [hs6]; decide) (by rw [hs6]; rfl) (by decide) ?_
          have hf := it_p hs6 hf
          refine lv_aload_n hx hb dX7_ofCell_68 rfl (lv_at hl 1 rfl) ?_
          refine va_get (D := (dC, dI)) (ci := 6) (v := .ref a7_dark) (C := RX7) (T := TX7) (N := 30) hx hb hts hiX7 hown hK hP 0 rfl rfl 2 (by decide) (hts (.fieldLink RX7 16 "PageLinesModel" "dark" "[I") (List.mem_of_getElem? (i := 3) rfl)) (fun _ h9 => h9) rfl dX7_ofCell_69 ?_
          refine lv_iload hx hb dX7_ofCell_72 (lv_at hl 0 rfl) ?_
          obtain ⟨hi_7, hf⟩ := ckI_sp hf
          refine va_iald hx hb hK hP 3 0 rfl rfl hi_7 dX7_ofCell_74 ?_
          exact W.iret (v := f7_dark (((12 : Int32) * p1) + p2).toNatClampNeg) hx hb hr (fun t ht hW => ⟨⟨_, (), rfl, Option.some.inj hf, ht⟩, hS.F ht⟩) hS.2.2 dX7_ofCell_75
        · have hf := it_n hs6 hf
          by_cases hs8 : p3 = (3 : Int32)
          · refine lv_tableIn (tgt := 76) (off := 57) hx hb dX7_ofCell_19 (by rw [hs8]; decide) (by rw [hs8]; decide) (by rw [hs8]; rfl) (by decide) ?_
            have hf := it_p hs8 hf
            refine lv_aload_n hx hb dX7_ofCell_76 rfl (lv_at hl 1 rfl) ?_
            refine va_get (D := (dC, dI)) (ci := 6) (v := .ref a7_bright) (C := RX7) (T := TX7) (N := 30) hx hb hts hiX7 hown hK hP 0 rfl rfl 3 (by decide) (hts (.fieldLink RX7 19 "PageLinesModel" "bright" "[I") (List.mem_of_getElem? (i := 4) rfl)) (fun _ h9 => h9) rfl dX7_ofCell_77 ?_
            refine lv_iload hx hb dX7_ofCell_80 (lv_at hl 0 rfl) ?_
            obtain ⟨hi_9, hf⟩ := ckI_sp hf
            refine va_iald hx hb hK hP 4 0 rfl rfl hi_9 dX7_ofCell_82 ?_
            exact W.iret (v := f7_bright (((12 : Int32) * p1) + p2).toNatClampNeg) hx hb hr (fun t ht hW => ⟨⟨_, (), rfl, Option.some.inj hf, ht⟩, hS.F ht⟩) hS.2.2 dX7_ofCell_83
          · have hf := it_n hs8 hf
            by_cases hs10 : p3 = (4 : Int32)
            · refine lv_tableIn (tgt := 84) (off := 65) hx hb dX7_ofCell_19 (by rw [hs10]; decide) (by rw [hs10]; decide) (by rw [hs10]; rfl) (by decide) ?_
              have hf := it_p hs10 hf
              refine lv_aload_n hx hb dX7_ofCell_84 rfl (lv_at hl 1 rfl) ?_
              refine lv_iload hx hb dX7_ofCell_85 (lv_at hl 0 rfl) ?_
              obtain ⟨r11, hr11, hf⟩ := cl1_sp hf
              refine ro_V (As := [.int (((12 : Int32) * p1) + p2)]) ⟨hx, hb, hml, hown, hts⟩ (kX7_isLive l dC dI cy _ a7 a7_offset a7_gain a7_dark a7_bright a7_fromRow a7_toRow a7_left a7_right a7_slant a7_tintOf a7_speckOf a7_leadOf a7_stepKind a7_stepBy a7_pixels f7_offset f7_gain f7_dark f7_bright v7_ground v7_patches f7_fromRow f7_toRow f7_left f7_right f7_slant f7_tintOf f7_speckOf f7_leadOf v7_steps f7_stepKind f7_stepBy v7_threshold v7_isOn v7_lines v7_done v7_taken v7_lastPosition v7_position v7_mode v7_next v7_outs v7_stops v7_ticks f7_pixels (((12 : Int32) * p1) + p2) r11 hr11) (cwV 1 hts gX7_ofCell_X7_isLive rfl rfl rfl (by decide +kernel) ⟨Nat.le_of_ble_eq_true rfl, Nat.le_of_ble_eq_true rfl⟩) (va_recv hK hP (ci := 6) (q0 := 0) rfl rfl) (hP.sub [0, 1, 2, 3, 4, 5, 6, 7, 8, 9, 10, 11, 12, 13, 14, 15] rfl) hK hS rfl hl.1 rfl (Nat.le_of_ble_eq_true rfl) dX7_ofCell_87 (Nat.zero_le _) (Nat.zero_le _) (fun locs hS => ?_)
              refine lv_if_eq (tgt := 97) hx hb dX7_ofCell_90 (by decide) (fun hc => ?_) (fun hc => ?_)
              · have hf := it_p hc hf
                refine lv_iconst (v := (0 : Int32)) hx hb dX7_ofCell_97 (by decide) ?_
                exact W.iret (v := (0 : Int32)) hx hb hr (fun t ht hW => ⟨⟨_, (), rfl, Option.some.inj hf, ht⟩, hS.F ht⟩) hS.2.2 dX7_ofCell_98
              · have hf := it_n hc hf
                refine lv_iconst (v := (1 : Int32)) hx hb dX7_ofCell_93 (by decide) ?_
                refine lv_goto (tgt := 98) hx hb dX7_ofCell_94 (by decide) ?_
                exact W.iret (v := (1 : Int32)) hx hb hr (fun t ht hW => ⟨⟨_, (), rfl, Option.some.inj hf, ht⟩, hS.F ht⟩) hS.2.2 dX7_ofCell_98
            · have hf := it_n hs10 hf
              refine lv_tableOut (tgt := 99) hx hb dX7_ofCell_19 (by have e0 := lv_neT hs2 (show ((0 : Int32)).toInt = 0 from by decide); have e1 := lv_neT hs4 (show ((1 : Int32)).toInt = 1 from by decide); have e2 := lv_neT hs6 (show ((2 : Int32)).toInt = 2 from by decide); have e3 := lv_neT hs8 (show ((3 : Int32)).toInt = 3 from by decide); have e4 := lv_neT hs10 (show ((4 : Int32)).toInt = 4 from by decide); omega) (by decide) ?_
              refine lv_bipush (v := (-2 : Int32)) hx hb dX7_ofCell_99 (by decide) ?_
              exact W.iret (v := (-2 : Int32)) hx hb hr (fun t ht hW => ⟨⟨_, (), rfl, Option.some.inj hf, ht⟩, hS.F ht⟩) hS.2.2 dX7_ofCell_101
  · have hf := it_p hc hf
    refine lv_iconst (v := (-1 : Int32)) hx hb dX7_ofCell_8 (by decide) ?_
    exact W.iret (v := (-1 : Int32)) hx hb hr (fun t ht hW => ⟨⟨_, (), rfl, Option.some.inj hf, ht⟩, hS.F ht⟩) hS.2.2 dX7_ofCell_9
set_option maxHeartbeats 4000000 in
set_option maxRecDepth 100000 in
theorem kX7_reading (l : Launch) (dC : Nat → ClassId) (dI : Nat → Nat → Nat) (cy : ClassId) (H : Heap) (a7 a7_offset a7_gain a7_dark a7_bright a7_fromRow a7_toRow a7_left a7_right a7_slant a7_tintOf a7_speckOf a7_leadOf a7_stepKind a7_stepBy a7_pixels : Nat) (f7_offset : Nat → Int32) (f7_gain : Nat → Int32) (f7_dark : Nat → Int32) (f7_bright : Nat → Int32) (v7_ground : Int32) (v7_patches : Int32) (f7_fromRow : Nat → Int32) (f7_toRow : Nat → Int32) (f7_left : Nat → Int32) (f7_right : Nat → Int32) (f7_slant : Nat → Int32) (f7_tintOf : Nat → Int32) (f7_speckOf : Nat → Int32) (f7_leadOf : Nat → Int32) (v7_steps : Int32) (f7_stepKind : Nat → Int32) (f7_stepBy : Nat → Int32) (v7_threshold : Int32) (v7_isOn : Int32) (v7_lines : Int32) (v7_done : Int32) (v7_taken : Int32) (v7_lastPosition : Int32) (v7_position : Int32) (v7_mode : Int32) (v7_next : Int32) (v7_outs : Int32) (v7_stops : Int32) (v7_ticks : Int32) (f7_pixels : Nat → Int32) (p1 : Int32) (p2 : Int32) (p3 : Int32) (r : Int32) (hf : fX7_reading f7_offset f7_gain p1 p2 p3 = some r) : Met l yX7_reading wsX7_reading ({ frames := 3, cells := 0, slots := 0, locals := 63 }) (roP [.ref a7, .int p1, .int p2, .int p3] (dC, dI) vwCl (WX7 cy a7 a7_offset a7_gain a7_dark a7_bright a7_fromRow a7_toRow a7_left a7_right a7_slant a7_tintOf a7_speckOf a7_leadOf a7_stepKind a7_stepBy a7_pixels f7_offset f7_gain f7_dark f7_bright v7_ground v7_patches f7_fromRow f7_toRow f7_left f7_right f7_slant f7_tintOf f7_speckOf f7_leadOf v7_steps f7_stepKind f7_stepBy v7_threshold v7_isOn v7_lines v7_done v7_taken v7_lastPosition v7_position v7_mode v7_next v7_outs v7_stops v7_ticks f7_pixels) [(cy, .int)] H) (roQi r H) 0 0 (fun _ => False) := by
  refine Met.ofW (cc := cX7_reading) (maxL := 4) (ret := (some .int)) (by decide) rfl ?_
  intro p e s m args below meth c s₁ B hml hv
  obtain ⟨rfl, hH, hP, hK⟩ := hv
  have hx := B.exec
  have hb := B.bytes
  have hr := B.returns
  have hts := atoms_spec (ws := wsX7_reading) B.pre
  have hown : s.vm.findClass RX7 = some m.cls := findClass_of_methodNamed B.named
  have hlocks := B.notSynchronized
  have hiX7 : ∀ w ∈ u_ws RX7 TX7 30, w ∈ wsX7_reading := fun _ h => List.mem_cons_of_mem _ ((List.mem_append_right _ h))
  subst hH
  have hS : va_S (fun _ => False) s.heap s.heap [] := va_S.rf
  have hl := lv_entry ([.ref a7, .int p1, .int p2, .int p3]) (n := 4) (Nat.le_of_ble_eq_true rfl)
  rw [lg_entry_eq]
  generalize (lg_sl ([.ref a7, .int p1, .int p2, .int p3]) ++ List.replicate (4 - (lg_sl ([.ref a7, .int p1, .int p2, .int p3])).length) Slot.unset).toArray = ls at hl ⊢
  have hl : lv_has ls 4 [(0, .ref a7), (1, .int p1), (2, .int p2), (3, .int p3)] := hl
  unfold fX7_reading at hf
  refine lv_iload_n hx hb dX7_reading_0 rfl (lv_at hl 1 rfl) ?_
  refine lv_iload_n hx hb dX7_reading_1 rfl (lv_at hl 2 rfl) ?_
  obtain ⟨r1, hr1, hf⟩ := cl1_sp hf
  refine ro_S (As := [.int p1, .int p2]) ⟨hx, hb, hml, hown, hts⟩ (kX7_isCell l _ p1 p2 r1 hr1) (va_cwS 2 hts gX7_reading_X7_isCell rfl rfl rfl (by decide +kernel) ⟨Nat.le_of_ble_eq_true rfl, Nat.le_of_ble_eq_true rfl⟩) hS rfl hl.1 rfl (Nat.le_of_ble_eq_true rfl) dX7_reading_2 (Nat.zero_le _) (Nat.zero_le _) (fun locs hS => ?_)
  refine lv_if_ne (tgt := 10) hx hb dX7_reading_5 (by decide) (fun hc => ?_) (fun hc => ?_)
  · have hf := it_n hc hf
    refine lv_iload_n hx hb dX7_reading_10 rfl (lv_at hl 3 rfl) ?_
    refine lv_iconst (v := (0 : Int32)) hx hb dX7_reading_11 (by decide) ?_
    refine lv_sipush (v := (255 : Int32)) hx hb dX7_reading_12 (by decide) ?_
    obtain ⟨r2, hr2, hf⟩ := cl1_sp hf
    refine ro_S (As := [.int p3, .int (0 : Int32), .int (255 : Int32)]) ⟨hx, hb, hml, hown, hts⟩ (kX7_within l _ p3 (0 : Int32) (255 : Int32) r2 hr2) (va_cwS 3 hts gX7_reading_X7_within rfl rfl rfl (by decide +kernel) ⟨Nat.le_of_ble_eq_true rfl, Nat.le_of_ble_eq_true rfl⟩) hS rfl hl.1 rfl (Nat.le_of_ble_eq_true rfl) dX7_reading_15 (Nat.zero_le _) (Nat.zero_le _) (fun locs hS => ?_)
    refine lv_if_eq (tgt := 35) hx hb dX7_reading_18 (by decide) (fun hc => ?_) (fun hc => ?_)
    · have hf := it_p hc hf
      refine lv_bipush (v := (-2 : Int32)) hx hb dX7_reading_35 (by decide) ?_
      exact W.iret (v := (-2 : Int32)) hx hb hr (fun t ht hW => ⟨⟨_, (), rfl, Option.some.inj hf, ht⟩, hS.F ht⟩) hS.2.2 dX7_reading_37
    · have hf := it_n hc hf
      refine lv_aload_n hx hb dX7_reading_21 rfl (lv_at hl 0 rfl) ?_
      refine lv_bipush (v := (12 : Int32)) hx hb dX7_reading_22 (by decide) ?_
      refine lv_iload_n hx hb dX7_reading_24 rfl (lv_at hl 1 rfl) ?_
      refine lv_imul hx hb dX7_reading_25 ?_
      refine lv_iload_n hx hb dX7_reading_26 rfl (lv_at hl 2 rfl) ?_
      refine lv_iadd hx hb dX7_reading_27 ?_
      refine lv_iload_n hx hb dX7_reading_28 rfl (lv_at hl 3 rfl) ?_
      obtain ⟨r3, hr3, hf⟩ := cl1_sp hf
      refine ro_V (As := [.int (((12 : Int32) * p1) + p2), .int p3]) ⟨hx, hb, hml, hown, hts⟩ (kX7_readingOf l dC dI cy _ a7 a7_offset a7_gain a7_dark a7_bright a7_fromRow a7_toRow a7_left a7_right a7_slant a7_tintOf a7_speckOf a7_leadOf a7_stepKind a7_stepBy a7_pixels f7_offset f7_gain f7_dark f7_bright v7_ground v7_patches f7_fromRow f7_toRow f7_left f7_right f7_slant f7_tintOf f7_speckOf f7_leadOf v7_steps f7_stepKind f7_stepBy v7_threshold v7_isOn v7_lines v7_done v7_taken v7_lastPosition v7_position v7_mode v7_next v7_outs v7_stops v7_ticks f7_pixels (((12 : Int32) * p1) + p2) p3 r3 hr3) (cwV 2 hts gX7_reading_X7_readingOf rfl rfl rfl (by decide +kernel) ⟨Nat.le_of_ble_eq_true rfl, Nat.le_of_ble_eq_true rfl⟩) (va_recv hK hP (ci := 6) (q0 := 0) rfl rfl) (hP.sub [0, 1, 2, 3, 4, 5, 6, 7, 8, 9, 10, 11, 12, 13, 14, 15] rfl) hK hS rfl hl.1 rfl (Nat.le_of_ble_eq_true rfl) dX7_reading_29 (Nat.zero_le _) (Nat.zero_le _) (fun locs hS => ?_)
      refine lv_goto (tgt := 37) hx hb dX7_reading_32 (by decide) ?_
      exact W.iret (v := r3) hx hb hr (fun t ht hW => ⟨⟨_, (), rfl, Option.some.inj hf, ht⟩, hS.F ht⟩) hS.2.2 dX7_reading_37
  · have hf := it_p hc hf
    refine lv_iconst (v := (-1 : Int32)) hx hb dX7_reading_8 (by decide) ?_
    exact W.iret (v := (-1 : Int32)) hx hb hr (fun t ht hW => ⟨⟨_, (), rfl, Option.some.inj hf, ht⟩, hS.F ht⟩) hS.2.2 dX7_reading_9

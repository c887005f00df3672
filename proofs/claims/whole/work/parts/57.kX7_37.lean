set_option maxHeartbeats 4000000 in
set_option maxRecDepth 100000 in
theorem kX7_longestOf (l : Launch) (dC : Nat → ClassId) (dI : Nat → Nat → Nat) (cy : ClassId) (H : Heap) (a7 a7_offset a7_gain a7_dark a7_bright a7_fromRow a7_toRow a7_left a7_right a7_slant a7_tintOf a7_speckOf a7_leadOf a7_stepKind a7_stepBy a7_pixels : Nat) (f7_offset : Nat → Int32) (f7_gain : Nat → Int32) (f7_dark : Nat → Int32) (f7_bright : Nat → Int32) (v7_ground : Int32) (v7_patches : Int32) (f7_fromRow : Nat → Int32) (f7_toRow : Nat → Int32) (f7_left : Nat → Int32) (f7_right : Nat → Int32) (f7_slant : Nat → Int32) (f7_tintOf : Nat → Int32) (f7_speckOf : Nat → Int32) (f7_leadOf : Nat → Int32) (v7_steps : Int32) (f7_stepKind : Nat → Int32) (f7_stepBy : Nat → Int32) (v7_threshold : Int32) (v7_isOn : Int32) (v7_lines : Int32) (v7_done : Int32) (v7_taken : Int32) (v7_lastPosition : Int32) (v7_position : Int32) (v7_mode : Int32) (v7_next : Int32) (v7_outs : Int32) (v7_stops : Int32) (v7_ticks : Int32) (f7_pixels : Nat → Int32) (p1 : Int32) (r : Int32) (hf : fX7_longestOf v7_taken f7_pixels p1 = some r) : Met l yX7_longestOf wsX7_longestOf ({ frames := 3, cells := 0, slots := 0, locals := 68 }) (roP [.ref a7, .int p1] (dC, dI) vwCl (WX7 cy a7 a7_offset a7_gain a7_dark a7_bright a7_fromRow a7_toRow a7_left a7_right a7_slant a7_tintOf a7_speckOf a7_leadOf a7_stepKind a7_stepBy a7_pixels f7_offset f7_gain f7_dark f7_bright v7_ground v7_patches f7_fromRow f7_toRow f7_left f7_right f7_slant f7_tintOf f7_speckOf f7_leadOf v7_steps f7_stepKind f7_stepBy v7_threshold v7_isOn v7_lines v7_done v7_taken v7_lastPosition v7_position v7_mode v7_next v7_outs v7_stops v7_ticks f7_pixels) [(cy, .int)] H) (roQi r H) 0 0 (fun _ => False) := by
  refine Met.ofW (cc := cX7_longestOf) (maxL := 7) (ret := (some .int)) (by decide) rfl ?_
  intro p e s m args below meth c s₁ B hml hv
  obtain ⟨rfl, hH, hP, hK⟩ := hv
  have hx := B.exec
  have hb := B.bytes
  have hr := B.returns
  have hts := atoms_spec (ws := wsX7_longestOf) B.pre
  have hown : s.vm.findClass RX7 = some m.cls := findClass_of_methodNamed B.named
  have hlocks := B.notSynchronized
  have hiX7 : ∀ w ∈ u_ws RX7 TX7 30, w ∈ wsX7_longestOf := fun _ h => List.mem_cons_of_mem _ ((List.mem_append_right _ h))
  subst hH
  have hS : va_S (fun _ => False) s.heap s.heap [] := va_S.rf
  have hb_7 : ∀ (n : Nat) (x1 : Int32) (x2 : Int32) (x3 : Int32) (x4 : Int32), bX7_longestOf_7 v7_taken f7_pixels n x1 x2 x3 x4 = some r → ∀ (locs : List Loc) (ls : Array Slot), va_S (fun _ => False) s.heap s.heap locs → lv_has ls 7 [(0, .ref a7), (1, .int x1), (2, .int x2), (3, .int x3), (4, .int x4)] → W p l e (headSpec wsX7_longestOf ({ frames := 3, cells := 0, slots := 0, locals := 68 })).room s m ([.ref a7, .int p1] : List Value).toArray below meth c s.heap locs 0 0 (MQ below (roQi r s.heap) ([.ref a7, .int p1] : List Value).toArray s 0 0 (fun _ => False)) (F0 m 7 ls []) := by
    intro n
    induction n with
    | zero => intro x1 x2 x3 x4 hf; rw [bX7_longestOf_7] at hf; cases hf
    | succ n7 ih7 =>
      intro x1 x2 x3 x4 hf locs ls hS hl
      rw [bX7_longestOf_7] at hf
      refine lv_iload hx hb dX7_longestOf_7 (lv_at hl 4 rfl) ?_
      refine lv_aload_n hx hb dX7_longestOf_9 rfl (lv_at hl 0 rfl) ?_
      refine va_get (D := (dC, dI)) (ci := 6) (v := .int v7_taken) (C := RX7) (T := TX7) (N := 30) hx hb hts hiX7 hown hK hP 0 rfl rfl 21 (by decide) (hts (.fieldLink RX7 154 "PageLinesModel" "taken" "I") (List.mem_of_getElem? (i := 1) rfl)) (fun _ h9 => h9) rfl dX7_longestOf_10 ?_
      refine lv_icmp_ge (tgt := 90) hx hb dX7_longestOf_13 (by decide) (fun hc => ?_) (fun hc => ?_)
      · have hf := it_p hc hf
        refine lv_iload_n hx hb dX7_longestOf_90 rfl (lv_at hl 2 rfl) ?_
        exact W.iret (v := x2) hx hb hr (fun t ht hW => ⟨⟨_, (), rfl, Option.some.inj hf, ht⟩, hS.F ht⟩) hS.2.2 dX7_longestOf_91
      · have hf := it_n hc hf
        refine lv_aload_n hx hb dX7_longestOf_16 rfl (lv_at hl 0 rfl) ?_
        refine lv_iload hx hb dX7_longestOf_17 (lv_at hl 4 rfl) ?_
        refine lv_iload_n hx hb dX7_longestOf_19 rfl (lv_at hl 1 rfl) ?_
        obtain ⟨r3, hr3, hf⟩ := cl1_sp hf
        refine ro_V (As := [.int x4, .int x1]) ⟨hx, hb, hml, hown, hts⟩ (kX7_sticks l dC dI cy _ a7 a7_offset a7_gain a7_dark a7_bright a7_fromRow a7_toRow a7_left a7_right a7_slant a7_tintOf a7_speckOf a7_leadOf a7_stepKind a7_stepBy a7_pixels f7_offset f7_gain f7_dark f7_bright v7_ground v7_patches f7_fromRow f7_toRow f7_left f7_right f7_slant f7_tintOf f7_speckOf f7_leadOf v7_steps f7_stepKind f7_stepBy v7_threshold v7_isOn v7_lines v7_done v7_taken v7_lastPosition v7_position v7_mode v7_next v7_outs v7_stops v7_ticks f7_pixels x4 x1 r3 hr3) (cwV 2 hts gX7_longestOf_X7_sticks rfl rfl rfl (by decide +kernel) ⟨Nat.le_of_ble_eq_true rfl, Nat.le_of_ble_eq_true rfl⟩) (va_recv hK hP (ci := 6) (q0 := 0) rfl rfl) (hP.sub [0, 1, 2, 3, 4, 5, 6, 7, 8, 9, 10, 11, 12, 13, 14, 15] rfl) hK hS rfl hl.1 rfl (Nat.le_of_ble_eq_true rfl) dX7_longestOf_20 (Nat.zero_le _) (Nat.zero_le _) (fun locs hS => ?_)
        refine lv_istore (lv' := [(5, .int r3), (0, .ref a7), (1, .int x1), (2, .int x2), (3, .int x3), (4, .int x4)]) hx hb dX7_longestOf_23 hl (by decide) rfl (fun ls hl => ?_)
        refine lv_iload hx hb dX7_longestOf_25 (lv_at hl 5 rfl) ?_
        refine lv_if_le (tgt := 48) hx hb dX7_longestOf_27 (by decide) (fun hc => ?_) (fun hc => ?_)
        · have hf := it_p hc hf
          refine lv_iconst (v := (0 : Int32)) hx hb dX7_longestOf_48 (by decide) ?_
          refine lv_istore (lv' := [(6, .int (0 : Int32)), (5, .int r3), (0, .ref a7), (1, .int x1), (2, .int x2), (3, .int x3), (4, .int x4)]) hx hb dX7_longestOf_49 hl (by decide) rfl (fun ls hl => ?_)
          refine lv_iload hx hb dX7_longestOf_51 (lv_at hl 1 rfl) ?_
          refine lv_if_ne (tgt := 60) hx hb dX7_longestOf_53 (by decide) (fun hc => ?_) (fun hc => ?_)
          · have hf := it_n hc hf
            refine lv_iload hx hb dX7_longestOf_60 (lv_at hl 0 rfl) ?_
            refine lv_if_eq (tgt := 71) hx hb dX7_longestOf_62 (by decide) (fun _ => ?_) (fun hc => absurd (by decide) hc)
            refine lv_iconst (v := (1 : Int32)) hx hb dX7_longestOf_71 (by decide) ?_
            refine lv_istore_n (lv' := [(3, .int (1 : Int32)), (6, .int (0 : Int32)), (5, .int r3), (0, .ref a7), (1, .int x1), (2, .int x2), (4, .int x4)]) hx hb dX7_longestOf_72 rfl hl (by decide) rfl (fun ls hl => ?_)
            refine lv_iload_n hx hb dX7_longestOf_73 rfl (lv_at hl 0 rfl) ?_
            refine lv_iload_n hx hb dX7_longestOf_74 rfl (lv_at hl 5 rfl) ?_
            refine lv_icmp_le (tgt := 82) hx hb dX7_longestOf_75 (by decide) (fun hc => ?_) (fun hc => ?_)
            · have hf := it_p hc hf
              refine lv_iload_n hx hb dX7_longestOf_82 rfl (lv_at hl 5 rfl) ?_
              refine lv_istore_n (lv' := [(2, .int x2), (3, .int (1 : Int32)), (6, .int (0 : Int32)), (5, .int r3), (0, .ref a7), (1, .int x1), (4, .int x4)]) hx hb dX7_longestOf_83 rfl hl (by decide) rfl (fun ls hl => ?_)
              refine lv_iinc (v := x4 + (1 : Int32)) (lv' := [(4, .int (x4 + (1 : Int32))), (2, .int x2), (3, .int (1 : Int32)), (6, .int (0 : Int32)), (5, .int r3), (0, .ref a7), (1, .int x1)]) hx hb dX7_longestOf_84 hl (k := 6) rfl rfl (by decide) rfl (fun ls hl => ?_)
              refine lv_goto (tgt := 7) hx hb dX7_longestOf_87 (by decide) ?_
              exact ih7 x1 x2 (1 : Int32) (x4 + (1 : Int32)) hf _ _ hS (lv_sub hl [5, 6, 1, 2, 0] rfl)
            · have hf := it_n hc hf
              refine lv_iload_n hx hb dX7_longestOf_78 rfl (lv_at hl 0 rfl) ?_
              refine lv_goto (tgt := 83) hx hb dX7_longestOf_79 (by decide) ?_
              refine lv_istore_n (lv' := [(2, .int (1 : Int32)), (3, .int (1 : Int32)), (6, .int (0 : Int32)), (5, .int r3), (0, .ref a7), (1, .int x1), (4, .int x4)]) hx hb dX7_longestOf_83 rfl hl (by decide) rfl (fun ls hl => ?_)
              refine lv_iinc (v := x4 + (1 : Int32)) (lv' := [(4, .int (x4 + (1 : Int32))), (2, .int (1 : Int32)), (3, .int (1 : Int32)), (6, .int (0 : Int32)), (5, .int r3), (0, .ref a7), (1, .int x1)]) hx hb dX7_longestOf_84 hl (k := 6) rfl rfl (by decide) rfl (fun ls hl => ?_)
              refine lv_goto (tgt := 7) hx hb dX7_longestOf_87 (by decide) ?_
              exact ih7 x1 (1 : Int32) (1 : Int32) (x4 + (1 : Int32)) hf _ _ hS (lv_sub hl [5, 6, 1, 2, 0] rfl)
          · have hf := it_p hc hf
            refine lv_iconst (v := (0 : Int32)) hx hb dX7_longestOf_56 (by decide) ?_
            refine lv_goto (tgt := 72) hx hb dX7_longestOf_57 (by decide) ?_
            refine lv_istore_n (lv' := [(3, .int (0 : Int32)), (6, .int (0 : Int32)), (5, .int r3), (0, .ref a7), (1, .int x1), (2, .int x2), (4, .int x4)]) hx hb dX7_longestOf_72 rfl hl (by decide) rfl (fun ls hl => ?_)
            refine lv_iload_n hx hb dX7_longestOf_73 rfl (lv_at hl 0 rfl) ?_
            refine lv_iload_n hx hb dX7_longestOf_74 rfl (lv_at hl 5 rfl) ?_
            refine lv_icmp_le (tgt := 82) hx hb dX7_longestOf_75 (by decide) (fun hc => ?_) (fun hc => ?_)
            · have hf := it_p hc hf
              refine lv_iload_n hx hb dX7_longestOf_82 rfl (lv_at hl 5 rfl) ?_
              refine lv_istore_n (lv' := [(2, .int x2), (3, .int (0 : Int32)), (6, .int (0 : Int32)), (5, .int r3), (0, .ref a7), (1, .int x1), (4, .int x4)]) hx hb dX7_longestOf_83 rfl hl (by decide) rfl (fun ls hl => ?_)
              refine lv_iinc (v := x4 + (1 : Int32)) (lv' := [(4, .int (x4 + (1 : Int32))), (2, .int x2), (3, .int (0 : Int32)), (6, .int (0 : Int32)), (5, .int r3), (0, .ref a7), (1, .int x1)]) hx hb dX7_longestOf_84 hl (k := 6) rfl rfl (by decide) rfl (fun ls hl => ?_)
              refine lv_goto (tgt := 7) hx hb dX7_longestOf_87 (by decide) ?_
              exact ih7 x1 x2 (0 : Int32) (x4 + (1 : Int32)) hf _ _ hS (lv_sub hl [5, 6, 1, 2, 0] rfl)
            · have hf := it_n hc hf
              refine lv_iload_n hx hb dX7_longestOf_78 rfl (lv_at hl 0 rfl) ?_
              refine lv_goto (tgt := 83) hx hb dX7_longestOf_79 (by decide) ?_
              refine lv_istore_n (lv' := [(2, .int (0 : Int32)), (3, .int (0 : Int32)), (6, .int (0 : Int32)), (5, .int r3), (0, .ref a7), (1, .int x1), (4, .int x4)]) hx hb dX7_longestOf_83 rfl hl (by decide) rfl (fun ls hl => ?_)
              refine lv_iinc (v := x4 + (1 : Int32)) (lv' := [(4, .int (x4 + (1 : Int32))), (2, .int (0 : Int32)), (3, .int (0 : Int32)), (6, .int (0 : Int32)), (5, .int r3), (0, .ref a7), (1, .int x1)]) hx hb dX7_longestOf_84 hl (k := 6) rfl rfl (by decide) rfl (fun ls hl => ?_)
              refine lv_goto (tgt := 7) hx hb dX7_longestOf_87 (by decide) ?_
              exact ih7 x1 (0 : Int32) (0 : Int32) (x4 + (1 : Int32)) hf _ _ hS (lv_sub hl [5, 6, 1, 2, 0] rfl)
        · have hf := it_n hc hf
          refine lv_iload hx hb dX7_longestOf_30 (lv_at hl 0 rfl) ?_
          refine lv_aload_n hx hb dX7_longestOf_32 rfl (lv_at hl 1 rfl) ?_
          refine lv_iload hx hb dX7_longestOf_33 (lv_at hl 5 rfl) ?_
          refine lv_iconst (v := (1 : Int32)) hx hb dX7_longestOf_35 (by decide) ?_
          refine lv_isub hx hb dX7_longestOf_36 ?_
          refine lv_iload_n hx hb dX7_longestOf_37 rfl (lv_at hl 2 rfl) ?_
          obtain ⟨r4, hr4, hf⟩ := cl1_sp hf
          refine ro_V (As := [.int (x4 - (1 : Int32)), .int x1]) ⟨hx, hb, hml, hown, hts⟩ (kX7_sticks l dC dI cy _ a7 a7_offset a7_gain a7_dark a7_bright a7_fromRow a7_toRow a7_left a7_right a7_slant a7_tintOf a7_speckOf a7_leadOf a7_stepKind a7_stepBy a7_pixels f7_offset f7_gain f7_dark f7_bright v7_ground v7_patches f7_fromRow f7_toRow f7_left f7_right f7_slant f7_tintOf f7_speckOf f7_leadOf v7_steps f7_stepKind f7_stepBy v7_threshold v7_isOn v7_lines v7_done v7_taken v7_lastPosition v7_position v7_mode v7_next v7_outs v7_stops v7_ticks f7_pixels (x4 - (1 : Int32)) x1 r4 hr4) (cwV 2 hts gX7_longestOf_X7_sticks rfl rfl rfl (by decide +kernel) ⟨Nat.le_of_ble_eq_true rfl, Nat.le_of_ble_eq_true rfl⟩) (va_recv hK hP (ci := 6) (q0 := 0) rfl rfl) (hP.sub [0, 1, 2, 3, 4, 5, 6, 7, 8, 9, 10, 11, 12, 13, 14, 15] rfl) hK hS rfl hl.1 rfl (Nat.le_of_ble_eq_true rfl) dX7_longestOf_38 (Nat.zero_le _) (Nat.zero_le _) (fun locs hS => ?_)
          refine lv_icmp_ne (tgt := 48) hx hb dX7_longestOf_41 (by decide) (fun hc => ?_) (fun hc => ?_)
          · have hf := it_n hc hf
            refine lv_iconst (v := (0 : Int32)) hx hb dX7_longestOf_48 (by decide) ?_
            refine lv_istore (lv' := [(6, .int (0 : Int32)), (5, .int r3), (0, .ref a7), (1, .int x1), (2, .int x2), (3, .int x3), (4, .int x4)]) hx hb dX7_longestOf_49 hl (by decide) rfl (fun ls hl => ?_)
            refine lv_iload hx hb dX7_longestOf_51 (lv_at hl 1 rfl) ?_
            refine lv_if_ne (tgt := 60) hx hb dX7_longestOf_53 (by decide) (fun hc => ?_) (fun hc => ?_)
            · have hf := it_n hc hf
              refine lv_iload hx hb dX7_longestOf_60 (lv_at hl 0 rfl) ?_
              refine lv_if_eq (tgt := 71) hx hb dX7_longestOf_62 (by decide) (fun _ => ?_) (fun hc => absurd (by decide) hc)
              refine lv_iconst (v := (1 : Int32)) hx hb dX7_longestOf_71 (by decide) ?_
              refine lv_istore_n (lv' := [(3, .int (1 : Int32)), (6, .int (0 : Int32)), (5, .int r3), (0, .ref a7), (1, .int x1), (2, .int x2), (4, .int x4)]) hx hb dX7_longestOf_72 rfl hl (by decide) rfl (fun ls hl => ?_)
              refine lv_iload_n hx hb dX7_longestOf_73 rfl (lv_at hl 0 rfl) ?_
              refine lv_iload_n hx hb dX7_longestOf_74 rfl (lv_at hl 5 rfl) ?_
              refine lv_icmp_le (tgt := 82) hx hb dX7_longestOf_75 (by decide) (fun hc => ?_) (fun hc => ?_)
              · have hf := it_p hc hf
                refine lv_iload_n hx hb dX7_longestOf_82 rfl (lv_at hl 5 rfl) ?_
                refine lv_istore_n (lv' := [(2, .int x2), (3, .int (1 : Int32)), (6, .int (0 : Int32)), (5, .int r3), (0, .ref a7), (1, .int x1), (4, .int x4)]) hx hb dX7_longestOf_83 rfl hl (by decide) rfl (fun ls hl => ?_)
                refine lv_iinc (v := x4 + (1 : Int32)) (lv' := [(4, .int (x4 + (1 : Int32))), (2, .int x2), (3, .int (1 : Int32)), (6, .int (0 : Int32)), (5, .int r3), (0, .ref a7), (1, .int x1)]) hx hb dX7_longestOf_84 hl (k := 6) rfl rfl (by decide) rfl (fun ls hl => ?_)
                refine lv_goto (tgt := 7) hx hb dX7_longestOf_87 (by decide) ?_
                exact ih7 x1 x2 (1 : Int32) (x4 + (1 : Int32)) hf _ _ hS (lv_sub hl [5, 6, 1, 2, 0] rfl)
              · have hf := it_n hc hf
                refine lv_iload_n hx hb dX7_longestOf_78 rfl (lv_at hl 0 rfl) ?_
                refine lv_goto (tgt := 83) hx hb dX7_longestOf_79 (by decide) ?_
                refine lv_istore_n (lv' := [(2, .int (1 : Int32)), (3, .int (1 : Int32)), (6, .int (0 : Int32)), (5, .int r3), (0, .ref a7), (1, .int x1), (4, .int x4)]) hx hb dX7_longestOf_83 rfl hl (by decide) rfl (fun ls hl => ?_)
                refine lv_iinc (v := x4 + (1 : Int32)) (lv' := [(4, .int (x4 + (1 : Int32))), (2, .int (1 : Int32)), (3, .int (1 : Int32)), (6, .int (0 : Int32)), (5, .int r3), (0, .ref a7), (1, .int x1)]) hx hb dX7_longestOf_84 hl (k := 6) rfl rfl (by decide) rfl (fun ls hl => ?_)
                refine lv_goto (tgt := 7) hx hb dX7_longestOf_87 (by decide) ?_
                exact ih7 x1 (1 : Int32) (1 : Int32) (x4 + (1 : Int32)) hf _ _ hS (lv_sub hl [5, 6, 1, 2, 0] rfl)
            · have hf := it_p hc hf
              refine lv_iconst (v := (0 : Int32)) hx hb dX7_longestOf_56 (by decide) ?_
              refine lv_goto (tgt := 72) hx hb dX7_longestOf_57 (by decide) ?_
              refine lv_istore_n (lv' := [(3, .int (0 : Int32)), (6, .int (0 : Int32)), (5, .int r3), (0, .ref a7), (1, .int x1), (2, .int x2), (4, .int x4)]) hx hb dX7_longestOf_72 rfl hl (by decide) rfl (fun ls hl => ?_)
              refine lv_iload_n hx hb dX7_longestOf_73 rfl (lv_at hl 0 rfl) ?_
              refine lv_iload_n hx hb dX7_longestOf_74 rfl (lv_at hl 5 rfl) ?_
              refine lv_icmp_le (tgt := 82) hx hb dX7_longestOf_75 (by decide) (fun hc => ?_) (fun hc => ?_)
              · have hf := it_p hc hf
                refine lv_iload_n hx hb dX7_longestOf_82 rfl (lv_at hl 5 rfl) ?_
                refine lv_istore_n (lv' := [(2, .int x2), (3, .int (0 : Int32)), (6, .int (0 : Int32)), (5, .int r3), (0, .ref a7), (1, .int x1), (4, .int x4)]) hx hb dX7_longestOf_83 rfl hl (by decide) rfl (fun ls hl => ?_)
                refine lv_iinc (v := x4 + (1 : Int32)) (lv' := [(4, .int (x4 + (1 : Int32))), (2, .int x2), (3, .int (0 : Int32)), (6, .int (0 : Int32)), (5, .int r3), (0, .ref a7), (1, .int x1)]) hx hb dX7_longestOf_84 hl (k := 6) rfl rfl (by decide) rfl (fun ls hl => ?_)
                refine lv_goto (tgt := 7) hx hb dX7_longestOf_87 (by decide) ?_
                exact ih7 x1 x2 (0 : Int32) (x4 + (1 : Int32)) hf _ _ hS (lv_sub hl [5, 6, 1, 2, 0] rfl)
              · have hf := it_n hc hf
                refine lv_iload_n hx hb dX7_longestOf_78 rfl (lv_at hl 0 rfl) ?_
                refine lv_goto (tgt := 83) hx hb dX7_longestOf_79 (by decide) ?_
                refine lv_istore_n (lv' := [(2, .int (0 : Int32)), (3, .int (0 : Int32)), (6, .int (0 : Int32)), (5, .int r3), (0, .ref a7), (1, .int x1), (4, .int x4)]) hx hb dX7_longestOf_83 rfl hl (by decide) rfl (fun ls hl => ?_)
                refine lv_iinc (v := x4 + (1 : Int32)) (lv' := [(4, .int (x4 + (1 : Int32))), (2, .int (0 : Int32)), (3, .int (0 : Int32)), (6, .int (0 : Int32)), (5, .int r3), (0, .ref a7), (1, .int x1)]) hx hb dX7_longestOf_84 hl (k := 6) rfl rfl (by decide) rfl (fun ls hl => ?_)
                refine lv_goto (tgt := 7) hx hb dX7_longestOf_87 (by decide) ?_
                exact ih7 x1 (0 : Int32) (0 : Int32) (x4 + (1 : Int32)) hf _ _ hS (lv_sub hl [5, 6, 1, 2, 0] rfl)
          · have hf := it_p hc hf
            refine lv_iconst (v := (1 : Int32)) hx hb dX7_longestOf_44 (by decide) ?_
            refine lv_goto (tgt := 49) hx hb dX7_longestOf_45 (by decide) ?_
            refine lv_istore (lv' := [(6, .int (1 : Int32)), (5, .int r3), (0, .ref a7), (1, .int x1), (2, .int x2), (3, .int x3), (4, .int x4)]) hx hb dX7_longestOf_49 hl (by decide) rfl (fun ls hl => ?_)
            refine lv_iload hx hb dX7_longestOf_51 (lv_at hl 1 rfl) ?_
            refine lv_if_ne (tgt := 60) hx hb dX7_longestOf_53 (by decide) (fun hc => ?_) (fun hc => ?_)
            · have hf := it_n hc hf
              refine lv_iload hx hb dX7_longestOf_60 (lv_at hl 0 rfl) ?_
              refine lv_if_eq (tgt := 71) hx hb dX7_longestOf_62 (by decide) (fun hc => absurd hc (by decide)) (fun _ => ?_)
              refine lv_iload_n hx hb dX7_longestOf_65 rfl (lv_at hl 5 rfl) ?_
              refine lv_iconst (v := (1 : Int32)) hx hb dX7_longestOf_66 (by decide) ?_
              refine lv_iadd hx hb dX7_longestOf_67 ?_
              refine lv_goto (tgt := 72) hx hb dX7_longestOf_68 (by decide) ?_
              refine lv_istore_n (lv' := [(3, .int (x3 + (1 : Int32))), (6, .int (1 : Int32)), (5, .int r3), (0, .ref a7), (1, .int x1), (2, .int x2), (4, .int x4)]) hx hb dX7_longestOf_72 rfl hl (by decide) rfl (fun ls hl => ?_)
              refine lv_iload_n hx hb dX7_longestOf_73 rfl (lv_at hl 0 rfl) ?_
              refine lv_iload_n hx hb dX7_longestOf_74 rfl (lv_at hl 5 rfl) ?_
              refine lv_icmp_le (tgt := 82) hx hb dX7_longestOf_75 (by decide) (fun hc => ?_) (fun hc => ?_)
              · have hf := it_p hc hf
                refine lv_iload_n hx hb dX7_longestOf_82 rfl (lv_at hl 5 rfl) ?_
                refine lv_istore_n (lv' := [(2, .int x2), (3, .int (x3 + (1 : Int32))), (6, .int (1 : Int32)), (5, .int r3), (0, .ref a7), (1, .int x1), (4, .int x4)]) hx hb dX7_longestOf_83 rfl hl (by decide) rfl (fun ls hl => ?_)
                refine lv_iinc (v := x4 + (1 : Int32)) (lv' := [(4, .int (x4 + (1 : Int32))), (2, .int x2), (3, .int (x3 + (1 : Int32))), (6, .int (1 : Int32)), (5, .int r3), (0, .ref a7), (1, .int x1)]) hx hb dX7_longestOf_84 hl (k := 6) rfl rfl (by decide) rfl (fun ls hl => ?_)
                refine lv_goto (tgt := 7) hx hb dX7_longestOf_87 (by decide) ?_
                exact ih7 x1 x2 (x3 + (1 : Int32)) (x4 + (1 : Int32)) hf _ _ hS (lv_sub hl [5, 6, 1, 2, 0] rfl)
              · have hf := it_n hc hf
                refine lv_iload_n hx hb dX7_longestOf_78 rfl (lv_at hl 0 rfl) ?_
                refine lv_goto (tgt := 83) hx hb dX7_longestOf_79 (by decide) ?_
                refine lv_istore_n (lv' := [(2, .int (x3 + (1 : Int32))), (3, .int (x3 + (1 : Int32))), (6, .int (1 : Int32)), (5, .int r3), (0, .ref a7), (1, .int x1), (4, .int x4)]) hx hb dX7_longestOf_83 rfl hl (by decide) rfl (fun ls hl => ?_)
                refine lv_iinc (v := x4 + (1 : Int32)) (lv' := [(4, .int (x4 + (1 : Int32))), (2, .int (x3 + (1 : Int32))), (3, .int (x3 + (1 : Int32))), (6, .int (1 : Int32)), (5, .int r3), (0, .ref a7), (1, .int x1)]) hx hb dX7_longestOf_84 hl (k := 6) rfl rfl (by decide) rfl (fun ls hl => ?_)
                refine lv_goto (tgt := 7) hx hb dX7_longestOf_87 (by decide) ?_
                exact ih7 x1 (x3 + (1 : Int32)) (x3 + (1 : Int32)) (x4 + (1 : Int32)) hf _ _ hS (lv_sub hl [5, 6, 1, 2, 0] rfl)
            · have hf := it_p hc hf
              refine lv_iconst (v := (0 : Int32)) hx hb dX7_longestOf_56 (by decide) ?_
              refine lv_goto (tgt := 72) hx hb dX7_longestOf_57 (by decide) ?_
              refine lv_istore_n (lv' := [(3, .int (0 : Int32)), (6, .int (1 : Int32)), (5, .int r3), (0, .ref a7), (1, .int x1), (2, .int x2), (4, .int x4)]) hx hb dX7_longestOf_72 rfl hl (by decide) rfl (fun ls hl => ?_)
              refine lv_iload_n hx hb dX7_longestOf_73 rfl (lv_at hl 0 rfl) ?_
              refine lv_iload_n hx hb dX7_longestOf_74 rfl (lv_at hl 5 rfl) ?_
              refine lv_icmp_le (tgt := 82) hx hb dX7_longestOf_75 (by decide) (fun hc => ?_) (fun hc => ?_)
              · have hf := it_p hc hf
                refine lv_iload_n hx hb dX7_longestOf_82 rfl (lv_at hl 5 rfl) ?_
                refine lv_istore_n (lv' := [(2, .int x2), (3, .int (0 : Int32)), (6, .int (1 : Int32)), (5, .int r3), (0, .ref a7), (1, .int x1), (4, .int x4)]) hx hb dX7_longestOf_83 rfl hl (by decide) rfl (fun ls hl => ?_)
                refine lv_iinc (v := x4 + (1 : Int32)) (lv' := [(4, .int (x4 + (1 : Int32))), (2, .int x2), (3, .int (0 : Int32)), (6, .int (1 : Int32)), (5, .int r3), (0, .ref a7), (1, .int x1)]) hx hb dX7_longestOf_84 hl (k := 6) rfl rfl (by decide) rfl (fun ls hl => ?_)
                refine lv_goto (tgt := 7) hx hb dX7_longestOf_87 (by decide) ?_
                exact ih7 x1 x2 (0 : Int32) (x4 + (1 : Int32)) hf _ _ hS (lv_sub hl [5, 6, 1, 2, 0] rfl)
              · have hf := it_n hc hf
                refine lv_iload_n hx hb dX7_longestOf_78 rfl (lv_at hl 0 rfl) ?_
                refine lv_goto (tgt := 83) hx hb dX7_longestOf_79 (by decide) ?_
                refine lv_istore_n (lv' := [(2, .int (0 : Int32)), (3, .int (0 : Int32)), (6, .int (1 : Int32)), (5, .int r3), (0, .ref a7), (1, .int x1), (4, .int x4)]) hx hb dX7_longestOf_83 rfl hl (by decide) rfl (fun ls hl => ?_)
                refine lv_iinc (v := x4 + (1 : Int32)) (lv' := [(4, .int (x4 + (1 : Int32))), (2, .int (0 : Int32)), (3, .int (0 : Int32)), (6, .int (1 : Int32)), (5, .int r3), (0, .ref a7), (1, .int x1)]) hx hb dX7_longestOf_84 hl (k := 6) rfl rfl (by decide) rfl (fun ls hl => ?_)
                refine lv_goto (tgt := 7) hx hb dX7_longestOf_87 (by decide) ?_
                exact ih7 x1 (0 : Int32) (0 : Int32) (x4 + (1 : Int32)) hf _ _ hS (lv_sub hl [5, 6, 1, 2, 0] rfl)
  have hl := lv_entry ([.ref a7, .int p1]) (n := 7) (Nat.le_of_ble_eq_true rfl)
  rw [lg_entry_eq]
  generalize (lg_sl ([.ref a7, .int p1]) ++ List.replicate (7 - (lg_sl ([.ref a7, .int p1])).length) Slot.unset).toArray = ls at hl ⊢
  have hl : lv_has ls 7 [(0, .ref a7), (1, .int p1)] := hl
  unfold fX7_longestOf at hf
  refine lv_iconst (v := (0 : Int32)) hx hb dX7_longestOf_0 (by decide) ?_
  refine lv_istore_n (lv' := [(2, .int (0 : Int32)), (0, .ref a7), (1, .int p1)]) hx hb dX7_longestOf_1 rfl hl (by decide) rfl (fun ls hl => ?_)
  refine lv_iconst (v := (0 : Int32)) hx hb dX7_longestOf_2 (by decide) ?_
  refine lv_istore_n (lv' := [(3, .int (0 : Int32)), (2, .int (0 : Int32)), (0, .ref a7), (1, .int p1)]) hx hb dX7_longestOf_3 rfl hl (by decide) rfl (fun ls hl => ?_)
  refine lv_iconst (v := (0 : Int32)) hx hb dX7_longestOf_4 (by decide) ?_
  refine lv_istore (lv' := [(4, .int (0 : Int32)), (3, .int (0 : Int32)), (2, .int (0 : Int32)), (0, .ref a7), (1, .int p1)]) hx hb dX7_longestOf_5 hl (by decide) rfl (fun ls hl => ?_)
  exact hb_7 300 p1 (0 : Int32) (0 : Int32) (0 : Int32) hf _ _ hS (lv_sub hl [3, 4, 2, 1, 0] rfl)
set_option maxHeartbeats 4000000 in
set_option maxRecDepth 100000 in
theorem kX7_longest (l : Launch) (dC : Nat → ClassId) (dI : Nat → Nat → Nat) (cy : ClassId) (H : Heap) (a7 a7_offset a7_gain a7_dark a7_bright a7_fromRow a7_toRow a7_left a7_right a7_slant a7_tintOf a7_speckOf a7_leadOf a7_stepKind a7_stepBy a7_pixels : Nat) (f7_offset : Nat → Int32) (f7_gain : Nat → Int32) (f7_dark : Nat → Int32) (f7_bright : Nat → Int32) (v7_ground : Int32) (v7_patches : Int32) (f7_fromRow : Nat → Int32) (f7_toRow : Nat → Int32) (f7_left : Nat → Int32) (f7_right : Nat → Int32) (f7_slant : Nat → Int32) (f7_tintOf : Nat → Int32) (f7_speckOf : Nat → Int32) (f7_leadOf : Nat → Int32) (v7_steps : Int32) (f7_stepKind : Nat → Int32) (f7_stepBy : Nat → Int32) (v7_threshold : Int32) (v7_isOn : Int32) (v7_lines : Int32) (v7_done : Int32) (v7_taken : Int32) (v7_lastPosition : Int32) (v7_position : Int32) (v7_mode : Int32) (v7_next : Int32) (v7_outs : Int32) (v7_stops : Int32) (v7_ticks : Int32) (f7_pixels : Nat → Int32) (p1 : Int32) (r : Int32) (hf : fX7_longest v7_taken f7_pixels p1 = some r) : Met l yX7_longest wsX7_longest ({ frames := 4, cells := 0, slots := 0, locals := 94 }) (roP [.ref a7, .int p1] (dC, dI) vwCl (WX7 cy a7 a7_offset a7_gain a7_dark a7_bright a7_fromRow a7_toRow a7_left a7_right a7_slant a7_tintOf a7_speckOf a7_leadOf a7_stepKind a7_stepBy a7_pixels f7_offset f7_gain f7_dark f7_bright v7_ground v7_patches f7_fromRow f7_toRow f7_left f7_right f7_slant f7_tintOf f7_speckOf f7_leadOf v7_steps f7_stepKind f7_stepBy v7_threshold v7_isOn v7_lines v7_done v7_taken v7_lastPosition v7_position v7_mode v7_next v7_outs v7_stops v7_ticks f7_pixels) [(cy, .int)] H) (roQi r H) 0 0 (fun _ => False) := by
  refine Met.ofW (cc := cX7_longest) (maxL := 2) (ret := (some .int)) (by decide) rfl ?_
  intro p e s m args below meth c s₁ B hml hv
  obtain ⟨rfl, hH, hP, hK⟩ := hv
  have hx := B.exec
  have hb := B.bytes
  have hr := B.returns
  have hts := atoms_spec (ws := wsX7_longest) B.pre
  have hown : s.vm.findClass RX7 = some m.cls := findClass_of_methodNamed B.named
  have hlocks := B.notSynchronized
  have hiX7 : ∀ w ∈ u_ws RX7 TX7 30, w ∈ wsX7_longest := fun _ h => List.mem_cons_of_mem _ ((List.mem_append_right _ h))
  subst hH
  have hS : va_S (fun _ => False) s.heap s.heap [] := va_S.rf
  have hl := lv_entry ([.ref a7, .int p1]) (n := 2) (Nat.le_of_ble_eq_true rfl)
  rw [lg_entry_eq]
  generalize (lg_sl ([.ref a7, .int p1]) ++ List.replicate (2 - (lg_sl ([.ref a7, .int p1])).length) Slot.unset).toArray = ls at hl ⊢
  have hl : lv_has ls 2 [(0, .ref a7), (1, .int p1)] := hl
  unfold fX7_longest at hf
  refine lv_iload_n hx hb dX7_longest_0 rfl (lv_at hl 1 rfl) ?_
  obtain ⟨r1, hr1, hf⟩ := cl1_sp hf
  refine ro_S (As := [.int p1]) ⟨hx, hb, hml, hown, hts⟩ (kX7_isColumn l _ p1 r1 hr1) (va_cwS 1 hts gX7_longest_X7_isColumn rfl rfl rfl (by decide +kernel) ⟨Nat.le_of_ble_eq_true rfl, Nat.le_of_ble_eq_true rfl⟩) hS rfl hl.1 rfl (Nat.le_of_ble_eq_true rfl) dX7_longest_1 (Nat.zero_le _) (Nat.zero_le _) (fun locs hS => ?_)
  refine lv_if_ne (tgt := 9) hx hb dX7_longest_4 (by decide) (fun hc => ?_) (fun hc => ?_)
  · have hf := it_n hc hf
    refine lv_iload_n hx hb dX7_longest_9 rfl (lv_at hl 1 rfl) ?_
    refine lv_iconst (v := (1 : Int32)) hx hb dX7_longest_10 (by decide) ?_
    refine lv_bipush (v := (10 : Int32)) hx hb dX7_longest_11 (by decide) ?_
    obtain ⟨r2, hr2, hf⟩ := cl1_sp hf
    refine ro_S (As := [.int p1, .int (1 : Int32), .int (10 : Int32)]) ⟨hx, hb, hml, hown, hts⟩ (kX7_within l _ p1 (1 : Int32) (10 : Int32) r2 hr2) (va_cwS 3 hts gX7_longest_X7_within rfl rfl rfl (by decide +kernel) ⟨Nat.le_of_ble_eq_true rfl, Nat.le_of_ble_eq_true rfl⟩) hS rfl hl.1 rfl (Nat.le_of_ble_eq_true rfl) dX7_longest_13 (Nat.zero_le _) (Nat.zero_le _) (fun locs hS => ?_)
    refine lv_if_eq (tgt := 27) hx hb dX7_longest_16 (by decide) (fun hc => ?_) (fun hc => ?_)
    · have hf := it_p hc hf
      refine lv_iconst (v := (0 : Int32)) hx hb dX7_longest_27 (by decide) ?_
      exact W.iret (v := (0 : Int32)) hx hb hr (fun t ht hW => ⟨⟨_, (), rfl, Option.some.inj hf, ht⟩, hS.F ht⟩) hS.2.2 dX7_longest_28
    · have hf := it_n hc hf
      refine lv_aload_n hx hb dX7_longest_19 rfl (lv_at hl 0 rfl) ?_
      refine lv_iload_n hx hb dX7_longest_20 rfl (lv_at hl 1 rfl) ?_
      obtain ⟨r3, hr3, hf⟩ := cl1_sp hf
      refine ro_V (As := [.int p1]) ⟨hx, hb, hml, hown, hts⟩ (kX7_longestOf l dC dI cy _ a7 a7_offset a7_gain a7_dark a7_bright a7_fromRow a7_toRow a7_left a7_right a7_slant a7_tintOf a7_speckOf a7_leadOf a7_stepKind a7_stepBy a7_pixels f7_offset f7_gain f7_dark f7_bright v7_ground v7_patches f7_fromRow f7_toRow f7_left f7_right f7_slant f7_tintOf f7_speckOf f7_leadOf v7_steps f7_stepKind f7_stepBy v7_threshold v7_isOn v7_lines v7_done v7_taken v7_lastPosition v7_position v7_mode v7_next v7_outs v7_stops v7_ticks f7_pixels p1 r3 hr3) (cwV 1 hts gX7_longest_X7_longestOf rfl rfl rfl (by decide +kernel) ⟨Nat.le_of_ble_eq_true rfl, Nat.le_of_ble_eq_true rfl⟩) (va_recv hK hP (ci := 6) (q0 := 0) rfl rfl) (hP.sub [0, 1, 2, 3, 4, 5, 6, 7, 8, 9, 10, 11, 12, 13, 14, 15] rfl) hK hS rfl hl.1 rfl (Nat.le_of_ble_eq_true rfl) dX7_longest_21 (Nat.zero_le _) (Nat.zero_le _) (fun locs hS => ?_)
      refine lv_goto (tgt := 28) hx hb dX7_longest_24 (by decide) ?_
      exact W.iret (v := r3) hx hb hr (fun t ht hW => ⟨⟨_, (), rfl, Option.some.inj hf, ht⟩, hS.F ht⟩) hS.2.2 dX7_longest_28
  · have hf := it_p hc hf
    refine lv_iconst (v := (-1 : Int32)) hx hb dX7_longest_7 (by decide) ?_
    exact W.iret (v := (-1 : Int32)) hx hb hr (fun t ht hW => ⟨⟨_, (), rfl, Option.some.inj hf, ht⟩, hS.F ht⟩) hS.2.2 dX7_longest_8
set_option maxHeartbeats 4000000 in
set_option maxRecDepth 100000 in
theorem kX7_streaks (l : Launch) (dC : Nat → ClassId) (dI : Nat → Nat → Nat) (cy : ClassId) (H : Heap) (a7 a7_offset a7_gain a7_dark a7_bright a7_fromRow a7_toRow a7_left a7_right a7_slant a7_tintOf a7_speckOf a7_leadOf a7_stepKind a7_stepBy a7_pixels : Nat) (f7_offset : Nat → Int32) (f7_gain : Nat → Int32) (f7_dark : Nat → Int32) (f7_bright : Nat → Int32) (v7_ground : Int32) (v7_patches : Int32) (f7_fromRow : Nat → Int32) (f7_toRow : Nat → Int32) (f7_left : Nat → Int32) (f7_right : Nat → Int32) (f7_slant : Nat → Int32) (f7_tintOf : Nat → Int32) (f7_speckOf : Nat → Int32) (f7_leadOf : Nat → Int32) (v7_steps : Int32) (f7_stepKind : Nat → Int32) (f7_stepBy : Nat → Int32) (v7_threshold : Int32) (v7_isOn : Int32) (v7_lines : Int32) (v7_done : Int32) (v7_taken : Int32) (v7_lastPosition : Int32) (v7_position : Int32) (v7_mode : Int32) (v7_next : Int32) (v7_outs : Int32) (v7_stops : Int32) (v7_ticks : Int32) (f7_pixels : Nat → Int32) (r : Int32) (hf : fX7_streaks v7_taken f7_pixels = some r) : Met l yX7_streaks wsX7_streaks ({ frames := 4, cells := 0, slots := 0, locals := 94 }) (roP [.ref a7] (dC, dI) vwCl (WX7 cy a7 a7_offset a7_gain a7_dark a7_bright a7_fromRow a7_toRow a7_left a7_right a7_slant a7_tintOf a7_speckOf a7_leadOf a7_stepKind a7_stepBy a7_pixels f7_offset f7_gain f7_dark f7_bright v7_ground v7_patches f7_fromRow f7_toRow f7_left f7_right f7_slant f7_tintOf f7_speckOf f7_leadOf v7_steps f7_stepKind f7_stepBy v7_threshold v7_isOn v7_lines v7_done v7_taken v7_lastPosition v7_position v7_mode v7_next v7_outs v7_stops v7_ticks f7_pixels) [(cy, .int)] H) (roQi r H) 0 0 (fun _ => False) := by
  refine Met.ofW (cc := cX7_streaks) (maxL := 3) (ret := (some .int)) (by decide) rfl ?_
  intro p e s m args below meth c s₁ B hml hv
  obtain ⟨rfl, hH, hP, hK⟩ := hv
  have hx := B.exec
  have hb := B.bytes
  have hr := B.returns
  have hts := atoms_spec (ws := wsX7_streaks) B.pre
  have hown : s.vm.findClass RX7 = some m.cls := findClass_of_methodNamed B.named
  have hlocks := B.notSynchronized
  have hiX7 : ∀ w ∈ u_ws RX7 TX7 30, w ∈ wsX7_streaks := fun _ h => List.mem_cons_of_mem _ ((List.mem_append_right _ h))
  subst hH
  have hS : va_S (fun _ => False) s.heap s.heap [] := va_S.rf
  have hb_4 : ∀ (n : Nat) (x1 : Int32) (x2 : Int32), bX7_streaks_4 v7_taken f7_pixels n x1 x2 = some r → ∀ (locs : List Loc) (ls : Array Slot), va_S (fun _ => False) s.heap s.heap locs → lv_has ls 3 [(0, .ref a7), (1, .int x1), (2, .int x2)] → W p l e (headSpec wsX7_streaks ({ frames := 4, cells := 0, slots := 0, locals := 94 })).room s m ([.ref a7] : List Value).toArray below meth c s.heap locs 0 0 (MQ below (roQi r s.heap) ([.ref a7] : List Value).toArray s 0 0 (fun _ => False)) (F0 m 4 ls []) := by
    intro n
    induction n with
    | zero => intro x1 x2 hf; rw [bX7_streaks_4] at hf; cases hf
    | succ n4 ih4 =>
      intro x1 x2 hf locs ls hS hl
      rw [bX7_streaks_4] at hf
      refine lv_iload_n hx hb dX7_streaks_4 rfl (lv_at hl 2 rfl) ?_
      refine lv_bipush (v := (11 : Int32)) hx hb dX7_streaks_5 (by decide) ?_
      refine lv_icmp_ge (tgt := 35) hx hb dX7_streaks_7 (by decide) (fun hc => ?_) (fun hc => ?_)
      · have hf := it_p hc hf
        refine lv_iload_n hx hb dX7_streaks_35 rfl (lv_at hl 1 rfl) ?_
        exact W.iret (v := x1) hx hb hr (fun t ht hW => ⟨⟨_, (), rfl, Option.some.inj hf, ht⟩, hS.F ht⟩) hS.2.2 dX7_streaks_36
      · have hf := it_n hc hf
        refine lv_iload_n hx hb dX7_streaks_10 rfl (lv_at hl 1 rfl) ?_
        refine lv_aload_n hx hb dX7_streaks_11 rfl (lv_at hl 0 rfl) ?_
        refine lv_iload_n hx hb dX7_streaks_12 rfl (lv_at hl 2 rfl) ?_
        obtain ⟨r2, hr2, hf⟩ := cl1_sp hf
        refine ro_V (As := [.int x2]) ⟨hx, hb, hml, hown, hts⟩ (kX7_longestOf l dC dI cy _ a7 a7_offset a7_gain a7_dark a7_bright a7_fromRow a7_toRow a7_left a7_right a7_slant a7_tintOf a7_speckOf a7_leadOf a7_stepKind a7_stepBy a7_pixels f7_offset f7_gain f7_dark f7_bright v7_ground v7_patches f7_fromRow f7_toRow f7_left f7_right f7_slant f7_tintOf f7_speckOf f7_leadOf v7_steps f7_stepKind f7_stepBy v7_threshold v7_isOn v7_lines v7_done v7_taken v7_lastPosition v7_position v7_mode v7_next v7_outs v7_stops v7_ticks f7_pixels x2 r2 hr2) (cwV 1 hts gX7_streaks_X7_longestOf rfl rfl rfl (by decide +kernel) ⟨Nat.le_of_ble_eq_true rfl, Nat.le_of_ble_eq_true rfl⟩) (va_recv hK hP (ci := 6) (q0 := 0) rfl rfl) (hP.sub [0, 1, 2, 3, 4, 5, 6, 7, 8, 9, 10, 11, 12, 13, 14, 15] rfl) hK hS rfl hl.1 rfl (Nat.le_of_ble_eq_true rfl) dX7_streaks_13 (Nat.zero_le _) (Nat.zero_le _) (fun locs hS => ?_)
        refine lv_iconst (v := (4 : Int32)) hx hb dX7_streaks_16 (by decide) ?_
        refine lv_icmp_lt (tgt := 26) hx hb dX7_streaks_17 (by decide) (fun hc => ?_) (fun hc => ?_)
        · have hf := it_p hc hf
          refine lv_iconst (v := (0 : Int32)) hx hb dX7_streaks_26 (by decide) ?_
          refine lv_ior hx hb dX7_streaks_27 ?_
          refine lv_istore_n (lv' := [(1, .int (x1 ||| (0 : Int32))), (0, .ref a7), (2, .int x2)]) hx hb dX7_streaks_28 rfl hl (by decide) rfl (fun ls hl => ?_)
          refine lv_iinc (v := x2 + (1 : Int32)) (lv' := [(2, .int (x2 + (1 : Int32))), (1, .int (x1 ||| (0 : Int32))), (0, .ref a7)]) hx hb dX7_streaks_29 hl (k := 2) rfl rfl (by decide) rfl (fun ls hl => ?_)
          refine lv_goto (tgt := 4) hx hb dX7_streaks_32 (by decide) ?_
          exact ih4 (x1 ||| (0 : Int32)) (x2 + (1 : Int32)) hf _ _ hS (lv_sub hl [2, 1, 0] rfl)
        · have hf := it_n hc hf
          refine lv_iconst (v := (1 : Int32)) hx hb dX7_streaks_20 (by decide) ?_
          refine lv_iload_n hx hb dX7_streaks_21 rfl (lv_at hl 2 rfl) ?_
          refine lv_ishl hx hb dX7_streaks_22 ?_
          refine lv_goto (tgt := 27) hx hb dX7_streaks_23 (by decide) ?_
          refine lv_ior hx hb dX7_streaks_27 ?_
          refine lv_istore_n (lv' := [(1, .int (x1 ||| ((1 : Int32) <<< (x2 &&& 31)))), (0, .ref a7), (2, .int x2)]) hx hb dX7_streaks_28 rfl hl (by decide) rfl (fun ls hl => ?_)
          refine lv_iinc (v := x2 + (1 : Int32)) (lv' := [(2, .int (x2 + (1 : Int32))), (1, .int (x1 ||| ((1 : Int32) <<< (x2 &&& 31)))), (0, .ref a7)]) hx hb dX7_streaks_29 hl (k := 2) rfl rfl (by decide) rfl (fun ls hl => ?_)
          refine lv_goto (tgt := 4) hx hb dX7_streaks_32 (by decide) ?_
          exact ih4 (x1 ||| ((1 : Int32) <<< (x2 &&& 31))) (x2 + (1 : Int32)) hf _ _ hS (lv_sub hl [2, 1, 0] rfl)
  have hl := lv_entry ([.ref a7]) (n := 3) (Nat.le_of_ble_eq_true rfl)
  rw [lg_entry_eq]
  generalize (lg_sl ([.ref a7]) ++ List.replicate (3 - (lg_sl ([.ref a7])).length) Slot.unset).toArray = ls at hl ⊢
  have hl : lv_has ls 3 [(0, .ref a7)] := hl
  unfold fX7_streaks at hf
  refine lv_iconst (v := (0 : Int32)) hx hb dX7_streaks_0 (by decide) ?_
  refine lv_istore_n (lv' := [(1, .int (0 : Int32)), (0, .ref a7)]) hx hb dX7_streaks_1 rfl hl (by decide) rfl (fun ls hl => ?_)
  refine lv_iconst (v := (1 : Int32)) hx hb dX7_streaks_2 (by decide) ?_
  refine lv_istore_n (lv' := [(2, .int (1 : Int32)), (1, .int (0 : Int32)), (0, .ref a7)]) hx hb dX7_streaks_3 rfl hl (by decide) rfl (fun ls hl => ?_)
  exact hb_4 300 (0 : Int32) (1 : Int32) hf _ _ hS (lv_sub hl [2, 1, 0] rfl)
set_option maxHeartbeats 4000000 in
set_option maxRecDepth 100000 in
theorem kX7_manyRuns (l : Launch) (dC : Nat → ClassId) (dI : Nat → Nat → Nat) (cy : ClassId) (H : Heap) (a7 a7_offset a7_gain a7_dark a7_bright a7_fromRow a7_toRow a7_left a7_right a7_slant a7_tintOf a7_speckOf a7_leadOf a7_stepKind a7_stepBy a7_pixels : Nat) (f7_offset : Nat → Int32) (f7_gain : Nat → Int32) (f7_dark : Nat → Int32) (f7_bright : Nat → Int32) (v7_ground : Int32) (v7_patches : Int32) (f7_fromRow : Nat → Int32) (f7_toRow : Nat → Int32) (f7_left : Nat → Int32) (f7_right : Nat → Int32) (f7_slant : Nat → Int32) (f7_tintOf : Nat → Int32) (f7_speckOf : Nat → Int32) (f7_leadOf : Nat → Int32) (v7_steps : Int32) (f7_stepKind : Nat → Int32) (f7_stepBy : Nat → Int32) (v7_threshold : Int32) (v7_isOn : Int32) (v7_lines : Int32) (v7_done : Int32) (v7_taken : Int32) (v7_lastPosition : Int32) (v7_position : Int32) (v7_mode : Int32) (v7_next : Int32) (v7_outs : Int32) (v7_stops : Int32) (v7_ticks : Int32) (f7_pixels : Nat → Int32) (r : Int32) (hf : fX7_manyRuns v7_threshold v7_taken f7_pixels = some r) : Met l yX7_manyRuns wsX7_manyRuns ({ frames := 3, cells := 0, slots := 0, locals := 67 }) (roP [.ref a7] (dC, dI) vwCl (WX7 cy a7 a7_offset a7_gain a7_dark a7_bright a7_fromRow a7_toRow a7_left a7_right a7_slant a7_tintOf a7_speckOf a7_leadOf a7_stepKind a7_stepBy a7_pixels f7_offset f7_gain f7_dark f7_bright v7_ground v7_patches f7_fromRow f7_toRow f7_left f7_right f7_slant f7_tintOf f7_speckOf f7_leadOf v7_steps f7_stepKind f7_stepBy v7_threshold v7_isOn v7_lines v7_done v7_taken v7_lastPosition v7_position v7_mode v7_next v7_outs v7_stops v7_ticks f7_pixels) [(cy, .int)] H) (roQi r H) 0 0 (fun _ => False) := by
  refine Met.ofW (cc := cX7_manyRuns) (maxL := 3) (ret := (some .int)) (by decide) rfl ?_
  intro p e s m args below meth c s₁ B hml hv
  obtain ⟨rfl, hH, hP, hK⟩ := hv
  have hx := B.exec
  have hb := B.bytes
  have hr := B.returns
  have hts := atoms_spec (ws := wsX7_manyRuns) B.pre
  have hown : s.vm.findClass RX7 = some m.cls := findClass_of_methodNamed B.named
  have hlocks := B.notSynchronized
  have hiX7 : ∀ w ∈ u_ws RX7 TX7 30, w ∈ wsX7_manyRuns := fun _ h => List.mem_cons_of_mem _ ((List.mem_append_right _ h))
  subst hH
  have hS : va_S (fun _ => False) s.heap s.heap [] := va_S.rf
  have hb_4 : ∀ (n : Nat) (x1 : Int32) (x2 : Int32), bX7_manyRuns_4 v7_threshold v7_taken f7_pixels n x1 x2 = some r → ∀ (locs : List Loc) (ls : Array Slot), va_S (fun _ => False) s.heap s.heap locs → lv_has ls 3 [(0, .ref a7), (1, .int x1), (2, .int x2)] → W p l e (headSpec wsX7_manyRuns ({ frames := 3, cells := 0, slots := 0, locals := 67 })).room s m ([.ref a7] : List Value).toArray below meth c s.heap locs 0 0 (MQ below (roQi r s.heap) ([.ref a7] : List Value).toArray s 0 0 (fun _ => False)) (F0 m 4 ls []) := by
    intro n
    induction n with
    | zero => intro x1 x2 hf; rw [bX7_manyRuns_4] at hf; cases hf
    | succ n4 ih4 =>
      intro x1 x2 hf locs ls hS hl
      rw [bX7_manyRuns_4] at hf
      refine lv_iload_n hx hb dX7_manyRuns_4 rfl (lv_at hl 2 rfl) ?_
      refine lv_aload_n hx hb dX7_manyRuns_5 rfl (lv_at hl 0 rfl) ?_
      refine va_get (D := (dC, dI)) (ci := 6) (v := .int v7_taken) (C := RX7) (T := TX7) (N := 30) hx hb hts hiX7 hown hK hP 0 rfl rfl 21 (by decide) (hts (.fieldLink RX7 154 "PageLinesModel" "taken" "I") (List.mem_of_getElem? (i := 1) rfl)) (fun _ h9 => h9) rfl dX7_manyRuns_6 ?_
      refine lv_icmp_ge (tgt := 32) hx hb dX7_manyRuns_9 (by decide) (fun hc => ?_) (fun hc => ?_)
      · have hf := it_p hc hf
        refine lv_iload_n hx hb dX7_manyRuns_32 rfl (lv_at hl 1 rfl) ?_
        exact W.iret (v := x1) hx hb hr (fun t ht hW => ⟨⟨_, (), rfl, Option.some.inj hf, ht⟩, hS.F ht⟩) hS.2.2 dX7_manyRuns_33
      · have hf := it_n hc hf
        refine lv_iload_n hx hb dX7_manyRuns_12 rfl (lv_at hl 1 rfl) ?_
        refine lv_aload_n hx hb dX7_manyRuns_13 rfl (lv_at hl 0 rfl) ?_
        refine lv_iload_n hx hb dX7_manyRuns_14 rfl (lv_at hl 2 rfl) ?_
        obtain ⟨r4, hr4, hf⟩ := cl1_sp hf
        refine ro_V (As := [.int x2]) ⟨hx, hb, hml, hown, hts⟩ (kX7_darkOf l dC dI cy _ a7 a7_offset a7_gain a7_dark a7_bright a7_fromRow a7_toRow a7_left a7_right a7_slant a7_tintOf a7_speckOf a7_leadOf a7_stepKind a7_stepBy a7_pixels f7_offset f7_gain f7_dark f7_bright v7_ground v7_patches f7_fromRow f7_toRow f7_left f7_right f7_slant f7_tintOf f7_speckOf f7_leadOf v7_steps f7_stepKind f7_stepBy v7_threshold v7_isOn v7_lines v7_done v7_taken v7_lastPosition v7_position v7_mode v7_next v7_outs v7_stops v7_ticks f7_pixels x2 r4 hr4) (cwV 1 hts gX7_manyRuns_X7_darkOf rfl rfl rfl (by decide +kernel) ⟨Nat.le_of_ble_eq_true rfl, Nat.le_of_ble_eq_true rfl⟩) (va_recv hK hP (ci := 6) (q0 := 0) rfl rfl) (hP.sub [0, 1, 2, 3, 4, 5, 6, 7, 8, 9, 10, 11, 12, 13, 14, 15] rfl) hK hS rfl hl.1 rfl (Nat.le_of_ble_eq_true rfl) dX7_manyRuns_15 (Nat.zero_le _) (Nat.zero_le _) (fun locs hS => ?_)
        obtain ⟨r5, hr5, hf⟩ := cl1_sp hf
        refine ro_S (As := [.int r4]) ⟨hx, hb, hml, hown, hts⟩ (kX7_begins l _ r4 r5 hr5) (va_cwS 1 hts gX7_manyRuns_X7_begins rfl rfl rfl (by decide +kernel) ⟨Nat.le_of_ble_eq_true rfl, Nat.le_of_ble_eq_true rfl⟩) hS rfl hl.1 rfl (Nat.le_of_ble_eq_true rfl) dX7_manyRuns_18 (Nat.zero_le _) (Nat.zero_le _) (fun locs hS => ?_)
        obtain ⟨r6, hr6, hf⟩ := cl1_sp hf
        refine ro_S (As := [.int r5]) ⟨hx, hb, hml, hown, hts⟩ (kX7_sizeOf l _ r5 r6 hr6) (va_cwS 1 hts gX7_manyRuns_X7_sizeOf rfl rfl rfl (by decide +kernel) ⟨Nat.le_of_ble_eq_true rfl, Nat.le_of_ble_eq_true rfl⟩) hS rfl hl.1 rfl (Nat.le_of_ble_eq_true rfl) dX7_manyRuns_21 (Nat.zero_le _) (Nat.zero_le _) (fun locs hS => ?_)
        refine lv_iadd hx hb dX7_manyRuns_24 ?_
        refine lv_istore_n (lv' := [(1, .int (x1 + r6)), (0, .ref a7), (2, .int x2)]) hx hb dX7_manyRuns_25 rfl hl (by decide) rfl (fun ls hl => ?_)
        refine lv_iinc (v := x2 + (1 : Int32)) (lv' := [(2, .int (x2 + (1 : Int32))), (1, .int (x1 + r6)), (0, .ref a7)]) hx hb dX7_manyRuns_26 hl (k := 2) rfl rfl (by decide) rfl (fun ls hl => ?_)
        refine lv_goto (tgt := 4) hx hb dX7_manyRuns_29 (by decide) ?_
        exact ih4 (x1 + r6) (x2 + (1 : Int32)) hf _ _ hS (lv_sub hl [2, 1, 0] rfl)
  have hl := lv_entry ([.ref a7]) (n := 3) (Nat.le_of_ble_eq_true rfl)
  rw [lg_entry_eq]
  generalize (lg_sl ([.ref a7]) ++ List.replicate (3 - (lg_sl ([.ref a7])).length) Slot.unset).toArray = ls at hl ⊢
  have hl : lv_has ls 3 [(0, .ref a7)] := hl
  unfold fX7_manyRuns at hf
  refine lv_iconst (v := (0 : Int32)) hx hb dX7_manyRuns_0 (by decide) ?_
  refine lv_istore_n (lv' := [(1, .int (0 : Int32)), (0, .ref a7)]) hx hb dX7_manyRuns_1 rfl hl (by decide) rfl (fun ls hl => ?_)
  refine lv_iconst (v := (0 : Int32)) hx hb dX7_manyRuns_2 (by decide) ?_
  refine lv_istore_n (lv' := [(2, .int (0 : Int32)), (1, .int (0 : Int32)), (0, .ref a7)]) hx hb dX7_manyRuns_3 rfl hl (by decide) rfl (fun ls hl => ?_)
  exact hb_4 300 (0 : Int32) (0 : Int32) hf _ _ hS (lv_sub hl [2, 1, 0] rfl)

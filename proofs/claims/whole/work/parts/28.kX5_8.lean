set_option maxHeartbeats 4000000 in
set_option maxRecDepth 100000 in
theorem kX5_readOne (l : Launch) (dC : Nat → ClassId) (dI : Nat → Nat → Nat) (cy : ClassId) (sz : Nat) (a5 : Nat) (v5_on : Int32) (v5_lines : Int32) (v5_reach : Int32) (v5_positions : Int32) (v5_queued : Int32) (v5_position : Int32) (v5_next : Int32) (v5_mode : Int32) (v5_outTicks : Int32) (v5_stops : Int32) (v5_ticked : Int32) (r : Int32) (o_v5_queued : Int32) (o_v5_position : Int32) (o_v5_next : Int32) (o_v5_mode : Int32) (o_v5_outTicks : Int32) (o_v5_stops : Int32) (hf : fX5_readOne v5_on v5_reach v5_positions v5_queued v5_position v5_next v5_mode v5_outTicks v5_stops = some (r, o_v5_queued, o_v5_position, o_v5_next, o_v5_mode, o_v5_outTicks, o_v5_stops)) : Met l yX5_readOne wsX5_readOne ({ frames := 2, cells := 0, slots := 0, locals := 40 }) (rwP [.ref a5] (dC, dI) vwCl (WX5 cy a5 v5_on v5_lines v5_reach v5_positions v5_queued v5_position v5_next v5_mode v5_outTicks v5_stops v5_ticked) [(cy, .int)] sz) (rwQi r (dC, dI) vwCl (WX5 cy a5 v5_on v5_lines v5_reach v5_positions o_v5_queued o_v5_position o_v5_next o_v5_mode o_v5_outTicks o_v5_stops v5_ticked) (va_A (WX5 cy a5 v5_on v5_lines v5_reach v5_positions v5_queued v5_position v5_next v5_mode v5_outTicks v5_stops v5_ticked) sz)) 0 0 (va_A (WX5 cy a5 v5_on v5_lines v5_reach v5_positions v5_queued v5_position v5_next v5_mode v5_outTicks v5_stops v5_ticked) sz) := by
  refine Met.ofW (cc := cX5_readOne) (maxL := 2) (ret := (some .int)) (by decide) rfl ?_
  intro p e s m args below meth c s₁ B hml hv
  obtain ⟨rfl, hsz, hP, hK, hD0⟩ := hv
  have hx := B.exec
  have hb := B.bytes
  have hr := B.returns
  have hts := atoms_spec (ws := wsX5_readOne) B.pre
  have hown : s.vm.findClass RX5 = some m.cls := findClass_of_methodNamed B.named
  have hlocks := B.notSynchronized
  have hiX5 : ∀ w ∈ u_ws RX5 TX5 11, w ∈ wsX5_readOne := fun _ h => List.mem_cons_of_mem _ ((List.mem_append_right _ h))
  subst hsz
  have hD := hD0.self (sz := s.heap.size)
  generalize hAe : va_A (WX5 cy a5 v5_on v5_lines v5_reach v5_positions v5_queued v5_position v5_next v5_mode v5_outTicks v5_stops v5_ticked) s.heap.size = A0 at hD ⊢
  have hA : ∀ q : Nat, s.heap.size ≤ q → A0 q := fun q h => by rw [← hAe]; exact Or.inr h
  have hS : va_S A0 s.heap s.heap [] := va_S.rf
  have hl := lv_entry ([.ref a5]) (n := 2) (Nat.le_of_ble_eq_true rfl)
  rw [lg_entry_eq]
  generalize (lg_sl ([.ref a5]) ++ List.replicate (2 - (lg_sl ([.ref a5])).length) Slot.unset).toArray = ls at hl ⊢
  have hl : lv_has ls 2 [(0, .ref a5)] := hl
  unfold fX5_readOne at hf
  refine lv_aload_n hx hb dX5_readOne_0 rfl (lv_at hl 0 rfl) ?_
  obtain ⟨r1, hr1, hf⟩ := cl1_sp hf
  refine ro_V (As := []) ⟨hx, hb, hml, hown, hts⟩ (kX5_wantsMore l dC dI cy _ a5 v5_on v5_lines v5_reach v5_positions v5_queued v5_position v5_next v5_mode v5_outTicks v5_stops v5_ticked r1 hr1) (cwV 0 hts gX5_readOne_X5_wantsMore rfl rfl rfl (by decide +kernel) ⟨Nat.le_of_ble_eq_true rfl, Nat.le_of_ble_eq_true rfl⟩) (va_recv hK hP (ci := 4) (q0 := 0) rfl rfl) (hP.sub [0] rfl) hK hS rfl hl.1 rfl (Nat.le_of_ble_eq_true rfl) dX5_readOne_1 (Nat.zero_le _) (Nat.zero_le _) (fun locs hS => ?_)
  refine lv_if_ne (tgt := 23) hx hb dX5_readOne_4 (by decide) (fun hc => ?_) (fun hc => ?_)
  · have hf := it_n hc hf
    refine lv_aload_n hx hb dX5_readOne_23 rfl (lv_at hl 0 rfl) ?_
    refine va_get (D := (dC, dI)) (ci := 4) (v := .int v5_position) (C := RX5) (T := TX5) (N := 11) hx hb hts hiX5 hown hK hP 0 rfl rfl 5 (by decide) (hts (.fieldLink RX5 9 "PageLines$Scan" "position" "I") (List.mem_of_getElem? (i := 1) rfl)) (fun _ h9 => h9) rfl dX5_readOne_24 ?_
    refine lv_aload_n hx hb dX5_readOne_27 rfl (lv_at hl 0 rfl) ?_
    refine va_get (D := (dC, dI)) (ci := 4) (v := .int v5_reach) (C := RX5) (T := TX5) (N := 11) hx hb hts hiX5 hown hK hP 0 rfl rfl 2 (by decide) (hts (.fieldLink RX5 25 "PageLines$Scan" "reach" "I") (List.mem_of_getElem? (i := 2) rfl)) (fun _ h9 => h9) rfl dX5_readOne_28 ?_
    refine lv_icmp_lt (tgt := 38) hx hb dX5_readOne_31 (by decide) (fun hc => ?_) (fun hc => ?_)
    · have hf := it_p hc hf
      refine lv_iconst (v := (0 : Int32)) hx hb dX5_readOne_38 (by decide) ?_
      refine lv_istore_n (lv' := [(1, .int (0 : Int32)), (0, .ref a5)]) hx hb dX5_readOne_39 rfl hl (by decide) rfl (fun ls hl => ?_)
      refine lv_aload_n hx hb dX5_readOne_40 rfl (lv_at hl 1 rfl) ?_
      refine lv_dup hx hb dX5_readOne_41 rfl ?_
      refine va_get (D := (dC, dI)) (ci := 4) (v := .int v5_queued) (C := RX5) (T := TX5) (N := 11) hx hb hts hiX5 hown hK hP 0 rfl rfl 4 (by decide) (hts (.fieldLink RX5 31 "PageLines$Scan" "queued" "I") (List.mem_of_getElem? (i := 3) rfl)) (fun _ h9 => h9) rfl dX5_readOne_42 ?_
      refine lv_iload_n hx hb dX5_readOne_45 rfl (lv_at hl 0 rfl) ?_
      refine lv_iadd hx hb dX5_readOne_46 ?_
      refine va_put (D := (dC, dI)) (ci := 4) (v := .int (v5_queued + (0 : Int32))) (ty := .int) (C := RX5) (T := TX5) (N := 11) hx hb hts hiX5 tyX5 tyX5_ok nmX5 hown hK hP hD hS 0 rfl rfl 4 (by decide) (hts (.fieldLink RX5 31 "PageLines$Scan" "queued" "I") (List.mem_of_getElem? (i := 3) rfl)) (fun _ h9 => h9) rfl (by decide +kernel) rfl rfl (Nat.le_of_ble_eq_true rfl) dX5_readOne_47 (fun H locs hP hD hS => ?_)
      have hP : va_P (dC, dI) vwCl (WX5 cy a5 v5_on v5_lines v5_reach v5_positions (v5_queued + (0 : Int32)) v5_position v5_next v5_mode v5_outTicks v5_stops v5_ticked) H := hP
      have hD : va_D A0 (WX5 cy a5 v5_on v5_lines v5_reach v5_positions (v5_queued + (0 : Int32)) v5_position v5_next v5_mode v5_outTicks v5_stops v5_ticked) := hD
      refine lv_aload_n hx hb dX5_readOne_50 rfl (lv_at hl 1 rfl) ?_
      refine lv_dup hx hb dX5_readOne_51 rfl ?_
      refine va_get (D := (dC, dI)) (ci := 4) (v := .int v5_position) (C := RX5) (T := TX5) (N := 11) hx hb hts hiX5 hown hK hP 0 rfl rfl 5 (by decide) (hts (.fieldLink RX5 9 "PageLines$Scan" "position" "I") (List.mem_of_getElem? (i := 1) rfl)) (fun _ h9 => h9) rfl dX5_readOne_52 ?_
      refine lv_iconst (v := (1 : Int32)) hx hb dX5_readOne_55 (by decide) ?_
      refine lv_iadd hx hb dX5_readOne_56 ?_
      refine va_put (D := (dC, dI)) (ci := 4) (v := .int (v5_position + (1 : Int32))) (ty := .int) (C := RX5) (T := TX5) (N := 11) hx hb hts hiX5 tyX5 tyX5_ok nmX5 hown hK hP hD hS 0 rfl rfl 5 (by decide) (hts (.fieldLink RX5 9 "PageLines$Scan" "position" "I") (List.mem_of_getElem? (i := 1) rfl)) (fun _ h9 => h9) rfl (by decide +kernel) rfl rfl (Nat.le_of_ble_eq_true rfl) dX5_readOne_57 (fun H locs hP hD hS => ?_)
      have hP : va_P (dC, dI) vwCl (WX5 cy a5 v5_on v5_lines v5_reach v5_positions (v5_queued + (0 : Int32)) (v5_position + (1 : Int32)) v5_next v5_mode v5_outTicks v5_stops v5_ticked) H := hP
      have hD : va_D A0 (WX5 cy a5 v5_on v5_lines v5_reach v5_positions (v5_queued + (0 : Int32)) (v5_position + (1 : Int32)) v5_next v5_mode v5_outTicks v5_stops v5_ticked) := hD
      refine lv_aload_n hx hb dX5_readOne_60 rfl (lv_at hl 1 rfl) ?_
      refine lv_dup hx hb dX5_readOne_61 rfl ?_
      refine va_get (D := (dC, dI)) (ci := 4) (v := .int v5_next) (C := RX5) (T := TX5) (N := 11) hx hb hts hiX5 hown hK hP 0 rfl rfl 6 (by decide) (hts (.fieldLink RX5 34 "PageLines$Scan" "next" "I") (List.mem_of_getElem? (i := 4) rfl)) (fun _ h9 => h9) rfl dX5_readOne_62 ?_
      refine lv_iconst (v := (1 : Int32)) hx hb dX5_readOne_65 (by decide) ?_
      refine lv_iadd hx hb dX5_readOne_66 ?_
      refine va_put (D := (dC, dI)) (ci := 4) (v := .int (v5_next + (1 : Int32))) (ty := .int) (C := RX5) (T := TX5) (N := 11) hx hb hts hiX5 tyX5 tyX5_ok nmX5 hown hK hP hD hS 0 rfl rfl 6 (by decide) (hts (.fieldLink RX5 34 "PageLines$Scan" "next" "I") (List.mem_of_getElem? (i := 4) rfl)) (fun _ h9 => h9) rfl (by decide +kernel) rfl rfl (Nat.le_of_ble_eq_true rfl) dX5_readOne_67 (fun H locs hP hD hS => ?_)
      have hP : va_P (dC, dI) vwCl (WX5 cy a5 v5_on v5_lines v5_reach v5_positions (v5_queued + (0 : Int32)) (v5_position + (1 : Int32)) (v5_next + (1 : Int32)) v5_mode v5_outTicks v5_stops v5_ticked) H := hP
      have hD : va_D A0 (WX5 cy a5 v5_on v5_lines v5_reach v5_positions (v5_queued + (0 : Int32)) (v5_position + (1 : Int32)) (v5_next + (1 : Int32)) v5_mode v5_outTicks v5_stops v5_ticked) := hD
      refine lv_aload_n hx hb dX5_readOne_70 rfl (lv_at hl 1 rfl) ?_
      obtain ⟨r2, hr2, hf⟩ := cl1_sp hf
      refine ro_V (As := []) ⟨hx, hb, hml, hown, hts⟩ (kX5_wantsMore l dC dI cy _ a5 v5_on v5_lines v5_reach v5_positions (v5_queued + (0 : Int32)) (v5_position + (1 : Int32)) (v5_next + (1 : Int32)) v5_mode v5_outTicks v5_stops v5_ticked r2 hr2) (cwV 0 hts gX5_readOne_X5_wantsMore rfl rfl rfl (by decide +kernel) ⟨Nat.le_of_ble_eq_true rfl, Nat.le_of_ble_eq_true rfl⟩) (va_recv hK hP (ci := 4) (q0 := 0) rfl rfl) (hP.sub [0] rfl) hK hS rfl hl.1 rfl (Nat.le_of_ble_eq_true rfl) dX5_readOne_71 (Nat.zero_le _) (Nat.zero_le _) (fun locs hS => ?_)
      refine lv_if_eq (tgt := 86) hx hb dX5_readOne_74 (by decide) (fun hc => ?_) (fun hc => ?_)
      · have hf := it_p hc hf
        refine lv_aload_n hx hb dX5_readOne_86 rfl (lv_at hl 1 rfl) ?_
        obtain ⟨w3_mode, w3_outTicks, w3_stops, hr3, hf⟩ := cl3_sp hf
        refine rw_Vv (As := []) (wr := []) ⟨hx, hb, hml, hown, hts⟩ (kX5_leave l dC dI cy _ a5 v5_on v5_lines v5_reach v5_positions (v5_queued + (0 : Int32)) (v5_position + (1 : Int32)) (v5_next + (1 : Int32)) v5_mode v5_outTicks v5_stops v5_ticked w3_mode w3_outTicks w3_stops hr3) (cwV 0 hts gX5_readOne_X5_leave rfl rfl rfl (by decide +kernel) ⟨Nat.le_of_ble_eq_true rfl, Nat.le_of_ble_eq_true rfl⟩) (va_recv hK hP (ci := 4) (q0 := 0) rfl rfl) hK hP hD hS hA [0] [] rfl rfl (by decide) (by decide) (by decide) rfl hl.1 rfl (Nat.le_of_ble_eq_true rfl) dX5_readOne_87 (Nat.zero_le _) (Nat.zero_le _) (fun H locs hP hD hS => ?_)
        have hP : va_P (dC, dI) vwCl (WX5 cy a5 v5_on v5_lines v5_reach v5_positions (v5_queued + (0 : Int32)) (v5_position + (1 : Int32)) (v5_next + (1 : Int32)) w3_mode w3_outTicks w3_stops v5_ticked) H := hP.sub [0] rfl
        have hD : va_D A0 (WX5 cy a5 v5_on v5_lines v5_reach v5_positions (v5_queued + (0 : Int32)) (v5_position + (1 : Int32)) (v5_next + (1 : Int32)) w3_mode w3_outTicks w3_stops v5_ticked) := hD.sub [0] (by decide) rfl
        refine lv_iload_n hx hb dX5_readOne_90 rfl (lv_at hl 0 rfl) ?_
        cases hf
        exact W.iret hx hb hr (fun t ht hW => ⟨⟨_, (), rfl, rfl, by rw [ht]; exact hP, hD⟩, hS.F ht⟩) hS.2.2 dX5_readOne_91
      · have hf := it_n hc hf
        refine lv_aload_n hx hb dX5_readOne_77 rfl (lv_at hl 1 rfl) ?_
        refine va_get (D := (dC, dI)) (ci := 4) (v := .int (v5_queued + (0 : Int32))) (C := RX5) (T := TX5) (N := 11) hx hb hts hiX5 hown hK hP 0 rfl rfl 4 (by decide) (hts (.fieldLink RX5 31 "PageLines$Scan" "queued" "I") (List.mem_of_getElem? (i := 3) rfl)) (fun _ h9 => h9) rfl dX5_readOne_78 ?_
        refine lv_bipush (v := (6 : Int32)) hx hb dX5_readOne_81 (by decide) ?_
        refine lv_icmp_lt (tgt := 90) hx hb dX5_readOne_83 (by decide) (fun hc => ?_) (fun hc => ?_)
        · have hf := it_p hc hf
          refine lv_iload_n hx hb dX5_readOne_90 rfl (lv_at hl 0 rfl) ?_
          cases hf
          exact W.iret hx hb hr (fun t ht hW => ⟨⟨_, (), rfl, rfl, by rw [ht]; exact hP, hD⟩, hS.F ht⟩) hS.2.2 dX5_readOne_91
        · have hf := it_n hc hf
          refine lv_aload_n hx hb dX5_readOne_86 rfl (lv_at hl 1 rfl) ?_
          obtain ⟨w4_mode, w4_outTicks, w4_stops, hr4, hf⟩ := cl3_sp hf
          refine rw_Vv (As := []) (wr := []) ⟨hx, hb, hml, hown, hts⟩ (kX5_leave l dC dI cy _ a5 v5_on v5_lines v5_reach v5_positions (v5_queued + (0 : Int32)) (v5_position + (1 : Int32)) (v5_next + (1 : Int32)) v5_mode v5_outTicks v5_stops v5_ticked w4_mode w4_outTicks w4_stops hr4) (cwV 0 hts gX5_readOne_X5_leave rfl rfl rfl (by decide +kernel) ⟨Nat.le_of_ble_eq_true rfl, Nat.le_of_ble_eq_true rfl⟩) (va_recv hK hP (ci := 4) (q0 := 0) rfl rfl) hK hP hD hS hA [0] [] rfl rfl (by decide) (by decide) (by decide) rfl hl.1 rfl (Nat.le_of_ble_eq_true rfl) dX5_readOne_87 (Nat.zero_le _) (Nat.zero_le _) (fun H locs hP hD hS => ?_)
          have hP : va_P (dC, dI) vwCl (WX5 cy a5 v5_on v5_lines v5_reach v5_positions (v5_queued + (0 : Int32)) (v5_position + (1 : Int32)) (v5_next + (1 : Int32)) w4_mode w4_outTicks w4_stops v5_ticked) H := hP.sub [0] rfl
          have hD : va_D A0 (WX5 cy a5 v5_on v5_lines v5_reach v5_positions (v5_queued + (0 : Int32)) (v5_position + (1 : Int32)) (v5_next + (1 : Int32)) w4_mode w4_outTicks w4_stops v5_ticked) := hD.sub [0] (by decide) rfl
          refine lv_iload_n hx hb dX5_readOne_90 rfl (lv_at hl 0 rfl) ?_
          cases hf
          exact W.iret hx hb hr (fun t ht hW => ⟨⟨_, (), rfl, rfl, by rw [ht]; exact hP, hD⟩, hS.F ht⟩) hS.2.2 dX5_readOne_91
    · have hf := it_n hc hf
      refine lv_iconst (v := (1 : Int32)) hx hb dX5_readOne_34 (by decide) ?_
      refine lv_goto (tgt := 39) hx hb dX5_readOne_35 (by decide) ?_
      refine lv_istore_n (lv' := [(1, .int (1 : Int32)), (0, .ref a5)]) hx hb dX5_readOne_39 rfl hl (by decide) rfl (fun ls hl => ?_)
      refine lv_aload_n hx hb dX5_readOne_40 rfl (lv_at hl 1 rfl) ?_
      refine lv_dup hx hb dX5_readOne_41 rfl ?_
      refine va_get (D := (dC, dI)) (ci := 4) (v := .int v5_queued) (C := RX5) (T := TX5) (N := 11) hx hb hts hiX5 hown hK hP 0 rfl rfl 4 (by decide) (hts (.fieldLink RX5 31 "PageLines$Scan" "queued" "I") (List.mem_of_getElem? (i := 3) rfl)) (fun _ h9 => h9) rfl dX5_readOne_42 ?_
      refine lv_iload_n hx hb dX5_readOne_45 rfl (lv_at hl 0 rfl) ?_
      refine lv_iadd hx hb dX5_readOne_46 ?_
      refine va_put (D := (dC, dI)) (ci := 4) (v := .int (v5_queued + (1 : Int32))) (ty := .int) (C := RX5) (T := TX5) (N := 11) hx hb hts hiX5 tyX5 tyX5_ok nmX5 hown hK hP hD hS 0 rfl rfl 4 (by decide) (hts (.fieldLink RX5 31 "PageLines$Scan" "queued" "I") (List.mem_of_getElem? (i := 3) rfl)) (fun _ h9 => h9) rfl (by decide +kernel) rfl rfl (Nat.le_of_ble_eq_true rfl) dX5_readOne_47 (fun H locs hP hD hS => ?_)
      have hP : va_P (dC, dI) vwCl (WX5 cy a5 v5_on v5_lines v5_reach v5_positions (v5_queued + (1 : Int32)) v5_position v5_next v5_mode v5_outTicks v5_stops v5_ticked) H := hP
      have hD : va_D A0 (WX5 cy a5 v5_on v5_lines v5_reach v5_positions (v5_queued + (1 : Int32)) v5_position v5_next v5_mode v5_outTicks v5_stops v5_ticked) := hD
      refine lv_aload_n hx hb dX5_readOne_50 rfl (lv_at hl 1 rfl) ?_
      refine lv_dup hx hb dX5_readOne_51 rfl ?_
      refine va_get (D := (dC, dI)) (ci := 4) (v := .int v5_position) (C := RX5) (T := TX5) (N := 11) hx hb hts hiX5 hown hK hP 0 rfl rfl 5 (by decide) (hts (.fieldLink RX5 9 "PageLines$Scan" "position" "I") (List.mem_of_getElem? (i := 1) rfl)) (fun _ h9 => h9) rfl dX5_readOne_52 ?_
      refine lv_iconst (v := (1 : Int32)) hx hb dX5_readOne_55 (by decide) ?_
      refine lv_iadd hx hb dX5_readOne_56 ?_
      refine va_put (D := (dC, dI)) (ci := 4) (v := .int (v5_position + (1 : Int32))) (ty := .int) (C := RX5) (T := TX5) (N := 11) hx hb hts hiX5 tyX5 tyX5_ok nmX5 hown hK hP hD hS 0 rfl rfl 5 (by decide) (hts (.fieldLink RX5 9 "PageLines$Scan" "position" "I") (List.mem_of_getElem? (i := 1) rfl)) (fun _ h9 => h9) rfl (by decide +kernel) rfl rfl (Nat.le_of_ble_eq_true rfl) dX5_readOne_57 (fun H locs hP hD hS => ?_)
      have hP : va_P (dC, dI) vwCl (WX5 cy a5 v5_on v5_lines v5_reach v5_positions (v5_queued + (1 : Int32)) (v5_position + (1 : Int32)) v5_next v5_mode v5_outTicks v5_stops v5_ticked) H := hP
      have hD : va_D A0 (WX5 cy a5 v5_on v5_lines v5_reach v5_positions (v5_queued + (1 : Int32)) (v5_position + (1 : Int32)) v5_next v5_mode v5_outTicks v5_stops v5_ticked) := hD
      refine lv_aload_n hx hb dX5_readOne_60 rfl (lv_at hl 1 rfl) ?_
      refine lv_dup hx hb dX5_readOne_61 rfl ?_
      refine va_get (D := (dC, dI)) (ci := 4) (v := .int v5_next) (C := RX5) (T := TX5) (N := 11) hx hb hts hiX5 hown hK hP 0 rfl rfl 6 (by decide) (hts (.fieldLink RX5 34 "PageLines$Scan" "next" "I") (List.mem_of_getElem? (i := 4) rfl)) (fun _ h9 => h9) rfl dX5_readOne_62 ?_
      refine lv_iconst (v := (1 : Int32)) hx hb dX5_readOne_65 (by decide) ?_
      refine lv_iadd hx hb dX5_readOne_66 ?_
      refine va_put (D := (dC, dI)) (ci := 4) (v := .int (v5_next + (1 : Int32))) (ty := .int) (C := RX5) (T := TX5) (N := 11) hx hb hts hiX5 tyX5 tyX5_ok nmX5 hown hK hP hD hS 0 rfl rfl 6 (by decide) (hts (.fieldLink RX5 34 "PageLines$Scan" "next" "I") (List.mem_of_getElem? (i := 4) rfl)) (fun _ h9 => h9) rfl (by decide +kernel) rfl rfl (Nat.le_of_ble_eq_true rfl) dX5_readOne_67 (fun H locs hP hD hS => ?_)
      have hP : va_P (dC, dI) vwCl (WX5 cy a5 v5_on v5_lines v5_reach v5_positions (v5_queued + (1 : Int32)) (v5_position + (1 : Int32)) (v5_next + (1 : Int32)) v5_mode v5_outTicks v5_stops v5_ticked) H := hP
      have hD : va_D A0 (WX5 cy a5 v5_on v5_lines v5_reach v5_positions (v5_queued + (1 : Int32)) (v5_position + (1 : Int32)) (v5_next + (1 : Int32)) v5_mode v5_outTicks v5_stops v5_ticked) := hD
      refine lv_aload_n hx hb dX5_readOne_70 rfl (lv_at hl 1 rfl) ?_
      obtain ⟨r5, hr5, hf⟩ := cl1_sp hf
      refine ro_V (As := []) ⟨hx, hb, hml, hown, hts⟩ (kX5_wantsMore l dC dI cy _ a5 v5_on v5_lines v5_reach v5_positions (v5_queued + (1 : Int32)) (v5_position + (1 : Int32)) (v5_next + (1 : Int32)) v5_mode v5_outTicks v5_stops v5_ticked r5 hr5) (cwV 0 hts gX5_readOne_X5_wantsMore rfl rfl rfl (by decide +kernel) ⟨Nat.le_of_ble_eq_true rfl, Nat.le_of_ble_eq_true rfl⟩) (va_recv hK hP (ci := 4) (q0 := 0) rfl rfl) (hP.sub [0] rfl) hK hS rfl hl.1 rfl (Nat.le_of_ble_eq_true rfl) dX5_readOne_71 (Nat.zero_le _) (Nat.zero_le _) (fun locs hS => ?_)
      refine lv_if_eq (tgt := 86) hx hb dX5_readOne_74 (by decide) (fun hc => ?_) (fun hc => ?_)
      · have hf := it_p hc hf
        refine lv_aload_n hx hb dX5_readOne_86 rfl (lv_at hl 1 rfl) ?_
        obtain ⟨w6_mode, w6_outTicks, w6_stops, hr6, hf⟩ := cl3_sp hf
        refine rw_Vv (As := []) (wr := []) ⟨hx, hb, hml, hown, hts⟩ (kX5_leave l dC dI cy _ a5 v5_on v5_lines v5_reach v5_positions (v5_queued + (1 : Int32)) (v5_position + (1 : Int32)) (v5_next + (1 : Int32)) v5_mode v5_outTicks v5_stops v5_ticked w6_mode w6_outTicks w6_stops hr6) (cwV 0 hts gX5_readOne_X5_leave rfl rfl rfl (by decide +kernel) ⟨Nat.le_of_ble_eq_true rfl, Nat.le_of_ble_eq_true rfl⟩) (va_recv hK hP (ci := 4) (q0 := 0) rfl rfl) hK hP hD hS hA [0] [] rfl rfl (by decide) (by decide) (by decide) rfl hl.1 rfl (Nat.le_of_ble_eq_true rfl) dX5_readOne_87 (Nat.zero_le _) (Nat.zero_le _) (fun H locs hP hD hS => ?_)
        have hP : va_P (dC, dI) vwCl (WX5 cy a5 v5_on v5_lines v5_reach v5_positions (v5_queued + (1 : Int32)) (v5_position + (1 : Int32)) (v5_next + (1 : Int32)) w6_mode w6_outTicks w6_stops v5_ticked) H := hP.sub [0] rfl
        have hD : va_D A0 (WX5 cy a5 v5_on v5_lines v5_reach v5_positions (v5_queued + (1 : Int32)) (v5_position + (1 : Int32)) (v5_next + (1 : Int32)) w6_mode w6_outTicks w6_stops v5_ticked) := hD.sub [0] (by decide) rfl
        refine lv_iload_n hx hb dX5_readOne_90 rfl (lv_at hl 0 rfl) ?_
        cases hf
        exact W.iret hx hb hr (fun t ht hW => ⟨⟨_, (), rfl, rfl, by rw [ht]; exact hP, hD⟩, hS.F ht⟩) hS.2.2 dX5_readOne_91
      · have hf := it_n hc hf
        refine lv_aload_n hx hb dX5_readOne_77 rfl (lv_at hl 1 rfl) ?_
        refine va_get (D := (dC, dI)) (ci := 4) (v := .int (v5_queued + (1 : Int32))) (C := RX5) (T := TX5) (N := 11) hx hb hts hiX5 hown hK hP 0 rfl rfl 4 (by decide) (hts (.fieldLink RX5 31 "PageLines$Scan" "queued" "I") (List.mem_of_getElem? (i := 3) rfl)) (fun _ h9 => h9) rfl dX5_readOne_78 ?_
        refine lv_bipush (v := (6 : Int32)) hx hb dX5_readOne_81 (by decide) ?_
        refine lv_icmp_lt (tgt := 90) hx hb dX5_readOne_83 (by decide) (fun hc => ?_) (fun hc => ?_)
        · have hf := it_p hc hf
          refine lv_iload_n hx hb dX5_readOne_90 rfl (lv_at hl 0 rfl) ?_
          cases hf
          exact W.iret hx hb hr (fun t ht hW => ⟨⟨_, (), rfl, rfl, by rw [ht]; exact hP, hD⟩, hS.F ht⟩) hS.2.2 dX5_readOne_91
        · have hf := it_n hc hf
          refine lv_aload_n hx hb dX5_readOne_86 rfl (lv_at hl 1 rfl) ?_
          obtain ⟨w7_mode, w7_outTicks, w7_stops, hr7, hf⟩ := cl3_sp hf
          refine rw_Vv (As := []) (wr := []) ⟨hx, hb, hml, hown, hts⟩ (kX5_leave l dC dI cy _ a5 v5_on v5_lines v5_reach v5_positions (v5_queued + (1 : Int32)) (v5_position + (1 : Int32)) (v5_next + (1 : Int32)) v5_mode v5_outTicks v5_stops v5_ticked w7_mode w7_outTicks w7_stops hr7) (cwV 0 hts gX5_readOne_X5_leave rfl rfl rfl (by decide +kernel) ⟨Nat.le_of_ble_eq_true rfl, Nat.le_of_ble_eq_true rfl⟩) (va_recv hK hP (ci := 4) (q0 := 0) rfl rfl) hK hP hD hS hA [0] [] rfl rfl (by decide) (by decide) (by decide) rfl hl.1 rfl (Nat.le_of_ble_eq_true rfl) dX5_readOne_87 (Nat.zero_le _) (Nat.zero_le _) (fun H locs hP hD hS => ?_)
          have hP : va_P (dC, dI) vwCl (WX5 cy a5 v5_on v5_lines v5_reach v5_positions (v5_queued + (1 : Int32)) (v5_position + (1 : Int32)) (v5_next + (1 : Int32)) w7_mode w7_outTicks w7_stops v5_ticked) H := hP.sub [0] rfl
          have hD : va_D A0 (WX5 cy a5 v5_on v5_lines v5_reach v5_positions (v5_queued + (1 : Int32)) (v5_position + (1 : Int32)) (v5_next + (1 : Int32)) w7_mode w7_outTicks w7_stops v5_ticked) := hD.sub [0] (by decide) rfl
          refine lv_iload_n hx hb dX5_readOne_90 rfl (lv_at hl 0 rfl) ?_
          cases hf
          exact W.iret hx hb hr (fun t ht hW => ⟨⟨_, (), rfl, rfl, by rw [ht]; exact hP, hD⟩, hS.F ht⟩) hS.2.2 dX5_readOne_91
  · have hf := it_p hc hf
    refine lv_aload_n hx hb dX5_readOne_7 rfl (lv_at hl 0 rfl) ?_
    refine lv_dup hx hb dX5_readOne_8 rfl ?_
    refine va_get (D := (dC, dI)) (ci := 4) (v := .int v5_position) (C := RX5) (T := TX5) (N := 11) hx hb hts hiX5 hown hK hP 0 rfl rfl 5 (by decide) (hts (.fieldLink RX5 9 "PageLines$Scan" "position" "I") (List.mem_of_getElem? (i := 1) rfl)) (fun _ h9 => h9) rfl dX5_readOne_9 ?_
    refine lv_iconst (v := (1 : Int32)) hx hb dX5_readOne_12 (by decide) ?_
    refine lv_iadd hx hb dX5_readOne_13 ?_
    refine va_put (D := (dC, dI)) (ci := 4) (v := .int (v5_position + (1 : Int32))) (ty := .int) (C := RX5) (T := TX5) (N := 11) hx hb hts hiX5 tyX5 tyX5_ok nmX5 hown hK hP hD hS 0 rfl rfl 5 (by decide) (hts (.fieldLink RX5 9 "PageLines$Scan" "position" "I") (List.mem_of_getElem? (i := 1) rfl)) (fun _ h9 => h9) rfl (by decide +kernel) rfl rfl (Nat.le_of_ble_eq_true rfl) dX5_readOne_14 (fun H locs hP hD hS => ?_)
    have hP : va_P (dC, dI) vwCl (WX5 cy a5 v5_on v5_lines v5_reach v5_positions v5_queued (v5_position + (1 : Int32)) v5_next v5_mode v5_outTicks v5_stops v5_ticked) H := hP
    have hD : va_D A0 (WX5 cy a5 v5_on v5_lines v5_reach v5_positions v5_queued (v5_position + (1 : Int32)) v5_next v5_mode v5_outTicks v5_stops v5_ticked) := hD
    refine lv_aload_n hx hb dX5_readOne_17 rfl (lv_at hl 0 rfl) ?_
    obtain ⟨w8_mode, w8_outTicks, w8_stops, hr8, hf⟩ := cl3_sp hf
    refine rw_Vv (As := []) (wr := []) ⟨hx, hb, hml, hown, hts⟩ (kX5_leave l dC dI cy _ a5 v5_on v5_lines v5_reach v5_positions v5_queued (v5_position + (1 : Int32)) v5_next v5_mode v5_outTicks v5_stops v5_ticked w8_mode w8_outTicks w8_stops hr8) (cwV 0 hts gX5_readOne_X5_leave rfl rfl rfl (by decide +kernel) ⟨Nat.le_of_ble_eq_true rfl, Nat.le_of_ble_eq_true rfl⟩) (va_recv hK hP (ci := 4) (q0 := 0) rfl rfl) hK hP hD hS hA [0] [] rfl rfl (by decide) (by decide) (by decide) rfl hl.1 rfl (Nat.le_of_ble_eq_true rfl) dX5_readOne_18 (Nat.zero_le _) (Nat.zero_le _) (fun H locs hP hD hS => ?_)
    have hP : va_P (dC, dI) vwCl (WX5 cy a5 v5_on v5_lines v5_reach v5_positions v5_queued (v5_position + (1 : Int32)) v5_next w8_mode w8_outTicks w8_stops v5_ticked) H := hP.sub [0] rfl
    have hD : va_D A0 (WX5 cy a5 v5_on v5_lines v5_reach v5_positions v5_queued (v5_position + (1 : Int32)) v5_next w8_mode w8_outTicks w8_stops v5_ticked) := hD.sub [0] (by decide) rfl
    refine lv_iconst (v := (0 : Int32)) hx hb dX5_readOne_21 (by decide) ?_
    cases hf
    exact W.iret hx hb hr (fun t ht hW => ⟨⟨_, (), rfl, rfl, by rw [ht]; exact hP, hD⟩, hS.F ht⟩) hS.2.2 dX5_readOne_22
set_option maxHeartbeats 4000000 in
set_option maxRecDepth 100000 in
theorem kX5_runOut (l : Launch) (dC : Nat → ClassId) (dI : Nat → Nat → Nat) (cy : ClassId) (sz : Nat) (a5 : Nat) (v5_on : Int32) (v5_lines : Int32) (v5_reach : Int32) (v5_positions : Int32) (v5_queued : Int32) (v5_position : Int32) (v5_next : Int32) (v5_mode : Int32) (v5_outTicks : Int32) (v5_stops : Int32) (v5_ticked : Int32) (o_v5_position : Int32) (o_v5_mode : Int32) (o_v5_outTicks : Int32) (hf : fX5_runOut v5_position v5_mode v5_outTicks = some (o_v5_position, o_v5_mode, o_v5_outTicks)) : Met l yX5_runOut wsX5_runOut ({ frames := 0, cells := 0, slots := 0, locals := 0 }) (rwP [.ref a5] (dC, dI) vwCl (WX5 cy a5 v5_on v5_lines v5_reach v5_positions v5_queued v5_position v5_next v5_mode v5_outTicks v5_stops v5_ticked) [(cy, .int)] sz) (rwQv (dC, dI) vwCl (WX5 cy a5 v5_on v5_lines v5_reach v5_positions v5_queued o_v5_position v5_next o_v5_mode o_v5_outTicks v5_stops v5_ticked) (va_A (WX5 cy a5 v5_on v5_lines v5_reach v5_positions v5_queued v5_position v5_next v5_mode v5_outTicks v5_stops v5_ticked) sz)) 0 0 (va_A (WX5 cy a5 v5_on v5_lines v5_reach v5_positions v5_queued v5_position v5_next v5_mode v5_outTicks v5_stops v5_ticked) sz) := by
  refine Met.ofW (cc := cX5_runOut) (maxL := 1) (ret := none) (by decide) rfl ?_
  intro p e s m args below meth c s₁ B hml hv
  obtain ⟨rfl, hsz, hP, hK, hD0⟩ := hv
  have hx := B.exec
  have hb := B.bytes
  have hr := B.returns
  have hts := atoms_spec (ws := wsX5_runOut) B.pre
  have hown : s.vm.findClass RX5 = some m.cls := findClass_of_methodNamed B.named
  have hlocks := B.notSynchronized
  have hiX5 : ∀ w ∈ u_ws RX5 TX5 11, w ∈ wsX5_runOut := fun _ h => List.mem_cons_of_mem _ ((List.mem_append_right _ h))
  subst hsz
  have hD := hD0.self (sz := s.heap.size)
  generalize hAe : va_A (WX5 cy a5 v5_on v5_lines v5_reach v5_positions v5_queued v5_position v5_next v5_mode v5_outTicks v5_stops v5_ticked) s.heap.size = A0 at hD ⊢
  have hA : ∀ q : Nat, s.heap.size ≤ q → A0 q := fun q h => by rw [← hAe]; exact Or.inr h
  have hS : va_S A0 s.heap s.heap [] := va_S.rf
  have hl := lv_entry ([.ref a5]) (n := 1) (Nat.le_of_ble_eq_true rfl)
  rw [lg_entry_eq]
  generalize (lg_sl ([.ref a5]) ++ List.replicate (1 - (lg_sl ([.ref a5])).length) Slot.unset).toArray = ls at hl ⊢
  have hl : lv_has ls 1 [(0, .ref a5)] := hl
  unfold fX5_runOut at hf
  refine lv_aload_n hx hb dX5_runOut_0 rfl (lv_at hl 0 rfl) ?_
  refine lv_dup hx hb dX5_runOut_1 rfl ?_
  refine va_get (D := (dC, dI)) (ci := 4) (v := .int v5_position) (C := RX5) (T := TX5) (N := 11) hx hb hts hiX5 hown hK hP 0 rfl rfl 5 (by decide) (hts (.fieldLink RX5 9 "PageLines$Scan" "position" "I") (List.mem_of_getElem? (i := 1) rfl)) (fun _ h9 => h9) rfl dX5_runOut_2 ?_
  refine lv_iconst (v := (1 : Int32)) hx hb dX5_runOut_5 (by decide) ?_
  refine lv_iadd hx hb dX5_runOut_6 ?_
  refine va_put (D := (dC, dI)) (ci := 4) (v := .int (v5_position + (1 : Int32))) (ty := .int) (C := RX5) (T := TX5) (N := 11) hx hb hts hiX5 tyX5 tyX5_ok nmX5 hown hK hP hD hS 0 rfl rfl 5 (by decide) (hts (.fieldLink RX5 9 "PageLines$Scan" "position" "I") (List.mem_of_getElem? (i := 1) rfl)) (fun _ h9 => h9) rfl (by decide +kernel) rfl rfl (Nat.le_of_ble_eq_true rfl) dX5_runOut_7 (fun H locs hP hD hS => ?_)
  have hP : va_P (dC, dI) vwCl (WX5 cy a5 v5_on v5_lines v5_reach v5_positions v5_queued (v5_position + (1 : Int32)) v5_next v5_mode v5_outTicks v5_stops v5_ticked) H := hP
  have hD : va_D A0 (WX5 cy a5 v5_on v5_lines v5_reach v5_positions v5_queued (v5_position + (1 : Int32)) v5_next v5_mode v5_outTicks v5_stops v5_ticked) := hD
  refine lv_aload_n hx hb dX5_runOut_10 rfl (lv_at hl 0 rfl) ?_
  refine lv_dup hx hb dX5_runOut_11 rfl ?_
  refine va_get (D := (dC, dI)) (ci := 4) (v := .int v5_outTicks) (C := RX5) (T := TX5) (N := 11) hx hb hts hiX5 hown hK hP 0 rfl rfl 8 (by decide) (hts (.fieldLink RX5 63 "PageLines$Scan" "outTicks" "I") (List.mem_of_getElem? (i := 2) rfl)) (fun _ h9 => h9) rfl dX5_runOut_12 ?_
  refine lv_iconst (v := (1 : Int32)) hx hb dX5_runOut_15 (by decide) ?_
  refine lv_iadd hx hb dX5_runOut_16 ?_
  refine va_put (D := (dC, dI)) (ci := 4) (v := .int (v5_outTicks + (1 : Int32))) (ty := .int) (C := RX5) (T := TX5) (N := 11) hx hb hts hiX5 tyX5 tyX5_ok nmX5 hown hK hP hD hS 0 rfl rfl 8 (by decide) (hts (.fieldLink RX5 63 "PageLines$Scan" "outTicks" "I") (List.mem_of_getElem? (i := 2) rfl)) (fun _ h9 => h9) rfl (by decide +kernel) rfl rfl (Nat.le_of_ble_eq_true rfl) dX5_runOut_17 (fun H locs hP hD hS => ?_)
  have hP : va_P (dC, dI) vwCl (WX5 cy a5 v5_on v5_lines v5_reach v5_positions v5_queued (v5_position + (1 : Int32)) v5_next v5_mode (v5_outTicks + (1 : Int32)) v5_stops v5_ticked) H := hP
  have hD : va_D A0 (WX5 cy a5 v5_on v5_lines v5_reach v5_positions v5_queued (v5_position + (1 : Int32)) v5_next v5_mode (v5_outTicks + (1 : Int32)) v5_stops v5_ticked) := hD
  refine lv_aload_n hx hb dX5_runOut_20 rfl (lv_at hl 0 rfl) ?_
  refine va_get (D := (dC, dI)) (ci := 4) (v := .int (v5_outTicks + (1 : Int32))) (C := RX5) (T := TX5) (N := 11) hx hb hts hiX5 hown hK hP 0 rfl rfl 8 (by decide) (hts (.fieldLink RX5 63 "PageLines$Scan" "outTicks" "I") (List.mem_of_getElem? (i := 2) rfl)) (fun _ h9 => h9) rfl dX5_runOut_21 ?_
  refine lv_iconst (v := (3 : Int32)) hx hb dX5_runOut_24 (by decide) ?_
  refine lv_icmp_lt (tgt := 33) hx hb dX5_runOut_25 (by decide) (fun hc => ?_) (fun hc => ?_)
  · have hf := it_p hc hf
    cases hf
    exact W.vret hx hb hr (fun t ht hW => ⟨⟨(), rfl, trivial, by rw [ht]; exact hP, hD⟩, hS.F ht⟩) hS.2.2 dX5_runOut_33
  · have hf := it_n hc hf
    refine lv_aload_n hx hb dX5_runOut_28 rfl (lv_at hl 0 rfl) ?_
    refine lv_iconst (v := (4 : Int32)) hx hb dX5_runOut_29 (by decide) ?_
    refine va_put (D := (dC, dI)) (ci := 4) (v := .int (4 : Int32)) (ty := .int) (C := RX5) (T := TX5) (N := 11) hx hb hts hiX5 tyX5 tyX5_ok nmX5 hown hK hP hD hS 0 rfl rfl 7 (by decide) (hts (.fieldLink RX5 15 "PageLines$Scan" "mode" "I") (List.mem_of_getElem? (i := 3) rfl)) (fun _ h9 => h9) rfl (by decide +kernel) rfl rfl (Nat.le_of_ble_eq_true rfl) dX5_runOut_30 (fun H locs hP hD hS => ?_)
    have hP : va_P (dC, dI) vwCl (WX5 cy a5 v5_on v5_lines v5_reach v5_positions v5_queued (v5_position + (1 : Int32)) v5_next (4 : Int32) (v5_outTicks + (1 : Int32)) v5_stops v5_ticked) H := hP
    have hD : va_D A0 (WX5 cy a5 v5_on v5_lines v5_reach v5_positions v5_queued (v5_position + (1 : Int32)) v5_next (4 : Int32) (v5_outTicks + (1 : Int32)) v5_stops v5_ticked) := hD
    cases hf
    exact W.vret hx hb hr (fun t ht hW => ⟨⟨(), rfl, trivial, by rw [ht]; exact hP, hD⟩, hS.F ht⟩) hS.2.2 dX5_runOut_33
set_option maxHeartbeats 4000000 in
set_option maxRecDepth 100000 in
theorem kX5_goBack (l : Launch) (dC : Nat → ClassId) (dI : Nat → Nat → Nat) (cy : ClassId) (sz : Nat) (a5 : Nat) (v5_on : Int32) (v5_lines : Int32) (v5_reach : Int32) (v5_positions : Int32) (v5_queued : Int32) (v5_position : Int32) (v5_next : Int32) (v5_mode : Int32) (v5_outTicks : Int32) (v5_stops : Int32) (v5_ticked : Int32) (o_v5_position : Int32) (o_v5_mode : Int32) (hf : fX5_goBack v5_position v5_next v5_mode = some (o_v5_position, o_v5_mode)) : Met l yX5_goBack wsX5_goBack ({ frames := 0, cells := 0, slots := 0, locals := 0 }) (rwP [.ref a5] (dC, dI) vwCl (WX5 cy a5 v5_on v5_lines v5_reach v5_positions v5_queued v5_position v5_next v5_mode v5_outTicks v5_stops v5_ticked) [(cy, .int)] sz) (rwQv (dC, dI) vwCl (WX5 cy a5 v5_on v5_lines v5_reach v5_positions v5_queued o_v5_position v5_next o_v5_mode v5_outTicks v5_stops v5_ticked) (va_A (WX5 cy a5 v5_on v5_lines v5_reach v5_positions v5_queued v5_position v5_next v5_mode v5_outTicks v5_stops v5_ticked) sz)) 0 0 (va_A (WX5 cy a5 v5_on v5_lines v5_reach v5_positions v5_queued v5_position v5_next v5_mode v5_outTicks v5_stops v5_ticked) sz) := by
  refine Met.ofW (cc := cX5_goBack) (maxL := 1) (ret := none) (by decide) rfl ?_
  intro p e s m args below meth c s₁ B hml hv
  obtain ⟨rfl, hsz, hP, hK, hD0⟩ := hv
  have hx := B.exec
  have hb := B.bytes
  have hr := B.returns
  have hts := atoms_spec (ws := wsX5_goBack) B.pre
  have hown : s.vm.findClass RX5 = some m.cls := findClass_of_methodNamed B.named
  have hlocks := B.notSynchronized
  have hiX5 : ∀ w ∈ u_ws RX5 TX5 11, w ∈ wsX5_goBack := fun _ h => List.mem_cons_of_mem _ ((List.mem_append_right _ h))
  subst hsz
  have hD := hD0.self (sz := s.heap.size)
  generalize hAe : va_A (WX5 cy a5 v5_on v5_lines v5_reach v5_positions v5_queued v5_position v5_next v5_mode v5_outTicks v5_stops v5_ticked) s.heap.size = A0 at hD ⊢
  have hA : ∀ q : Nat, s.heap.size ≤ q → A0 q := fun q h => by rw [← hAe]; exact Or.inr h
  have hS : va_S A0 s.heap s.heap [] := va_S.rf
  have hl := lv_entry ([.ref a5]) (n := 1) (Nat.le_of_ble_eq_true rfl)
  rw [lg_entry_eq]
  generalize (lg_sl ([.ref a5]) ++ List.replicate (1 - (lg_sl ([.ref a5])).length) Slot.unset).toArray = ls at hl ⊢
  have hl : lv_has ls 1 [(0, .ref a5)] := hl
  unfold fX5_goBack at hf
  refine lv_aload_n hx hb dX5_goBack_0 rfl (lv_at hl 0 rfl) ?_
  refine lv_dup hx hb dX5_goBack_1 rfl ?_
  refine va_get (D := (dC, dI)) (ci := 4) (v := .int v5_position) (C := RX5) (T := TX5) (N := 11) hx hb hts hiX5 hown hK hP 0 rfl rfl 5 (by decide) (hts (.fieldLink RX5 9 "PageLines$Scan" "position" "I") (List.mem_of_getElem? (i := 1) rfl)) (fun _ h9 => h9) rfl dX5_goBack_2 ?_
  refine lv_iconst (v := (1 : Int32)) hx hb dX5_goBack_5 (by decide) ?_
  refine lv_isub hx hb dX5_goBack_6 ?_
  refine va_put (D := (dC, dI)) (ci := 4) (v := .int (v5_position - (1 : Int32))) (ty := .int) (C := RX5) (T := TX5) (N := 11) hx hb hts hiX5 tyX5 tyX5_ok nmX5 hown hK hP hD hS 0 rfl rfl 5 (by decide) (hts (.fieldLink RX5 9 "PageLines$Scan" "position" "I") (List.mem_of_getElem? (i := 1) rfl)) (fun _ h9 => h9) rfl (by decide +kernel) rfl rfl (Nat.le_of_ble_eq_true rfl) dX5_goBack_7 (fun H locs hP hD hS => ?_)
  have hP : va_P (dC, dI) vwCl (WX5 cy a5 v5_on v5_lines v5_reach v5_positions v5_queued (v5_position - (1 : Int32)) v5_next v5_mode v5_outTicks v5_stops v5_ticked) H := hP
  have hD : va_D A0 (WX5 cy a5 v5_on v5_lines v5_reach v5_positions v5_queued (v5_position - (1 : Int32)) v5_next v5_mode v5_outTicks v5_stops v5_ticked) := hD
  refine lv_aload_n hx hb dX5_goBack_10 rfl (lv_at hl 0 rfl) ?_
  refine va_get (D := (dC, dI)) (ci := 4) (v := .int (v5_position - (1 : Int32))) (C := RX5) (T := TX5) (N := 11) hx hb hts hiX5 hown hK hP 0 rfl rfl 5 (by decide) (hts (.fieldLink RX5 9 "PageLines$Scan" "position" "I") (List.mem_of_getElem? (i := 1) rfl)) (fun _ h9 => h9) rfl dX5_goBack_11 ?_
  refine lv_aload_n hx hb dX5_goBack_14 rfl (lv_at hl 0 rfl) ?_
  refine va_get (D := (dC, dI)) (ci := 4) (v := .int v5_next) (C := RX5) (T := TX5) (N := 11) hx hb hts hiX5 hown hK hP 0 rfl rfl 6 (by decide) (hts (.fieldLink RX5 34 "PageLines$Scan" "next" "I") (List.mem_of_getElem? (i := 2) rfl)) (fun _ h9 => h9) rfl dX5_goBack_15 ?_
  refine lv_iconst (v := (4 : Int32)) hx hb dX5_goBack_18 (by decide) ?_
  refine lv_isub hx hb dX5_goBack_19 ?_
  refine lv_icmp_ne (tgt := 28) hx hb dX5_goBack_20 (by decide) (fun hc => ?_) (fun hc => ?_)
  · have hf := it_n hc hf
    cases hf
    exact W.vret hx hb hr (fun t ht hW => ⟨⟨(), rfl, trivial, by rw [ht]; exact hP, hD⟩, hS.F ht⟩) hS.2.2 dX5_goBack_28
  · have hf := it_p hc hf
    refine lv_aload_n hx hb dX5_goBack_23 rfl (lv_at hl 0 rfl) ?_
    refine lv_iconst (v := (0 : Int32)) hx hb dX5_goBack_24 (by decide) ?_
    refine va_put (D := (dC, dI)) (ci := 4) (v := .int (0 : Int32)) (ty := .int) (C := RX5) (T := TX5) (N := 11) hx hb hts hiX5 tyX5 tyX5_ok nmX5 hown hK hP hD hS 0 rfl rfl 7 (by decide) (hts (.fieldLink RX5 15 "PageLines$Scan" "mode" "I") (List.mem_of_getElem? (i := 3) rfl)) (fun _ h9 => h9) rfl (by decide +kernel) rfl rfl (Nat.le_of_ble_eq_true rfl) dX5_goBack_25 (fun H locs hP hD hS => ?_)
    have hP : va_P (dC, dI) vwCl (WX5 cy a5 v5_on v5_lines v5_reach v5_positions v5_queued (v5_position - (1 : Int32)) v5_next (0 : Int32) v5_outTicks v5_stops v5_ticked) H := hP
    have hD : va_D A0 (WX5 cy a5 v5_on v5_lines v5_reach v5_positions v5_queued (v5_position - (1 : Int32)) v5_next (0 : Int32) v5_outTicks v5_stops v5_ticked) := hD
    cases hf
    exact W.vret hx hb hr (fun t ht hW => ⟨⟨(), rfl, trivial, by rw [ht]; exact hP, hD⟩, hS.F ht⟩) hS.2.2 dX5_goBack_28

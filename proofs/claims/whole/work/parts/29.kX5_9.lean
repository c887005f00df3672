set_option maxHeartbeats 4000000 in
set_option maxRecDepth 100000 in
theorem kX5_tick (l : Launch) (dC : Nat → ClassId) (dI : Nat → Nat → Nat) (cy : ClassId) (sz : Nat) (a5 : Nat) (v5_on : Int32) (v5_lines : Int32) (v5_reach : Int32) (v5_positions : Int32) (v5_queued : Int32) (v5_position : Int32) (v5_next : Int32) (v5_mode : Int32) (v5_outTicks : Int32) (v5_stops : Int32) (v5_ticked : Int32) (r : Int32) (o_v5_queued : Int32) (o_v5_position : Int32) (o_v5_next : Int32) (o_v5_mode : Int32) (o_v5_outTicks : Int32) (o_v5_stops : Int32) (o_v5_ticked : Int32) (hf : fX5_tick v5_on v5_reach v5_positions v5_queued v5_position v5_next v5_mode v5_outTicks v5_stops v5_ticked = some (r, o_v5_queued, o_v5_position, o_v5_next, o_v5_mode, o_v5_outTicks, o_v5_stops, o_v5_ticked)) : Met l yX5_tick wsX5_tick ({ frames := 3, cells := 0, slots := 0, locals := 61 }) (rwP [.ref a5] (dC, dI) vwCl (WX5 cy a5 v5_on v5_lines v5_reach v5_positions v5_queued v5_position v5_next v5_mode v5_outTicks v5_stops v5_ticked) [(cy, .int)] sz) (rwQi r (dC, dI) vwCl (WX5 cy a5 v5_on v5_lines v5_reach v5_positions o_v5_queued o_v5_position o_v5_next o_v5_mode o_v5_outTicks o_v5_stops o_v5_ticked) (va_A (WX5 cy a5 v5_on v5_lines v5_reach v5_positions v5_queued v5_position v5_next v5_mode v5_outTicks v5_stops v5_ticked) sz)) 0 0 (va_A (WX5 cy a5 v5_on v5_lines v5_reach v5_positions v5_queued v5_position v5_next v5_mode v5_outTicks v5_stops v5_ticked) sz) := by
  refine Met.ofW (cc := cX5_tick) (maxL := 1) (ret := (some .int)) (by decide) rfl ?_
  intro p e s m args below meth c s₁ B hml hv
  obtain ⟨rfl, hsz, hP, hK, hD0⟩ := hv
  have hx := B.exec
  have hb := B.bytes
  have hr := B.returns
  have hts := atoms_spec (ws := wsX5_tick) B.pre
  have hown : s.vm.findClass RX5 = some m.cls := findClass_of_methodNamed B.named
  have hlocks := B.notSynchronized
  have hiX5 : ∀ w ∈ u_ws RX5 TX5 11, w ∈ wsX5_tick := fun _ h => List.mem_cons_of_mem _ ((List.mem_append_right _ h))
  subst hsz
  have hD := hD0.self (sz := s.heap.size)
  generalize hAe : va_A (WX5 cy a5 v5_on v5_lines v5_reach v5_positions v5_queued v5_position v5_next v5_mode v5_outTicks v5_stops v5_ticked) s.heap.size = A0 at hD ⊢
  have hA : ∀ q : Nat, s.heap.size ≤ q → A0 q := fun q h => by rw [← hAe]; exact Or.inr h
  have hS : va_S A0 s.heap s.heap [] := va_S.rf
  have hl := lv_entry ([.ref a5]) (n := 1) (Nat.le_of_ble_eq_true rfl)
  rw [lg_entry_eq]
  generalize (lg_sl ([.ref a5]) ++ List.replicate (1 - (lg_sl ([.ref a5])).length) Slot.unset).toArray = ls at hl ⊢
  have hl : lv_has ls 1 [(0, .ref a5)] := hl
  unfold fX5_tick at hf
  refine lv_aload_n hx hb dX5_tick_0 rfl (lv_at hl 0 rfl) ?_
  refine lv_dup hx hb dX5_tick_1 rfl ?_
  refine va_get (D := (dC, dI)) (ci := 4) (v := .int v5_ticked) (C := RX5) (T := TX5) (N := 11) hx hb hts hiX5 hown hK hP 0 rfl rfl 10 (by decide) (hts (.fieldLink RX5 40 "PageLines$Scan" "ticked" "I") (List.mem_of_getElem? (i := 1) rfl)) (fun _ h9 => h9) rfl dX5_tick_2 ?_
  refine lv_iconst (v := (1 : Int32)) hx hb dX5_tick_5 (by decide) ?_
  refine lv_iadd hx hb dX5_tick_6 ?_
  refine va_put (D := (dC, dI)) (ci := 4) (v := .int (v5_ticked + (1 : Int32))) (ty := .int) (C := RX5) (T := TX5) (N := 11) hx hb hts hiX5 tyX5 tyX5_ok nmX5 hown hK hP hD hS 0 rfl rfl 10 (by decide) (hts (.fieldLink RX5 40 "PageLines$Scan" "ticked" "I") (List.mem_of_getElem? (i := 1) rfl)) (fun _ h9 => h9) rfl (by decide +kernel) rfl rfl (Nat.le_of_ble_eq_true rfl) dX5_tick_7 (fun H locs hP hD hS => ?_)
  have hP : va_P (dC, dI) vwCl (WX5 cy a5 v5_on v5_lines v5_reach v5_positions v5_queued v5_position v5_next v5_mode v5_outTicks v5_stops (v5_ticked + (1 : Int32))) H := hP
  have hD : va_D A0 (WX5 cy a5 v5_on v5_lines v5_reach v5_positions v5_queued v5_position v5_next v5_mode v5_outTicks v5_stops (v5_ticked + (1 : Int32))) := hD
  refine lv_aload_n hx hb dX5_tick_10 rfl (lv_at hl 0 rfl) ?_
  refine va_get (D := (dC, dI)) (ci := 4) (v := .int v5_mode) (C := RX5) (T := TX5) (N := 11) hx hb hts hiX5 hown hK hP 0 rfl rfl 7 (by decide) (hts (.fieldLink RX5 15 "PageLines$Scan" "mode" "I") (List.mem_of_getElem? (i := 2) rfl)) (fun _ h9 => h9) rfl dX5_tick_11 ?_
  by_cases hs1 : v5_mode = (0 : Int32)
  · refine lv_tableIn (tgt := 44) (off := 30) hx hb dX5_tick_14 (by rw [hs1]; decide) (by rw [hs1]; decide) (by rw [hs1]; rfl) (by decide) ?_
    have hf := it_p hs1 hf
    refine lv_aload_n hx hb dX5_tick_44 rfl (lv_at hl 0 rfl) ?_
    obtain ⟨r2, hr2, hf⟩ := cl1_sp hf
    refine ro_V (As := []) ⟨hx, hb, hml, hown, hts⟩ (kX5_wantsMore l dC dI cy _ a5 v5_on v5_lines v5_reach v5_positions v5_queued v5_position v5_next v5_mode v5_outTicks v5_stops (v5_ticked + (1 : Int32)) r2 hr2) (cwV 0 hts gX5_tick_X5_wantsMore rfl rfl rfl (by decide +kernel) ⟨Nat.le_of_ble_eq_true rfl, Nat.le_of_ble_eq_true rfl⟩) (va_recv hK hP (ci := 4) (q0 := 0) rfl rfl) (hP.sub [0] rfl) hK hS rfl hl.1 rfl (Nat.le_of_ble_eq_true rfl) dX5_tick_45 (Nat.zero_le _) (Nat.zero_le _) (fun locs hS => ?_)
    refine lv_if_eq (tgt := 64) hx hb dX5_tick_48 (by decide) (fun hc => ?_) (fun hc => ?_)
    · have hf := it_p hc hf
      refine lv_iconst (v := (0 : Int32)) hx hb dX5_tick_64 (by decide) ?_
      cases hf
      exact W.iret hx hb hr (fun t ht hW => ⟨⟨_, (), rfl, rfl, by rw [ht]; exact hP, hD⟩, hS.F ht⟩) hS.2.2 dX5_tick_65
    · have hf := it_n hc hf
      refine lv_aload_n hx hb dX5_tick_51 rfl (lv_at hl 0 rfl) ?_
      refine va_get (D := (dC, dI)) (ci := 4) (v := .int v5_queued) (C := RX5) (T := TX5) (N := 11) hx hb hts hiX5 hown hK hP 0 rfl rfl 4 (by decide) (hts (.fieldLink RX5 31 "PageLines$Scan" "queued" "I") (List.mem_of_getElem? (i := 3) rfl)) (fun _ h9 => h9) rfl dX5_tick_52 ?_
      refine lv_iconst (v := (2 : Int32)) hx hb dX5_tick_55 (by decide) ?_
      refine lv_icmp_gt (tgt := 64) hx hb dX5_tick_56 (by decide) (fun hc => ?_) (fun hc => ?_)
      · have hf := it_p hc hf
        refine lv_iconst (v := (0 : Int32)) hx hb dX5_tick_64 (by decide) ?_
        cases hf
        exact W.iret hx hb hr (fun t ht hW => ⟨⟨_, (), rfl, rfl, by rw [ht]; exact hP, hD⟩, hS.F ht⟩) hS.2.2 dX5_tick_65
      · have hf := it_n hc hf
        refine lv_aload_n hx hb dX5_tick_59 rfl (lv_at hl 0 rfl) ?_
        refine lv_iconst (v := (1 : Int32)) hx hb dX5_tick_60 (by decide) ?_
        refine va_put (D := (dC, dI)) (ci := 4) (v := .int (1 : Int32)) (ty := .int) (C := RX5) (T := TX5) (N := 11) hx hb hts hiX5 tyX5 tyX5_ok nmX5 hown hK hP hD hS 0 rfl rfl 7 (by decide) (hts (.fieldLink RX5 15 "PageLines$Scan" "mode" "I") (List.mem_of_getElem? (i := 2) rfl)) (fun _ h9 => h9) rfl (by decide +kernel) rfl rfl (Nat.le_of_ble_eq_true rfl) dX5_tick_61 (fun H locs hP hD hS => ?_)
        have hP : va_P (dC, dI) vwCl (WX5 cy a5 v5_on v5_lines v5_reach v5_positions v5_queued v5_position v5_next (1 : Int32) v5_outTicks v5_stops (v5_ticked + (1 : Int32))) H := hP
        have hD : va_D A0 (WX5 cy a5 v5_on v5_lines v5_reach v5_positions v5_queued v5_position v5_next (1 : Int32) v5_outTicks v5_stops (v5_ticked + (1 : Int32))) := hD
        refine lv_iconst (v := (0 : Int32)) hx hb dX5_tick_64 (by decide) ?_
        cases hf
        exact W.iret hx hb hr (fun t ht hW => ⟨⟨_, (), rfl, rfl, by rw [ht]; exact hP, hD⟩, hS.F ht⟩) hS.2.2 dX5_tick_65
  · have hf := it_n hs1 hf
    by_cases hs3 : v5_mode = (1 : Int32)
    · refine lv_tableIn (tgt := 66) (off := 52) hx hb dX5_tick_14 (by rw [hs3]; decide) (by rw [hs3]; decide) (by rw [hs3]; rfl) (by decide) ?_
      have hf := it_p hs3 hf
      refine lv_aload_n hx hb dX5_tick_66 rfl (lv_at hl 0 rfl) ?_
      obtain ⟨w4_position, w4_mode, w4_outTicks, w4_stops, hr4, hf⟩ := cl4_sp hf
      refine rw_Vv (As := []) (wr := []) ⟨hx, hb, hml, hown, hts⟩ (kX5_runUp l dC dI cy _ a5 v5_on v5_lines v5_reach v5_positions v5_queued v5_position v5_next v5_mode v5_outTicks v5_stops (v5_ticked + (1 : Int32)) w4_position w4_mode w4_outTicks w4_stops hr4) (cwV 0 hts gX5_tick_X5_runUp rfl rfl rfl (by decide +kernel) ⟨Nat.le_of_ble_eq_true rfl, Nat.le_of_ble_eq_true rfl⟩) (va_recv hK hP (ci := 4) (q0 := 0) rfl rfl) hK hP hD hS hA [0] [] rfl rfl (by decide) (by decide) (by decide) rfl hl.1 rfl (Nat.le_of_ble_eq_true rfl) dX5_tick_67 (Nat.zero_le _) (Nat.zero_le _) (fun H locs hP hD hS => ?_)
      have hP : va_P (dC, dI) vwCl (WX5 cy a5 v5_on v5_lines v5_reach v5_positions v5_queued w4_position v5_next w4_mode w4_outTicks w4_stops (v5_ticked + (1 : Int32))) H := hP.sub [0] rfl
      have hD : va_D A0 (WX5 cy a5 v5_on v5_lines v5_reach v5_positions v5_queued w4_position v5_next w4_mode w4_outTicks w4_stops (v5_ticked + (1 : Int32))) := hD.sub [0] (by decide) rfl
      refine lv_iconst (v := (0 : Int32)) hx hb dX5_tick_70 (by decide) ?_
      cases hf
      exact W.iret hx hb hr (fun t ht hW => ⟨⟨_, (), rfl, rfl, by rw [ht]; exact hP, hD⟩, hS.F ht⟩) hS.2.2 dX5_tick_71
    · have hf := it_n hs3 hf
      by_cases hs5 : v5_mode = (2 : Int32)
      · refine lv_tableIn (tgt := 72) (off := 58) hx hb dX5_tick_14 (by rw [hs5]; decide) (by rw [hs5]; decide) (by rw [hs5]; rfl) (by decide) ?_
        have hf := it_p hs5 hf
        refine lv_aload_n hx hb dX5_tick_72 rfl (lv_at hl 0 rfl) ?_
        obtain ⟨r6, w6_queued, w6_position, w6_next, w6_mode, w6_outTicks, w6_stops, hr6, hf⟩ := cl7_sp hf
        refine rw_V (As := []) (wr := []) ⟨hx, hb, hml, hown, hts⟩ (kX5_readOne l dC dI cy _ a5 v5_on v5_lines v5_reach v5_positions v5_queued v5_position v5_next v5_mode v5_outTicks v5_stops (v5_ticked + (1 : Int32)) r6 w6_queued w6_position w6_next w6_mode w6_outTicks w6_stops hr6) (cwV 0 hts gX5_tick_X5_readOne rfl rfl rfl (by decide +kernel) ⟨Nat.le_of_ble_eq_true rfl, Nat.le_of_ble_eq_true rfl⟩) (va_recv hK hP (ci := 4) (q0 := 0) rfl rfl) hK hP hD hS hA [0] [] rfl rfl (by decide) (by decide) (by decide) rfl hl.1 rfl (Nat.le_of_ble_eq_true rfl) dX5_tick_73 (Nat.zero_le _) (Nat.zero_le _) (fun H locs hP hD hS => ?_)
        have hP : va_P (dC, dI) vwCl (WX5 cy a5 v5_on v5_lines v5_reach v5_positions w6_queued w6_position w6_next w6_mode w6_outTicks w6_stops (v5_ticked + (1 : Int32))) H := hP.sub [0] rfl
        have hD : va_D A0 (WX5 cy a5 v5_on v5_lines v5_reach v5_positions w6_queued w6_position w6_next w6_mode w6_outTicks w6_stops (v5_ticked + (1 : Int32))) := hD.sub [0] (by decide) rfl
        cases hf
        exact W.iret hx hb hr (fun t ht hW => ⟨⟨_, (), rfl, rfl, by rw [ht]; exact hP, hD⟩, hS.F ht⟩) hS.2.2 dX5_tick_76
      · have hf := it_n hs5 hf
        by_cases hs7 : v5_mode = (3 : Int32)
        · refine lv_tableIn (tgt := 77) (off := 63) hx hb dX5_tick_14 (by rw [hs7]; decide) (by rw [hs7]; decide) (by rw [hs7]; rfl) (by decide) ?_
          have hf := it_p hs7 hf
          refine lv_aload_n hx hb dX5_tick_77 rfl (lv_at hl 0 rfl) ?_
          obtain ⟨w8_position, w8_mode, w8_outTicks, hr8, hf⟩ := cl3_sp hf
          refine rw_Vv (As := []) (wr := []) ⟨hx, hb, hml, hown, hts⟩ (kX5_runOut l dC dI cy _ a5 v5_on v5_lines v5_reach v5_positions v5_queued v5_position v5_next v5_mode v5_outTicks v5_stops (v5_ticked + (1 : Int32)) w8_position w8_mode w8_outTicks hr8) (cwV 0 hts gX5_tick_X5_runOut rfl rfl rfl (by decide +kernel) ⟨Nat.le_of_ble_eq_true rfl, Nat.le_of_ble_eq_true rfl⟩) (va_recv hK hP (ci := 4) (q0 := 0) rfl rfl) hK hP hD hS hA [0] [] rfl rfl (by decide) (by decide) (by decide) rfl hl.1 rfl (Nat.le_of_ble_eq_true rfl) dX5_tick_78 (Nat.zero_le _) (Nat.zero_le _) (fun H locs hP hD hS => ?_)
          have hP : va_P (dC, dI) vwCl (WX5 cy a5 v5_on v5_lines v5_reach v5_positions v5_queued w8_position v5_next w8_mode w8_outTicks v5_stops (v5_ticked + (1 : Int32))) H := hP.sub [0] rfl
          have hD : va_D A0 (WX5 cy a5 v5_on v5_lines v5_reach v5_positions v5_queued w8_position v5_next w8_mode w8_outTicks v5_stops (v5_ticked + (1 : Int32))) := hD.sub [0] (by decide) rfl
          refine lv_iconst (v := (0 : Int32)) hx hb dX5_tick_81 (by decide) ?_
          cases hf
          exact W.iret hx hb hr (fun t ht hW => ⟨⟨_, (), rfl, rfl, by rw [ht]; exact hP, hD⟩, hS.F ht⟩) hS.2.2 dX5_tick_82
        · have hf := it_n hs7 hf
          refine lv_tableOut (tgt := 83) hx hb dX5_tick_14 (by have e0 := lv_neT hs1 (show ((0 : Int32)).toInt = 0 from by decide); have e1 := lv_neT hs3 (show ((1 : Int32)).toInt = 1 from by decide); have e2 := lv_neT hs5 (show ((2 : Int32)).toInt = 2 from by decide); have e3 := lv_neT hs7 (show ((3 : Int32)).toInt = 3 from by decide); omega) (by decide) ?_
          refine lv_aload_n hx hb dX5_tick_83 rfl (lv_at hl 0 rfl) ?_
          obtain ⟨w9_position, w9_mode, hr9, hf⟩ := cl2_sp hf
          refine rw_Vv (As := []) (wr := []) ⟨hx, hb, hml, hown, hts⟩ (kX5_goBack l dC dI cy _ a5 v5_on v5_lines v5_reach v5_positions v5_queued v5_position v5_next v5_mode v5_outTicks v5_stops (v5_ticked + (1 : Int32)) w9_position w9_mode hr9) (cwV 0 hts gX5_tick_X5_goBack rfl rfl rfl (by decide +kernel) ⟨Nat.le_of_ble_eq_true rfl, Nat.le_of_ble_eq_true rfl⟩) (va_recv hK hP (ci := 4) (q0 := 0) rfl rfl) hK hP hD hS hA [0] [] rfl rfl (by decide) (by decide) (by decide) rfl hl.1 rfl (Nat.le_of_ble_eq_true rfl) dX5_tick_84 (Nat.zero_le _) (Nat.zero_le _) (fun H locs hP hD hS => ?_)
          have hP : va_P (dC, dI) vwCl (WX5 cy a5 v5_on v5_lines v5_reach v5_positions v5_queued w9_position v5_next w9_mode v5_outTicks v5_stops (v5_ticked + (1 : Int32))) H := hP.sub [0] rfl
          have hD : va_D A0 (WX5 cy a5 v5_on v5_lines v5_reach v5_positions v5_queued w9_position v5_next w9_mode v5_outTicks v5_stops (v5_ticked + (1 : Int32))) := hD.sub [0] (by decide) rfl
          refine lv_iconst (v := (0 : Int32)) hx hb dX5_tick_87 (by decide) ?_
          cases hf
          exact W.iret hx hb hr (fun t ht hW => ⟨⟨_, (), rfl, rfl, by rw [ht]; exact hP, hD⟩, hS.F ht⟩) hS.2.2 dX5_tick_88

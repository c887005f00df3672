set_option maxHeartbeats 4000000 in
set_option maxRecDepth 100000 in
theorem kX5_start (l : Launch) (dC : Nat → ClassId) (dI : Nat → Nat → Nat) (cy : ClassId) (sz : Nat) (a5 : Nat) (v5_on : Int32) (v5_lines : Int32) (v5_reach : Int32) (v5_positions : Int32) (v5_queued : Int32) (v5_position : Int32) (v5_next : Int32) (v5_mode : Int32) (v5_outTicks : Int32) (v5_stops : Int32) (v5_ticked : Int32) (p1 : Int32) (p2 : Int32) (o_v5_on : Int32) (o_v5_lines : Int32) (o_v5_reach : Int32) (o_v5_positions : Int32) (o_v5_queued : Int32) (o_v5_position : Int32) (o_v5_next : Int32) (o_v5_mode : Int32) (o_v5_stops : Int32) (o_v5_ticked : Int32) (hf : fX5_start v5_on v5_lines v5_reach v5_positions v5_queued v5_position v5_next v5_mode v5_stops v5_ticked p1 p2 = some (o_v5_on, o_v5_lines, o_v5_reach, o_v5_positions, o_v5_queued, o_v5_position, o_v5_next, o_v5_mode, o_v5_stops, o_v5_ticked)) : Met l yX5_start wsX5_start ({ frames := 0, cells := 0, slots := 0, locals := 0 }) (rwP [.ref a5, .int p1, .int p2] (dC, dI) vwCl (WX5 cy a5 v5_on v5_lines v5_reach v5_positions v5_queued v5_position v5_next v5_mode v5_outTicks v5_stops v5_ticked) [(cy, .int)] sz) (rwQv (dC, dI) vwCl (WX5 cy a5 o_v5_on o_v5_lines o_v5_reach o_v5_positions o_v5_queued o_v5_position o_v5_next o_v5_mode v5_outTicks o_v5_stops o_v5_ticked) (va_A (WX5 cy a5 v5_on v5_lines v5_reach v5_positions v5_queued v5_position v5_next v5_mode v5_outTicks v5_stops v5_ticked) sz)) 0 0 (va_A (WX5 cy a5 v5_on v5_lines v5_reach v5_positions v5_queued v5_position v5_next v5_mode v5_outTicks v5_stops v5_ticked) sz) := by
  refine Met.ofW (cc := cX5_start) (maxL := 3) (ret := none) (by decide) rfl ?_
  intro p e s m args below meth c s₁ B hml hv
  obtain ⟨rfl, hsz, hP, hK, hD0⟩ := hv
  have hx := B.exec
  have hb := B.bytes
  have hr := B.returns
  have hts := atoms_spec (ws := wsX5_start) B.pre
  have hown : s.vm.findClass RX5 = some m.cls := findClass_of_methodNamed B.named
  have hlocks := B.notSynchronized
  have hiX5 : ∀ w ∈ u_ws RX5 TX5 11, w ∈ wsX5_start := fun _ h => List.mem_cons_of_mem _ ((List.mem_append_right _ h))
  subst hsz
  have hD := hD0.self (sz := s.heap.size)
  generalize hAe : va_A (WX5 cy a5 v5_on v5_lines v5_reach v5_positions v5_queued v5_position v5_next v5_mode v5_outTicks v5_stops v5_ticked) s.heap.size = A0 at hD ⊢
  have hA : ∀ q : Nat, s.heap.size ≤ q → A0 q := fun q h => by rw [← hAe]; exact Or.inr h
  have hS : va_S A0 s.heap s.heap [] := va_S.rf
  have hl := lv_entry ([.ref a5, .int p1, .int p2]) (n := 3) (Nat.le_of_ble_eq_true rfl)
  rw [lg_entry_eq]
  generalize (lg_sl ([.ref a5, .int p1, .int p2]) ++ List.replicate (3 - (lg_sl ([.ref a5, .int p1, .int p2])).length) Slot.unset).toArray = ls at hl ⊢
  have hl : lv_has ls 3 [(0, .ref a5), (1, .int p1), (2, .int p2)] := hl
  unfold fX5_start at hf
  refine lv_aload_n hx hb dX5_start_0 rfl (lv_at hl 0 rfl) ?_
  refine lv_iconst (v := (1 : Int32)) hx hb dX5_start_1 (by decide) ?_
  refine va_put (D := (dC, dI)) (ci := 4) (v := .int (1 : Int32)) (ty := .boolean) (C := RX5) (T := TX5) (N := 11) hx hb hts hiX5 tyX5 tyX5_ok nmX5 hown hK hP hD hS 0 rfl rfl 0 (by decide) (hts (.fieldLink RX5 18 "PageLines$Scan" "on" "Z") (List.mem_of_getElem? (i := 1) rfl)) (fun _ h9 => h9) rfl (by decide +kernel) rfl rfl (Nat.le_of_ble_eq_true rfl) dX5_start_2 (fun H locs hP hD hS => ?_)
  have hP : va_P (dC, dI) vwCl (WX5 cy a5 (1 : Int32) v5_lines v5_reach v5_positions v5_queued v5_position v5_next v5_mode v5_outTicks v5_stops v5_ticked) H := hP
  have hD : va_D A0 (WX5 cy a5 (1 : Int32) v5_lines v5_reach v5_positions v5_queued v5_position v5_next v5_mode v5_outTicks v5_stops v5_ticked) := hD
  refine lv_aload_n hx hb dX5_start_5 rfl (lv_at hl 0 rfl) ?_
  refine lv_iload_n hx hb dX5_start_6 rfl (lv_at hl 1 rfl) ?_
  refine va_put (D := (dC, dI)) (ci := 4) (v := .int p1) (ty := .int) (C := RX5) (T := TX5) (N := 11) hx hb hts hiX5 tyX5 tyX5_ok nmX5 hown hK hP hD hS 0 rfl rfl 1 (by decide) (hts (.fieldLink RX5 22 "PageLines$Scan" "lines" "I") (List.mem_of_getElem? (i := 2) rfl)) (fun _ h9 => h9) rfl (by decide +kernel) rfl rfl (Nat.le_of_ble_eq_true rfl) dX5_start_7 (fun H locs hP hD hS => ?_)
  have hP : va_P (dC, dI) vwCl (WX5 cy a5 (1 : Int32) p1 v5_reach v5_positions v5_queued v5_position v5_next v5_mode v5_outTicks v5_stops v5_ticked) H := hP
  have hD : va_D A0 (WX5 cy a5 (1 : Int32) p1 v5_reach v5_positions v5_queued v5_position v5_next v5_mode v5_outTicks v5_stops v5_ticked) := hD
  refine lv_aload_n hx hb dX5_start_10 rfl (lv_at hl 0 rfl) ?_
  refine lv_iload_n hx hb dX5_start_11 rfl (lv_at hl 2 rfl) ?_
  refine va_put (D := (dC, dI)) (ci := 4) (v := .int p2) (ty := .int) (C := RX5) (T := TX5) (N := 11) hx hb hts hiX5 tyX5 tyX5_ok nmX5 hown hK hP hD hS 0 rfl rfl 2 (by decide) (hts (.fieldLink RX5 25 "PageLines$Scan" "reach" "I") (List.mem_of_getElem? (i := 3) rfl)) (fun _ h9 => h9) rfl (by decide +kernel) rfl rfl (Nat.le_of_ble_eq_true rfl) dX5_start_12 (fun H locs hP hD hS => ?_)
  have hP : va_P (dC, dI) vwCl (WX5 cy a5 (1 : Int32) p1 p2 v5_positions v5_queued v5_position v5_next v5_mode v5_outTicks v5_stops v5_ticked) H := hP
  have hD : va_D A0 (WX5 cy a5 (1 : Int32) p1 p2 v5_positions v5_queued v5_position v5_next v5_mode v5_outTicks v5_stops v5_ticked) := hD
  refine lv_aload_n hx hb dX5_start_15 rfl (lv_at hl 0 rfl) ?_
  refine lv_iload_n hx hb dX5_start_16 rfl (lv_at hl 1 rfl) ?_
  refine lv_iload_n hx hb dX5_start_17 rfl (lv_at hl 2 rfl) ?_
  refine lv_iadd hx hb dX5_start_18 ?_
  refine va_put (D := (dC, dI)) (ci := 4) (v := .int (p1 + p2)) (ty := .int) (C := RX5) (T := TX5) (N := 11) hx hb hts hiX5 tyX5 tyX5_ok nmX5 hown hK hP hD hS 0 rfl rfl 3 (by decide) (hts (.fieldLink RX5 28 "PageLines$Scan" "positions" "I") (List.mem_of_getElem? (i := 4) rfl)) (fun _ h9 => h9) rfl (by decide +kernel) rfl rfl (Nat.le_of_ble_eq_true rfl) dX5_start_19 (fun H locs hP hD hS => ?_)
  have hP : va_P (dC, dI) vwCl (WX5 cy a5 (1 : Int32) p1 p2 (p1 + p2) v5_queued v5_position v5_next v5_mode v5_outTicks v5_stops v5_ticked) H := hP
  have hD : va_D A0 (WX5 cy a5 (1 : Int32) p1 p2 (p1 + p2) v5_queued v5_position v5_next v5_mode v5_outTicks v5_stops v5_ticked) := hD
  refine lv_aload_n hx hb dX5_start_22 rfl (lv_at hl 0 rfl) ?_
  refine lv_iconst (v := (0 : Int32)) hx hb dX5_start_23 (by decide) ?_
  refine va_put (D := (dC, dI)) (ci := 4) (v := .int (0 : Int32)) (ty := .int) (C := RX5) (T := TX5) (N := 11) hx hb hts hiX5 tyX5 tyX5_ok nmX5 hown hK hP hD hS 0 rfl rfl 4 (by decide) (hts (.fieldLink RX5 31 "PageLines$Scan" "queued" "I") (List.mem_of_getElem? (i := 5) rfl)) (fun _ h9 => h9) rfl (by decide +kernel) rfl rfl (Nat.le_of_ble_eq_true rfl) dX5_start_24 (fun H locs hP hD hS => ?_)
  have hP : va_P (dC, dI) vwCl (WX5 cy a5 (1 : Int32) p1 p2 (p1 + p2) (0 : Int32) v5_position v5_next v5_mode v5_outTicks v5_stops v5_ticked) H := hP
  have hD : va_D A0 (WX5 cy a5 (1 : Int32) p1 p2 (p1 + p2) (0 : Int32) v5_position v5_next v5_mode v5_outTicks v5_stops v5_ticked) := hD
  refine lv_aload_n hx hb dX5_start_27 rfl (lv_at hl 0 rfl) ?_
  refine lv_bipush (v := (-4 : Int32)) hx hb dX5_start_28 (by decide) ?_
  refine va_put (D := (dC, dI)) (ci := 4) (v := .int (-4 : Int32)) (ty := .int) (C := RX5) (T := TX5) (N := 11) hx hb hts hiX5 tyX5 tyX5_ok nmX5 hown hK hP hD hS 0 rfl rfl 5 (by decide) (hts (.fieldLink RX5 9 "PageLines$Scan" "position" "I") (List.mem_of_getElem? (i := 6) rfl)) (fun _ h9 => h9) rfl (by decide +kernel) rfl rfl (Nat.le_of_ble_eq_true rfl) dX5_start_30 (fun H locs hP hD hS => ?_)
  have hP : va_P (dC, dI) vwCl (WX5 cy a5 (1 : Int32) p1 p2 (p1 + p2) (0 : Int32) (-4 : Int32) v5_next v5_mode v5_outTicks v5_stops v5_ticked) H := hP
  have hD : va_D A0 (WX5 cy a5 (1 : Int32) p1 p2 (p1 + p2) (0 : Int32) (-4 : Int32) v5_next v5_mode v5_outTicks v5_stops v5_ticked) := hD
  refine lv_aload_n hx hb dX5_start_33 rfl (lv_at hl 0 rfl) ?_
  refine lv_iconst (v := (0 : Int32)) hx hb dX5_start_34 (by decide) ?_
  refine va_put (D := (dC, dI)) (ci := 4) (v := .int (0 : Int32)) (ty := .int) (C := RX5) (T := TX5) (N := 11) hx hb hts hiX5 tyX5 tyX5_ok nmX5 hown hK hP hD hS 0 rfl rfl 6 (by decide) (hts (.fieldLink RX5 34 "PageLines$Scan" "next" "I") (List.mem_of_getElem? (i := 7) rfl)) (fun _ h9 => h9) rfl (by decide +kernel) rfl rfl (Nat.le_of_ble_eq_true rfl) dX5_start_35 (fun H locs hP hD hS => ?_)
  have hP : va_P (dC, dI) vwCl (WX5 cy a5 (1 : Int32) p1 p2 (p1 + p2) (0 : Int32) (-4 : Int32) (0 : Int32) v5_mode v5_outTicks v5_stops v5_ticked) H := hP
  have hD : va_D A0 (WX5 cy a5 (1 : Int32) p1 p2 (p1 + p2) (0 : Int32) (-4 : Int32) (0 : Int32) v5_mode v5_outTicks v5_stops v5_ticked) := hD
  refine lv_aload_n hx hb dX5_start_38 rfl (lv_at hl 0 rfl) ?_
  refine lv_iconst (v := (0 : Int32)) hx hb dX5_start_39 (by decide) ?_
  refine va_put (D := (dC, dI)) (ci := 4) (v := .int (0 : Int32)) (ty := .int) (C := RX5) (T := TX5) (N := 11) hx hb hts hiX5 tyX5 tyX5_ok nmX5 hown hK hP hD hS 0 rfl rfl 7 (by decide) (hts (.fieldLink RX5 15 "PageLines$Scan" "mode" "I") (List.mem_of_getElem? (i := 8) rfl)) (fun _ h9 => h9) rfl (by decide +kernel) rfl rfl (Nat.le_of_ble_eq_true rfl) dX5_start_40 (fun H locs hP hD hS => ?_)
  have hP : va_P (dC, dI) vwCl (WX5 cy a5 (1 : Int32) p1 p2 (p1 + p2) (0 : Int32) (-4 : Int32) (0 : Int32) (0 : Int32) v5_outTicks v5_stops v5_ticked) H := hP
  have hD : va_D A0 (WX5 cy a5 (1 : Int32) p1 p2 (p1 + p2) (0 : Int32) (-4 : Int32) (0 : Int32) (0 : Int32) v5_outTicks v5_stops v5_ticked) := hD
  refine lv_aload_n hx hb dX5_start_43 rfl (lv_at hl 0 rfl) ?_
  refine lv_iconst (v := (0 : Int32)) hx hb dX5_start_44 (by decide) ?_
  refine va_put (D := (dC, dI)) (ci := 4) (v := .int (0 : Int32)) (ty := .int) (C := RX5) (T := TX5) (N := 11) hx hb hts hiX5 tyX5 tyX5_ok nmX5 hown hK hP hD hS 0 rfl rfl 9 (by decide) (hts (.fieldLink RX5 37 "PageLines$Scan" "stops" "I") (List.mem_of_getElem? (i := 9) rfl)) (fun _ h9 => h9) rfl (by decide +kernel) rfl rfl (Nat.le_of_ble_eq_true rfl) dX5_start_45 (fun H locs hP hD hS => ?_)
  have hP : va_P (dC, dI) vwCl (WX5 cy a5 (1 : Int32) p1 p2 (p1 + p2) (0 : Int32) (-4 : Int32) (0 : Int32) (0 : Int32) v5_outTicks (0 : Int32) v5_ticked) H := hP
  have hD : va_D A0 (WX5 cy a5 (1 : Int32) p1 p2 (p1 + p2) (0 : Int32) (-4 : Int32) (0 : Int32) (0 : Int32) v5_outTicks (0 : Int32) v5_ticked) := hD
  refine lv_aload_n hx hb dX5_start_48 rfl (lv_at hl 0 rfl) ?_
  refine lv_iconst (v := (0 : Int32)) hx hb dX5_start_49 (by decide) ?_
  refine va_put (D := (dC, dI)) (ci := 4) (v := .int (0 : Int32)) (ty := .int) (C := RX5) (T := TX5) (N := 11) hx hb hts hiX5 tyX5 tyX5_ok nmX5 hown hK hP hD hS 0 rfl rfl 10 (by decide) (hts (.fieldLink RX5 40 "PageLines$Scan" "ticked" "I") (List.mem_of_getElem? (i := 10) rfl)) (fun _ h9 => h9) rfl (by decide +kernel) rfl rfl (Nat.le_of_ble_eq_true rfl) dX5_start_50 (fun H locs hP hD hS => ?_)
  have hP : va_P (dC, dI) vwCl (WX5 cy a5 (1 : Int32) p1 p2 (p1 + p2) (0 : Int32) (-4 : Int32) (0 : Int32) (0 : Int32) v5_outTicks (0 : Int32) (0 : Int32)) H := hP
  have hD : va_D A0 (WX5 cy a5 (1 : Int32) p1 p2 (p1 + p2) (0 : Int32) (-4 : Int32) (0 : Int32) (0 : Int32) v5_outTicks (0 : Int32) (0 : Int32)) := hD
  cases hf
  exact W.vret hx hb hr (fun t ht hW => ⟨⟨(), rfl, trivial, by rw [ht]; exact hP, hD⟩, hS.F ht⟩) hS.2.2 dX5_start_53
set_option maxHeartbeats 4000000 in
set_option maxRecDepth 100000 in
theorem kX5_wantsMore (l : Launch) (dC : Nat → ClassId) (dI : Nat → Nat → Nat) (cy : ClassId) (H : Heap) (a5 : Nat) (v5_on : Int32) (v5_lines : Int32) (v5_reach : Int32) (v5_positions : Int32) (v5_queued : Int32) (v5_position : Int32) (v5_next : Int32) (v5_mode : Int32) (v5_outTicks : Int32) (v5_stops : Int32) (v5_ticked : Int32) (r : Int32) (hf : fX5_wantsMore v5_on v5_positions v5_next = some r) : Met l yX5_wantsMore wsX5_wantsMore ({ frames := 0, cells := 0, slots := 0, locals := 0 }) (roP [.ref a5] (dC, dI) vwCl (WX5 cy a5 v5_on v5_lines v5_reach v5_positions v5_queued v5_position v5_next v5_mode v5_outTicks v5_stops v5_ticked) [(cy, .int)] H) (roQi r H) 0 0 (fun _ => False) := by
  refine Met.ofW (cc := cX5_wantsMore) (maxL := 1) (ret := (some .boolean)) (by decide) rfl ?_
  intro p e s m args below meth c s₁ B hml hv
  obtain ⟨rfl, hH, hP, hK⟩ := hv
  have hx := B.exec
  have hb := B.bytes
  have hr := B.returns
  have hts := atoms_spec (ws := wsX5_wantsMore) B.pre
  have hown : s.vm.findClass RX5 = some m.cls := findClass_of_methodNamed B.named
  have hlocks := B.notSynchronized
  have hiX5 : ∀ w ∈ u_ws RX5 TX5 11, w ∈ wsX5_wantsMore := fun _ h => List.mem_cons_of_mem _ ((List.mem_append_right _ h))
  subst hH
  have hS : va_S (fun _ => False) s.heap s.heap [] := va_S.rf
  have hl := lv_entry ([.ref a5]) (n := 1) (Nat.le_of_ble_eq_true rfl)
  rw [lg_entry_eq]
  generalize (lg_sl ([.ref a5]) ++ List.replicate (1 - (lg_sl ([.ref a5])).length) Slot.unset).toArray = ls at hl ⊢
  have hl : lv_has ls 1 [(0, .ref a5)] := hl
  unfold fX5_wantsMore at hf
  refine lv_aload_n hx hb dX5_wantsMore_0 rfl (lv_at hl 0 rfl) ?_
  refine va_get (D := (dC, dI)) (ci := 4) (v := .int v5_on) (C := RX5) (T := TX5) (N := 11) hx hb hts hiX5 hown hK hP 0 rfl rfl 0 (by decide) (hts (.fieldLink RX5 18 "PageLines$Scan" "on" "Z") (List.mem_of_getElem? (i := 1) rfl)) (fun _ h9 => h9) rfl dX5_wantsMore_1 ?_
  refine lv_if_eq (tgt := 22) hx hb dX5_wantsMore_4 (by decide) (fun hc => ?_) (fun hc => ?_)
  · have hf := it_p hc hf
    refine lv_iconst (v := (0 : Int32)) hx hb dX5_wantsMore_22 (by decide) ?_
    exact W.zret (v := (0 : Int32)) hx hb hr rfl (fun t ht hW => ⟨⟨_, (), rfl, Option.some.inj hf, ht⟩, hS.F ht⟩) hS.2.2 dX5_wantsMore_23
  · have hf := it_n hc hf
    refine lv_aload_n hx hb dX5_wantsMore_7 rfl (lv_at hl 0 rfl) ?_
    refine va_get (D := (dC, dI)) (ci := 4) (v := .int v5_next) (C := RX5) (T := TX5) (N := 11) hx hb hts hiX5 hown hK hP 0 rfl rfl 6 (by decide) (hts (.fieldLink RX5 34 "PageLines$Scan" "next" "I") (List.mem_of_getElem? (i := 2) rfl)) (fun _ h9 => h9) rfl dX5_wantsMore_8 ?_
    refine lv_aload_n hx hb dX5_wantsMore_11 rfl (lv_at hl 0 rfl) ?_
    refine va_get (D := (dC, dI)) (ci := 4) (v := .int v5_positions) (C := RX5) (T := TX5) (N := 11) hx hb hts hiX5 hown hK hP 0 rfl rfl 3 (by decide) (hts (.fieldLink RX5 28 "PageLines$Scan" "positions" "I") (List.mem_of_getElem? (i := 3) rfl)) (fun _ h9 => h9) rfl dX5_wantsMore_12 ?_
    refine lv_icmp_ge (tgt := 22) hx hb dX5_wantsMore_15 (by decide) (fun hc => ?_) (fun hc => ?_)
    · have hf := it_p hc hf
      refine lv_iconst (v := (0 : Int32)) hx hb dX5_wantsMore_22 (by decide) ?_
      exact W.zret (v := (0 : Int32)) hx hb hr rfl (fun t ht hW => ⟨⟨_, (), rfl, Option.some.inj hf, ht⟩, hS.F ht⟩) hS.2.2 dX5_wantsMore_23
    · have hf := it_n hc hf
      refine lv_iconst (v := (1 : Int32)) hx hb dX5_wantsMore_18 (by decide) ?_
      refine lv_goto (tgt := 23) hx hb dX5_wantsMore_19 (by decide) ?_
      exact W.zret (v := (1 : Int32)) hx hb hr rfl (fun t ht hW => ⟨⟨_, (), rfl, Option.some.inj hf, ht⟩, hS.F ht⟩) hS.2.2 dX5_wantsMore_23
set_option maxHeartbeats 4000000 in
set_option maxRecDepth 100000 in
theorem kX5_leave (l : Launch) (dC : Nat → ClassId) (dI : Nat → Nat → Nat) (cy : ClassId) (sz : Nat) (a5 : Nat) (v5_on : Int32) (v5_lines : Int32) (v5_reach : Int32) (v5_positions : Int32) (v5_queued : Int32) (v5_position : Int32) (v5_next : Int32) (v5_mode : Int32) (v5_outTicks : Int32) (v5_stops : Int32) (v5_ticked : Int32) (o_v5_mode : Int32) (o_v5_outTicks : Int32) (o_v5_stops : Int32) (hf : fX5_leave v5_on v5_positions v5_next v5_mode v5_outTicks v5_stops = some (o_v5_mode, o_v5_outTicks, o_v5_stops)) : Met l yX5_leave wsX5_leave ({ frames := 1, cells := 0, slots := 0, locals := 20 }) (rwP [.ref a5] (dC, dI) vwCl (WX5 cy a5 v5_on v5_lines v5_reach v5_positions v5_queued v5_position v5_next v5_mode v5_outTicks v5_stops v5_ticked) [(cy, .int)] sz) (rwQv (dC, dI) vwCl (WX5 cy a5 v5_on v5_lines v5_reach v5_positions v5_queued v5_position v5_next o_v5_mode o_v5_outTicks o_v5_stops v5_ticked) (va_A (WX5 cy a5 v5_on v5_lines v5_reach v5_positions v5_queued v5_position v5_next v5_mode v5_outTicks v5_stops v5_ticked) sz)) 0 0 (va_A (WX5 cy a5 v5_on v5_lines v5_reach v5_positions v5_queued v5_position v5_next v5_mode v5_outTicks v5_stops v5_ticked) sz) := by
  refine Met.ofW (cc := cX5_leave) (maxL := 1) (ret := none) (by decide) rfl ?_
  intro p e s m args below meth c s₁ B hml hv
  obtain ⟨rfl, hsz, hP, hK, hD0⟩ := hv
  have hx := B.exec
  have hb := B.bytes
  have hr := B.returns
  have hts := atoms_spec (ws := wsX5_leave) B.pre
  have hown : s.vm.findClass RX5 = some m.cls := findClass_of_methodNamed B.named
  have hlocks := B.notSynchronized
  have hiX5 : ∀ w ∈ u_ws RX5 TX5 11, w ∈ wsX5_leave := fun _ h => List.mem_cons_of_mem _ ((List.mem_append_right _ h))
  subst hsz
  have hD := hD0.self (sz := s.heap.size)
  generalize hAe : va_A (WX5 cy a5 v5_on v5_lines v5_reach v5_positions v5_queued v5_position v5_next v5_mode v5_outTicks v5_stops v5_ticked) s.heap.size = A0 at hD ⊢
  have hA : ∀ q : Nat, s.heap.size ≤ q → A0 q := fun q h => by rw [← hAe]; exact Or.inr h
  have hS : va_S A0 s.heap s.heap [] := va_S.rf
  have hl := lv_entry ([.ref a5]) (n := 1) (Nat.le_of_ble_eq_true rfl)
  rw [lg_entry_eq]
  generalize (lg_sl ([.ref a5]) ++ List.replicate (1 - (lg_sl ([.ref a5])).length) Slot.unset).toArray = ls at hl ⊢
  have hl : lv_has ls 1 [(0, .ref a5)] := hl
  unfold fX5_leave at hf
  refine lv_aload_n hx hb dX5_leave_0 rfl (lv_at hl 0 rfl) ?_
  obtain ⟨r1, hr1, hf⟩ := cl1_sp hf
  refine ro_V (As := []) ⟨hx, hb, hml, hown, hts⟩ (kX5_wantsMore l dC dI cy _ a5 v5_on v5_lines v5_reach v5_positions v5_queued v5_position v5_next v5_mode v5_outTicks v5_stops v5_ticked r1 hr1) (cwV 0 hts gX5_leave_X5_wantsMore rfl rfl rfl (by decide +kernel) ⟨Nat.le_of_ble_eq_true rfl, Nat.le_of_ble_eq_true rfl⟩) (va_recv hK hP (ci := 4) (q0 := 0) rfl rfl) (hP.sub [0] rfl) hK hS rfl hl.1 rfl (Nat.le_of_ble_eq_true rfl) dX5_leave_1 (Nat.zero_le _) (Nat.zero_le _) (fun locs hS => ?_)
  refine lv_if_eq (tgt := 17) hx hb dX5_leave_4 (by decide) (fun hc => ?_) (fun hc => ?_)
  · have hf := it_p hc hf
    refine lv_aload_n hx hb dX5_leave_17 rfl (lv_at hl 0 rfl) ?_
    refine lv_iconst (v := (3 : Int32)) hx hb dX5_leave_18 (by decide) ?_
    refine va_put (D := (dC, dI)) (ci := 4) (v := .int (3 : Int32)) (ty := .int) (C := RX5) (T := TX5) (N := 11) hx hb hts hiX5 tyX5 tyX5_ok nmX5 hown hK hP hD hS 0 rfl rfl 7 (by decide) (hts (.fieldLink RX5 15 "PageLines$Scan" "mode" "I") (List.mem_of_getElem? (i := 2) rfl)) (fun _ h9 => h9) rfl (by decide +kernel) rfl rfl (Nat.le_of_ble_eq_true rfl) dX5_leave_19 (fun H locs hP hD hS => ?_)
    have hP : va_P (dC, dI) vwCl (WX5 cy a5 v5_on v5_lines v5_reach v5_positions v5_queued v5_position v5_next (3 : Int32) v5_outTicks v5_stops v5_ticked) H := hP
    have hD : va_D A0 (WX5 cy a5 v5_on v5_lines v5_reach v5_positions v5_queued v5_position v5_next (3 : Int32) v5_outTicks v5_stops v5_ticked) := hD
    refine lv_aload_n hx hb dX5_leave_22 rfl (lv_at hl 0 rfl) ?_
    refine lv_iconst (v := (0 : Int32)) hx hb dX5_leave_23 (by decide) ?_
    refine va_put (D := (dC, dI)) (ci := 4) (v := .int (0 : Int32)) (ty := .int) (C := RX5) (T := TX5) (N := 11) hx hb hts hiX5 tyX5 tyX5_ok nmX5 hown hK hP hD hS 0 rfl rfl 8 (by decide) (hts (.fieldLink RX5 63 "PageLines$Scan" "outTicks" "I") (List.mem_of_getElem? (i := 3) rfl)) (fun _ h9 => h9) rfl (by decide +kernel) rfl rfl (Nat.le_of_ble_eq_true rfl) dX5_leave_24 (fun H locs hP hD hS => ?_)
    have hP : va_P (dC, dI) vwCl (WX5 cy a5 v5_on v5_lines v5_reach v5_positions v5_queued v5_position v5_next (3 : Int32) (0 : Int32) v5_stops v5_ticked) H := hP
    have hD : va_D A0 (WX5 cy a5 v5_on v5_lines v5_reach v5_positions v5_queued v5_position v5_next (3 : Int32) (0 : Int32) v5_stops v5_ticked) := hD
    cases hf
    exact W.vret hx hb hr (fun t ht hW => ⟨⟨(), rfl, trivial, by rw [ht]; exact hP, hD⟩, hS.F ht⟩) hS.2.2 dX5_leave_27
  · have hf := it_n hc hf
    refine lv_aload_n hx hb dX5_leave_7 rfl (lv_at hl 0 rfl) ?_
    refine lv_dup hx hb dX5_leave_8 rfl ?_
    refine va_get (D := (dC, dI)) (ci := 4) (v := .int v5_stops) (C := RX5) (T := TX5) (N := 11) hx hb hts hiX5 hown hK hP 0 rfl rfl 9 (by decide) (hts (.fieldLink RX5 37 "PageLines$Scan" "stops" "I") (List.mem_of_getElem? (i := 1) rfl)) (fun _ h9 => h9) rfl dX5_leave_9 ?_
    refine lv_iconst (v := (1 : Int32)) hx hb dX5_leave_12 (by decide) ?_
    refine lv_iadd hx hb dX5_leave_13 ?_
    refine va_put (D := (dC, dI)) (ci := 4) (v := .int (v5_stops + (1 : Int32))) (ty := .int) (C := RX5) (T := TX5) (N := 11) hx hb hts hiX5 tyX5 tyX5_ok nmX5 hown hK hP hD hS 0 rfl rfl 9 (by decide) (hts (.fieldLink RX5 37 "PageLines$Scan" "stops" "I") (List.mem_of_getElem? (i := 1) rfl)) (fun _ h9 => h9) rfl (by decide +kernel) rfl rfl (Nat.le_of_ble_eq_true rfl) dX5_leave_14 (fun H locs hP hD hS => ?_)
    have hP : va_P (dC, dI) vwCl (WX5 cy a5 v5_on v5_lines v5_reach v5_positions v5_queued v5_position v5_next v5_mode v5_outTicks (v5_stops + (1 : Int32)) v5_ticked) H := hP
    have hD : va_D A0 (WX5 cy a5 v5_on v5_lines v5_reach v5_positions v5_queued v5_position v5_next v5_mode v5_outTicks (v5_stops + (1 : Int32)) v5_ticked) := hD
    refine lv_aload_n hx hb dX5_leave_17 rfl (lv_at hl 0 rfl) ?_
    refine lv_iconst (v := (3 : Int32)) hx hb dX5_leave_18 (by decide) ?_
    refine va_put (D := (dC, dI)) (ci := 4) (v := .int (3 : Int32)) (ty := .int) (C := RX5) (T := TX5) (N := 11) hx hb hts hiX5 tyX5 tyX5_ok nmX5 hown hK hP hD hS 0 rfl rfl 7 (by decide) (hts (.fieldLink RX5 15 "PageLines$Scan" "mode" "I") (List.mem_of_getElem? (i := 2) rfl)) (fun _ h9 => h9) rfl (by decide +kernel) rfl rfl (Nat.le_of_ble_eq_true rfl) dX5_leave_19 (fun H locs hP hD hS => ?_)
    have hP : va_P (dC, dI) vwCl (WX5 cy a5 v5_on v5_lines v5_reach v5_positions v5_queued v5_position v5_next (3 : Int32) v5_outTicks (v5_stops + (1 : Int32)) v5_ticked) H := hP
    have hD : va_D A0 (WX5 cy a5 v5_on v5_lines v5_reach v5_positions v5_queued v5_position v5_next (3 : Int32) v5_outTicks (v5_stops + (1 : Int32)) v5_ticked) := hD
    refine lv_aload_n hx hb dX5_leave_22 rfl (lv_at hl 0 rfl) ?_
    refine lv_iconst (v := (0 : Int32)) hx hb dX5_leave_23 (by decide) ?_
    refine va_put (D := (dC, dI)) (ci := 4) (v := .int (0 : Int32)) (ty := .int) (C := RX5) (T := TX5) (N := 11) hx hb hts hiX5 tyX5 tyX5_ok nmX5 hown hK hP hD hS 0 rfl rfl 8 (by decide) (hts (.fieldLink RX5 63 "PageLines$Scan" "outTicks" "I") (List.mem_of_getElem? (i := 3) rfl)) (fun _ h9 => h9) rfl (by decide +kernel) rfl rfl (Nat.le_of_ble_eq_true rfl) dX5_leave_24 (fun H locs hP hD hS => ?_)
    have hP : va_P (dC, dI) vwCl (WX5 cy a5 v5_on v5_lines v5_reach v5_positions v5_queued v5_position v5_next (3 : Int32) (0 : Int32) (v5_stops + (1 : Int32)) v5_ticked) H := hP
    have hD : va_D A0 (WX5 cy a5 v5_on v5_lines v5_reach v5_positions v5_queued v5_position v5_next (3 : Int32) (0 : Int32) (v5_stops + (1 : Int32)) v5_ticked) := hD
    cases hf
    exact W.vret hx hb hr (fun t ht hW => ⟨⟨(), rfl, trivial, by rw [ht]; exact hP, hD⟩, hS.F ht⟩) hS.2.2 dX5_leave_27
set_option maxHeartbeats 4000000 in
set_option maxRecDepth 100000 in
theorem kX5_runUp (l : Launch) (dC : Nat → ClassId) (dI : Nat → Nat → Nat) (cy : ClassId) (sz : Nat) (a5 : Nat) (v5_on : Int32) (v5_lines : Int32) (v5_reach : Int32) (v5_positions : Int32) (v5_queued : Int32) (v5_position : Int32) (v5_next : Int32) (v5_mode : Int32) (v5_outTicks : Int32) (v5_stops : Int32) (v5_ticked : Int32) (o_v5_position : Int32) (o_v5_mode : Int32) (o_v5_outTicks : Int32) (o_v5_stops : Int32) (hf : fX5_runUp v5_on v5_positions v5_position v5_next v5_mode v5_outTicks v5_stops = some (o_v5_position, o_v5_mode, o_v5_outTicks, o_v5_stops)) : Met l yX5_runUp wsX5_runUp ({ frames := 2, cells := 0, slots := 0, locals := 40 }) (rwP [.ref a5] (dC, dI) vwCl (WX5 cy a5 v5_on v5_lines v5_reach v5_positions v5_queued v5_position v5_next v5_mode v5_outTicks v5_stops v5_ticked) [(cy, .int)] sz) (rwQv (dC, dI) vwCl (WX5 cy a5 v5_on v5_lines v5_reach v5_positions v5_queued o_v5_position v5_next o_v5_mode o_v5_outTicks o_v5_stops v5_ticked) (va_A (WX5 cy a5 v5_on v5_lines v5_reach v5_positions v5_queued v5_position v5_next v5_mode v5_outTicks v5_stops v5_ticked) sz)) 0 0 (va_A (WX5 cy a5 v5_on v5_lines v5_reach v5_positions v5_queued v5_position v5_next v5_mode v5_outTicks v5_stops v5_ticked) sz) := by
  refine Met.ofW (cc := cX5_runUp) (maxL := 1) (ret := none) (by decide) rfl ?_
  intro p e s m args below meth c s₁ B hml hv
  obtain ⟨rfl, hsz, hP, hK, hD0⟩ := hv
  have hx := B.exec
  have hb := B.bytes
  have hr := B.returns
  have hts := atoms_spec (ws := wsX5_runUp) B.pre
  have hown : s.vm.findClass RX5 = some m.cls := findClass_of_methodNamed B.named
  have hlocks := B.notSynchronized
  have hiX5 : ∀ w ∈ u_ws RX5 TX5 11, w ∈ wsX5_runUp := fun _ h => List.mem_cons_of_mem _ ((List.mem_append_right _ h))
  subst hsz
  have hD := hD0.self (sz := s.heap.size)
  generalize hAe : va_A (WX5 cy a5 v5_on v5_lines v5_reach v5_positions v5_queued v5_position v5_next v5_mode v5_outTicks v5_stops v5_ticked) s.heap.size = A0 at hD ⊢
  have hA : ∀ q : Nat, s.heap.size ≤ q → A0 q := fun q h => by rw [← hAe]; exact Or.inr h
  have hS : va_S A0 s.heap s.heap [] := va_S.rf
  have hl := lv_entry ([.ref a5]) (n := 1) (Nat.le_of_ble_eq_true rfl)
  rw [lg_entry_eq]
  generalize (lg_sl ([.ref a5]) ++ List.replicate (1 - (lg_sl ([.ref a5])).length) Slot.unset).toArray = ls at hl ⊢
  have hl : lv_has ls 1 [(0, .ref a5)] := hl
  unfold fX5_runUp at hf
  refine lv_aload_n hx hb dX5_runUp_0 rfl (lv_at hl 0 rfl) ?_
  refine lv_dup hx hb dX5_runUp_1 rfl ?_
  refine va_get (D := (dC, dI)) (ci := 4) (v := .int v5_position) (C := RX5) (T := TX5) (N := 11) hx hb hts hiX5 hown hK hP 0 rfl rfl 5 (by decide) (hts (.fieldLink RX5 9 "PageLines$Scan" "position" "I") (List.mem_of_getElem? (i := 1) rfl)) (fun _ h9 => h9) rfl dX5_runUp_2 ?_
  refine lv_iconst (v := (1 : Int32)) hx hb dX5_runUp_5 (by decide) ?_
  refine lv_iadd hx hb dX5_runUp_6 ?_
  refine va_put (D := (dC, dI)) (ci := 4) (v := .int (v5_position + (1 : Int32))) (ty := .int) (C := RX5) (T := TX5) (N := 11) hx hb hts hiX5 tyX5 tyX5_ok nmX5 hown hK hP hD hS 0 rfl rfl 5 (by decide) (hts (.fieldLink RX5 9 "PageLines$Scan" "position" "I") (List.mem_of_getElem? (i := 1) rfl)) (fun _ h9 => h9) rfl (by decide +kernel) rfl rfl (Nat.le_of_ble_eq_true rfl) dX5_runUp_7 (fun H locs hP hD hS => ?_)
  have hP : va_P (dC, dI) vwCl (WX5 cy a5 v5_on v5_lines v5_reach v5_positions v5_queued (v5_position + (1 : Int32)) v5_next v5_mode v5_outTicks v5_stops v5_ticked) H := hP
  have hD : va_D A0 (WX5 cy a5 v5_on v5_lines v5_reach v5_positions v5_queued (v5_position + (1 : Int32)) v5_next v5_mode v5_outTicks v5_stops v5_ticked) := hD
  refine lv_aload_n hx hb dX5_runUp_10 rfl (lv_at hl 0 rfl) ?_
  obtain ⟨r1, hr1, hf⟩ := cl1_sp hf
  refine ro_V (As := []) ⟨hx, hb, hml, hown, hts⟩ (kX5_wantsMore l dC dI cy _ a5 v5_on v5_lines v5_reach v5_positions v5_queued (v5_position + (1 : Int32)) v5_next v5_mode v5_outTicks v5_stops v5_ticked r1 hr1) (cwV 0 hts gX5_runUp_X5_wantsMore rfl rfl rfl (by decide +kernel) ⟨Nat.le_of_ble_eq_true rfl, Nat.le_of_ble_eq_true rfl⟩) (va_recv hK hP (ci := 4) (q0 := 0) rfl rfl) (hP.sub [0] rfl) hK hS rfl hl.1 rfl (Nat.le_of_ble_eq_true rfl) dX5_runUp_11 (Nat.zero_le _) (Nat.zero_le _) (fun locs hS => ?_)
  refine lv_if_ne (tgt := 24) hx hb dX5_runUp_14 (by decide) (fun hc => ?_) (fun hc => ?_)
  · have hf := it_n hc hf
    refine lv_aload_n hx hb dX5_runUp_24 rfl (lv_at hl 0 rfl) ?_
    refine va_get (D := (dC, dI)) (ci := 4) (v := .int (v5_position + (1 : Int32))) (C := RX5) (T := TX5) (N := 11) hx hb hts hiX5 hown hK hP 0 rfl rfl 5 (by decide) (hts (.fieldLink RX5 9 "PageLines$Scan" "position" "I") (List.mem_of_getElem? (i := 1) rfl)) (fun _ h9 => h9) rfl dX5_runUp_25 ?_
    refine lv_aload_n hx hb dX5_runUp_28 rfl (lv_at hl 0 rfl) ?_
    refine va_get (D := (dC, dI)) (ci := 4) (v := .int v5_next) (C := RX5) (T := TX5) (N := 11) hx hb hts hiX5 hown hK hP 0 rfl rfl 6 (by decide) (hts (.fieldLink RX5 34 "PageLines$Scan" "next" "I") (List.mem_of_getElem? (i := 2) rfl)) (fun _ h9 => h9) rfl dX5_runUp_29 ?_
    refine lv_icmp_ne (tgt := 40) hx hb dX5_runUp_32 (by decide) (fun hc => ?_) (fun hc => ?_)
    · have hf := it_n hc hf
      cases hf
      exact W.vret hx hb hr (fun t ht hW => ⟨⟨(), rfl, trivial, by rw [ht]; exact hP, hD⟩, hS.F ht⟩) hS.2.2 dX5_runUp_40
    · have hf := it_p hc hf
      refine lv_aload_n hx hb dX5_runUp_35 rfl (lv_at hl 0 rfl) ?_
      refine lv_iconst (v := (2 : Int32)) hx hb dX5_runUp_36 (by decide) ?_
      refine va_put (D := (dC, dI)) (ci := 4) (v := .int (2 : Int32)) (ty := .int) (C := RX5) (T := TX5) (N := 11) hx hb hts hiX5 tyX5 tyX5_ok nmX5 hown hK hP hD hS 0 rfl rfl 7 (by decide) (hts (.fieldLink RX5 15 "PageLines$Scan" "mode" "I") (List.mem_of_getElem? (i := 3) rfl)) (fun _ h9 => h9) rfl (by decide +kernel) rfl rfl (Nat.le_of_ble_eq_true rfl) dX5_runUp_37 (fun H locs hP hD hS => ?_)
      have hP : va_P (dC, dI) vwCl (WX5 cy a5 v5_on v5_lines v5_reach v5_positions v5_queued (v5_position + (1 : Int32)) v5_next (2 : Int32) v5_outTicks v5_stops v5_ticked) H := hP
      have hD : va_D A0 (WX5 cy a5 v5_on v5_lines v5_reach v5_positions v5_queued (v5_position + (1 : Int32)) v5_next (2 : Int32) v5_outTicks v5_stops v5_ticked) := hD
      cases hf
      exact W.vret hx hb hr (fun t ht hW => ⟨⟨(), rfl, trivial, by rw [ht]; exact hP, hD⟩, hS.F ht⟩) hS.2.2 dX5_runUp_40
  · have hf := it_p hc hf
    refine lv_aload_n hx hb dX5_runUp_17 rfl (lv_at hl 0 rfl) ?_
    obtain ⟨w2_mode, w2_outTicks, w2_stops, hr2, hf⟩ := cl3_sp hf
    refine rw_Vv (As := []) (wr := []) ⟨hx, hb, hml, hown, hts⟩ (kX5_leave l dC dI cy _ a5 v5_on v5_lines v5_reach v5_positions v5_queued (v5_position + (1 : Int32)) v5_next v5_mode v5_outTicks v5_stops v5_ticked w2_mode w2_outTicks w2_stops hr2) (cwV 0 hts gX5_runUp_X5_leave rfl rfl rfl (by decide +kernel) ⟨Nat.le_of_ble_eq_true rfl, Nat.le_of_ble_eq_true rfl⟩) (va_recv hK hP (ci := 4) (q0 := 0) rfl rfl) hK hP hD hS hA [0] [] rfl rfl (by decide) (by decide) (by decide) rfl hl.1 rfl (Nat.le_of_ble_eq_true rfl) dX5_runUp_18 (Nat.zero_le _) (Nat.zero_le _) (fun H locs hP hD hS => ?_)
    have hP : va_P (dC, dI) vwCl (WX5 cy a5 v5_on v5_lines v5_reach v5_positions v5_queued (v5_position + (1 : Int32)) v5_next w2_mode w2_outTicks w2_stops v5_ticked) H := hP.sub [0] rfl
    have hD : va_D A0 (WX5 cy a5 v5_on v5_lines v5_reach v5_positions v5_queued (v5_position + (1 : Int32)) v5_next w2_mode w2_outTicks w2_stops v5_ticked) := hD.sub [0] (by decide) rfl
    refine lv_goto (tgt := 40) hx hb dX5_runUp_21 (by decide) ?_
    cases hf
    exact W.vret hx hb hr (fun t ht hW => ⟨⟨(), rfl, trivial, by rw [ht]; exact hP, hD⟩, hS.F ht⟩) hS.2.2 dX5_runUp_40

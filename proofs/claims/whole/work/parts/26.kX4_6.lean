set_option maxHeartbeats 4000000 in
set_option maxRecDepth 100000 in
theorem kX4_isStep (l : Launch) (H : Heap) (p1 : Int32) (p2 : Int32) (r : Int32) (hf : fX4_isStep p1 p2 = some r) : Met l yX4_isStep wsX4_isStep ({ frames := 1, cells := 0, slots := 0, locals := 22 }) (roP0 [.int p1, .int p2] H) (roQi r H) 0 0 (fun _ => False) := by
  refine Met.ofW (cc := cX4_isStep) (maxL := 2) (ret := (some .boolean)) (by decide) rfl ?_
  intro p e s m args below meth c s₁ B hml hv
  obtain ⟨rfl, hH⟩ := hv
  have hx := B.exec
  have hb := B.bytes
  have hr := B.returns
  have hts := atoms_spec (ws := wsX4_isStep) B.pre
  have hown : s.vm.findClass RX4 = some m.cls := findClass_of_methodNamed B.named
  have hlocks := B.notSynchronized
  subst hH
  have hS : va_S (fun _ => False) s.heap s.heap [] := va_S.rf
  have hl := lv_entry ([.int p1, .int p2]) (n := 2) (Nat.le_of_ble_eq_true rfl)
  rw [lg_entry_eq]
  generalize (lg_sl ([.int p1, .int p2]) ++ List.replicate (2 - (lg_sl ([.int p1, .int p2])).length) Slot.unset).toArray = ls at hl ⊢
  have hl : lv_has ls 2 [(0, .int p1), (1, .int p2)] := hl
  unfold fX4_isStep at hf
  refine lv_iload_n hx hb dX4_isStep_0 rfl (lv_at hl 0 rfl) ?_
  by_cases hs1 : p1 = (0 : Int32)
  · refine lv_tableIn (tgt := 32) (off := 31) hx hb dX4_isStep_1 (by rw [hs1]; decide) (by rw [hs1]; decide) (by rw [hs1]; rfl) (by decide) ?_
    have hf := it_p hs1 hf
    refine lv_iconst (v := (1 : Int32)) hx hb dX4_isStep_32 (by decide) ?_
    exact W.zret (v := (1 : Int32)) hx hb hr rfl (fun t ht hW => ⟨⟨_, (), rfl, Option.some.inj hf, ht⟩, hS.F ht⟩) hS.2.2 dX4_isStep_33
  · have hf := it_n hs1 hf
    by_cases hs2 : p1 = (1 : Int32)
    · refine lv_tableIn (tgt := 34) (off := 33) hx hb dX4_isStep_1 (by rw [hs2]; decide) (by rw [hs2]; decide) (by rw [hs2]; rfl) (by decide) ?_
      have hf := it_p hs2 hf
      refine lv_iload_n hx hb dX4_isStep_34 rfl (lv_at hl 1 rfl) ?_
      refine lv_iconst (v := (0 : Int32)) hx hb dX4_isStep_35 (by decide) ?_
      refine lv_sipush (v := (255 : Int32)) hx hb dX4_isStep_36 (by decide) ?_
      obtain ⟨r3, hr3, hf⟩ := cl1_sp hf
      refine ro_S (As := [.int p2, .int (0 : Int32), .int (255 : Int32)]) ⟨hx, hb, hml, hown, hts⟩ (kX2_within l _ p2 (0 : Int32) (255 : Int32) r3 hr3) (va_cwS 3 hts gX4_isStep_X2_within rfl rfl rfl (by decide +kernel) ⟨Nat.le_of_ble_eq_true rfl, Nat.le_of_ble_eq_true rfl⟩) hS rfl hl.1 rfl (Nat.le_of_ble_eq_true rfl) dX4_isStep_39 (Nat.zero_le _) (Nat.zero_le _) (fun locs hS => ?_)
      obtain ⟨hnb, hf⟩ := ckB_sp hf
      exact W.zret (v := r3) hx hb hr hnb (fun t ht hW => ⟨⟨_, (), rfl, Option.some.inj hf, ht⟩, hS.F ht⟩) hS.2.2 dX4_isStep_42
    · have hf := it_n hs2 hf
      by_cases hs4 : p1 = (2 : Int32)
      · refine lv_tableIn (tgt := 43) (off := 42) hx hb dX4_isStep_1 (by rw [hs4]; decide) (by rw [hs4]; decide) (by rw [hs4]; rfl) (by decide) ?_
        have hf := it_p hs4 hf
        refine lv_iload_n hx hb dX4_isStep_43 rfl (lv_at hl 1 rfl) ?_
        refine lv_sipush (v := (-255 : Int32)) hx hb dX4_isStep_44 (by decide) ?_
        refine lv_sipush (v := (255 : Int32)) hx hb dX4_isStep_47 (by decide) ?_
        obtain ⟨r5, hr5, hf⟩ := cl1_sp hf
        refine ro_S (As := [.int p2, .int (-255 : Int32), .int (255 : Int32)]) ⟨hx, hb, hml, hown, hts⟩ (kX2_within l _ p2 (-255 : Int32) (255 : Int32) r5 hr5) (va_cwS 3 hts gX4_isStep_X2_within rfl rfl rfl (by decide +kernel) ⟨Nat.le_of_ble_eq_true rfl, Nat.le_of_ble_eq_true rfl⟩) hS rfl hl.1 rfl (Nat.le_of_ble_eq_true rfl) dX4_isStep_50 (Nat.zero_le _) (Nat.zero_le _) (fun locs hS => ?_)
        obtain ⟨hnb, hf⟩ := ckB_sp hf
        exact W.zret (v := r5) hx hb hr hnb (fun t ht hW => ⟨⟨_, (), rfl, Option.some.inj hf, ht⟩, hS.F ht⟩) hS.2.2 dX4_isStep_53
      · have hf := it_n hs4 hf
        by_cases hs6 : p1 = (3 : Int32)
        · refine lv_tableIn (tgt := 54) (off := 53) hx hb dX4_isStep_1 (by rw [hs6]; decide) (by rw [hs6]; decide) (by rw [hs6]; rfl) (by decide) ?_
          have hf := it_p hs6 hf
          refine lv_iload_n hx hb dX4_isStep_54 rfl (lv_at hl 1 rfl) ?_
          refine lv_iconst (v := (0 : Int32)) hx hb dX4_isStep_55 (by decide) ?_
          refine lv_sipush (v := (255 : Int32)) hx hb dX4_isStep_56 (by decide) ?_
          obtain ⟨r7, hr7, hf⟩ := cl1_sp hf
          refine ro_S (As := [.int p2, .int (0 : Int32), .int (255 : Int32)]) ⟨hx, hb, hml, hown, hts⟩ (kX2_within l _ p2 (0 : Int32) (255 : Int32) r7 hr7) (va_cwS 3 hts gX4_isStep_X2_within rfl rfl rfl (by decide +kernel) ⟨Nat.le_of_ble_eq_true rfl, Nat.le_of_ble_eq_true rfl⟩) hS rfl hl.1 rfl (Nat.le_of_ble_eq_true rfl) dX4_isStep_59 (Nat.zero_le _) (Nat.zero_le _) (fun locs hS => ?_)
          obtain ⟨hnb, hf⟩ := ckB_sp hf
          exact W.zret (v := r7) hx hb hr hnb (fun t ht hW => ⟨⟨_, (), rfl, Option.some.inj hf, ht⟩, hS.F ht⟩) hS.2.2 dX4_isStep_62
        · have hf := it_n hs6 hf
          refine lv_tableOut (tgt := 63) hx hb dX4_isStep_1 (by have e0 := lv_neT hs1 (show ((0 : Int32)).toInt = 0 from by decide); have e1 := lv_neT hs2 (show ((1 : Int32)).toInt = 1 from by decide); have e2 := lv_neT hs4 (show ((2 : Int32)).toInt = 2 from by decide); have e3 := lv_neT hs6 (show ((3 : Int32)).toInt = 3 from by decide); omega) (by decide) ?_
          refine lv_iconst (v := (0 : Int32)) hx hb dX4_isStep_63 (by decide) ?_
          exact W.zret (v := (0 : Int32)) hx hb hr rfl (fun t ht hW => ⟨⟨_, (), rfl, Option.some.inj hf, ht⟩, hS.F ht⟩) hS.2.2 dX4_isStep_64
set_option maxHeartbeats 4000000 in
set_option maxRecDepth 100000 in
theorem kX4_addStep (l : Launch) (dC : Nat → ClassId) (dI : Nat → Nat → Nat) (cy : ClassId) (sz : Nat) (a4 a4_kinds a4_numbers : Nat) (v4_count : Int32) (f4_kinds : Nat → Int32) (f4_numbers : Nat → Int32) (p1 : Int32) (p2 : Int32) (r : Int32) (o_v4_count : Int32) (o_f4_kinds : Nat → Int32) (o_f4_numbers : Nat → Int32) (hf : fX4_addStep v4_count f4_kinds f4_numbers p1 p2 = some (r, o_v4_count, o_f4_kinds, o_f4_numbers)) : Met l yX4_addStep wsX4_addStep ({ frames := 0, cells := 0, slots := 0, locals := 0 }) (rwP [.ref a4, .int p1, .int p2] (dC, dI) vwCl (WX4 cy a4 a4_kinds a4_numbers v4_count f4_kinds f4_numbers) [(cy, .int)] sz) (rwQi r (dC, dI) vwCl (WX4 cy a4 a4_kinds a4_numbers o_v4_count o_f4_kinds o_f4_numbers) (va_A (WX4 cy a4 a4_kinds a4_numbers v4_count f4_kinds f4_numbers) sz)) 0 0 (va_A (WX4 cy a4 a4_kinds a4_numbers v4_count f4_kinds f4_numbers) sz) := by
  refine Met.ofW (cc := cX4_addStep) (maxL := 3) (ret := (some .int)) (by decide) rfl ?_
  intro p e s m args below meth c s₁ B hml hv
  obtain ⟨rfl, hsz, hP, hK, hD0⟩ := hv
  have hx := B.exec
  have hb := B.bytes
  have hr := B.returns
  have hts := atoms_spec (ws := wsX4_addStep) B.pre
  have hown : s.vm.findClass RX4 = some m.cls := findClass_of_methodNamed B.named
  have hlocks := B.notSynchronized
  have hiX4 : ∀ w ∈ u_ws RX4 TX4 3, w ∈ wsX4_addStep := fun _ h => List.mem_cons_of_mem _ ((List.mem_append_right _ h))
  subst hsz
  have hD := hD0.self (sz := s.heap.size)
  generalize hAe : va_A (WX4 cy a4 a4_kinds a4_numbers v4_count f4_kinds f4_numbers) s.heap.size = A0 at hD ⊢
  have hA : ∀ q : Nat, s.heap.size ≤ q → A0 q := fun q h => by rw [← hAe]; exact Or.inr h
  have hS : va_S A0 s.heap s.heap [] := va_S.rf
  have hl := lv_entry ([.ref a4, .int p1, .int p2]) (n := 3) (Nat.le_of_ble_eq_true rfl)
  rw [lg_entry_eq]
  generalize (lg_sl ([.ref a4, .int p1, .int p2]) ++ List.replicate (3 - (lg_sl ([.ref a4, .int p1, .int p2])).length) Slot.unset).toArray = ls at hl ⊢
  have hl : lv_has ls 3 [(0, .ref a4), (1, .int p1), (2, .int p2)] := hl
  unfold fX4_addStep at hf
  refine lv_aload_n hx hb dX4_addStep_0 rfl (lv_at hl 0 rfl) ?_
  refine va_get (D := (dC, dI)) (ci := 3) (v := .int v4_count) (C := RX4) (T := TX4) (N := 3) hx hb hts hiX4 hown hK hP 0 rfl rfl 0 (by decide) (hts (.fieldLink RX4 24 "PageLines$Pipe" "count" "I") (List.mem_of_getElem? (i := 1) rfl)) (fun _ h9 => h9) rfl dX4_addStep_1 ?_
  refine lv_iconst (v := (4 : Int32)) hx hb dX4_addStep_4 (by decide) ?_
  refine lv_icmp_lt (tgt := 11) hx hb dX4_addStep_5 (by decide) (fun hc => ?_) (fun hc => ?_)
  · have hf := it_p hc hf
    refine lv_aload_n hx hb dX4_addStep_11 rfl (lv_at hl 0 rfl) ?_
    refine va_get (D := (dC, dI)) (ci := 3) (v := .ref a4_kinds) (C := RX4) (T := TX4) (N := 3) hx hb hts hiX4 hown hK hP 0 rfl rfl 1 (by decide) (hts (.fieldLink RX4 9 "PageLines$Pipe" "kinds" "[I") (List.mem_of_getElem? (i := 2) rfl)) (fun _ h9 => h9) rfl dX4_addStep_12 ?_
    refine lv_aload_n hx hb dX4_addStep_15 rfl (lv_at hl 0 rfl) ?_
    refine va_get (D := (dC, dI)) (ci := 3) (v := .int v4_count) (C := RX4) (T := TX4) (N := 3) hx hb hts hiX4 hown hK hP 0 rfl rfl 0 (by decide) (hts (.fieldLink RX4 24 "PageLines$Pipe" "count" "I") (List.mem_of_getElem? (i := 1) rfl)) (fun _ h9 => h9) rfl dX4_addStep_16 ?_
    refine lv_iload_n hx hb dX4_addStep_19 rfl (lv_at hl 1 rfl) ?_
    obtain ⟨hi_1, hf⟩ := ckI_sp hf
    refine va_iast hx hb hK hP hD hS 1 0 rfl rfl hi_1 dX4_addStep_20 (fun H locs hP hD hS => ?_)
    have hP : va_P (dC, dI) vwCl (WX4 cy a4 a4_kinds a4_numbers v4_count (upd f4_kinds v4_count.toNatClampNeg p1) f4_numbers) H := hP
    have hD : va_D A0 (WX4 cy a4 a4_kinds a4_numbers v4_count (upd f4_kinds v4_count.toNatClampNeg p1) f4_numbers) := hD
    refine lv_aload_n hx hb dX4_addStep_21 rfl (lv_at hl 0 rfl) ?_
    refine va_get (D := (dC, dI)) (ci := 3) (v := .ref a4_numbers) (C := RX4) (T := TX4) (N := 3) hx hb hts hiX4 hown hK hP 0 rfl rfl 2 (by decide) (hts (.fieldLink RX4 15 "PageLines$Pipe" "numbers" "[I") (List.mem_of_getElem? (i := 3) rfl)) (fun _ h9 => h9) rfl dX4_addStep_22 ?_
    refine lv_aload_n hx hb dX4_addStep_25 rfl (lv_at hl 0 rfl) ?_
    refine va_get (D := (dC, dI)) (ci := 3) (v := .int v4_count) (C := RX4) (T := TX4) (N := 3) hx hb hts hiX4 hown hK hP 0 rfl rfl 0 (by decide) (hts (.fieldLink RX4 24 "PageLines$Pipe" "count" "I") (List.mem_of_getElem? (i := 1) rfl)) (fun _ h9 => h9) rfl dX4_addStep_26 ?_
    refine lv_iload_n hx hb dX4_addStep_29 rfl (lv_at hl 2 rfl) ?_
    obtain ⟨hi_2, hf⟩ := ckI_sp hf
    refine va_iast hx hb hK hP hD hS 2 0 rfl rfl hi_2 dX4_addStep_30 (fun H locs hP hD hS => ?_)
    have hP : va_P (dC, dI) vwCl (WX4 cy a4 a4_kinds a4_numbers v4_count (upd f4_kinds v4_count.toNatClampNeg p1) (upd f4_numbers v4_count.toNatClampNeg p2)) H := hP
    have hD : va_D A0 (WX4 cy a4 a4_kinds a4_numbers v4_count (upd f4_kinds v4_count.toNatClampNeg p1) (upd f4_numbers v4_count.toNatClampNeg p2)) := hD
    refine lv_aload_n hx hb dX4_addStep_31 rfl (lv_at hl 0 rfl) ?_
    refine lv_dup hx hb dX4_addStep_32 rfl ?_
    refine va_get (D := (dC, dI)) (ci := 3) (v := .int v4_count) (C := RX4) (T := TX4) (N := 3) hx hb hts hiX4 hown hK hP 0 rfl rfl 0 (by decide) (hts (.fieldLink RX4 24 "PageLines$Pipe" "count" "I") (List.mem_of_getElem? (i := 1) rfl)) (fun _ h9 => h9) rfl dX4_addStep_33 ?_
    refine lv_iconst (v := (1 : Int32)) hx hb dX4_addStep_36 (by decide) ?_
    refine lv_iadd hx hb dX4_addStep_37 ?_
    refine va_put (D := (dC, dI)) (ci := 3) (v := .int (v4_count + (1 : Int32))) (ty := .int) (C := RX4) (T := TX4) (N := 3) hx hb hts hiX4 tyX4 tyX4_ok nmX4 hown hK hP hD hS 0 rfl rfl 0 (by decide) (hts (.fieldLink RX4 24 "PageLines$Pipe" "count" "I") (List.mem_of_getElem? (i := 1) rfl)) (fun _ h9 => h9) rfl (by decide +kernel) rfl rfl (Nat.le_of_ble_eq_true rfl) dX4_addStep_38 (fun H locs hP hD hS => ?_)
    have hP : va_P (dC, dI) vwCl (WX4 cy a4 a4_kinds a4_numbers (v4_count + (1 : Int32)) (upd f4_kinds v4_count.toNatClampNeg p1) (upd f4_numbers v4_count.toNatClampNeg p2)) H := hP
    have hD : va_D A0 (WX4 cy a4 a4_kinds a4_numbers (v4_count + (1 : Int32)) (upd f4_kinds v4_count.toNatClampNeg p1) (upd f4_numbers v4_count.toNatClampNeg p2)) := hD
    refine lv_aload_n hx hb dX4_addStep_41 rfl (lv_at hl 0 rfl) ?_
    refine va_get (D := (dC, dI)) (ci := 3) (v := .int (v4_count + (1 : Int32))) (C := RX4) (T := TX4) (N := 3) hx hb hts hiX4 hown hK hP 0 rfl rfl 0 (by decide) (hts (.fieldLink RX4 24 "PageLines$Pipe" "count" "I") (List.mem_of_getElem? (i := 1) rfl)) (fun _ h9 => h9) rfl dX4_addStep_42 ?_
    cases hf
    exact W.iret hx hb hr (fun t ht hW => ⟨⟨_, (), rfl, rfl, by rw [ht]; exact hP, hD⟩, hS.F ht⟩) hS.2.2 dX4_addStep_45
  · have hf := it_n hc hf
    refine lv_bipush (v := (-4 : Int32)) hx hb dX4_addStep_8 (by decide) ?_
    cases hf
    exact W.iret hx hb hr (fun t ht hW => ⟨⟨_, (), rfl, rfl, by rw [ht]; exact hP, hD⟩, hS.F ht⟩) hS.2.2 dX4_addStep_10
set_option maxHeartbeats 4000000 in
set_option maxRecDepth 100000 in
theorem kX4_dropStep (l : Launch) (dC : Nat → ClassId) (dI : Nat → Nat → Nat) (cy : ClassId) (sz : Nat) (a4 a4_kinds a4_numbers : Nat) (v4_count : Int32) (f4_kinds : Nat → Int32) (f4_numbers : Nat → Int32) (p1 : Int32) (o_v4_count : Int32) (o_f4_kinds : Nat → Int32) (o_f4_numbers : Nat → Int32) (hf : fX4_dropStep v4_count f4_kinds f4_numbers p1 = some (o_v4_count, o_f4_kinds, o_f4_numbers)) : Met l yX4_dropStep wsX4_dropStep ({ frames := 0, cells := 0, slots := 0, locals := 0 }) (rwP [.ref a4, .int p1] (dC, dI) vwCl (WX4 cy a4 a4_kinds a4_numbers v4_count f4_kinds f4_numbers) [(cy, .int)] sz) (rwQv (dC, dI) vwCl (WX4 cy a4 a4_kinds a4_numbers o_v4_count o_f4_kinds o_f4_numbers) (va_A (WX4 cy a4 a4_kinds a4_numbers v4_count f4_kinds f4_numbers) sz)) 0 0 (va_A (WX4 cy a4 a4_kinds a4_numbers v4_count f4_kinds f4_numbers) sz) := by
  refine Met.ofW (cc := cX4_dropStep) (maxL := 3) (ret := none) (by decide) rfl ?_
  intro p e s m args below meth c s₁ B hml hv
  obtain ⟨rfl, hsz, hP, hK, hD0⟩ := hv
  have hx := B.exec
  have hb := B.bytes
  have hr := B.returns
  have hts := atoms_spec (ws := wsX4_dropStep) B.pre
  have hown : s.vm.findClass RX4 = some m.cls := findClass_of_methodNamed B.named
  have hlocks := B.notSynchronized
  have hiX4 : ∀ w ∈ u_ws RX4 TX4 3, w ∈ wsX4_dropStep := fun _ h => List.mem_cons_of_mem _ ((List.mem_append_right _ h))
  subst hsz
  have hD := hD0.self (sz := s.heap.size)
  generalize hAe : va_A (WX4 cy a4 a4_kinds a4_numbers v4_count f4_kinds f4_numbers) s.heap.size = A0 at hD ⊢
  have hA : ∀ q : Nat, s.heap.size ≤ q → A0 q := fun q h => by rw [← hAe]; exact Or.inr h
  have hS : va_S A0 s.heap s.heap [] := va_S.rf
  have hb_46 : ∀  (v4_count : Int32) (f4_kinds : Nat → Int32) (f4_numbers : Nat → Int32), bX4_dropStep_46 v4_count f4_kinds f4_numbers = some (o_v4_count, o_f4_kinds, o_f4_numbers) → ∀ (H : Heap) (locs : List Loc) (ls : Array Slot), va_P (dC, dI) vwCl (WX4 cy a4 a4_kinds a4_numbers v4_count f4_kinds f4_numbers) H → va_D A0 (WX4 cy a4 a4_kinds a4_numbers v4_count f4_kinds f4_numbers) → va_S A0 s.heap H locs → lv_has ls 3 [(0, .ref a4)] → W p l e (headSpec wsX4_dropStep ({ frames := 0, cells := 0, slots := 0, locals := 0 })).room s m ([.ref a4, .int p1] : List Value).toArray below meth c H locs 0 0 (MQ below (rwQv (dC, dI) vwCl (WX4 cy a4 a4_kinds a4_numbers o_v4_count o_f4_kinds o_f4_numbers) A0) ([.ref a4, .int p1] : List Value).toArray s 0 0 A0) (F0 m 46 ls []) := by
    intro v4_count f4_kinds f4_numbers hf H locs ls hP hD hS hl
    unfold bX4_dropStep_46 at hf
    refine lv_aload_n hx hb dX4_dropStep_46 rfl (lv_at hl 0 rfl) ?_
    refine lv_dup hx hb dX4_dropStep_47 rfl ?_
    refine va_get (D := (dC, dI)) (ci := 3) (v := .int v4_count) (C := RX4) (T := TX4) (N := 3) hx hb hts hiX4 hown hK hP 0 rfl rfl 0 (by decide) (hts (.fieldLink RX4 24 "PageLines$Pipe" "count" "I") (List.mem_of_getElem? (i := 1) rfl)) (fun _ h9 => h9) rfl dX4_dropStep_48 ?_
    refine lv_iconst (v := (1 : Int32)) hx hb dX4_dropStep_51 (by decide) ?_
    refine lv_isub hx hb dX4_dropStep_52 ?_
    refine va_put (D := (dC, dI)) (ci := 3) (v := .int (v4_count - (1 : Int32))) (ty := .int) (C := RX4) (T := TX4) (N := 3) hx hb hts hiX4 tyX4 tyX4_ok nmX4 hown hK hP hD hS 0 rfl rfl 0 (by decide) (hts (.fieldLink RX4 24 "PageLines$Pipe" "count" "I") (List.mem_of_getElem? (i := 1) rfl)) (fun _ h9 => h9) rfl (by decide +kernel) rfl rfl (Nat.le_of_ble_eq_true rfl) dX4_dropStep_53 (fun H locs hP hD hS => ?_)
    have hP : va_P (dC, dI) vwCl (WX4 cy a4 a4_kinds a4_numbers (v4_count - (1 : Int32)) f4_kinds f4_numbers) H := hP
    have hD : va_D A0 (WX4 cy a4 a4_kinds a4_numbers (v4_count - (1 : Int32)) f4_kinds f4_numbers) := hD
    cases hf
    exact W.vret hx hb hr (fun t ht hW => ⟨⟨(), rfl, trivial, by rw [ht]; exact hP, hD⟩, hS.F ht⟩) hS.2.2 dX4_dropStep_56
  have hb_2 : ∀ (n : Nat) (v4_count : Int32) (f4_kinds : Nat → Int32) (f4_numbers : Nat → Int32) (x2 : Int32), bX4_dropStep_2 n v4_count f4_kinds f4_numbers x2 = some (o_v4_count, o_f4_kinds, o_f4_numbers) → ∀ (H : Heap) (locs : List Loc) (ls : Array Slot), va_P (dC, dI) vwCl (WX4 cy a4 a4_kinds a4_numbers v4_count f4_kinds f4_numbers) H → va_D A0 (WX4 cy a4 a4_kinds a4_numbers v4_count f4_kinds f4_numbers) → va_S A0 s.heap H locs → lv_has ls 3 [(0, .ref a4), (2, .int x2)] → W p l e (headSpec wsX4_dropStep ({ frames := 0, cells := 0, slots := 0, locals := 0 })).room s m ([.ref a4, .int p1] : List Value).toArray below meth c H locs 0 0 (MQ below (rwQv (dC, dI) vwCl (WX4 cy a4 a4_kinds a4_numbers o_v4_count o_f4_kinds o_f4_numbers) A0) ([.ref a4, .int p1] : List Value).toArray s 0 0 A0) (F0 m 2 ls []) := by
    intro n
    induction n with
    | zero => intro v4_count f4_kinds f4_numbers x2 hf; rw [bX4_dropStep_2] at hf; cases hf
    | succ n2 ih2 =>
      intro v4_count f4_kinds f4_numbers x2 hf H locs ls hP hD hS hl
      rw [bX4_dropStep_2] at hf
      refine lv_iload_n hx hb dX4_dropStep_2 rfl (lv_at hl 1 rfl) ?_
      refine lv_iconst (v := (1 : Int32)) hx hb dX4_dropStep_3 (by decide) ?_
      refine lv_iadd hx hb dX4_dropStep_4 ?_
      refine lv_aload_n hx hb dX4_dropStep_5 rfl (lv_at hl 0 rfl) ?_
      refine va_get (D := (dC, dI)) (ci := 3) (v := .int v4_count) (C := RX4) (T := TX4) (N := 3) hx hb hts hiX4 hown hK hP 0 rfl rfl 0 (by decide) (hts (.fieldLink RX4 24 "PageLines$Pipe" "count" "I") (List.mem_of_getElem? (i := 1) rfl)) (fun _ h9 => h9) rfl dX4_dropStep_6 ?_
      refine lv_icmp_ge (tgt := 46) hx hb dX4_dropStep_9 (by decide) (fun hc => ?_) (fun hc => ?_)
      · have hf := it_p hc hf
        exact hb_46 v4_count f4_kinds f4_numbers hf _ _ _ hP hD hS (lv_sub hl [0] rfl)
      · have hf := it_n hc hf
        refine lv_aload_n hx hb dX4_dropStep_12 rfl (lv_at hl 0 rfl) ?_
        refine va_get (D := (dC, dI)) (ci := 3) (v := .ref a4_kinds) (C := RX4) (T := TX4) (N := 3) hx hb hts hiX4 hown hK hP 0 rfl rfl 1 (by decide) (hts (.fieldLink RX4 9 "PageLines$Pipe" "kinds" "[I") (List.mem_of_getElem? (i := 2) rfl)) (fun _ h9 => h9) rfl dX4_dropStep_13 ?_
        refine lv_iload_n hx hb dX4_dropStep_16 rfl (lv_at hl 1 rfl) ?_
        refine lv_aload_n hx hb dX4_dropStep_17 rfl (lv_at hl 0 rfl) ?_
        refine va_get (D := (dC, dI)) (ci := 3) (v := .ref a4_kinds) (C := RX4) (T := TX4) (N := 3) hx hb hts hiX4 hown hK hP 0 rfl rfl 1 (by decide) (hts (.fieldLink RX4 9 "PageLines$Pipe" "kinds" "[I") (List.mem_of_getElem? (i := 2) rfl)) (fun _ h9 => h9) rfl dX4_dropStep_18 ?_
        refine lv_iload_n hx hb dX4_dropStep_21 rfl (lv_at hl 1 rfl) ?_
        refine lv_iconst (v := (1 : Int32)) hx hb dX4_dropStep_22 (by decide) ?_
        refine lv_iadd hx hb dX4_dropStep_23 ?_
        obtain ⟨hi_5, hf⟩ := ckI_sp hf
        refine va_iald hx hb hK hP 1 0 rfl rfl hi_5 dX4_dropStep_24 ?_
        obtain ⟨hi_6, hf⟩ := ckI_sp hf
        refine va_iast hx hb hK hP hD hS 1 0 rfl rfl hi_6 dX4_dropStep_25 (fun H locs hP hD hS => ?_)
        have hP : va_P (dC, dI) vwCl (WX4 cy a4 a4_kinds a4_numbers v4_count (upd f4_kinds x2.toNatClampNeg (f4_kinds (x2 + (1 : Int32)).toNatClampNeg)) f4_numbers) H := hP
        have hD : va_D A0 (WX4 cy a4 a4_kinds a4_numbers v4_count (upd f4_kinds x2.toNatClampNeg (f4_kinds (x2 + (1 : Int32)).toNatClampNeg)) f4_numbers) := hD
        refine lv_aload_n hx hb dX4_dropStep_26 rfl (lv_at hl 0 rfl) ?_
        refine va_get (D := (dC, dI)) (ci := 3) (v := .ref a4_numbers) (C := RX4) (T := TX4) (N := 3) hx hb hts hiX4 hown hK hP 0 rfl rfl 2 (by decide) (hts (.fieldLink RX4 15 "PageLines$Pipe" "numbers" "[I") (List.mem_of_getElem? (i := 3) rfl)) (fun _ h9 => h9) rfl dX4_dropStep_27 ?_
        refine lv_iload_n hx hb dX4_dropStep_30 rfl (lv_at hl 1 rfl) ?_
        refine lv_aload_n hx hb dX4_dropStep_31 rfl (lv_at hl 0 rfl) ?_
        refine va_get (D := (dC, dI)) (ci := 3) (v := .ref a4_numbers) (C := RX4) (T := TX4) (N := 3) hx hb hts hiX4 hown hK hP 0 rfl rfl 2 (by decide) (hts (.fieldLink RX4 15 "PageLines$Pipe" "numbers" "[I") (List.mem_of_getElem? (i := 3) rfl)) (fun _ h9 => h9) rfl dX4_dropStep_32 ?_
        refine lv_iload_n hx hb dX4_dropStep_35 rfl (lv_at hl 1 rfl) ?_
        refine lv_iconst (v := (1 : Int32)) hx hb dX4_dropStep_36 (by decide) ?_
        refine lv_iadd hx hb dX4_dropStep_37 ?_
        obtain ⟨hi_7, hf⟩ := ckI_sp hf
        refine va_iald hx hb hK hP 2 0 rfl rfl hi_7 dX4_dropStep_38 ?_
        obtain ⟨hi_8, hf⟩ := ckI_sp hf
        refine va_iast hx hb hK hP hD hS 2 0 rfl rfl hi_8 dX4_dropStep_39 (fun H locs hP hD hS => ?_)
        have hP : va_P (dC, dI) vwCl (WX4 cy a4 a4_kinds a4_numbers v4_count (upd f4_kinds x2.toNatClampNeg (f4_kinds (x2 + (1 : Int32)).toNatClampNeg)) (upd f4_numbers x2.toNatClampNeg (f4_numbers (x2 + (1 : Int32)).toNatClampNeg))) H := hP
        have hD : va_D A0 (WX4 cy a4 a4_kinds a4_numbers v4_count (upd f4_kinds x2.toNatClampNeg (f4_kinds (x2 + (1 : Int32)).toNatClampNeg)) (upd f4_numbers x2.toNatClampNeg (f4_numbers (x2 + (1 : Int32)).toNatClampNeg))) := hD
        refine lv_iinc (v := x2 + (1 : Int32)) (lv' := [(2, .int (x2 + (1 : Int32))), (0, .ref a4)]) hx hb dX4_dropStep_40 hl (k := 1) rfl rfl (by decide) rfl (fun ls hl => ?_)
        refine lv_goto (tgt := 2) hx hb dX4_dropStep_43 (by decide) ?_
        exact ih2 v4_count (upd f4_kinds x2.toNatClampNeg (f4_kinds (x2 + (1 : Int32)).toNatClampNeg)) (upd f4_numbers x2.toNatClampNeg (f4_numbers (x2 + (1 : Int32)).toNatClampNeg)) (x2 + (1 : Int32)) hf _ _ _ hP hD hS (lv_sub hl [1, 0] rfl)
  have hl := lv_entry ([.ref a4, .int p1]) (n := 3) (Nat.le_of_ble_eq_true rfl)
  rw [lg_entry_eq]
  generalize (lg_sl ([.ref a4, .int p1]) ++ List.replicate (3 - (lg_sl ([.ref a4, .int p1])).length) Slot.unset).toArray = ls at hl ⊢
  have hl : lv_has ls 3 [(0, .ref a4), (1, .int p1)] := hl
  unfold fX4_dropStep at hf
  refine lv_iload_n hx hb dX4_dropStep_0 rfl (lv_at hl 1 rfl) ?_
  refine lv_istore_n (lv' := [(2, .int p1), (0, .ref a4), (1, .int p1)]) hx hb dX4_dropStep_1 rfl hl (by decide) rfl (fun ls hl => ?_)
  exact hb_2 300 v4_count f4_kinds f4_numbers p1 hf _ _ _ hP hD hS (lv_sub hl [1, 0] rfl)
set_option maxHeartbeats 4000000 in
set_option maxRecDepth 100000 in
theorem kX4_stepped (l : Launch) (H : Heap) (p1 : Int32) (p2 : Int32) (p3 : Int32) (r : Int32) (hf : fX4_stepped p1 p2 p3 = some r) : Met l yX4_stepped wsX4_stepped ({ frames := 2, cells := 0, slots := 0, locals := 33 }) (roP0 [.int p1, .int p2, .int p3] H) (roQi r H) 0 0 (fun _ => False) := by
  refine Met.ofW (cc := cX4_stepped) (maxL := 3) (ret := (some .int)) (by decide) rfl ?_
  intro p e s m args below meth c s₁ B hml hv
  obtain ⟨rfl, hH⟩ := hv
  have hx := B.exec
  have hb := B.bytes
  have hr := B.returns
  have hts := atoms_spec (ws := wsX4_stepped) B.pre
  have hown : s.vm.findClass RX4 = some m.cls := findClass_of_methodNamed B.named
  have hlocks := B.notSynchronized
  subst hH
  have hS : va_S (fun _ => False) s.heap s.heap [] := va_S.rf
  have hl := lv_entry ([.int p1, .int p2, .int p3]) (n := 3) (Nat.le_of_ble_eq_true rfl)
  rw [lg_entry_eq]
  generalize (lg_sl ([.int p1, .int p2, .int p3]) ++ List.replicate (3 - (lg_sl ([.int p1, .int p2, .int p3])).length) Slot.unset).toArray = ls at hl ⊢
  have hl : lv_has ls 3 [(0, .int p1), (1, .int p2), (2, .int p3)] := hl
  unfold fX4_stepped at hf
  refine lv_iload_n hx hb dX4_stepped_0 rfl (lv_at hl 0 rfl) ?_
  by_cases hs1 : p1 = (0 : Int32)
  · refine lv_tableIn (tgt := 32) (off := 31) hx hb dX4_stepped_1 (by rw [hs1]; decide) (by rw [hs1]; decide) (by rw [hs1]; rfl) (by decide) ?_
    have hf := it_p hs1 hf
    refine lv_sipush (v := (255 : Int32)) hx hb dX4_stepped_32 (by decide) ?_
    refine lv_iload_n hx hb dX4_stepped_35 rfl (lv_at hl 2 rfl) ?_
    refine lv_isub hx hb dX4_stepped_36 ?_
    exact W.iret (v := (255 : Int32) - p3) hx hb hr (fun t ht hW => ⟨⟨_, (), rfl, Option.some.inj hf, ht⟩, hS.F ht⟩) hS.2.2 dX4_stepped_37
  · have hf := it_n hs1 hf
    by_cases hs2 : p1 = (1 : Int32)
    · refine lv_tableIn (tgt := 38) (off := 37) hx hb dX4_stepped_1 (by rw [hs2]; decide) (by rw [hs2]; decide) (by rw [hs2]; rfl) (by decide) ?_
      have hf := it_p hs2 hf
      refine lv_iload_n hx hb dX4_stepped_38 rfl (lv_at hl 1 rfl) ?_
      refine lv_iload_n hx hb dX4_stepped_39 rfl (lv_at hl 2 rfl) ?_
      refine lv_imul hx hb dX4_stepped_40 ?_
      refine lv_bipush (v := (16 : Int32)) hx hb dX4_stepped_41 (by decide) ?_
      refine lv_idiv hx hb dX4_stepped_43 (by decide) ?_
      obtain ⟨r3, hr3, hf⟩ := cl1_sp hf
      refine ro_S (As := [.int ((p2 * p3) / (16 : Int32))]) ⟨hx, hb, hml, hown, hts⟩ (kX2_atMostTop l _ ((p2 * p3) / (16 : Int32)) r3 hr3) (va_cwS 1 hts gX4_stepped_X2_atMostTop rfl rfl rfl (by decide +kernel) ⟨Nat.le_of_ble_eq_true rfl, Nat.le_of_ble_eq_true rfl⟩) hS rfl hl.1 rfl (Nat.le_of_ble_eq_true rfl) dX4_stepped_44 (Nat.zero_le _) (Nat.zero_le _) (fun locs hS => ?_)
      exact W.iret (v := r3) hx hb hr (fun t ht hW => ⟨⟨_, (), rfl, Option.some.inj hf, ht⟩, hS.F ht⟩) hS.2.2 dX4_stepped_47
    · have hf := it_n hs2 hf
      by_cases hs4 : p1 = (2 : Int32)
      · refine lv_tableIn (tgt := 48) (off := 47) hx hb dX4_stepped_1 (by rw [hs4]; decide) (by rw [hs4]; decide) (by rw [hs4]; rfl) (by decide) ?_
        have hf := it_p hs4 hf
        refine lv_iconst (v := (0 : Int32)) hx hb dX4_stepped_48 (by decide) ?_
        refine lv_iload_n hx hb dX4_stepped_49 rfl (lv_at hl 2 rfl) ?_
        refine lv_iload_n hx hb dX4_stepped_50 rfl (lv_at hl 1 rfl) ?_
        refine lv_iadd hx hb dX4_stepped_51 ?_
        refine va_mmax hx hb (by rw [hml]; exact hl.1.symm) hown (hts (.methodLink RX4 36 Lib.Math.max.name) (List.mem_of_getElem? (i := 1) rfl)) (hts (.static Lib.Math.max.name) (List.mem_of_getElem? (i := 2) rfl)) (hts (.initialized "java/lang/Math") (List.mem_of_getElem? (i := 3) rfl)) (hts (.code Lib.Math.max.name Lib.Math.max.code 2 (some .int)) (List.mem_of_getElem? (i := 4) rfl)) (Nat.le_of_ble_eq_true rfl) (Nat.le_of_ble_eq_true rfl) (Nat.zero_le _) (Nat.zero_le _) dX4_stepped_52 ?_
        obtain ⟨r5, hr5, hf⟩ := cl1_sp hf
        refine ro_S (As := [.int (if (0 : Int32) < (p3 + p2) then (p3 + p2) else (0 : Int32))]) ⟨hx, hb, hml, hown, hts⟩ (kX2_atMostTop l _ (if (0 : Int32) < (p3 + p2) then (p3 + p2) else (0 : Int32)) r5 hr5) (va_cwS 1 hts gX4_stepped_X2_atMostTop rfl rfl rfl (by decide +kernel) ⟨Nat.le_of_ble_eq_true rfl, Nat.le_of_ble_eq_true rfl⟩) hS rfl hl.1 rfl (Nat.le_of_ble_eq_true rfl) dX4_stepped_55 (Nat.zero_le _) (Nat.zero_le _) (fun locs hS => ?_)
        exact W.iret (v := r5) hx hb hr (fun t ht hW => ⟨⟨_, (), rfl, Option.some.inj hf, ht⟩, hS.F ht⟩) hS.2.2 dX4_stepped_58
      · have hf := it_n hs4 hf
        by_cases hs6 : p1 = (3 : Int32)
        · refine lv_tableIn (tgt := 59) (off := 58) hx hb dX4_stepped_1 (by rw [hs6]; decide) (by rw [hs6]; decide) (by rw [hs6]; rfl) (by decide) ?_
          have hf := it_p hs6 hf
          refine lv_iload_n hx hb dX4_stepped_59 rfl (lv_at hl 2 rfl) ?_
          refine lv_iload_n hx hb dX4_stepped_60 rfl (lv_at hl 1 rfl) ?_
          refine lv_icmp_lt (tgt := 70) hx hb dX4_stepped_61 (by decide) (fun hc => ?_) (fun hc => ?_)
          · have hf := it_p hc hf
            refine lv_iconst (v := (0 : Int32)) hx hb dX4_stepped_70 (by decide) ?_
            exact W.iret (v := (0 : Int32)) hx hb hr (fun t ht hW => ⟨⟨_, (), rfl, Option.some.inj hf, ht⟩, hS.F ht⟩) hS.2.2 dX4_stepped_71
          · have hf := it_n hc hf
            refine lv_sipush (v := (255 : Int32)) hx hb dX4_stepped_64 (by decide) ?_
            refine lv_goto (tgt := 71) hx hb dX4_stepped_67 (by decide) ?_
            exact W.iret (v := (255 : Int32)) hx hb hr (fun t ht hW => ⟨⟨_, (), rfl, Option.some.inj hf, ht⟩, hS.F ht⟩) hS.2.2 dX4_stepped_71
        · have hf := it_n hs6 hf
          refine lv_tableOut (tgt := 72) hx hb dX4_stepped_1 (by have e0 := lv_neT hs1 (show ((0 : Int32)).toInt = 0 from by decide); have e1 := lv_neT hs2 (show ((1 : Int32)).toInt = 1 from by decide); have e2 := lv_neT hs4 (show ((2 : Int32)).toInt = 2 from by decide); have e3 := lv_neT hs6 (show ((3 : Int32)).toInt = 3 from by decide); omega) (by decide) ?_
          refine lv_iload_n hx hb dX4_stepped_72 rfl (lv_at hl 2 rfl) ?_
          exact W.iret (v := p3) hx hb hr (fun t ht hW => ⟨⟨_, (), rfl, Option.some.inj hf, ht⟩, hS.F ht⟩) hS.2.2 dX4_stepped_73
set_option maxHeartbeats 4000000 in
set_option maxRecDepth 100000 in
theorem kX4_through (l : Launch) (dC : Nat → ClassId) (dI : Nat → Nat → Nat) (cy : ClassId) (H : Heap) (a4 a4_kinds a4_numbers : Nat) (v4_count : Int32) (f4_kinds : Nat → Int32) (f4_numbers : Nat → Int32) (p1 : Int32) (r : Int32) (hf : fX4_through v4_count f4_kinds f4_numbers p1 = some r) : Met l yX4_through wsX4_through ({ frames := 3, cells := 0, slots := 0, locals := 55 }) (roP [.ref a4, .int p1] (dC, dI) vwCl (WX4 cy a4 a4_kinds a4_numbers v4_count f4_kinds f4_numbers) [(cy, .int)] H) (roQi r H) 0 0 (fun _ => False) := by
  refine Met.ofW (cc := cX4_through) (maxL := 4) (ret := (some .int)) (by decide) rfl ?_
  intro p e s m args below meth c s₁ B hml hv
  obtain ⟨rfl, hH, hP, hK⟩ := hv
  have hx := B.exec
  have hb := B.bytes
  have hr := B.returns
  have hts := atoms_spec (ws := wsX4_through) B.pre
  have hown : s.vm.findClass RX4 = some m.cls := findClass_of_methodNamed B.named
  have hlocks := B.notSynchronized
  have hiX4 : ∀ w ∈ u_ws RX4 TX4 3, w ∈ wsX4_through := fun _ h => List.mem_cons_of_mem _ ((List.mem_append_right _ h))
  subst hH
  have hS : va_S (fun _ => False) s.heap s.heap [] := va_S.rf
  have hb_4 : ∀ (n : Nat) (x2 : Int32) (x3 : Int32), bX4_through_4 v4_count f4_kinds f4_numbers n x2 x3 = some r → ∀ (locs : List Loc) (ls : Array Slot), va_S (fun _ => False) s.heap s.heap locs → lv_has ls 4 [(0, .ref a4), (2, .int x2), (3, .int x3)] → W p l e (headSpec wsX4_through ({ frames := 3, cells := 0, slots := 0, locals := 55 })).room s m ([.ref a4, .int p1] : List Value).toArray below meth c s.heap locs 0 0 (MQ below (roQi r s.heap) ([.ref a4, .int p1] : List Value).toArray s 0 0 (fun _ => False)) (F0 m 4 ls []) := by
    intro n
    induction n with
    | zero => intro x2 x3 hf; rw [bX4_through_4] at hf; cases hf
    | succ n4 ih4 =>
      intro x2 x3 hf locs ls hS hl
      rw [bX4_through_4] at hf
      refine lv_iload_n hx hb dX4_through_4 rfl (lv_at hl 2 rfl) ?_
      refine lv_aload_n hx hb dX4_through_5 rfl (lv_at hl 0 rfl) ?_
      refine va_get (D := (dC, dI)) (ci := 3) (v := .int v4_count) (C := RX4) (T := TX4) (N := 3) hx hb hts hiX4 hown hK hP 0 rfl rfl 0 (by decide) (hts (.fieldLink RX4 24 "PageLines$Pipe" "count" "I") (List.mem_of_getElem? (i := 1) rfl)) (fun _ h9 => h9) rfl dX4_through_6 ?_
      refine lv_icmp_ge (tgt := 35) hx hb dX4_through_9 (by decide) (fun hc => ?_) (fun hc => ?_)
      · have hf := it_p hc hf
        refine lv_iload_n hx hb dX4_through_35 rfl (lv_at hl 1 rfl) ?_
        exact W.iret (v := x2) hx hb hr (fun t ht hW => ⟨⟨_, (), rfl, Option.some.inj hf, ht⟩, hS.F ht⟩) hS.2.2 dX4_through_36
      · have hf := it_n hc hf
        refine lv_aload_n hx hb dX4_through_12 rfl (lv_at hl 0 rfl) ?_
        refine va_get (D := (dC, dI)) (ci := 3) (v := .ref a4_kinds) (C := RX4) (T := TX4) (N := 3) hx hb hts hiX4 hown hK hP 0 rfl rfl 1 (by decide) (hts (.fieldLink RX4 9 "PageLines$Pipe" "kinds" "[I") (List.mem_of_getElem? (i := 2) rfl)) (fun _ h9 => h9) rfl dX4_through_13 ?_
        refine lv_iload_n hx hb dX4_through_16 rfl (lv_at hl 2 rfl) ?_
        obtain ⟨hi_4, hf⟩ := ckI_sp hf
        refine va_iald hx hb hK hP 1 0 rfl rfl hi_4 dX4_through_17 ?_
        refine lv_aload_n hx hb dX4_through_18 rfl (lv_at hl 0 rfl) ?_
        refine va_get (D := (dC, dI)) (ci := 3) (v := .ref a4_numbers) (C := RX4) (T := TX4) (N := 3) hx hb hts hiX4 hown hK hP 0 rfl rfl 2 (by decide) (hts (.fieldLink RX4 15 "PageLines$Pipe" "numbers" "[I") (List.mem_of_getElem? (i := 3) rfl)) (fun _ h9 => h9) rfl dX4_through_19 ?_
        refine lv_iload_n hx hb dX4_through_22 rfl (lv_at hl 2 rfl) ?_
        obtain ⟨hi_5, hf⟩ := ckI_sp hf
        refine va_iald hx hb hK hP 2 0 rfl rfl hi_5 dX4_through_23 ?_
        refine lv_iload_n hx hb dX4_through_24 rfl (lv_at hl 1 rfl) ?_
        obtain ⟨r6, hr6, hf⟩ := cl1_sp hf
        refine ro_S (As := [.int (f4_kinds x3.toNatClampNeg), .int (f4_numbers x3.toNatClampNeg), .int x2]) ⟨hx, hb, hml, hown, hts⟩ (kX4_stepped l _ (f4_kinds x3.toNatClampNeg) (f4_numbers x3.toNatClampNeg) x2 r6 hr6) (va_cwS 3 hts gX4_through_X4_stepped rfl rfl rfl (by decide +kernel) ⟨Nat.le_of_ble_eq_true rfl, Nat.le_of_ble_eq_true rfl⟩) hS rfl hl.1 rfl (Nat.le_of_ble_eq_true rfl) dX4_through_25 (Nat.zero_le _) (Nat.zero_le _) (fun locs hS => ?_)
        refine lv_istore_n (lv' := [(2, .int r6), (0, .ref a4), (3, .int x3)]) hx hb dX4_through_28 rfl hl (by decide) rfl (fun ls hl => ?_)
        refine lv_iinc (v := x3 + (1 : Int32)) (lv' := [(3, .int (x3 + (1 : Int32))), (2, .int r6), (0, .ref a4)]) hx hb dX4_through_29 hl (k := 2) rfl rfl (by decide) rfl (fun ls hl => ?_)
        refine lv_goto (tgt := 4) hx hb dX4_through_32 (by decide) ?_
        exact ih4 r6 (x3 + (1 : Int32)) hf _ _ hS (lv_sub hl [2, 1, 0] rfl)
  have hl := lv_entry ([.ref a4, .int p1]) (n := 4) (Nat.le_of_ble_eq_true rfl)
  rw [lg_entry_eq]
  generalize (lg_sl ([.ref a4, .int p1]) ++ List.replicate (4 - (lg_sl ([.ref a4, .int p1])).length) Slot.unset).toArray = ls at hl ⊢
  have hl : lv_has ls 4 [(0, .ref a4), (1, .int p1)] := hl
  unfold fX4_through at hf
  refine lv_iload_n hx hb dX4_through_0 rfl (lv_at hl 1 rfl) ?_
  refine lv_istore_n (lv' := [(2, .int p1), (0, .ref a4), (1, .int p1)]) hx hb dX4_through_1 rfl hl (by decide) rfl (fun ls hl => ?_)
  refine lv_iconst (v := (0 : Int32)) hx hb dX4_through_2 (by decide) ?_
  refine lv_istore_n (lv' := [(3, .int (0 : Int32)), (2, .int p1), (0, .ref a4), (1, .int p1)]) hx hb dX4_through_3 rfl hl (by decide) rfl (fun ls hl => ?_)
  exact hb_4 300 p1 (0 : Int32) hf _ _ hS (lv_sub hl [2, 1, 0] rfl)

set_option maxHeartbeats 4000000 in
set_option maxRecDepth 100000 in
theorem kX1_has (l : Launch) (dC : Nat → ClassId) (dI : Nat → Nat → Nat) (cy : ClassId) (H : Heap) (a1 a1_values : Nat) (v1_count : Int32) (v1_threshold : Int32) (f1_values : Nat → Int32) (p1 : Int32) (r : Int32) (hf : fX1_has v1_count p1 = some r) : Met l yX1_has wsX1_has ({ frames := 0, cells := 0, slots := 0, locals := 0 }) (roP [.ref a1, .int p1] (dC, dI) vwCl (WX1 cy a1 a1_values v1_count v1_threshold f1_values) [(cy, .int)] H) (roQi r H) 0 0 (fun _ => False) := by
  refine Met.ofW (cc := cX1_has) (maxL := 2) (ret := (some .boolean)) (by decide) rfl ?_
  intro p e s m args below meth c s₁ B hml hv
  obtain ⟨rfl, hH, hP, hK⟩ := hv
  have hx := B.exec
  have hb := B.bytes
  have hr := B.returns
  have hts := atoms_spec (ws := wsX1_has) B.pre
  have hown : s.vm.findClass RX1 = some m.cls := findClass_of_methodNamed B.named
  have hlocks := B.notSynchronized
  have hiX1 : ∀ w ∈ u_ws RX1 TX1 3, w ∈ wsX1_has := fun _ h => List.mem_cons_of_mem _ ((List.mem_append_right _ h))
  subst hH
  have hS : va_S (fun _ => False) s.heap s.heap [] := va_S.rf
  have hl := lv_entry ([.ref a1, .int p1]) (n := 2) (Nat.le_of_ble_eq_true rfl)
  rw [lg_entry_eq]
  generalize (lg_sl ([.ref a1, .int p1]) ++ List.replicate (2 - (lg_sl ([.ref a1, .int p1])).length) Slot.unset).toArray = ls at hl ⊢
  have hl : lv_has ls 2 [(0, .ref a1), (1, .int p1)] := hl
  unfold fX1_has at hf
  refine lv_iload_n hx hb dX1_has_0 rfl (lv_at hl 1 rfl) ?_
  refine lv_if_lt (tgt := 16) hx hb dX1_has_1 (by decide) (fun hc => ?_) (fun hc => ?_)
  · have hf := it_p hc hf
    refine lv_iconst (v := (0 : Int32)) hx hb dX1_has_16 (by decide) ?_
    exact W.zret (v := (0 : Int32)) hx hb hr rfl (fun t ht hW => ⟨⟨_, (), rfl, Option.some.inj hf, ht⟩, hS.F ht⟩) hS.2.2 dX1_has_17
  · have hf := it_n hc hf
    refine lv_iload_n hx hb dX1_has_4 rfl (lv_at hl 1 rfl) ?_
    refine lv_aload_n hx hb dX1_has_5 rfl (lv_at hl 0 rfl) ?_
    refine va_get (D := (dC, dI)) (ci := 1) (v := .int v1_count) (C := RX1) (T := TX1) (N := 3) hx hb hts hiX1 hown hK hP 0 rfl rfl 0 (by decide) (hts (.fieldLink RX1 19 "PageLines$Lines" "count" "I") (List.mem_of_getElem? (i := 1) rfl)) (fun _ h9 => h9) rfl dX1_has_6 ?_
    refine lv_icmp_ge (tgt := 16) hx hb dX1_has_9 (by decide) (fun hc => ?_) (fun hc => ?_)
    · have hf := it_p hc hf
      refine lv_iconst (v := (0 : Int32)) hx hb dX1_has_16 (by decide) ?_
      exact W.zret (v := (0 : Int32)) hx hb hr rfl (fun t ht hW => ⟨⟨_, (), rfl, Option.some.inj hf, ht⟩, hS.F ht⟩) hS.2.2 dX1_has_17
    · have hf := it_n hc hf
      refine lv_iconst (v := (1 : Int32)) hx hb dX1_has_12 (by decide) ?_
      refine lv_goto (tgt := 17) hx hb dX1_has_13 (by decide) ?_
      exact W.zret (v := (1 : Int32)) hx hb hr rfl (fun t ht hW => ⟨⟨_, (), rfl, Option.some.inj hf, ht⟩, hS.F ht⟩) hS.2.2 dX1_has_17
set_option maxHeartbeats 4000000 in
set_option maxRecDepth 100000 in
theorem kX1_greyOf (l : Launch) (dC : Nat → ClassId) (dI : Nat → Nat → Nat) (cy : ClassId) (H : Heap) (a1 a1_values : Nat) (v1_count : Int32) (v1_threshold : Int32) (f1_values : Nat → Int32) (p1 : Int32) (p2 : Int32) (r : Int32) (hf : fX1_greyOf f1_values p1 p2 = some r) : Met l yX1_greyOf wsX1_greyOf ({ frames := 1, cells := 0, slots := 0, locals := 21 }) (roP [.ref a1, .int p1, .int p2] (dC, dI) vwCl (WX1 cy a1 a1_values v1_count v1_threshold f1_values) [(cy, .int)] H) (roQi r H) 0 0 (fun _ => False) := by
  refine Met.ofW (cc := cX1_greyOf) (maxL := 5) (ret := (some .int)) (by decide) rfl ?_
  intro p e s m args below meth c s₁ B hml hv
  obtain ⟨rfl, hH, hP, hK⟩ := hv
  have hx := B.exec
  have hb := B.bytes
  have hr := B.returns
  have hts := atoms_spec (ws := wsX1_greyOf) B.pre
  have hown : s.vm.findClass RX1 = some m.cls := findClass_of_methodNamed B.named
  have hlocks := B.notSynchronized
  have hiX1 : ∀ w ∈ u_ws RX1 TX1 3, w ∈ wsX1_greyOf := fun _ h => List.mem_cons_of_mem _ ((List.mem_append_right _ h))
  subst hH
  have hS : va_S (fun _ => False) s.heap s.heap [] := va_S.rf
  have hl := lv_entry ([.ref a1, .int p1, .int p2]) (n := 5) (Nat.le_of_ble_eq_true rfl)
  rw [lg_entry_eq]
  generalize (lg_sl ([.ref a1, .int p1, .int p2]) ++ List.replicate (5 - (lg_sl ([.ref a1, .int p1, .int p2])).length) Slot.unset).toArray = ls at hl ⊢
  have hl : lv_has ls 5 [(0, .ref a1), (1, .int p1), (2, .int p2)] := hl
  unfold fX1_greyOf at hf
  refine lv_iload_n hx hb dX1_greyOf_0 rfl (lv_at hl 1 rfl) ?_
  refine lv_bipush (v := (36 : Int32)) hx hb dX1_greyOf_1 (by decide) ?_
  refine lv_imul hx hb dX1_greyOf_3 ?_
  refine lv_iload_n hx hb dX1_greyOf_4 rfl (lv_at hl 2 rfl) ?_
  refine lv_iadd hx hb dX1_greyOf_5 ?_
  refine lv_istore_n (lv' := [(3, .int ((p1 * (36 : Int32)) + p2)), (0, .ref a1), (1, .int p1), (2, .int p2)]) hx hb dX1_greyOf_6 rfl hl (by decide) rfl (fun ls hl => ?_)
  refine lv_iconst (v := (2 : Int32)) hx hb dX1_greyOf_7 (by decide) ?_
  refine lv_aload_n hx hb dX1_greyOf_8 rfl (lv_at hl 1 rfl) ?_
  refine va_get (D := (dC, dI)) (ci := 1) (v := .ref a1_values) (C := RX1) (T := TX1) (N := 3) hx hb hts hiX1 hown hK hP 0 rfl rfl 2 (by decide) (hts (.fieldLink RX1 15 "PageLines$Lines" "values" "[I") (List.mem_of_getElem? (i := 1) rfl)) (fun _ h9 => h9) rfl dX1_greyOf_9 ?_
  refine lv_iload_n hx hb dX1_greyOf_12 rfl (lv_at hl 0 rfl) ?_
  obtain ⟨hi_1, hf⟩ := ckI_sp hf
  refine va_iald hx hb hK hP 1 0 rfl rfl hi_1 dX1_greyOf_13 ?_
  refine lv_imul hx hb dX1_greyOf_14 ?_
  refine lv_iconst (v := (5 : Int32)) hx hb dX1_greyOf_15 (by decide) ?_
  refine lv_aload_n hx hb dX1_greyOf_16 rfl (lv_at hl 1 rfl) ?_
  refine va_get (D := (dC, dI)) (ci := 1) (v := .ref a1_values) (C := RX1) (T := TX1) (N := 3) hx hb hts hiX1 hown hK hP 0 rfl rfl 2 (by decide) (hts (.fieldLink RX1 15 "PageLines$Lines" "values" "[I") (List.mem_of_getElem? (i := 1) rfl)) (fun _ h9 => h9) rfl dX1_greyOf_17 ?_
  refine lv_iload_n hx hb dX1_greyOf_20 rfl (lv_at hl 0 rfl) ?_
  refine lv_bipush (v := (12 : Int32)) hx hb dX1_greyOf_21 (by decide) ?_
  refine lv_iadd hx hb dX1_greyOf_23 ?_
  obtain ⟨hi_2, hf⟩ := ckI_sp hf
  refine va_iald hx hb hK hP 1 0 rfl rfl hi_2 dX1_greyOf_24 ?_
  refine lv_imul hx hb dX1_greyOf_25 ?_
  refine lv_iadd hx hb dX1_greyOf_26 ?_
  refine lv_aload_n hx hb dX1_greyOf_27 rfl (lv_at hl 1 rfl) ?_
  refine va_get (D := (dC, dI)) (ci := 1) (v := .ref a1_values) (C := RX1) (T := TX1) (N := 3) hx hb hts hiX1 hown hK hP 0 rfl rfl 2 (by decide) (hts (.fieldLink RX1 15 "PageLines$Lines" "values" "[I") (List.mem_of_getElem? (i := 1) rfl)) (fun _ h9 => h9) rfl dX1_greyOf_28 ?_
  refine lv_iload_n hx hb dX1_greyOf_31 rfl (lv_at hl 0 rfl) ?_
  refine lv_bipush (v := (24 : Int32)) hx hb dX1_greyOf_32 (by decide) ?_
  refine lv_iadd hx hb dX1_greyOf_34 ?_
  obtain ⟨hi_3, hf⟩ := ckI_sp hf
  refine va_iald hx hb hK hP 1 0 rfl rfl hi_3 dX1_greyOf_35 ?_
  refine lv_iadd hx hb dX1_greyOf_36 ?_
  refine lv_istore (lv' := [(4, .int ((((2 : Int32) * (f1_values ((p1 * (36 : Int32)) + p2).toNatClampNeg)) + ((5 : Int32) * (f1_values (((p1 * (36 : Int32)) + p2) + (12 : Int32)).toNatClampNeg))) + (f1_values (((p1 * (36 : Int32)) + p2) + (24 : Int32)).toNatClampNeg))), (3, .int ((p1 * (36 : Int32)) + p2)), (0, .ref a1), (1, .int p1), (2, .int p2)]) hx hb dX1_greyOf_37 hl (by decide) rfl (fun ls hl => ?_)
  refine lv_iload hx hb dX1_greyOf_39 (lv_at hl 0 rfl) ?_
  refine lv_bipush (v := (8 : Int32)) hx hb dX1_greyOf_41 (by decide) ?_
  obtain ⟨r4, hr4, hf⟩ := cl1_sp hf
  refine ro_S (As := [.int ((((2 : Int32) * (f1_values ((p1 * (36 : Int32)) + p2).toNatClampNeg)) + ((5 : Int32) * (f1_values (((p1 * (36 : Int32)) + p2) + (12 : Int32)).toNatClampNeg))) + (f1_values (((p1 * (36 : Int32)) + p2) + (24 : Int32)).toNatClampNeg)), .int (8 : Int32)]) ⟨hx, hb, hml, hown, hts⟩ (kX2_rounded l _ ((((2 : Int32) * (f1_values ((p1 * (36 : Int32)) + p2).toNatClampNeg)) + ((5 : Int32) * (f1_values (((p1 * (36 : Int32)) + p2) + (12 : Int32)).toNatClampNeg))) + (f1_values (((p1 * (36 : Int32)) + p2) + (24 : Int32)).toNatClampNeg)) (8 : Int32) r4 hr4) (va_cwS 2 hts gX1_greyOf_X2_rounded rfl rfl rfl (by decide +kernel) ⟨Nat.le_of_ble_eq_true rfl, Nat.le_of_ble_eq_true rfl⟩) hS rfl hl.1 rfl (Nat.le_of_ble_eq_true rfl) dX1_greyOf_43 (Nat.zero_le _) (Nat.zero_le _) (fun locs hS => ?_)
  exact W.iret (v := r4) hx hb hr (fun t ht hW => ⟨⟨_, (), rfl, Option.some.inj hf, ht⟩, hS.F ht⟩) hS.2.2 dX1_greyOf_46
set_option maxHeartbeats 4000000 in
set_option maxRecDepth 100000 in
theorem kX1_darkSet (l : Launch) (dC : Nat → ClassId) (dI : Nat → Nat → Nat) (cy : ClassId) (H : Heap) (a1 a1_values : Nat) (v1_count : Int32) (v1_threshold : Int32) (f1_values : Nat → Int32) (p1 : Int32) (r : Int32) (hf : fX1_darkSet v1_threshold f1_values p1 = some r) : Met l yX1_darkSet wsX1_darkSet ({ frames := 2, cells := 0, slots := 0, locals := 45 }) (roP [.ref a1, .int p1] (dC, dI) vwCl (WX1 cy a1 a1_values v1_count v1_threshold f1_values) [(cy, .int)] H) (roQi r H) 0 0 (fun _ => False) := by
  refine Met.ofW (cc := cX1_darkSet) (maxL := 4) (ret := (some .int)) (by decide) rfl ?_
  intro p e s m args below meth c s₁ B hml hv
  obtain ⟨rfl, hH, hP, hK⟩ := hv
  have hx := B.exec
  have hb := B.bytes
  have hr := B.returns
  have hts := atoms_spec (ws := wsX1_darkSet) B.pre
  have hown : s.vm.findClass RX1 = some m.cls := findClass_of_methodNamed B.named
  have hlocks := B.notSynchronized
  have hiX1 : ∀ w ∈ u_ws RX1 TX1 3, w ∈ wsX1_darkSet := fun _ h => List.mem_cons_of_mem _ ((List.mem_append_right _ h))
  subst hH
  have hS : va_S (fun _ => False) s.heap s.heap [] := va_S.rf
  have hb_4 : ∀ (n : Nat) (x1 : Int32) (x2 : Int32) (x3 : Int32), bX1_darkSet_4 v1_threshold f1_values n x1 x2 x3 = some r → ∀ (locs : List Loc) (ls : Array Slot), va_S (fun _ => False) s.heap s.heap locs → lv_has ls 4 [(0, .ref a1), (1, .int x1), (2, .int x2), (3, .int x3)] → W p l e (headSpec wsX1_darkSet ({ frames := 2, cells := 0, slots := 0, locals := 45 })).room s m ([.ref a1, .int p1] : List Value).toArray below meth c s.heap locs 0 0 (MQ below (roQi r s.heap) ([.ref a1, .int p1] : List Value).toArray s 0 0 (fun _ => False)) (F0 m 4 ls []) := by
    intro n
    induction n with
    | zero => intro x1 x2 x3 hf; rw [bX1_darkSet_4] at hf; cases hf
    | succ n4 ih4 =>
      intro x1 x2 x3 hf locs ls hS hl
      rw [bX1_darkSet_4] at hf
      refine lv_iload_n hx hb dX1_darkSet_4 rfl (lv_at hl 3 rfl) ?_
      refine lv_bipush (v := (12 : Int32)) hx hb dX1_darkSet_5 (by decide) ?_
      refine lv_icmp_ge (tgt := 35) hx hb dX1_darkSet_7 (by decide) (fun hc => ?_) (fun hc => ?_)
      · have hf := it_p hc hf
        refine lv_iload_n hx hb dX1_darkSet_35 rfl (lv_at hl 2 rfl) ?_
        exact W.iret (v := x2) hx hb hr (fun t ht hW => ⟨⟨_, (), rfl, Option.some.inj hf, ht⟩, hS.F ht⟩) hS.2.2 dX1_darkSet_36
      · have hf := it_n hc hf
        refine lv_aload_n hx hb dX1_darkSet_10 rfl (lv_at hl 0 rfl) ?_
        refine lv_iload_n hx hb dX1_darkSet_11 rfl (lv_at hl 1 rfl) ?_
        refine lv_iload_n hx hb dX1_darkSet_12 rfl (lv_at hl 3 rfl) ?_
        obtain ⟨r2, hr2, hf⟩ := cl1_sp hf
        refine ro_V (As := [.int x1, .int x3]) ⟨hx, hb, hml, hown, hts⟩ (kX1_greyOf l dC dI cy _ a1 a1_values v1_count v1_threshold f1_values x1 x3 r2 hr2) (cwV 2 hts gX1_darkSet_X1_greyOf rfl rfl rfl (by decide +kernel) ⟨Nat.le_of_ble_eq_true rfl, Nat.le_of_ble_eq_true rfl⟩) (va_recv hK hP (ci := 1) (q0 := 0) rfl rfl) (hP.sub [0, 1] rfl) hK hS rfl hl.1 rfl (Nat.le_of_ble_eq_true rfl) dX1_darkSet_13 (Nat.zero_le _) (Nat.zero_le _) (fun locs hS => ?_)
        refine lv_aload_n hx hb dX1_darkSet_16 rfl (lv_at hl 0 rfl) ?_
        refine va_get (D := (dC, dI)) (ci := 1) (v := .int v1_threshold) (C := RX1) (T := TX1) (N := 3) hx hb hts hiX1 hown hK hP 0 rfl rfl 1 (by decide) (hts (.fieldLink RX1 9 "PageLines$Lines" "threshold" "I") (List.mem_of_getElem? (i := 1) rfl)) (fun _ h9 => h9) rfl dX1_darkSet_17 ?_
        refine lv_icmp_ge (tgt := 29) hx hb dX1_darkSet_20 (by decide) (fun hc => ?_) (fun hc => ?_)
        · have hf := it_p hc hf
          refine lv_iinc (v := x3 + (1 : Int32)) (lv' := [(3, .int (x3 + (1 : Int32))), (0, .ref a1), (1, .int x1), (2, .int x2)]) hx hb dX1_darkSet_29 hl (k := 3) rfl rfl (by decide) rfl (fun ls hl => ?_)
          refine lv_goto (tgt := 4) hx hb dX1_darkSet_32 (by decide) ?_
          exact ih4 x1 x2 (x3 + (1 : Int32)) hf _ _ hS (lv_sub hl [1, 2, 3, 0] rfl)
        · have hf := it_n hc hf
          refine lv_iload_n hx hb dX1_darkSet_23 rfl (lv_at hl 2 rfl) ?_
          refine lv_iconst (v := (1 : Int32)) hx hb dX1_darkSet_24 (by decide) ?_
          refine lv_iload_n hx hb dX1_darkSet_25 rfl (lv_at hl 3 rfl) ?_
          refine lv_ishl hx hb dX1_darkSet_26 ?_
          refine lv_ior hx hb dX1_darkSet_27 ?_
          refine lv_istore_n (lv' := [(2, .int (x2 ||| ((1 : Int32) <<< (x3 &&& 31)))), (0, .ref a1), (1, .int x1), (3, .int x3)]) hx hb dX1_darkSet_28 rfl hl (by decide) rfl (fun ls hl => ?_)
          refine lv_iinc (v := x3 + (1 : Int32)) (lv' := [(3, .int (x3 + (1 : Int32))), (2, .int (x2 ||| ((1 : Int32) <<< (x3 &&& 31)))), (0, .ref a1), (1, .int x1)]) hx hb dX1_darkSet_29 hl (k := 3) rfl rfl (by decide) rfl (fun ls hl => ?_)
          refine lv_goto (tgt := 4) hx hb dX1_darkSet_32 (by decide) ?_
          exact ih4 x1 (x2 ||| ((1 : Int32) <<< (x3 &&& 31))) (x3 + (1 : Int32)) hf _ _ hS (lv_sub hl [2, 3, 1, 0] rfl)
  have hl := lv_entry ([.ref a1, .int p1]) (n := 4) (Nat.le_of_ble_eq_true rfl)
  rw [lg_entry_eq]
  generalize (lg_sl ([.ref a1, .int p1]) ++ List.replicate (4 - (lg_sl ([.ref a1, .int p1])).length) Slot.unset).toArray = ls at hl ⊢
  have hl : lv_has ls 4 [(0, .ref a1), (1, .int p1)] := hl
  unfold fX1_darkSet at hf
  refine lv_iconst (v := (0 : Int32)) hx hb dX1_darkSet_0 (by decide) ?_
  refine lv_istore_n (lv' := [(2, .int (0 : Int32)), (0, .ref a1), (1, .int p1)]) hx hb dX1_darkSet_1 rfl hl (by decide) rfl (fun ls hl => ?_)
  refine lv_iconst (v := (0 : Int32)) hx hb dX1_darkSet_2 (by decide) ?_
  refine lv_istore_n (lv' := [(3, .int (0 : Int32)), (2, .int (0 : Int32)), (0, .ref a1), (1, .int p1)]) hx hb dX1_darkSet_3 rfl hl (by decide) rfl (fun ls hl => ?_)
  exact hb_4 300 p1 (0 : Int32) (0 : Int32) hf _ _ hS (lv_sub hl [2, 3, 1, 0] rfl)
set_option maxHeartbeats 4000000 in
set_option maxRecDepth 100000 in
theorem kX1_isIn (l : Launch) (H : Heap) (p1 : Int32) (p2 : Int32) (r : Int32) (hf : fX1_isIn p1 p2 = some r) : Met l yX1_isIn wsX1_isIn ({ frames := 0, cells := 0, slots := 0, locals := 0 }) (roP0 [.int p1, .int p2] H) (roQi r H) 0 0 (fun _ => False) := by
  refine Met.ofW (cc := cX1_isIn) (maxL := 2) (ret := (some .boolean)) (by decide) rfl ?_
  intro p e s m args below meth c s₁ B hml hv
  obtain ⟨rfl, hH⟩ := hv
  have hx := B.exec
  have hb := B.bytes
  have hr := B.returns
  have hts := atoms_spec (ws := wsX1_isIn) B.pre
  have hown : s.vm.findClass RX1 = some m.cls := findClass_of_methodNamed B.named
  have hlocks := B.notSynchronized
  subst hH
  have hS : va_S (fun _ => False) s.heap s.heap [] := va_S.rf
  have hl := lv_entry ([.int p1, .int p2]) (n := 2) (Nat.le_of_ble_eq_true rfl)
  rw [lg_entry_eq]
  generalize (lg_sl ([.int p1, .int p2]) ++ List.replicate (2 - (lg_sl ([.int p1, .int p2])).length) Slot.unset).toArray = ls at hl ⊢
  have hl : lv_has ls 2 [(0, .int p1), (1, .int p2)] := hl
  unfold fX1_isIn at hf
  refine lv_iload_n hx hb dX1_isIn_0 rfl (lv_at hl 0 rfl) ?_
  refine lv_iload_n hx hb dX1_isIn_1 rfl (lv_at hl 1 rfl) ?_
  refine lv_ishr hx hb dX1_isIn_2 ?_
  refine lv_iconst (v := (1 : Int32)) hx hb dX1_isIn_3 (by decide) ?_
  refine lv_iand hx hb dX1_isIn_4 ?_
  refine lv_iconst (v := (1 : Int32)) hx hb dX1_isIn_5 (by decide) ?_
  refine lv_icmp_ne (tgt := 13) hx hb dX1_isIn_6 (by decide) (fun hc => ?_) (fun hc => ?_)
  · have hf := it_n hc hf
    refine lv_iconst (v := (0 : Int32)) hx hb dX1_isIn_13 (by decide) ?_
    exact W.zret (v := (0 : Int32)) hx hb hr rfl (fun t ht hW => ⟨⟨_, (), rfl, Option.some.inj hf, ht⟩, hS.F ht⟩) hS.2.2 dX1_isIn_14
  · have hf := it_p hc hf
    refine lv_iconst (v := (1 : Int32)) hx hb dX1_isIn_9 (by decide) ?_
    refine lv_goto (tgt := 14) hx hb dX1_isIn_10 (by decide) ?_
    exact W.zret (v := (1 : Int32)) hx hb hr rfl (fun t ht hW => ⟨⟨_, (), rfl, Option.some.inj hf, ht⟩, hS.F ht⟩) hS.2.2 dX1_isIn_14
set_option maxHeartbeats 4000000 in
set_option maxRecDepth 100000 in
theorem kX1_startsRun (l : Launch) (H : Heap) (p1 : Int32) (p2 : Int32) (r : Int32) (hf : fX1_startsRun p1 p2 = some r) : Met l yX1_startsRun wsX1_startsRun ({ frames := 1, cells := 0, slots := 0, locals := 21 }) (roP0 [.int p1, .int p2] H) (roQi r H) 0 0 (fun _ => False) := by
  refine Met.ofW (cc := cX1_startsRun) (maxL := 2) (ret := (some .boolean)) (by decide) rfl ?_
  intro p e s m args below meth c s₁ B hml hv
  obtain ⟨rfl, hH⟩ := hv
  have hx := B.exec
  have hb := B.bytes
  have hr := B.returns
  have hts := atoms_spec (ws := wsX1_startsRun) B.pre
  have hown : s.vm.findClass RX1 = some m.cls := findClass_of_methodNamed B.named
  have hlocks := B.notSynchronized
  subst hH
  have hS : va_S (fun _ => False) s.heap s.heap [] := va_S.rf
  have hl := lv_entry ([.int p1, .int p2]) (n := 2) (Nat.le_of_ble_eq_true rfl)
  rw [lg_entry_eq]
  generalize (lg_sl ([.int p1, .int p2]) ++ List.replicate (2 - (lg_sl ([.int p1, .int p2])).length) Slot.unset).toArray = ls at hl ⊢
  have hl : lv_has ls 2 [(0, .int p1), (1, .int p2)] := hl
  unfold fX1_startsRun at hf
  refine lv_iload_n hx hb dX1_startsRun_0 rfl (lv_at hl 0 rfl) ?_
  refine lv_iload_n hx hb dX1_startsRun_1 rfl (lv_at hl 1 rfl) ?_
  obtain ⟨r1, hr1, hf⟩ := cl1_sp hf
  refine ro_S (As := [.int p1, .int p2]) ⟨hx, hb, hml, hown, hts⟩ (kX1_isIn l _ p1 p2 r1 hr1) (va_cwS 2 hts gX1_startsRun_X1_isIn rfl rfl rfl (by decide +kernel) ⟨Nat.le_of_ble_eq_true rfl, Nat.le_of_ble_eq_true rfl⟩) hS rfl hl.1 rfl (Nat.le_of_ble_eq_true rfl) dX1_startsRun_2 (Nat.zero_le _) (Nat.zero_le _) (fun locs hS => ?_)
  refine lv_if_eq (tgt := 26) hx hb dX1_startsRun_5 (by decide) (fun hc => ?_) (fun hc => ?_)
  · have hf := it_p hc hf
    refine lv_iconst (v := (0 : Int32)) hx hb dX1_startsRun_26 (by decide) ?_
    exact W.zret (v := (0 : Int32)) hx hb hr rfl (fun t ht hW => ⟨⟨_, (), rfl, Option.some.inj hf, ht⟩, hS.F ht⟩) hS.2.2 dX1_startsRun_27
  · have hf := it_n hc hf
    refine lv_iload_n hx hb dX1_startsRun_8 rfl (lv_at hl 1 rfl) ?_
    refine lv_if_eq (tgt := 22) hx hb dX1_startsRun_9 (by decide) (fun hc => ?_) (fun hc => ?_)
    · have hf := it_p hc hf
      refine lv_iconst (v := (1 : Int32)) hx hb dX1_startsRun_22 (by decide) ?_
      refine lv_goto (tgt := 27) hx hb dX1_startsRun_23 (by decide) ?_
      exact W.zret (v := (1 : Int32)) hx hb hr rfl (fun t ht hW => ⟨⟨_, (), rfl, Option.some.inj hf, ht⟩, hS.F ht⟩) hS.2.2 dX1_startsRun_27
    · have hf := it_n hc hf
      refine lv_iload_n hx hb dX1_startsRun_12 rfl (lv_at hl 0 rfl) ?_
      refine lv_iload_n hx hb dX1_startsRun_13 rfl (lv_at hl 1 rfl) ?_
      refine lv_iconst (v := (1 : Int32)) hx hb dX1_startsRun_14 (by decide) ?_
      refine lv_isub hx hb dX1_startsRun_15 ?_
      obtain ⟨r2, hr2, hf⟩ := cl1_sp hf
      refine ro_S (As := [.int p1, .int (p2 - (1 : Int32))]) ⟨hx, hb, hml, hown, hts⟩ (kX1_isIn l _ p1 (p2 - (1 : Int32)) r2 hr2) (va_cwS 2 hts gX1_startsRun_X1_isIn rfl rfl rfl (by decide +kernel) ⟨Nat.le_of_ble_eq_true rfl, Nat.le_of_ble_eq_true rfl⟩) hS rfl hl.1 rfl (Nat.le_of_ble_eq_true rfl) dX1_startsRun_16 (Nat.zero_le _) (Nat.zero_le _) (fun locs hS => ?_)
      refine lv_if_ne (tgt := 26) hx hb dX1_startsRun_19 (by decide) (fun hc => ?_) (fun hc => ?_)
      · have hf := it_n hc hf
        refine lv_iconst (v := (0 : Int32)) hx hb dX1_startsRun_26 (by decide) ?_
        exact W.zret (v := (0 : Int32)) hx hb hr rfl (fun t ht hW => ⟨⟨_, (), rfl, Option.some.inj hf, ht⟩, hS.F ht⟩) hS.2.2 dX1_startsRun_27
      · have hf := it_p hc hf
        refine lv_iconst (v := (1 : Int32)) hx hb dX1_startsRun_22 (by decide) ?_
        refine lv_goto (tgt := 27) hx hb dX1_startsRun_23 (by decide) ?_
        exact W.zret (v := (1 : Int32)) hx hb hr rfl (fun t ht hW => ⟨⟨_, (), rfl, Option.some.inj hf, ht⟩, hS.F ht⟩) hS.2.2 dX1_startsRun_27
set_option maxHeartbeats 4000000 in
set_option maxRecDepth 100000 in
theorem kX1_runStart (l : Launch) (H : Heap) (p1 : Int32) (p2 : Int32) (r : Int32) (hf : fX1_runStart p1 p2 = some r) : Met l yX1_runStart wsX1_runStart ({ frames := 2, cells := 0, slots := 0, locals := 42 }) (roP0 [.int p1, .int p2] H) (roQi r H) 0 0 (fun _ => False) := by
  refine Met.ofW (cc := cX1_runStart) (maxL := 4) (ret := (some .int)) (by decide) rfl ?_
  intro p e s m args below meth c s₁ B hml hv
  obtain ⟨rfl, hH⟩ := hv
  have hx := B.exec
  have hb := B.bytes
  have hr := B.returns
  have hts := atoms_spec (ws := wsX1_runStart) B.pre
  have hown : s.vm.findClass RX1 = some m.cls := findClass_of_methodNamed B.named
  have hlocks := B.notSynchronized
  subst hH
  have hS : va_S (fun _ => False) s.heap s.heap [] := va_S.rf
  have hb_4 : ∀ (n : Nat) (x0 : Int32) (x1 : Int32) (x2 : Int32) (x3 : Int32), bX1_runStart_4 n x0 x1 x2 x3 = some r → ∀ (locs : List Loc) (ls : Array Slot), va_S (fun _ => False) s.heap s.heap locs → lv_has ls 4 [(0, .int x0), (1, .int x1), (2, .int x2), (3, .int x3)] → W p l e (headSpec wsX1_runStart ({ frames := 2, cells := 0, slots := 0, locals := 42 })).room s m ([.int p1, .int p2] : List Value).toArray below meth c s.heap locs 0 0 (MQ below (roQi r s.heap) ([.int p1, .int p2] : List Value).toArray s 0 0 (fun _ => False)) (F0 m 4 ls []) := by
    intro n
    induction n with
    | zero => intro x0 x1 x2 x3 hf; rw [bX1_runStart_4] at hf; cases hf
    | succ n4 ih4 =>
      intro x0 x1 x2 x3 hf locs ls hS hl
      rw [bX1_runStart_4] at hf
      refine lv_iload_n hx hb dX1_runStart_4 rfl (lv_at hl 3 rfl) ?_
      refine lv_bipush (v := (12 : Int32)) hx hb dX1_runStart_5 (by decide) ?_
      refine lv_icmp_ge (tgt := 37) hx hb dX1_runStart_7 (by decide) (fun hc => ?_) (fun hc => ?_)
      · have hf := it_p hc hf
        refine lv_bipush (v := (-9 : Int32)) hx hb dX1_runStart_37 (by decide) ?_
        exact W.iret (v := (-9 : Int32)) hx hb hr (fun t ht hW => ⟨⟨_, (), rfl, Option.some.inj hf, ht⟩, hS.F ht⟩) hS.2.2 dX1_runStart_39
      · have hf := it_n hc hf
        refine lv_iload_n hx hb dX1_runStart_10 rfl (lv_at hl 0 rfl) ?_
        refine lv_iload_n hx hb dX1_runStart_11 rfl (lv_at hl 3 rfl) ?_
        obtain ⟨r2, hr2, hf⟩ := cl1_sp hf
        refine ro_S (As := [.int x0, .int x3]) ⟨hx, hb, hml, hown, hts⟩ (kX1_startsRun l _ x0 x3 r2 hr2) (va_cwS 2 hts gX1_runStart_X1_startsRun rfl rfl rfl (by decide +kernel) ⟨Nat.le_of_ble_eq_true rfl, Nat.le_of_ble_eq_true rfl⟩) hS rfl hl.1 rfl (Nat.le_of_ble_eq_true rfl) dX1_runStart_12 (Nat.zero_le _) (Nat.zero_le _) (fun locs hS => ?_)
        refine lv_if_ne (tgt := 21) hx hb dX1_runStart_15 (by decide) (fun hc => ?_) (fun hc => ?_)
        · have hf := it_n hc hf
          refine lv_iload_n hx hb dX1_runStart_21 rfl (lv_at hl 2 rfl) ?_
          refine lv_iload_n hx hb dX1_runStart_22 rfl (lv_at hl 1 rfl) ?_
          refine lv_icmp_ne (tgt := 28) hx hb dX1_runStart_23 (by decide) (fun hc => ?_) (fun hc => ?_)
          · have hf := it_n hc hf
            refine lv_iinc (v := x2 + (1 : Int32)) (lv' := [(2, .int (x2 + (1 : Int32))), (0, .int x0), (1, .int x1), (3, .int x3)]) hx hb dX1_runStart_28 hl (k := 2) rfl rfl (by decide) rfl (fun ls hl => ?_)
            refine lv_iinc (v := x3 + (1 : Int32)) (lv' := [(3, .int (x3 + (1 : Int32))), (2, .int (x2 + (1 : Int32))), (0, .int x0), (1, .int x1)]) hx hb dX1_runStart_31 hl (k := 3) rfl rfl (by decide) rfl (fun ls hl => ?_)
            refine lv_goto (tgt := 4) hx hb dX1_runStart_34 (by decide) ?_
            exact ih4 x0 x1 (x2 + (1 : Int32)) (x3 + (1 : Int32)) hf _ _ hS (lv_sub hl [2, 3, 1, 0] rfl)
          · have hf := it_p hc hf
            refine lv_iload_n hx hb dX1_runStart_26 rfl (lv_at hl 3 rfl) ?_
            exact W.iret (v := x3) hx hb hr (fun t ht hW => ⟨⟨_, (), rfl, Option.some.inj hf, ht⟩, hS.F ht⟩) hS.2.2 dX1_runStart_27
        · have hf := it_p hc hf
          refine lv_goto (tgt := 31) hx hb dX1_runStart_18 (by decide) ?_
          refine lv_iinc (v := x3 + (1 : Int32)) (lv' := [(3, .int (x3 + (1 : Int32))), (0, .int x0), (1, .int x1), (2, .int x2)]) hx hb dX1_runStart_31 hl (k := 3) rfl rfl (by decide) rfl (fun ls hl => ?_)
          refine lv_goto (tgt := 4) hx hb dX1_runStart_34 (by decide) ?_
          exact ih4 x0 x1 x2 (x3 + (1 : Int32)) hf _ _ hS (lv_sub hl [1, 2, 3, 0] rfl)
  have hl := lv_entry ([.int p1, .int p2]) (n := 4) (Nat.le_of_ble_eq_true rfl)
  rw [lg_entry_eq]
  generalize (lg_sl ([.int p1, .int p2]) ++ List.replicate (4 - (lg_sl ([.int p1, .int p2])).length) Slot.unset).toArray = ls at hl ⊢
  have hl : lv_has ls 4 [(0, .int p1), (1, .int p2)] := hl
  unfold fX1_runStart at hf
  refine lv_iconst (v := (0 : Int32)) hx hb dX1_runStart_0 (by decide) ?_
  refine lv_istore_n (lv' := [(2, .int (0 : Int32)), (0, .int p1), (1, .int p2)]) hx hb dX1_runStart_1 rfl hl (by decide) rfl (fun ls hl => ?_)
  refine lv_iconst (v := (0 : Int32)) hx hb dX1_runStart_2 (by decide) ?_
  refine lv_istore_n (lv' := [(3, .int (0 : Int32)), (2, .int (0 : Int32)), (0, .int p1), (1, .int p2)]) hx hb dX1_runStart_3 rfl hl (by decide) rfl (fun ls hl => ?_)
  exact hb_4 300 p1 p2 (0 : Int32) (0 : Int32) hf _ _ hS (lv_sub hl [2, 3, 1, 0] rfl)
set_option maxHeartbeats 4000000 in
set_option maxRecDepth 100000 in
theorem kX1_edgeOf (l : Launch) (dC : Nat → ClassId) (dI : Nat → Nat → Nat) (cy : ClassId) (H : Heap) (a1 a1_values : Nat) (v1_count : Int32) (v1_threshold : Int32) (f1_values : Nat → Int32) (p1 : Int32) (r : Int32) (hf : fX1_edgeOf v1_threshold f1_values p1 = some r) : Met l yX1_edgeOf wsX1_edgeOf ({ frames := 3, cells := 0, slots := 0, locals := 68 }) (roP [.ref a1, .int p1] (dC, dI) vwCl (WX1 cy a1 a1_values v1_count v1_threshold f1_values) [(cy, .int)] H) (roQi r H) 0 0 (fun _ => False) := by
  refine Met.ofW (cc := cX1_edgeOf) (maxL := 2) (ret := (some .int)) (by decide) rfl ?_
  intro p e s m args below meth c s₁ B hml hv
  obtain ⟨rfl, hH, hP, hK⟩ := hv
  have hx := B.exec
  have hb := B.bytes
  have hr := B.returns
  have hts := atoms_spec (ws := wsX1_edgeOf) B.pre
  have hown : s.vm.findClass RX1 = some m.cls := findClass_of_methodNamed B.named
  have hlocks := B.notSynchronized
  have hiX1 : ∀ w ∈ u_ws RX1 TX1 3, w ∈ wsX1_edgeOf := fun _ h => List.mem_cons_of_mem _ ((List.mem_append_right _ h))
  subst hH
  have hS : va_S (fun _ => False) s.heap s.heap [] := va_S.rf
  have hl := lv_entry ([.ref a1, .int p1]) (n := 2) (Nat.le_of_ble_eq_true rfl)
  rw [lg_entry_eq]
  generalize (lg_sl ([.ref a1, .int p1]) ++ List.replicate (2 - (lg_sl ([.ref a1, .int p1])).length) Slot.unset).toArray = ls at hl ⊢
  have hl : lv_has ls 2 [(0, .ref a1), (1, .int p1)] := hl
  unfold fX1_edgeOf at hf
  refine lv_aload_n hx hb dX1_edgeOf_0 rfl (lv_at hl 0 rfl) ?_
  refine lv_iload_n hx hb dX1_edgeOf_1 rfl (lv_at hl 1 rfl) ?_
  obtain ⟨r1, hr1, hf⟩ := cl1_sp hf
  refine ro_V (As := [.int p1]) ⟨hx, hb, hml, hown, hts⟩ (kX1_darkSet l dC dI cy _ a1 a1_values v1_count v1_threshold f1_values p1 r1 hr1) (cwV 1 hts gX1_edgeOf_X1_darkSet rfl rfl rfl (by decide +kernel) ⟨Nat.le_of_ble_eq_true rfl, Nat.le_of_ble_eq_true rfl⟩) (va_recv hK hP (ci := 1) (q0 := 0) rfl rfl) (hP.sub [0, 1] rfl) hK hS rfl hl.1 rfl (Nat.le_of_ble_eq_true rfl) dX1_edgeOf_2 (Nat.zero_le _) (Nat.zero_le _) (fun locs hS => ?_)
  refine lv_iconst (v := (0 : Int32)) hx hb dX1_edgeOf_5 (by decide) ?_
  obtain ⟨r2, hr2, hf⟩ := cl1_sp hf
  refine ro_S (As := [.int r1, .int (0 : Int32)]) ⟨hx, hb, hml, hown, hts⟩ (kX1_runStart l _ r1 (0 : Int32) r2 hr2) (va_cwS 2 hts gX1_edgeOf_X1_runStart rfl rfl rfl (by decide +kernel) ⟨Nat.le_of_ble_eq_true rfl, Nat.le_of_ble_eq_true rfl⟩) hS rfl hl.1 rfl (Nat.le_of_ble_eq_true rfl) dX1_edgeOf_6 (Nat.zero_le _) (Nat.zero_le _) (fun locs hS => ?_)
  exact W.iret (v := r2) hx hb hr (fun t ht hW => ⟨⟨_, (), rfl, Option.some.inj hf, ht⟩, hS.F ht⟩) hS.2.2 dX1_edgeOf_9
set_option maxHeartbeats 4000000 in
set_option maxRecDepth 100000 in
theorem kX1_runLength (l : Launch) (H : Heap) (p1 : Int32) (p2 : Int32) (r : Int32) (hf : fX1_runLength p1 p2 = some r) : Met l yX1_runLength wsX1_runLength ({ frames := 1, cells := 0, slots := 0, locals := 21 }) (roP0 [.int p1, .int p2] H) (roQi r H) 0 0 (fun _ => False) := by
  refine Met.ofW (cc := cX1_runLength) (maxL := 4) (ret := (some .int)) (by decide) rfl ?_
  intro p e s m args below meth c s₁ B hml hv
  obtain ⟨rfl, hH⟩ := hv
  have hx := B.exec
  have hb := B.bytes
  have hr := B.returns
  have hts := atoms_spec (ws := wsX1_runLength) B.pre
  have hown : s.vm.findClass RX1 = some m.cls := findClass_of_methodNamed B.named
  have hlocks := B.notSynchronized
  subst hH
  have hS : va_S (fun _ => False) s.heap s.heap [] := va_S.rf
  have hb_4 : ∀ (n : Nat) (x0 : Int32) (x2 : Int32) (x3 : Int32), bX1_runLength_4 n x0 x2 x3 = some r → ∀ (locs : List Loc) (ls : Array Slot), va_S (fun _ => False) s.heap s.heap locs → lv_has ls 4 [(0, .int x0), (2, .int x2), (3, .int x3)] → W p l e (headSpec wsX1_runLength ({ frames := 1, cells := 0, slots := 0, locals := 21 })).room s m ([.int p1, .int p2] : List Value).toArray below meth c s.heap locs 0 0 (MQ below (roQi r s.heap) ([.int p1, .int p2] : List Value).toArray s 0 0 (fun _ => False)) (F0 m 4 ls []) := by
    intro n
    induction n with
    | zero => intro x0 x2 x3 hf; rw [bX1_runLength_4] at hf; cases hf
    | succ n4 ih4 =>
      intro x0 x2 x3 hf locs ls hS hl
      rw [bX1_runLength_4] at hf
      refine lv_iload_n hx hb dX1_runLength_4 rfl (lv_at hl 2 rfl) ?_
      refine lv_bipush (v := (12 : Int32)) hx hb dX1_runLength_5 (by decide) ?_
      refine lv_icmp_ge (tgt := 27) hx hb dX1_runLength_7 (by decide) (fun hc => ?_) (fun hc => ?_)
      · have hf := it_p hc hf
        refine lv_iload_n hx hb dX1_runLength_27 rfl (lv_at hl 1 rfl) ?_
        exact W.iret (v := x2) hx hb hr (fun t ht hW => ⟨⟨_, (), rfl, Option.some.inj hf, ht⟩, hS.F ht⟩) hS.2.2 dX1_runLength_28
      · have hf := it_n hc hf
        refine lv_iload_n hx hb dX1_runLength_10 rfl (lv_at hl 0 rfl) ?_
        refine lv_iload_n hx hb dX1_runLength_11 rfl (lv_at hl 2 rfl) ?_
        obtain ⟨r2, hr2, hf⟩ := cl1_sp hf
        refine ro_S (As := [.int x0, .int x3]) ⟨hx, hb, hml, hown, hts⟩ (kX1_isIn l _ x0 x3 r2 hr2) (va_cwS 2 hts gX1_runLength_X1_isIn rfl rfl rfl (by decide +kernel) ⟨Nat.le_of_ble_eq_true rfl, Nat.le_of_ble_eq_true rfl⟩) hS rfl hl.1 rfl (Nat.le_of_ble_eq_true rfl) dX1_runLength_12 (Nat.zero_le _) (Nat.zero_le _) (fun locs hS => ?_)
        refine lv_if_eq (tgt := 27) hx hb dX1_runLength_15 (by decide) (fun hc => ?_) (fun hc => ?_)
        · have hf := it_p hc hf
          refine lv_iload_n hx hb dX1_runLength_27 rfl (lv_at hl 1 rfl) ?_
          exact W.iret (v := x2) hx hb hr (fun t ht hW => ⟨⟨_, (), rfl, Option.some.inj hf, ht⟩, hS.F ht⟩) hS.2.2 dX1_runLength_28
        · have hf := it_n hc hf
          refine lv_iinc (v := x2 + (1 : Int32)) (lv' := [(2, .int (x2 + (1 : Int32))), (0, .int x0), (3, .int x3)]) hx hb dX1_runLength_18 hl (k := 1) rfl rfl (by decide) rfl (fun ls hl => ?_)
          refine lv_iinc (v := x3 + (1 : Int32)) (lv' := [(3, .int (x3 + (1 : Int32))), (2, .int (x2 + (1 : Int32))), (0, .int x0)]) hx hb dX1_runLength_21 hl (k := 2) rfl rfl (by decide) rfl (fun ls hl => ?_)
          refine lv_goto (tgt := 4) hx hb dX1_runLength_24 (by decide) ?_
          exact ih4 x0 (x2 + (1 : Int32)) (x3 + (1 : Int32)) hf _ _ hS (lv_sub hl [2, 1, 0] rfl)
  have hl := lv_entry ([.int p1, .int p2]) (n := 4) (Nat.le_of_ble_eq_true rfl)
  rw [lg_entry_eq]
  generalize (lg_sl ([.int p1, .int p2]) ++ List.replicate (4 - (lg_sl ([.int p1, .int p2])).length) Slot.unset).toArray = ls at hl ⊢
  have hl : lv_has ls 4 [(0, .int p1), (1, .int p2)] := hl
  unfold fX1_runLength at hf
  refine lv_iconst (v := (0 : Int32)) hx hb dX1_runLength_0 (by decide) ?_
  refine lv_istore_n (lv' := [(2, .int (0 : Int32)), (0, .int p1), (1, .int p2)]) hx hb dX1_runLength_1 rfl hl (by decide) rfl (fun ls hl => ?_)
  refine lv_iload_n hx hb dX1_runLength_2 rfl (lv_at hl 2 rfl) ?_
  refine lv_istore_n (lv' := [(3, .int p2), (2, .int (0 : Int32)), (0, .int p1), (1, .int p2)]) hx hb dX1_runLength_3 rfl hl (by decide) rfl (fun ls hl => ?_)
  exact hb_4 300 p1 (0 : Int32) p2 hf _ _ hS (lv_sub hl [2, 1, 0] rfl)
set_option maxHeartbeats 4000000 in
set_option maxRecDepth 100000 in
theorem kX1_countRuns (l : Launch) (dC : Nat → ClassId) (dI : Nat → Nat → Nat) (cy : ClassId) (H : Heap) (a1 a1_values : Nat) (v1_count : Int32) (v1_threshold : Int32) (f1_values : Nat → Int32) (r : Int32) (hf : fX1_countRuns v1_count v1_threshold f1_values = some r) : Met l yX1_countRuns wsX1_countRuns ({ frames := 3, cells := 0, slots := 0, locals := 68 }) (roP [.ref a1] (dC, dI) vwCl (WX1 cy a1 a1_values v1_count v1_threshold f1_values) [(cy, .int)] H) (roQi r H) 0 0 (fun _ => False) := by
  refine Met.ofW (cc := cX1_countRuns) (maxL := 5) (ret := (some .int)) (by decide) rfl ?_
  intro p e s m args below meth c s₁ B hml hv
  obtain ⟨rfl, hH, hP, hK⟩ := hv
  have hx := B.exec
  have hb := B.bytes
  have hr := B.returns
  have hts := atoms_spec (ws := wsX1_countRuns) B.pre
  have hown : s.vm.findClass RX1 = some m.cls := findClass_of_methodNamed B.named
  have hlocks := B.notSynchronized
  have hiX1 : ∀ w ∈ u_ws RX1 TX1 3, w ∈ wsX1_countRuns := fun _ h => List.mem_cons_of_mem _ ((List.mem_append_right _ h))
  subst hH
  have hS : va_S (fun _ => False) s.heap s.heap [] := va_S.rf
  have hb_4 : ∀ (n : Nat) (x1 : Int32) (x2 : Int32), bX1_countRuns_4 v1_count v1_threshold f1_values n x1 x2 = some r → ∀ (locs : List Loc) (ls : Array Slot), va_S (fun _ => False) s.heap s.heap locs → lv_has ls 5 [(0, .ref a1), (1, .int x1), (2, .int x2)] → W p l e (headSpec wsX1_countRuns ({ frames := 3, cells := 0, slots := 0, locals := 68 })).room s m ([.ref a1] : List Value).toArray below meth c s.heap locs 0 0 (MQ below (roQi r s.heap) ([.ref a1] : List Value).toArray s 0 0 (fun _ => False)) (F0 m 4 ls []) := by
    intro n
    induction n with
    | zero => intro x1 x2 hf; rw [bX1_countRuns_4] at hf; cases hf
    | succ n4 ih4 =>
      intro x1 x2 hf locs ls hS hl
      rw [bX1_countRuns_4] at hf
      refine lv_iload_n hx hb dX1_countRuns_4 rfl (lv_at hl 2 rfl) ?_
      refine lv_aload_n hx hb dX1_countRuns_5 rfl (lv_at hl 0 rfl) ?_
      refine va_get (D := (dC, dI)) (ci := 1) (v := .int v1_count) (C := RX1) (T := TX1) (N := 3) hx hb hts hiX1 hown hK hP 0 rfl rfl 0 (by decide) (hts (.fieldLink RX1 19 "PageLines$Lines" "count" "I") (List.mem_of_getElem? (i := 1) rfl)) (fun _ h9 => h9) rfl dX1_countRuns_6 ?_
      refine lv_icmp_ge (tgt := 52) hx hb dX1_countRuns_9 (by decide) (fun hc => ?_) (fun hc => ?_)
      · have hf := it_p hc hf
        refine lv_iload_n hx hb dX1_countRuns_52 rfl (lv_at hl 1 rfl) ?_
        exact W.iret (v := x1) hx hb hr (fun t ht hW => ⟨⟨_, (), rfl, Option.some.inj hf, ht⟩, hS.F ht⟩) hS.2.2 dX1_countRuns_53
      · have hf := it_n hc hf
        refine lv_aload_n hx hb dX1_countRuns_12 rfl (lv_at hl 0 rfl) ?_
        refine lv_iload_n hx hb dX1_countRuns_13 rfl (lv_at hl 2 rfl) ?_
        obtain ⟨r4, hr4, hf⟩ := cl1_sp hf
        refine ro_V (As := [.int x2]) ⟨hx, hb, hml, hown, hts⟩ (kX1_darkSet l dC dI cy _ a1 a1_values v1_count v1_threshold f1_values x2 r4 hr4) (cwV 1 hts gX1_countRuns_X1_darkSet rfl rfl rfl (by decide +kernel) ⟨Nat.le_of_ble_eq_true rfl, Nat.le_of_ble_eq_true rfl⟩) (va_recv hK hP (ci := 1) (q0 := 0) rfl rfl) (hP.sub [0, 1] rfl) hK hS rfl hl.1 rfl (Nat.le_of_ble_eq_true rfl) dX1_countRuns_14 (Nat.zero_le _) (Nat.zero_le _) (fun locs hS => ?_)
        refine lv_istore_n (lv' := [(3, .int r4), (0, .ref a1), (1, .int x1), (2, .int x2)]) hx hb dX1_countRuns_17 rfl hl (by decide) rfl (fun ls hl => ?_)
        refine lv_iconst (v := (0 : Int32)) hx hb dX1_countRuns_18 (by decide) ?_
        refine lv_istore (lv' := [(4, .int (0 : Int32)), (3, .int r4), (0, .ref a1), (1, .int x1), (2, .int x2)]) hx hb dX1_countRuns_19 hl (by decide) rfl (fun ls hl => ?_)
        have hb_21 : ∀ (n : Nat) (x1 : Int32) (x2 : Int32) (x3 : Int32) (x4 : Int32), bX1_countRuns_21 v1_count v1_threshold f1_values (fun z0 z1 => bX1_countRuns_4 v1_count v1_threshold f1_values n4 z0 z1) n x1 x2 x3 x4 = some r → ∀ (locs : List Loc) (ls : Array Slot), va_S (fun _ => False) s.heap s.heap locs → lv_has ls 5 [(0, .ref a1), (1, .int x1), (2, .int x2), (3, .int x3), (4, .int x4)] → W p l e (headSpec wsX1_countRuns ({ frames := 3, cells := 0, slots := 0, locals := 68 })).room s m ([.ref a1] : List Value).toArray below meth c s.heap locs 0 0 (MQ below (roQi r s.heap) ([.ref a1] : List Value).toArray s 0 0 (fun _ => False)) (F0 m 21 ls []) := by
          intro n
          induction n with
          | zero => intro x1 x2 x3 x4 hf; rw [bX1_countRuns_21] at hf; cases hf
          | succ n21 ih21 =>
            intro x1 x2 x3 x4 hf locs ls hS hl
            rw [bX1_countRuns_21] at hf
            refine lv_iload hx hb dX1_countRuns_21 (lv_at hl 4 rfl) ?_
            refine lv_bipush (v := (12 : Int32)) hx hb dX1_countRuns_23 (by decide) ?_
            refine lv_icmp_ge (tgt := 46) hx hb dX1_countRuns_25 (by decide) (fun hc => ?_) (fun hc => ?_)
            · have hf := it_p hc hf
              refine lv_iinc (v := x2 + (1 : Int32)) (lv' := [(2, .int (x2 + (1 : Int32))), (0, .ref a1), (1, .int x1), (3, .int x3), (4, .int x4)]) hx hb dX1_countRuns_46 hl (k := 2) rfl rfl (by decide) rfl (fun ls hl => ?_)
              refine lv_goto (tgt := 4) hx hb dX1_countRuns_49 (by decide) ?_
              exact ih4 x1 (x2 + (1 : Int32)) hf _ _ hS (lv_sub hl [1, 2, 0] rfl)
            · have hf := it_n hc hf
              refine lv_iload_n hx hb dX1_countRuns_28 rfl (lv_at hl 3 rfl) ?_
              refine lv_iload hx hb dX1_countRuns_29 (lv_at hl 4 rfl) ?_
              obtain ⟨r6, hr6, hf⟩ := cl1_sp hf
              refine ro_S (As := [.int x3, .int x4]) ⟨hx, hb, hml, hown, hts⟩ (kX1_startsRun l _ x3 x4 r6 hr6) (va_cwS 2 hts gX1_countRuns_X1_startsRun rfl rfl rfl (by decide +kernel) ⟨Nat.le_of_ble_eq_true rfl, Nat.le_of_ble_eq_true rfl⟩) hS rfl hl.1 rfl (Nat.le_of_ble_eq_true rfl) dX1_countRuns_31 (Nat.zero_le _) (Nat.zero_le _) (fun locs hS => ?_)
              refine lv_if_eq (tgt := 40) hx hb dX1_countRuns_34 (by decide) (fun hc => ?_) (fun hc => ?_)
              · have hf := it_p hc hf
                refine lv_iinc (v := x4 + (1 : Int32)) (lv' := [(4, .int (x4 + (1 : Int32))), (0, .ref a1), (1, .int x1), (2, .int x2), (3, .int x3)]) hx hb dX1_countRuns_40 hl (k := 4) rfl rfl (by decide) rfl (fun ls hl => ?_)
                refine lv_goto (tgt := 21) hx hb dX1_countRuns_43 (by decide) ?_
                exact ih21 x1 x2 x3 (x4 + (1 : Int32)) hf _ _ hS (lv_sub hl [1, 2, 3, 4, 0] rfl)
              · have hf := it_n hc hf
                refine lv_iinc (v := x1 + (1 : Int32)) (lv' := [(1, .int (x1 + (1 : Int32))), (0, .ref a1), (2, .int x2), (3, .int x3), (4, .int x4)]) hx hb dX1_countRuns_37 hl (k := 1) rfl rfl (by decide) rfl (fun ls hl => ?_)
                refine lv_iinc (v := x4 + (1 : Int32)) (lv' := [(4, .int (x4 + (1 : Int32))), (1, .int (x1 + (1 : Int32))), (0, .ref a1), (2, .int x2), (3, .int x3)]) hx hb dX1_countRuns_40 hl (k := 4) rfl rfl (by decide) rfl (fun ls hl => ?_)
                refine lv_goto (tgt := 21) hx hb dX1_countRuns_43 (by decide) ?_
                exact ih21 (x1 + (1 : Int32)) x2 x3 (x4 + (1 : Int32)) hf _ _ hS (lv_sub hl [2, 1, 3, 4, 0] rfl)
        exact hb_21 300 x1 x2 r4 (0 : Int32) hf _ _ hS (lv_sub hl [2, 3, 4, 1, 0] rfl)
  have hl := lv_entry ([.ref a1]) (n := 5) (Nat.le_of_ble_eq_true rfl)
  rw [lg_entry_eq]
  generalize (lg_sl ([.ref a1]) ++ List.replicate (5 - (lg_sl ([.ref a1])).length) Slot.unset).toArray = ls at hl ⊢
  have hl : lv_has ls 5 [(0, .ref a1)] := hl
  unfold fX1_countRuns at hf
  refine lv_iconst (v := (0 : Int32)) hx hb dX1_countRuns_0 (by decide) ?_
  refine lv_istore_n (lv' := [(1, .int (0 : Int32)), (0, .ref a1)]) hx hb dX1_countRuns_1 rfl hl (by decide) rfl (fun ls hl => ?_)
  refine lv_iconst (v := (0 : Int32)) hx hb dX1_countRuns_2 (by decide) ?_
  refine lv_istore_n (lv' := [(2, .int (0 : Int32)), (1, .int (0 : Int32)), (0, .ref a1)]) hx hb dX1_countRuns_3 rfl hl (by decide) rfl (fun ls hl => ?_)
  exact hb_4 300 (0 : Int32) (0 : Int32) hf _ _ hS (lv_sub hl [2, 1, 0] rfl)

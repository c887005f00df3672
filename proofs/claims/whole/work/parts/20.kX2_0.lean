set_option maxHeartbeats 4000000 in
set_option maxRecDepth 100000 in
theorem kX2_atMostTop (l : Launch) (H : Heap) (p1 : Int32) (r : Int32) (hf : fX2_atMostTop p1 = some r) : Met l yX2_atMostTop wsX2_atMostTop ({ frames := 1, cells := 0, slots := 0, locals := 13 }) (roP0 [.int p1] H) (roQi r H) 0 0 (fun _ => False) := by
  refine Met.ofW (cc := cX2_atMostTop) (maxL := 1) (ret := (some .int)) (by decide) rfl ?_
  intro p e s m args below meth c s₁ B hml hv
  obtain ⟨rfl, hH⟩ := hv
  have hx := B.exec
  have hb := B.bytes
  have hr := B.returns
  have hts := atoms_spec (ws := wsX2_atMostTop) B.pre
  have hown : s.vm.findClass RX2 = some m.cls := findClass_of_methodNamed B.named
  have hlocks := B.notSynchronized
  subst hH
  have hS : va_S (fun _ => False) s.heap s.heap [] := va_S.rf
  have hl := lv_entry ([.int p1]) (n := 1) (Nat.le_of_ble_eq_true rfl)
  rw [lg_entry_eq]
  generalize (lg_sl ([.int p1]) ++ List.replicate (1 - (lg_sl ([.int p1])).length) Slot.unset).toArray = ls at hl ⊢
  have hl : lv_has ls 1 [(0, .int p1)] := hl
  unfold fX2_atMostTop at hf
  refine lv_sipush (v := (255 : Int32)) hx hb dX2_atMostTop_0 (by decide) ?_
  refine lv_iload_n hx hb dX2_atMostTop_3 rfl (lv_at hl 0 rfl) ?_
  refine va_mmin hx hb (by rw [hml]; exact hl.1.symm) hown (hts (.methodLink RX2 9 Lib.Math.min.name) (List.mem_of_getElem? (i := 1) rfl)) (hts (.static Lib.Math.min.name) (List.mem_of_getElem? (i := 2) rfl)) (hts (.initialized "java/lang/Math") (List.mem_of_getElem? (i := 3) rfl)) (hts (.code Lib.Math.min.name Lib.Math.min.code 2 (some .int)) (List.mem_of_getElem? (i := 4) rfl)) (Nat.le_of_ble_eq_true rfl) (Nat.le_of_ble_eq_true rfl) (Nat.zero_le _) (Nat.zero_le _) dX2_atMostTop_4 ?_
  exact W.iret (v := (if p1 < (255 : Int32) then p1 else (255 : Int32))) hx hb hr (fun t ht hW => ⟨⟨_, (), rfl, Option.some.inj hf, ht⟩, hS.F ht⟩) hS.2.2 dX2_atMostTop_7
set_option maxHeartbeats 4000000 in
set_option maxRecDepth 100000 in
theorem kX2_rounded (l : Launch) (H : Heap) (p1 : Int32) (p2 : Int32) (r : Int32) (hf : fX2_rounded p1 p2 = some r) : Met l yX2_rounded wsX2_rounded ({ frames := 0, cells := 0, slots := 0, locals := 0 }) (roP0 [.int p1, .int p2] H) (roQi r H) 0 0 (fun _ => False) := by
  refine Met.ofW (cc := cX2_rounded) (maxL := 2) (ret := (some .int)) (by decide) rfl ?_
  intro p e s m args below meth c s₁ B hml hv
  obtain ⟨rfl, hH⟩ := hv
  have hx := B.exec
  have hb := B.bytes
  have hr := B.returns
  have hts := atoms_spec (ws := wsX2_rounded) B.pre
  have hown : s.vm.findClass RX2 = some m.cls := findClass_of_methodNamed B.named
  have hlocks := B.notSynchronized
  subst hH
  have hS : va_S (fun _ => False) s.heap s.heap [] := va_S.rf
  have hl := lv_entry ([.int p1, .int p2]) (n := 2) (Nat.le_of_ble_eq_true rfl)
  rw [lg_entry_eq]
  generalize (lg_sl ([.int p1, .int p2]) ++ List.replicate (2 - (lg_sl ([.int p1, .int p2])).length) Slot.unset).toArray = ls at hl ⊢
  have hl : lv_has ls 2 [(0, .int p1), (1, .int p2)] := hl
  unfold fX2_rounded at hf
  refine lv_iload_n hx hb dX2_rounded_0 rfl (lv_at hl 1 rfl) ?_
  refine lv_iconst (v := (1 : Int32)) hx hb dX2_rounded_1 (by decide) ?_
  refine lv_icmp_ge (tgt := 7) hx hb dX2_rounded_2 (by decide) (fun hc => ?_) (fun hc => ?_)
  · have hf := it_p hc hf
    refine lv_iconst (v := (2 : Int32)) hx hb dX2_rounded_7 (by decide) ?_
    refine lv_iload_n hx hb dX2_rounded_8 rfl (lv_at hl 0 rfl) ?_
    refine lv_imul hx hb dX2_rounded_9 ?_
    refine lv_iload_n hx hb dX2_rounded_10 rfl (lv_at hl 1 rfl) ?_
    refine lv_iadd hx hb dX2_rounded_11 ?_
    refine lv_iconst (v := (2 : Int32)) hx hb dX2_rounded_12 (by decide) ?_
    refine lv_iload_n hx hb dX2_rounded_13 rfl (lv_at hl 1 rfl) ?_
    refine lv_imul hx hb dX2_rounded_14 ?_
    obtain ⟨hz1, hf⟩ := ckZ_sp hf
    refine lv_idiv hx hb dX2_rounded_15 hz1 ?_
    exact W.iret (v := (((2 : Int32) * p1) + p2) / ((2 : Int32) * p2)) hx hb hr (fun t ht hW => ⟨⟨_, (), rfl, Option.some.inj hf, ht⟩, hS.F ht⟩) hS.2.2 dX2_rounded_16
  · have hf := it_n hc hf
    refine lv_iconst (v := (0 : Int32)) hx hb dX2_rounded_5 (by decide) ?_
    exact W.iret (v := (0 : Int32)) hx hb hr (fun t ht hW => ⟨⟨_, (), rfl, Option.some.inj hf, ht⟩, hS.F ht⟩) hS.2.2 dX2_rounded_6
set_option maxHeartbeats 4000000 in
set_option maxRecDepth 100000 in
theorem kX2_greatestDivisor (l : Launch) (H : Heap) (p1 : Int64) (p2 : Int64) (r : Int64) (hf : fX2_greatestDivisor p1 p2 = some r) : Met l yX2_greatestDivisor wsX2_greatestDivisor ({ frames := 1, cells := 0, slots := 0, locals := 13 }) (roP0 [.long p1, .long p2] H) (roQl r H) 0 0 (fun _ => False) := by
  refine Met.ofW (cc := cX2_greatestDivisor) (maxL := 11) (ret := (some .long)) (by decide) rfl ?_
  intro p e s m args below meth c s₁ B hml hv
  obtain ⟨rfl, hH⟩ := hv
  have hx := B.exec
  have hb := B.bytes
  have hr := B.returns
  have hts := atoms_spec (ws := wsX2_greatestDivisor) B.pre
  have hown : s.vm.findClass RX2 = some m.cls := findClass_of_methodNamed B.named
  have hlocks := B.notSynchronized
  subst hH
  have hS : va_S (fun _ => False) s.heap s.heap [] := va_S.rf
  have hb_15 : ∀ (n : Nat) (x4 : Int64) (x6 : Int64) (x8 : Int32), bX2_greatestDivisor_15 n x4 x6 x8 = some r → ∀ (locs : List Loc) (ls : Array Slot), va_S (fun _ => False) s.heap s.heap locs → lv_has ls 11 [(4, .long x4), (6, .long x6), (8, .int x8)] → W p l e (headSpec wsX2_greatestDivisor ({ frames := 1, cells := 0, slots := 0, locals := 13 })).room s m ([.long p1, .long p2] : List Value).toArray below meth c s.heap locs 0 0 (MQ below (roQl r s.heap) ([.long p1, .long p2] : List Value).toArray s 0 0 (fun _ => False)) (F0 m 15 ls []) := by
    intro n
    induction n with
    | zero => intro x4 x6 x8 hf; rw [bX2_greatestDivisor_15] at hf; cases hf
    | succ n15 ih15 =>
      intro x4 x6 x8 hf locs ls hS hl
      rw [bX2_greatestDivisor_15] at hf
      refine lv_iload hx hb dX2_greatestDivisor_15 (lv_at hl 2 rfl) ?_
      refine lv_sipush (v := (200 : Int32)) hx hb dX2_greatestDivisor_17 (by decide) ?_
      refine lv_icmp_ge (tgt := 51) hx hb dX2_greatestDivisor_20 (by decide) (fun hc => ?_) (fun hc => ?_)
      · have hf := it_p hc hf
        refine lv_lload hx hb dX2_greatestDivisor_51 (lv_at hl 0 rfl) ?_
        exact W.lret (v := x4) hx hb hr (fun t ht hW => ⟨⟨_, (), rfl, Option.some.inj hf, ht⟩, hS.F ht⟩) hS.2.2 dX2_greatestDivisor_53
      · have hf := it_n hc hf
        refine lv_lload hx hb dX2_greatestDivisor_23 (lv_at hl 1 rfl) ?_
        refine lv_lconst (v := (0 : Int64)) hx hb dX2_greatestDivisor_25 (by decide) ?_
        refine W.lcmp hx hb dX2_greatestDivisor_26 ?_
        refine lv_if_eq (tgt := 51) hx hb dX2_greatestDivisor_27 (by decide) (fun hc => ?_) (fun hc => ?_)
        · have hf := it_p hc hf
          refine lv_lload hx hb dX2_greatestDivisor_51 (lv_at hl 0 rfl) ?_
          exact W.lret (v := x4) hx hb hr (fun t ht hW => ⟨⟨_, (), rfl, Option.some.inj hf, ht⟩, hS.F ht⟩) hS.2.2 dX2_greatestDivisor_53
        · have hf := it_n hc hf
          refine lv_lload hx hb dX2_greatestDivisor_30 (lv_at hl 0 rfl) ?_
          refine lv_lload hx hb dX2_greatestDivisor_32 (lv_at hl 1 rfl) ?_
          obtain ⟨hz2, hf⟩ := ckL_sp hf
          refine lv_lrem hx hb dX2_greatestDivisor_34 hz2 ?_
          refine lv_lstore (lv' := [(9, .long (x4 - x4 / x6 * x6)), (4, .long x4), (6, .long x6), (8, .int x8)]) hx hb dX2_greatestDivisor_35 hl (by decide) rfl (fun ls hl => ?_)
          refine lv_lload hx hb dX2_greatestDivisor_37 (lv_at hl 2 rfl) ?_
          refine lv_lstore (lv' := [(4, .long x6), (9, .long (x4 - x4 / x6 * x6)), (6, .long x6), (8, .int x8)]) hx hb dX2_greatestDivisor_39 hl (by decide) rfl (fun ls hl => ?_)
          refine lv_lload hx hb dX2_greatestDivisor_41 (lv_at hl 1 rfl) ?_
          refine lv_lstore (lv' := [(6, .long (x4 - x4 / x6 * x6)), (4, .long x6), (9, .long (x4 - x4 / x6 * x6)), (8, .int x8)]) hx hb dX2_greatestDivisor_43 hl (by decide) rfl (fun ls hl => ?_)
          refine lv_iinc (v := x8 + (1 : Int32)) (lv' := [(8, .int (x8 + (1 : Int32))), (6, .long (x4 - x4 / x6 * x6)), (4, .long x6), (9, .long (x4 - x4 / x6 * x6))]) hx hb dX2_greatestDivisor_45 hl (k := 3) rfl rfl (by decide) rfl (fun ls hl => ?_)
          refine lv_goto (tgt := 15) hx hb dX2_greatestDivisor_48 (by decide) ?_
          exact ih15 x6 (x4 - x4 / x6 * x6) (x8 + (1 : Int32)) hf _ _ hS (lv_sub hl [2, 1, 0] rfl)
  have hl := lv_entry ([.long p1, .long p2]) (n := 11) (Nat.le_of_ble_eq_true rfl)
  rw [lg_entry_eq]
  generalize (lg_sl ([.long p1, .long p2]) ++ List.replicate (11 - (lg_sl ([.long p1, .long p2])).length) Slot.unset).toArray = ls at hl ⊢
  have hl : lv_has ls 11 [(0, .long p1), (2, .long p2)] := hl
  unfold fX2_greatestDivisor at hf
  refine lv_lload_n hx hb dX2_greatestDivisor_0 rfl (lv_at hl 0 rfl) ?_
  refine va_mabs_long hx hb (by rw [hml]; exact hl.1.symm) hown (hts (.methodLink RX2 15 Lib.MathLoose.abs_long.x) (List.mem_of_getElem? (i := 1) rfl)) (hts (.static Lib.MathLoose.abs_long.x) (List.mem_of_getElem? (i := 2) rfl)) (hts (.initialized "java/lang/Math") (List.mem_of_getElem? (i := 3) rfl)) (hts (.code Lib.MathLoose.abs_long.x Lib.MathLoose.abs_long.code 2 (some .long)) (List.mem_of_getElem? (i := 4) rfl)) (Nat.le_of_ble_eq_true rfl) (Nat.le_of_ble_eq_true rfl) (Nat.zero_le _) (Nat.zero_le _) dX2_greatestDivisor_1 ?_
  refine lv_lstore (lv' := [(4, .long (if 0 < p1 then p1 else -p1)), (0, .long p1), (2, .long p2)]) hx hb dX2_greatestDivisor_4 hl (by decide) rfl (fun ls hl => ?_)
  refine lv_lload_n hx hb dX2_greatestDivisor_6 rfl (lv_at hl 2 rfl) ?_
  refine va_mabs_long hx hb (by rw [hml]; exact hl.1.symm) hown (hts (.methodLink RX2 15 Lib.MathLoose.abs_long.x) (List.mem_of_getElem? (i := 1) rfl)) (hts (.static Lib.MathLoose.abs_long.x) (List.mem_of_getElem? (i := 2) rfl)) (hts (.initialized "java/lang/Math") (List.mem_of_getElem? (i := 3) rfl)) (hts (.code Lib.MathLoose.abs_long.x Lib.MathLoose.abs_long.code 2 (some .long)) (List.mem_of_getElem? (i := 4) rfl)) (Nat.le_of_ble_eq_true rfl) (Nat.le_of_ble_eq_true rfl) (Nat.zero_le _) (Nat.zero_le _) dX2_greatestDivisor_7 ?_
  refine lv_lstore (lv' := [(6, .long (if 0 < p2 then p2 else -p2)), (4, .long (if 0 < p1 then p1 else -p1)), (0, .long p1), (2, .long p2)]) hx hb dX2_greatestDivisor_10 hl (by decide) rfl (fun ls hl => ?_)
  refine lv_iconst (v := (0 : Int32)) hx hb dX2_greatestDivisor_12 (by decide) ?_
  refine lv_istore (lv' := [(8, .int (0 : Int32)), (6, .long (if 0 < p2 then p2 else -p2)), (4, .long (if 0 < p1 then p1 else -p1)), (0, .long p1), (2, .long p2)]) hx hb dX2_greatestDivisor_13 hl (by decide) rfl (fun ls hl => ?_)
  exact hb_15 300 (if 0 < p1 then p1 else -p1) (if 0 < p2 then p2 else -p2) (0 : Int32) hf _ _ hS (lv_sub hl [2, 1, 0] rfl)
set_option maxHeartbeats 4000000 in
set_option maxRecDepth 100000 in
theorem kX2_within (l : Launch) (H : Heap) (p1 : Int32) (p2 : Int32) (p3 : Int32) (r : Int32) (hf : fX2_within p1 p2 p3 = some r) : Met l yX2_within wsX2_within ({ frames := 0, cells := 0, slots := 0, locals := 0 }) (roP0 [.int p1, .int p2, .int p3] H) (roQi r H) 0 0 (fun _ => False) := by
  refine Met.ofW (cc := cX2_within) (maxL := 3) (ret := (some .boolean)) (by decide) rfl ?_
  intro p e s m args below meth c s₁ B hml hv
  obtain ⟨rfl, hH⟩ := hv
  have hx := B.exec
  have hb := B.bytes
  have hr := B.returns
  have hts := atoms_spec (ws := wsX2_within) B.pre
  have hown : s.vm.findClass RX2 = some m.cls := findClass_of_methodNamed B.named
  have hlocks := B.notSynchronized
  subst hH
  have hS : va_S (fun _ => False) s.heap s.heap [] := va_S.rf
  have hl := lv_entry ([.int p1, .int p2, .int p3]) (n := 3) (Nat.le_of_ble_eq_true rfl)
  rw [lg_entry_eq]
  generalize (lg_sl ([.int p1, .int p2, .int p3]) ++ List.replicate (3 - (lg_sl ([.int p1, .int p2, .int p3])).length) Slot.unset).toArray = ls at hl ⊢
  have hl : lv_has ls 3 [(0, .int p1), (1, .int p2), (2, .int p3)] := hl
  unfold fX2_within at hf
  refine lv_iload_n hx hb dX2_within_0 rfl (lv_at hl 0 rfl) ?_
  refine lv_iload_n hx hb dX2_within_1 rfl (lv_at hl 1 rfl) ?_
  refine lv_icmp_lt (tgt := 14) hx hb dX2_within_2 (by decide) (fun hc => ?_) (fun hc => ?_)
  · have hf := it_p hc hf
    refine lv_iconst (v := (0 : Int32)) hx hb dX2_within_14 (by decide) ?_
    exact W.zret (v := (0 : Int32)) hx hb hr rfl (fun t ht hW => ⟨⟨_, (), rfl, Option.some.inj hf, ht⟩, hS.F ht⟩) hS.2.2 dX2_within_15
  · have hf := it_n hc hf
    refine lv_iload_n hx hb dX2_within_5 rfl (lv_at hl 0 rfl) ?_
    refine lv_iload_n hx hb dX2_within_6 rfl (lv_at hl 2 rfl) ?_
    refine lv_icmp_gt (tgt := 14) hx hb dX2_within_7 (by decide) (fun hc => ?_) (fun hc => ?_)
    · have hf := it_p hc hf
      refine lv_iconst (v := (0 : Int32)) hx hb dX2_within_14 (by decide) ?_
      exact W.zret (v := (0 : Int32)) hx hb hr rfl (fun t ht hW => ⟨⟨_, (), rfl, Option.some.inj hf, ht⟩, hS.F ht⟩) hS.2.2 dX2_within_15
    · have hf := it_n hc hf
      refine lv_iconst (v := (1 : Int32)) hx hb dX2_within_10 (by decide) ?_
      refine lv_goto (tgt := 15) hx hb dX2_within_11 (by decide) ?_
      exact W.zret (v := (1 : Int32)) hx hb hr rfl (fun t ht hW => ⟨⟨_, (), rfl, Option.some.inj hf, ht⟩, hS.F ht⟩) hS.2.2 dX2_within_15

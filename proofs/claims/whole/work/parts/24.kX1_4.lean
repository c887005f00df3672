set_option maxHeartbeats 4000000 in
set_option maxRecDepth 100000 in
theorem kX1_skewPart (l : Launch) (dC : Nat → ClassId) (dI : Nat → Nat → Nat) (cy : ClassId) (H : Heap) (a1 a1_values : Nat) (v1_count : Int32) (v1_threshold : Int32) (f1_values : Nat → Int32) (p1 : Int32) (r : Int64) (hf : fX1_skewPart v1_count v1_threshold f1_values p1 = some r) : Met l yX1_skewPart wsX1_skewPart ({ frames := 4, cells := 0, slots := 0, locals := 89 }) (roP [.ref a1, .int p1] (dC, dI) vwCl (WX1 cy a1 a1_values v1_count v1_threshold f1_values) [(cy, .int)] H) (roQl r H) 0 0 (fun _ => False) := by
  refine Met.ofW (cc := cX1_skewPart) (maxL := 18) (ret := (some .long)) (by decide) rfl ?_
  intro p e s m args below meth c s₁ B hml hv
  obtain ⟨rfl, hH, hP, hK⟩ := hv
  have hx := B.exec
  have hb := B.bytes
  have hr := B.returns
  have hts := atoms_spec (ws := wsX1_skewPart) B.pre
  have hown : s.vm.findClass RX1 = some m.cls := findClass_of_methodNamed B.named
  have hlocks := B.notSynchronized
  have hiX1 : ∀ w ∈ u_ws RX1 TX1 3, w ∈ wsX1_skewPart := fun _ h => List.mem_cons_of_mem _ ((List.mem_append_right _ h))
  subst hH
  have hS : va_S (fun _ => False) s.heap s.heap [] := va_S.rf
  have hb_94 : ∀  (x1 : Int32) (x2 : Int64) (x4 : Int64) (x6 : Int64) (x8 : Int64) (x10 : Int64), bX1_skewPart_94 x1 x2 x4 x6 x8 x10 = some r → ∀ (locs : List Loc) (ls : Array Slot), va_S (fun _ => False) s.heap s.heap locs → lv_has ls 18 [(1, .int x1), (2, .long x2), (4, .long x4), (6, .long x6), (8, .long x8), (10, .long x10)] → W p l e (headSpec wsX1_skewPart ({ frames := 4, cells := 0, slots := 0, locals := 89 })).room s m ([.ref a1, .int p1] : List Value).toArray below meth c s.heap locs 0 0 (MQ below (roQl r s.heap) ([.ref a1, .int p1] : List Value).toArray s 0 0 (fun _ => False)) (F0 m 94 ls []) := by
    intro x1 x2 x4 x6 x8 x10 hf locs ls hS hl
    unfold bX1_skewPart_94 at hf
    refine lv_lload_n hx hb dX1_skewPart_94 rfl (lv_at hl 1 rfl) ?_
    refine lv_ldc2 hx hb hown (hts (.constantLong RX1 48 (2)) (List.mem_of_getElem? (i := 2) rfl)) dX1_skewPart_95 ?_
    refine W.lcmp hx hb dX1_skewPart_98 ?_
    refine lv_if_ge (tgt := 106) hx hb dX1_skewPart_99 (by decide) (fun hc => ?_) (fun hc => ?_)
    · have hf := it_p hc hf
      refine lv_lload_n hx hb dX1_skewPart_106 rfl (lv_at hl 1 rfl) ?_
      refine lv_lload hx hb dX1_skewPart_107 (lv_at hl 4 rfl) ?_
      refine lv_lmul hx hb dX1_skewPart_109 ?_
      refine lv_lload hx hb dX1_skewPart_110 (lv_at hl 2 rfl) ?_
      refine lv_lload hx hb dX1_skewPart_112 (lv_at hl 3 rfl) ?_
      refine lv_lmul hx hb dX1_skewPart_114 ?_
      refine lv_lsub hx hb dX1_skewPart_115 ?_
      refine lv_lstore (lv' := [(12, .long ((x2 * x8) - (x4 * x6))), (1, .int x1), (2, .long x2), (4, .long x4), (6, .long x6), (8, .long x8), (10, .long x10)]) hx hb dX1_skewPart_116 hl (by decide) rfl (fun ls hl => ?_)
      refine lv_lload_n hx hb dX1_skewPart_118 rfl (lv_at hl 2 rfl) ?_
      refine lv_lload hx hb dX1_skewPart_119 (lv_at hl 6 rfl) ?_
      refine lv_lmul hx hb dX1_skewPart_121 ?_
      refine lv_lload hx hb dX1_skewPart_122 (lv_at hl 3 rfl) ?_
      refine lv_lload hx hb dX1_skewPart_124 (lv_at hl 3 rfl) ?_
      refine lv_lmul hx hb dX1_skewPart_126 ?_
      refine lv_lsub hx hb dX1_skewPart_127 ?_
      refine lv_lstore (lv' := [(14, .long ((x2 * x10) - (x4 * x4))), (12, .long ((x2 * x8) - (x4 * x6))), (1, .int x1), (2, .long x2), (4, .long x4), (6, .long x6), (8, .long x8), (10, .long x10)]) hx hb dX1_skewPart_128 hl (by decide) rfl (fun ls hl => ?_)
      refine lv_lload hx hb dX1_skewPart_130 (lv_at hl 1 rfl) ?_
      refine lv_lload hx hb dX1_skewPart_132 (lv_at hl 0 rfl) ?_
      obtain ⟨r4, hr4, hf⟩ := cl1_sp hf
      refine ro_Sl (As := [.long ((x2 * x8) - (x4 * x6)), .long ((x2 * x10) - (x4 * x4))]) ⟨hx, hb, hml, hown, hts⟩ (kX2_greatestDivisor l _ ((x2 * x8) - (x4 * x6)) ((x2 * x10) - (x4 * x4)) r4 hr4) (va_cwS 2 hts gX1_skewPart_X2_greatestDivisor rfl rfl rfl (by decide +kernel) ⟨Nat.le_of_ble_eq_true rfl, Nat.le_of_ble_eq_true rfl⟩) hS rfl hl.1 rfl (Nat.le_of_ble_eq_true rfl) dX1_skewPart_134 (Nat.zero_le _) (Nat.zero_le _) (fun locs hS => ?_)
      refine lv_lstore (lv' := [(16, .long r4), (14, .long ((x2 * x10) - (x4 * x4))), (12, .long ((x2 * x8) - (x4 * x6))), (1, .int x1), (2, .long x2), (4, .long x4), (6, .long x6), (8, .long x8), (10, .long x10)]) hx hb dX1_skewPart_137 hl (by decide) rfl (fun ls hl => ?_)
      refine lv_lload hx hb dX1_skewPart_139 (lv_at hl 0 rfl) ?_
      refine lv_lconst (v := (1 : Int64)) hx hb dX1_skewPart_141 (by decide) ?_
      refine W.lcmp hx hb dX1_skewPart_142 ?_
      refine lv_if_ge (tgt := 150) hx hb dX1_skewPart_143 (by decide) (fun hc => ?_) (fun hc => ?_)
      · have hf := it_p hc hf
        refine lv_iload_n hx hb dX1_skewPart_150 rfl (lv_at hl 3 rfl) ?_
        refine lv_if_eq (tgt := 162) hx hb dX1_skewPart_151 (by decide) (fun hc => ?_) (fun hc => ?_)
        · have hf := it_p hc hf
          refine lv_lload hx hb dX1_skewPart_162 (lv_at hl 2 rfl) ?_
          refine lv_lload hx hb dX1_skewPart_164 (lv_at hl 0 rfl) ?_
          obtain ⟨hz5, hf⟩ := ckL_sp hf
          refine lv_ldiv hx hb dX1_skewPart_166 hz5 ?_
          exact W.lret (v := ((x2 * x8) - (x4 * x6)) / r4) hx hb hr (fun t ht hW => ⟨⟨_, (), rfl, Option.some.inj hf, ht⟩, hS.F ht⟩) hS.2.2 dX1_skewPart_167
        · have hf := it_n hc hf
          refine lv_lload hx hb dX1_skewPart_154 (lv_at hl 1 rfl) ?_
          refine lv_lload hx hb dX1_skewPart_156 (lv_at hl 0 rfl) ?_
          obtain ⟨hz6, hf⟩ := ckL_sp hf
          refine lv_ldiv hx hb dX1_skewPart_158 hz6 ?_
          refine lv_goto (tgt := 167) hx hb dX1_skewPart_159 (by decide) ?_
          exact W.lret (v := ((x2 * x10) - (x4 * x4)) / r4) hx hb hr (fun t ht hW => ⟨⟨_, (), rfl, Option.some.inj hf, ht⟩, hS.F ht⟩) hS.2.2 dX1_skewPart_167
      · have hf := it_n hc hf
        refine lv_ldc2 hx hb hown (hts (.constantLong RX1 50 (-9223372036854775808)) (List.mem_of_getElem? (i := 3) rfl)) dX1_skewPart_146 ?_
        exact W.lret (v := (-9223372036854775808 : Int64)) hx hb hr (fun t ht hW => ⟨⟨_, (), rfl, Option.some.inj hf, ht⟩, hS.F ht⟩) hS.2.2 dX1_skewPart_149
    · have hf := it_n hc hf
      refine lv_ldc2 hx hb hown (hts (.constantLong RX1 50 (-9223372036854775808)) (List.mem_of_getElem? (i := 3) rfl)) dX1_skewPart_102 ?_
      exact W.lret (v := (-9223372036854775808 : Int64)) hx hb hr (fun t ht hW => ⟨⟨_, (), rfl, Option.some.inj hf, ht⟩, hS.F ht⟩) hS.2.2 dX1_skewPart_105
  have hb_17 : ∀ (n : Nat) (x1 : Int32) (x2 : Int64) (x4 : Int64) (x6 : Int64) (x8 : Int64) (x10 : Int64) (x12 : Int32), bX1_skewPart_17 v1_count v1_threshold f1_values n x1 x2 x4 x6 x8 x10 x12 = some r → ∀ (locs : List Loc) (ls : Array Slot), va_S (fun _ => False) s.heap s.heap locs → lv_has ls 18 [(0, .ref a1), (1, .int x1), (2, .long x2), (4, .long x4), (6, .long x6), (8, .long x8), (10, .long x10), (12, .int x12)] → W p l e (headSpec wsX1_skewPart ({ frames := 4, cells := 0, slots := 0, locals := 89 })).room s m ([.ref a1, .int p1] : List Value).toArray below meth c s.heap locs 0 0 (MQ below (roQl r s.heap) ([.ref a1, .int p1] : List Value).toArray s 0 0 (fun _ => False)) (F0 m 17 ls []) := by
    intro n
    induction n with
    | zero => intro x1 x2 x4 x6 x8 x10 x12 hf; rw [bX1_skewPart_17] at hf; cases hf
    | succ n17 ih17 =>
      intro x1 x2 x4 x6 x8 x10 x12 hf locs ls hS hl
      rw [bX1_skewPart_17] at hf
      refine lv_iload hx hb dX1_skewPart_17 (lv_at hl 7 rfl) ?_
      refine lv_aload_n hx hb dX1_skewPart_19 rfl (lv_at hl 0 rfl) ?_
      refine va_get (D := (dC, dI)) (ci := 1) (v := .int v1_count) (C := RX1) (T := TX1) (N := 3) hx hb hts hiX1 hown hK hP 0 rfl rfl 0 (by decide) (hts (.fieldLink RX1 19 "PageLines$Lines" "count" "I") (List.mem_of_getElem? (i := 1) rfl)) (fun _ h9 => h9) rfl dX1_skewPart_20 ?_
      refine lv_icmp_ge (tgt := 94) hx hb dX1_skewPart_23 (by decide) (fun hc => ?_) (fun hc => ?_)
      · have hf := it_p hc hf
        exact hb_94 x1 x2 x4 x6 x8 x10 hf _ _ hS (lv_sub hl [1, 2, 3, 4, 5, 6] rfl)
      · have hf := it_n hc hf
        refine lv_aload_n hx hb dX1_skewPart_26 rfl (lv_at hl 0 rfl) ?_
        refine lv_iload hx hb dX1_skewPart_27 (lv_at hl 7 rfl) ?_
        obtain ⟨r8, hr8, hf⟩ := cl1_sp hf
        refine ro_V (As := [.int x12]) ⟨hx, hb, hml, hown, hts⟩ (kX1_edgeOf l dC dI cy _ a1 a1_values v1_count v1_threshold f1_values x12 r8 hr8) (cwV 1 hts gX1_skewPart_X1_edgeOf rfl rfl rfl (by decide +kernel) ⟨Nat.le_of_ble_eq_true rfl, Nat.le_of_ble_eq_true rfl⟩) (va_recv hK hP (ci := 1) (q0 := 0) rfl rfl) (hP.sub [0, 1] rfl) hK hS rfl hl.1 rfl (Nat.le_of_ble_eq_true rfl) dX1_skewPart_29 (Nat.zero_le _) (Nat.zero_le _) (fun locs hS => ?_)
        refine lv_istore (lv' := [(13, .int r8), (0, .ref a1), (1, .int x1), (2, .long x2), (4, .long x4), (6, .long x6), (8, .long x8), (10, .long x10), (12, .int x12)]) hx hb dX1_skewPart_32 hl (by decide) rfl (fun ls hl => ?_)
        refine lv_iload hx hb dX1_skewPart_34 (lv_at hl 0 rfl) ?_
        refine lv_bipush (v := (-9 : Int32)) hx hb dX1_skewPart_36 (by decide) ?_
        refine lv_icmp_ne (tgt := 44) hx hb dX1_skewPart_38 (by decide) (fun hc => ?_) (fun hc => ?_)
        · have hf := it_n hc hf
          refine lv_lload_n hx hb dX1_skewPart_44 rfl (lv_at hl 3 rfl) ?_
          refine lv_lconst (v := (1 : Int64)) hx hb dX1_skewPart_45 (by decide) ?_
          refine lv_ladd hx hb dX1_skewPart_46 ?_
          refine lv_lstore_n (lv' := [(2, .long (x2 + (1 : Int64))), (13, .int r8), (0, .ref a1), (1, .int x1), (4, .long x4), (6, .long x6), (8, .long x8), (10, .long x10), (12, .int x12)]) hx hb dX1_skewPart_47 rfl hl (by decide) rfl (fun ls hl => ?_)
          refine lv_lload hx hb dX1_skewPart_48 (lv_at hl 4 rfl) ?_
          refine lv_iload hx hb dX1_skewPart_50 (lv_at hl 8 rfl) ?_
          refine lv_i2l hx hb dX1_skewPart_52 rfl ?_
          refine lv_ladd hx hb dX1_skewPart_53 ?_
          refine lv_lstore (lv' := [(4, .long (x4 + (x12.toInt64))), (2, .long (x2 + (1 : Int64))), (13, .int r8), (0, .ref a1), (1, .int x1), (6, .long x6), (8, .long x8), (10, .long x10), (12, .int x12)]) hx hb dX1_skewPart_54 hl (by decide) rfl (fun ls hl => ?_)
          refine lv_lload hx hb dX1_skewPart_56 (lv_at hl 5 rfl) ?_
          refine lv_iload hx hb dX1_skewPart_58 (lv_at hl 2 rfl) ?_
          refine lv_i2l hx hb dX1_skewPart_60 rfl ?_
          refine lv_ladd hx hb dX1_skewPart_61 ?_
          refine lv_lstore (lv' := [(6, .long (x6 + (r8.toInt64))), (4, .long (x4 + (x12.toInt64))), (2, .long (x2 + (1 : Int64))), (13, .int r8), (0, .ref a1), (1, .int x1), (8, .long x8), (10, .long x10), (12, .int x12)]) hx hb dX1_skewPart_62 hl (by decide) rfl (fun ls hl => ?_)
          refine lv_lload hx hb dX1_skewPart_64 (lv_at hl 6 rfl) ?_
          refine lv_iload hx hb dX1_skewPart_66 (lv_at hl 8 rfl) ?_
          refine lv_i2l hx hb dX1_skewPart_68 rfl ?_
          refine lv_iload hx hb dX1_skewPart_69 (lv_at hl 3 rfl) ?_
          refine lv_i2l hx hb dX1_skewPart_71 rfl ?_
          refine lv_lmul hx hb dX1_skewPart_72 ?_
          refine lv_ladd hx hb dX1_skewPart_73 ?_
          refine lv_lstore (lv' := [(8, .long (x8 + ((x12.toInt64) * (r8.toInt64)))), (6, .long (x6 + (r8.toInt64))), (4, .long (x4 + (x12.toInt64))), (2, .long (x2 + (1 : Int64))), (13, .int r8), (0, .ref a1), (1, .int x1), (10, .long x10), (12, .int x12)]) hx hb dX1_skewPart_74 hl (by decide) rfl (fun ls hl => ?_)
          refine lv_lload hx hb dX1_skewPart_76 (lv_at hl 7 rfl) ?_
          refine lv_iload hx hb dX1_skewPart_78 (lv_at hl 8 rfl) ?_
          refine lv_i2l hx hb dX1_skewPart_80 rfl ?_
          refine lv_iload hx hb dX1_skewPart_81 (lv_at hl 8 rfl) ?_
          refine lv_i2l hx hb dX1_skewPart_83 rfl ?_
          refine lv_lmul hx hb dX1_skewPart_84 ?_
          refine lv_ladd hx hb dX1_skewPart_85 ?_
          refine lv_lstore (lv' := [(10, .long (x10 + ((x12.toInt64) * (x12.toInt64)))), (8, .long (x8 + ((x12.toInt64) * (r8.toInt64)))), (6, .long (x6 + (r8.toInt64))), (4, .long (x4 + (x12.toInt64))), (2, .long (x2 + (1 : Int64))), (13, .int r8), (0, .ref a1), (1, .int x1), (12, .int x12)]) hx hb dX1_skewPart_86 hl (by decide) rfl (fun ls hl => ?_)
          refine lv_iinc (v := x12 + (1 : Int32)) (lv' := [(12, .int (x12 + (1 : Int32))), (10, .long (x10 + ((x12.toInt64) * (x12.toInt64)))), (8, .long (x8 + ((x12.toInt64) * (r8.toInt64)))), (6, .long (x6 + (r8.toInt64))), (4, .long (x4 + (x12.toInt64))), (2, .long (x2 + (1 : Int64))), (13, .int r8), (0, .ref a1), (1, .int x1)]) hx hb dX1_skewPart_88 hl (k := 8) rfl rfl (by decide) rfl (fun ls hl => ?_)
          refine lv_goto (tgt := 17) hx hb dX1_skewPart_91 (by decide) ?_
          exact ih17 x1 (x2 + (1 : Int64)) (x4 + (x12.toInt64)) (x6 + (r8.toInt64)) (x8 + ((x12.toInt64) * (r8.toInt64))) (x10 + ((x12.toInt64) * (x12.toInt64))) (x12 + (1 : Int32)) hf _ _ hS (lv_sub hl [7, 8, 5, 4, 3, 2, 1, 0] rfl)
        · have hf := it_p hc hf
          refine lv_goto (tgt := 88) hx hb dX1_skewPart_41 (by decide) ?_
          refine lv_iinc (v := x12 + (1 : Int32)) (lv' := [(12, .int (x12 + (1 : Int32))), (13, .int r8), (0, .ref a1), (1, .int x1), (2, .long x2), (4, .long x4), (6, .long x6), (8, .long x8), (10, .long x10)]) hx hb dX1_skewPart_88 hl (k := 8) rfl rfl (by decide) rfl (fun ls hl => ?_)
          refine lv_goto (tgt := 17) hx hb dX1_skewPart_91 (by decide) ?_
          exact ih17 x1 x2 x4 x6 x8 x10 (x12 + (1 : Int32)) hf _ _ hS (lv_sub hl [2, 3, 4, 5, 6, 7, 8, 0] rfl)
  have hl := lv_entry ([.ref a1, .int p1]) (n := 18) (Nat.le_of_ble_eq_true rfl)
  rw [lg_entry_eq]
  generalize (lg_sl ([.ref a1, .int p1]) ++ List.replicate (18 - (lg_sl ([.ref a1, .int p1])).length) Slot.unset).toArray = ls at hl ⊢
  have hl : lv_has ls 18 [(0, .ref a1), (1, .int p1)] := hl
  unfold fX1_skewPart at hf
  refine lv_lconst (v := (0 : Int64)) hx hb dX1_skewPart_0 (by decide) ?_
  refine lv_lstore_n (lv' := [(2, .long (0 : Int64)), (0, .ref a1), (1, .int p1)]) hx hb dX1_skewPart_1 rfl hl (by decide) rfl (fun ls hl => ?_)
  refine lv_lconst (v := (0 : Int64)) hx hb dX1_skewPart_2 (by decide) ?_
  refine lv_lstore (lv' := [(4, .long (0 : Int64)), (2, .long (0 : Int64)), (0, .ref a1), (1, .int p1)]) hx hb dX1_skewPart_3 hl (by decide) rfl (fun ls hl => ?_)
  refine lv_lconst (v := (0 : Int64)) hx hb dX1_skewPart_5 (by decide) ?_
  refine lv_lstore (lv' := [(6, .long (0 : Int64)), (4, .long (0 : Int64)), (2, .long (0 : Int64)), (0, .ref a1), (1, .int p1)]) hx hb dX1_skewPart_6 hl (by decide) rfl (fun ls hl => ?_)
  refine lv_lconst (v := (0 : Int64)) hx hb dX1_skewPart_8 (by decide) ?_
  refine lv_lstore (lv' := [(8, .long (0 : Int64)), (6, .long (0 : Int64)), (4, .long (0 : Int64)), (2, .long (0 : Int64)), (0, .ref a1), (1, .int p1)]) hx hb dX1_skewPart_9 hl (by decide) rfl (fun ls hl => ?_)
  refine lv_lconst (v := (0 : Int64)) hx hb dX1_skewPart_11 (by decide) ?_
  refine lv_lstore (lv' := [(10, .long (0 : Int64)), (8, .long (0 : Int64)), (6, .long (0 : Int64)), (4, .long (0 : Int64)), (2, .long (0 : Int64)), (0, .ref a1), (1, .int p1)]) hx hb dX1_skewPart_12 hl (by decide) rfl (fun ls hl => ?_)
  refine lv_iconst (v := (0 : Int32)) hx hb dX1_skewPart_14 (by decide) ?_
  refine lv_istore (lv' := [(12, .int (0 : Int32)), (10, .long (0 : Int64)), (8, .long (0 : Int64)), (6, .long (0 : Int64)), (4, .long (0 : Int64)), (2, .long (0 : Int64)), (0, .ref a1), (1, .int p1)]) hx hb dX1_skewPart_15 hl (by decide) rfl (fun ls hl => ?_)
  exact hb_17 300 p1 (0 : Int64) (0 : Int64) (0 : Int64) (0 : Int64) (0 : Int64) (0 : Int32) hf _ _ hS (lv_sub hl [6, 7, 5, 4, 3, 2, 1, 0] rfl)
set_option maxHeartbeats 4000000 in
set_option maxRecDepth 100000 in
theorem kX1_wayOut (l : Launch) (dC : Nat → ClassId) (dI : Nat → Nat → Nat) (cy : ClassId) (H : Heap) (a1 a1_values : Nat) (v1_count : Int32) (v1_threshold : Int32) (f1_values : Nat → Int32) (p1 : Int32) (p2 : Int32) (r : Int32) (hf : fX1_wayOut f1_values p1 p2 = some r) : Met l yX1_wayOut wsX1_wayOut ({ frames := 2, cells := 0, slots := 0, locals := 45 }) (roP [.ref a1, .int p1, .int p2] (dC, dI) vwCl (WX1 cy a1 a1_values v1_count v1_threshold f1_values) [(cy, .int)] H) (roQi r H) 0 0 (fun _ => False) := by
  refine Met.ofW (cc := cX1_wayOut) (maxL := 6) (ret := (some .int)) (by decide) rfl ?_
  intro p e s m args below meth c s₁ B hml hv
  obtain ⟨rfl, hH, hP, hK⟩ := hv
  have hx := B.exec
  have hb := B.bytes
  have hr := B.returns
  have hts := atoms_spec (ws := wsX1_wayOut) B.pre
  have hown : s.vm.findClass RX1 = some m.cls := findClass_of_methodNamed B.named
  have hlocks := B.notSynchronized
  have hiX1 : ∀ w ∈ u_ws RX1 TX1 3, w ∈ wsX1_wayOut := fun _ h => List.mem_cons_of_mem _ ((List.mem_append_right _ h))
  subst hH
  have hS : va_S (fun _ => False) s.heap s.heap [] := va_S.rf
  have hl := lv_entry ([.ref a1, .int p1, .int p2]) (n := 6) (Nat.le_of_ble_eq_true rfl)
  rw [lg_entry_eq]
  generalize (lg_sl ([.ref a1, .int p1, .int p2]) ++ List.replicate (6 - (lg_sl ([.ref a1, .int p1, .int p2])).length) Slot.unset).toArray = ls at hl ⊢
  have hl : lv_has ls 6 [(0, .ref a1), (1, .int p1), (2, .int p2)] := hl
  unfold fX1_wayOut at hf
  refine lv_iload_n hx hb dX1_wayOut_0 rfl (lv_at hl 2 rfl) ?_
  refine lv_iconst (v := (1 : Int32)) hx hb dX1_wayOut_1 (by decide) ?_
  refine lv_icmp_lt (tgt := 11) hx hb dX1_wayOut_2 (by decide) (fun hc => ?_) (fun hc => ?_)
  · have hf := it_p hc hf
    refine lv_iconst (v := (0 : Int32)) hx hb dX1_wayOut_11 (by decide) ?_
    exact W.iret (v := (0 : Int32)) hx hb hr (fun t ht hW => ⟨⟨_, (), rfl, Option.some.inj hf, ht⟩, hS.F ht⟩) hS.2.2 dX1_wayOut_12
  · have hf := it_n hc hf
    refine lv_iload_n hx hb dX1_wayOut_5 rfl (lv_at hl 2 rfl) ?_
    refine lv_bipush (v := (10 : Int32)) hx hb dX1_wayOut_6 (by decide) ?_
    refine lv_icmp_le (tgt := 13) hx hb dX1_wayOut_8 (by decide) (fun hc => ?_) (fun hc => ?_)
    · have hf := it_p hc hf
      refine lv_aload_n hx hb dX1_wayOut_13 rfl (lv_at hl 0 rfl) ?_
      refine lv_iload_n hx hb dX1_wayOut_14 rfl (lv_at hl 1 rfl) ?_
      refine lv_iload_n hx hb dX1_wayOut_15 rfl (lv_at hl 2 rfl) ?_
      refine lv_iconst (v := (1 : Int32)) hx hb dX1_wayOut_16 (by decide) ?_
      refine lv_isub hx hb dX1_wayOut_17 ?_
      obtain ⟨r1, hr1, hf⟩ := cl1_sp hf
      refine ro_V (As := [.int p1, .int (p2 - (1 : Int32))]) ⟨hx, hb, hml, hown, hts⟩ (kX1_greyOf l dC dI cy _ a1 a1_values v1_count v1_threshold f1_values p1 (p2 - (1 : Int32)) r1 hr1) (cwV 2 hts gX1_wayOut_X1_greyOf rfl rfl rfl (by decide +kernel) ⟨Nat.le_of_ble_eq_true rfl, Nat.le_of_ble_eq_true rfl⟩) (va_recv hK hP (ci := 1) (q0 := 0) rfl rfl) (hP.sub [0, 1] rfl) hK hS rfl hl.1 rfl (Nat.le_of_ble_eq_true rfl) dX1_wayOut_18 (Nat.zero_le _) (Nat.zero_le _) (fun locs hS => ?_)
      refine lv_istore_n (lv' := [(3, .int r1), (0, .ref a1), (1, .int p1), (2, .int p2)]) hx hb dX1_wayOut_21 rfl hl (by decide) rfl (fun ls hl => ?_)
      refine lv_aload_n hx hb dX1_wayOut_22 rfl (lv_at hl 1 rfl) ?_
      refine lv_iload_n hx hb dX1_wayOut_23 rfl (lv_at hl 2 rfl) ?_
      refine lv_iload_n hx hb dX1_wayOut_24 rfl (lv_at hl 3 rfl) ?_
      obtain ⟨r2, hr2, hf⟩ := cl1_sp hf
      refine ro_V (As := [.int p1, .int p2]) ⟨hx, hb, hml, hown, hts⟩ (kX1_greyOf l dC dI cy _ a1 a1_values v1_count v1_threshold f1_values p1 p2 r2 hr2) (cwV 2 hts gX1_wayOut_X1_greyOf rfl rfl rfl (by decide +kernel) ⟨Nat.le_of_ble_eq_true rfl, Nat.le_of_ble_eq_true rfl⟩) (va_recv hK hP (ci := 1) (q0 := 0) rfl rfl) (hP.sub [0, 1] rfl) hK hS rfl hl.1 rfl (Nat.le_of_ble_eq_true rfl) dX1_wayOut_25 (Nat.zero_le _) (Nat.zero_le _) (fun locs hS => ?_)
      refine lv_istore (lv' := [(4, .int r2), (3, .int r1), (0, .ref a1), (1, .int p1), (2, .int p2)]) hx hb dX1_wayOut_28 hl (by decide) rfl (fun ls hl => ?_)
      refine lv_aload_n hx hb dX1_wayOut_30 rfl (lv_at hl 2 rfl) ?_
      refine lv_iload_n hx hb dX1_wayOut_31 rfl (lv_at hl 3 rfl) ?_
      refine lv_iload_n hx hb dX1_wayOut_32 rfl (lv_at hl 4 rfl) ?_
      refine lv_iconst (v := (1 : Int32)) hx hb dX1_wayOut_33 (by decide) ?_
      refine lv_iadd hx hb dX1_wayOut_34 ?_
      obtain ⟨r3, hr3, hf⟩ := cl1_sp hf
      refine ro_V (As := [.int p1, .int (p2 + (1 : Int32))]) ⟨hx, hb, hml, hown, hts⟩ (kX1_greyOf l dC dI cy _ a1 a1_values v1_count v1_threshold f1_values p1 (p2 + (1 : Int32)) r3 hr3) (cwV 2 hts gX1_wayOut_X1_greyOf rfl rfl rfl (by decide +kernel) ⟨Nat.le_of_ble_eq_true rfl, Nat.le_of_ble_eq_true rfl⟩) (va_recv hK hP (ci := 1) (q0 := 0) rfl rfl) (hP.sub [0, 1] rfl) hK hS rfl hl.1 rfl (Nat.le_of_ble_eq_true rfl) dX1_wayOut_35 (Nat.zero_le _) (Nat.zero_le _) (fun locs hS => ?_)
      refine lv_istore (lv' := [(5, .int r3), (4, .int r2), (3, .int r1), (0, .ref a1), (1, .int p1), (2, .int p2)]) hx hb dX1_wayOut_38 hl (by decide) rfl (fun ls hl => ?_)
      refine lv_iload hx hb dX1_wayOut_40 (lv_at hl 1 rfl) ?_
      refine lv_iload_n hx hb dX1_wayOut_42 rfl (lv_at hl 2 rfl) ?_
      refine lv_isub hx hb dX1_wayOut_43 ?_
      refine lv_bipush (v := (24 : Int32)) hx hb dX1_wayOut_44 (by decide) ?_
      refine lv_icmp_lt (tgt := 61) hx hb dX1_wayOut_46 (by decide) (fun hc => ?_) (fun hc => ?_)
      · have hf := it_p hc hf
        refine lv_iload_n hx hb dX1_wayOut_61 rfl (lv_at hl 2 rfl) ?_
        refine lv_iload hx hb dX1_wayOut_62 (lv_at hl 1 rfl) ?_
        refine lv_isub hx hb dX1_wayOut_64 ?_
        refine lv_bipush (v := (24 : Int32)) hx hb dX1_wayOut_65 (by decide) ?_
        refine lv_icmp_lt (tgt := 82) hx hb dX1_wayOut_67 (by decide) (fun hc => ?_) (fun hc => ?_)
        · have hf := it_p hc hf
          refine lv_iconst (v := (0 : Int32)) hx hb dX1_wayOut_82 (by decide) ?_
          exact W.iret (v := (0 : Int32)) hx hb hr (fun t ht hW => ⟨⟨_, (), rfl, Option.some.inj hf, ht⟩, hS.F ht⟩) hS.2.2 dX1_wayOut_83
        · have hf := it_n hc hf
          refine lv_iload hx hb dX1_wayOut_70 (lv_at hl 0 rfl) ?_
          refine lv_iload hx hb dX1_wayOut_72 (lv_at hl 1 rfl) ?_
          refine lv_isub hx hb dX1_wayOut_74 ?_
          refine lv_bipush (v := (24 : Int32)) hx hb dX1_wayOut_75 (by decide) ?_
          refine lv_icmp_lt (tgt := 82) hx hb dX1_wayOut_77 (by decide) (fun hc => ?_) (fun hc => ?_)
          · have hf := it_p hc hf
            refine lv_iconst (v := (0 : Int32)) hx hb dX1_wayOut_82 (by decide) ?_
            exact W.iret (v := (0 : Int32)) hx hb hr (fun t ht hW => ⟨⟨_, (), rfl, Option.some.inj hf, ht⟩, hS.F ht⟩) hS.2.2 dX1_wayOut_83
          · have hf := it_n hc hf
            refine lv_iconst (v := (-1 : Int32)) hx hb dX1_wayOut_80 (by decide) ?_
            exact W.iret (v := (-1 : Int32)) hx hb hr (fun t ht hW => ⟨⟨_, (), rfl, Option.some.inj hf, ht⟩, hS.F ht⟩) hS.2.2 dX1_wayOut_81
      · have hf := it_n hc hf
        refine lv_iload hx hb dX1_wayOut_49 (lv_at hl 1 rfl) ?_
        refine lv_iload hx hb dX1_wayOut_51 (lv_at hl 0 rfl) ?_
        refine lv_isub hx hb dX1_wayOut_53 ?_
        refine lv_bipush (v := (24 : Int32)) hx hb dX1_wayOut_54 (by decide) ?_
        refine lv_icmp_lt (tgt := 61) hx hb dX1_wayOut_56 (by decide) (fun hc => ?_) (fun hc => ?_)
        · have hf := it_p hc hf
          refine lv_iload_n hx hb dX1_wayOut_61 rfl (lv_at hl 2 rfl) ?_
          refine lv_iload hx hb dX1_wayOut_62 (lv_at hl 1 rfl) ?_
          refine lv_isub hx hb dX1_wayOut_64 ?_
          refine lv_bipush (v := (24 : Int32)) hx hb dX1_wayOut_65 (by decide) ?_
          refine lv_icmp_lt (tgt := 82) hx hb dX1_wayOut_67 (by decide) (fun hc => ?_) (fun hc => ?_)
          · have hf := it_p hc hf
            refine lv_iconst (v := (0 : Int32)) hx hb dX1_wayOut_82 (by decide) ?_
            exact W.iret (v := (0 : Int32)) hx hb hr (fun t ht hW => ⟨⟨_, (), rfl, Option.some.inj hf, ht⟩, hS.F ht⟩) hS.2.2 dX1_wayOut_83
          · have hf := it_n hc hf
            refine lv_iload hx hb dX1_wayOut_70 (lv_at hl 0 rfl) ?_
            refine lv_iload hx hb dX1_wayOut_72 (lv_at hl 1 rfl) ?_
            refine lv_isub hx hb dX1_wayOut_74 ?_
            refine lv_bipush (v := (24 : Int32)) hx hb dX1_wayOut_75 (by decide) ?_
            refine lv_icmp_lt (tgt := 82) hx hb dX1_wayOut_77 (by decide) (fun hc => ?_) (fun hc => ?_)
            · have hf := it_p hc hf
              refine lv_iconst (v := (0 : Int32)) hx hb dX1_wayOut_82 (by decide) ?_
              exact W.iret (v := (0 : Int32)) hx hb hr (fun t ht hW => ⟨⟨_, (), rfl, Option.some.inj hf, ht⟩, hS.F ht⟩) hS.2.2 dX1_wayOut_83
            · have hf := it_n hc hf
              refine lv_iconst (v := (-1 : Int32)) hx hb dX1_wayOut_80 (by decide) ?_
              exact W.iret (v := (-1 : Int32)) hx hb hr (fun t ht hW => ⟨⟨_, (), rfl, Option.some.inj hf, ht⟩, hS.F ht⟩) hS.2.2 dX1_wayOut_81
        · have hf := it_n hc hf
          refine lv_iconst (v := (1 : Int32)) hx hb dX1_wayOut_59 (by decide) ?_
          exact W.iret (v := (1 : Int32)) hx hb hr (fun t ht hW => ⟨⟨_, (), rfl, Option.some.inj hf, ht⟩, hS.F ht⟩) hS.2.2 dX1_wayOut_60
    · have hf := it_n hc hf
      refine lv_iconst (v := (0 : Int32)) hx hb dX1_wayOut_11 (by decide) ?_
      exact W.iret (v := (0 : Int32)) hx hb hr (fun t ht hW => ⟨⟨_, (), rfl, Option.some.inj hf, ht⟩, hS.F ht⟩) hS.2.2 dX1_wayOut_12
set_option maxHeartbeats 4000000 in
set_option maxRecDepth 100000 in
theorem kX1_longestOf (l : Launch) (dC : Nat → ClassId) (dI : Nat → Nat → Nat) (cy : ClassId) (H : Heap) (a1 a1_values : Nat) (v1_count : Int32) (v1_threshold : Int32) (f1_values : Nat → Int32) (p1 : Int32) (r : Int32) (hf : fX1_longestOf v1_count f1_values p1 = some r) : Met l yX1_longestOf wsX1_longestOf ({ frames := 3, cells := 0, slots := 0, locals := 70 }) (roP [.ref a1, .int p1] (dC, dI) vwCl (WX1 cy a1 a1_values v1_count v1_threshold f1_values) [(cy, .int)] H) (roQi r H) 0 0 (fun _ => False) := by
  refine Met.ofW (cc := cX1_longestOf) (maxL := 7) (ret := (some .int)) (by decide) rfl ?_
  intro p e s m args below meth c s₁ B hml hv
  obtain ⟨rfl, hH, hP, hK⟩ := hv
  have hx := B.exec
  have hb := B.bytes
  have hr := B.returns
  have hts := atoms_spec (ws := wsX1_longestOf) B.pre
  have hown : s.vm.findClass RX1 = some m.cls := findClass_of_methodNamed B.named
  have hlocks := B.notSynchronized
  have hiX1 : ∀ w ∈ u_ws RX1 TX1 3, w ∈ wsX1_longestOf := fun _ h => List.mem_cons_of_mem _ ((List.mem_append_right _ h))
  subst hH
  have hS : va_S (fun _ => False) s.heap s.heap [] := va_S.rf
  have hb_10 : ∀ (n : Nat) (x1 : Int32) (x2 : Int32) (x3 : Int32) (x4 : Int32) (x5 : Int32), bX1_longestOf_10 v1_count f1_values n x1 x2 x3 x4 x5 = some r → ∀ (locs : List Loc) (ls : Array Slot), va_S (fun _ => False) s.heap s.heap locs → lv_has ls 7 [(0, .ref a1), (1, .int x1), (2, .int x2), (3, .int x3), (4, .int x4), (5, .int x5)] → W p l e (headSpec wsX1_longestOf ({ frames := 3, cells := 0, slots := 0, locals := 70 })).room s m ([.ref a1, .int p1] : List Value).toArray below meth c s.heap locs 0 0 (MQ below (roQi r s.heap) ([.ref a1, .int p1] : List Value).toArray s 0 0 (fun _ => False)) (F0 m 10 ls []) := by
    intro n
    induction n with
    | zero => intro x1 x2 x3 x4 x5 hf; rw [bX1_longestOf_10] at hf; cases hf
    | succ n10 ih10 =>
      intro x1 x2 x3 x4 x5 hf locs ls hS hl
      rw [bX1_longestOf_10] at hf
      refine lv_iload hx hb dX1_longestOf_10 (lv_at hl 5 rfl) ?_
      refine lv_aload_n hx hb dX1_longestOf_12 rfl (lv_at hl 0 rfl) ?_
      refine va_get (D := (dC, dI)) (ci := 1) (v := .int v1_count) (C := RX1) (T := TX1) (N := 3) hx hb hts hiX1 hown hK hP 0 rfl rfl 0 (by decide) (hts (.fieldLink RX1 19 "PageLines$Lines" "count" "I") (List.mem_of_getElem? (i := 1) rfl)) (fun _ h9 => h9) rfl dX1_longestOf_13 ?_
      refine lv_icmp_ge (tgt := 69) hx hb dX1_longestOf_16 (by decide) (fun hc => ?_) (fun hc => ?_)
      · have hf := it_p hc hf
        refine lv_iload_n hx hb dX1_longestOf_69 rfl (lv_at hl 2 rfl) ?_
        exact W.iret (v := x2) hx hb hr (fun t ht hW => ⟨⟨_, (), rfl, Option.some.inj hf, ht⟩, hS.F ht⟩) hS.2.2 dX1_longestOf_70
      · have hf := it_n hc hf
        refine lv_aload_n hx hb dX1_longestOf_19 rfl (lv_at hl 0 rfl) ?_
        refine lv_iload hx hb dX1_longestOf_20 (lv_at hl 5 rfl) ?_
        refine lv_iload_n hx hb dX1_longestOf_22 rfl (lv_at hl 1 rfl) ?_
        obtain ⟨r2, hr2, hf⟩ := cl1_sp hf
        refine ro_V (As := [.int x5, .int x1]) ⟨hx, hb, hml, hown, hts⟩ (kX1_wayOut l dC dI cy _ a1 a1_values v1_count v1_threshold f1_values x5 x1 r2 hr2) (cwV 2 hts gX1_longestOf_X1_wayOut rfl rfl rfl (by decide +kernel) ⟨Nat.le_of_ble_eq_true rfl, Nat.le_of_ble_eq_true rfl⟩) (va_recv hK hP (ci := 1) (q0 := 0) rfl rfl) (hP.sub [0, 1] rfl) hK hS rfl hl.1 rfl (Nat.le_of_ble_eq_true rfl) dX1_longestOf_23 (Nat.zero_le _) (Nat.zero_le _) (fun locs hS => ?_)
        refine lv_istore (lv' := [(6, .int r2), (0, .ref a1), (1, .int x1), (2, .int x2), (3, .int x3), (4, .int x4), (5, .int x5)]) hx hb dX1_longestOf_26 hl (by decide) rfl (fun ls hl => ?_)
        refine lv_iload hx hb dX1_longestOf_28 (lv_at hl 0 rfl) ?_
        refine lv_if_ne (tgt := 38) hx hb dX1_longestOf_30 (by decide) (fun hc => ?_) (fun hc => ?_)
        · have hf := it_n hc hf
          refine lv_iload hx hb dX1_longestOf_38 (lv_at hl 0 rfl) ?_
          refine lv_iload hx hb dX1_longestOf_40 (lv_at hl 5 rfl) ?_
          refine lv_icmp_ne (tgt := 51) hx hb dX1_longestOf_42 (by decide) (fun hc => ?_) (fun hc => ?_)
          · have hf := it_n hc hf
            refine lv_iconst (v := (1 : Int32)) hx hb dX1_longestOf_51 (by decide) ?_
            refine lv_istore_n (lv' := [(3, .int (1 : Int32)), (6, .int r2), (0, .ref a1), (1, .int x1), (2, .int x2), (4, .int x4), (5, .int x5)]) hx hb dX1_longestOf_52 rfl hl (by decide) rfl (fun ls hl => ?_)
            refine lv_iload hx hb dX1_longestOf_53 (lv_at hl 1 rfl) ?_
            refine lv_istore (lv' := [(4, .int r2), (3, .int (1 : Int32)), (6, .int r2), (0, .ref a1), (1, .int x1), (2, .int x2), (5, .int x5)]) hx hb dX1_longestOf_55 hl (by decide) rfl (fun ls hl => ?_)
            refine lv_iload_n hx hb dX1_longestOf_57 rfl (lv_at hl 5 rfl) ?_
            refine lv_iload_n hx hb dX1_longestOf_58 rfl (lv_at hl 1 rfl) ?_
            refine va_mmax hx hb (by rw [hml]; exact hl.1.symm) hown (hts (.methodLink RX1 59 Lib.Math.max.name) (List.mem_of_getElem? (i := 2) rfl)) (hts (.static Lib.Math.max.name) (List.mem_of_getElem? (i := 3) rfl)) (hts (.initialized "java/lang/Math") (List.mem_of_getElem? (i := 4) rfl)) (hts (.code Lib.Math.max.name Lib.Math.max.code 2 (some .int)) (List.mem_of_getElem? (i := 5) rfl)) (Nat.le_of_ble_eq_true rfl) (Nat.le_of_ble_eq_true rfl) (Nat.zero_le _) (Nat.zero_le _) dX1_longestOf_59 ?_
            refine lv_istore_n (lv' := [(2, .int (if x2 < (1 : Int32) then (1 : Int32) else x2)), (4, .int r2), (3, .int (1 : Int32)), (6, .int r2), (0, .ref a1), (1, .int x1), (5, .int x5)]) hx hb dX1_longestOf_62 rfl hl (by decide) rfl (fun ls hl => ?_)
            refine lv_iinc (v := x5 + (1 : Int32)) (lv' := [(5, .int (x5 + (1 : Int32))), (2, .int (if x2 < (1 : Int32) then (1 : Int32) else x2)), (4, .int r2), (3, .int (1 : Int32)), (6, .int r2), (0, .ref a1), (1, .int x1)]) hx hb dX1_longestOf_63 hl (k := 6) rfl rfl (by decide) rfl (fun ls hl => ?_)
            refine lv_goto (tgt := 10) hx hb dX1_longestOf_66 (by decide) ?_
            exact ih10 x1 (if x2 < (1 : Int32) then (1 : Int32) else x2) (1 : Int32) r2 (x5 + (1 : Int32)) hf _ _ hS (lv_sub hl [5, 6, 1, 3, 2, 0] rfl)
          · have hf := it_p hc hf
            refine lv_iinc (v := x3 + (1 : Int32)) (lv' := [(3, .int (x3 + (1 : Int32))), (6, .int r2), (0, .ref a1), (1, .int x1), (2, .int x2), (4, .int x4), (5, .int x5)]) hx hb dX1_longestOf_45 hl (k := 4) rfl rfl (by decide) rfl (fun ls hl => ?_)
            refine lv_goto (tgt := 53) hx hb dX1_longestOf_48 (by decide) ?_
            refine lv_iload hx hb dX1_longestOf_53 (lv_at hl 1 rfl) ?_
            refine lv_istore (lv' := [(4, .int r2), (3, .int (x3 + (1 : Int32))), (6, .int r2), (0, .ref a1), (1, .int x1), (2, .int x2), (5, .int x5)]) hx hb dX1_longestOf_55 hl (by decide) rfl (fun ls hl => ?_)
            refine lv_iload_n hx hb dX1_longestOf_57 rfl (lv_at hl 5 rfl) ?_
            refine lv_iload_n hx hb dX1_longestOf_58 rfl (lv_at hl 1 rfl) ?_
            refine va_mmax hx hb (by rw [hml]; exact hl.1.symm) hown (hts (.methodLink RX1 59 Lib.Math.max.name) (List.mem_of_getElem? (i := 2) rfl)) (hts (.static Lib.Math.max.name) (List.mem_of_getElem? (i := 3) rfl)) (hts (.initialized "java/lang/Math") (List.mem_of_getElem? (i := 4) rfl)) (hts (.code Lib.Math.max.name Lib.Math.max.code 2 (some .int)) (List.mem_of_getElem? (i := 5) rfl)) (Nat.le_of_ble_eq_true rfl) (Nat.le_of_ble_eq_true rfl) (Nat.zero_le _) (Nat.zero_le _) dX1_longestOf_59 ?_
            refine lv_istore_n (lv' := [(2, .int (if x2 < (x3 + (1 : Int32)) then (x3 + (1 : Int32)) else x2)), (4, .int r2), (3, .int (x3 + (1 : Int32))), (6, .int r2), (0, .ref a1), (1, .int x1), (5, .int x5)]) hx hb dX1_longestOf_62 rfl hl (by decide) rfl (fun ls hl => ?_)
            refine lv_iinc (v := x5 + (1 : Int32)) (lv' := [(5, .int (x5 + (1 : Int32))), (2, .int (if x2 < (x3 + (1 : Int32)) then (x3 + (1 : Int32)) else x2)), (4, .int r2), (3, .int (x3 + (1 : Int32))), (6, .int r2), (0, .ref a1), (1, .int x1)]) hx hb dX1_longestOf_63 hl (k := 6) rfl rfl (by decide) rfl (fun ls hl => ?_)
            refine lv_goto (tgt := 10) hx hb dX1_longestOf_66 (by decide) ?_
            exact ih10 x1 (if x2 < (x3 + (1 : Int32)) then (x3 + (1 : Int32)) else x2) (x3 + (1 : Int32)) r2 (x5 + (1 : Int32)) hf _ _ hS (lv_sub hl [5, 6, 1, 3, 2, 0] rfl)
        · have hf := it_p hc hf
          refine lv_iconst (v := (0 : Int32)) hx hb dX1_longestOf_33 (by decide) ?_
          refine lv_istore_n (lv' := [(3, .int (0 : Int32)), (6, .int r2), (0, .ref a1), (1, .int x1), (2, .int x2), (4, .int x4), (5, .int x5)]) hx hb dX1_longestOf_34 rfl hl (by decide) rfl (fun ls hl => ?_)
          refine lv_goto (tgt := 53) hx hb dX1_longestOf_35 (by decide) ?_
          refine lv_iload hx hb dX1_longestOf_53 (lv_at hl 1 rfl) ?_
          refine lv_istore (lv' := [(4, .int r2), (3, .int (0 : Int32)), (6, .int r2), (0, .ref a1), (1, .int x1), (2, .int x2), (5, .int x5)]) hx hb dX1_longestOf_55 hl (by decide) rfl (fun ls hl => ?_)
          refine lv_iload_n hx hb dX1_longestOf_57 rfl (lv_at hl 5 rfl) ?_
          refine lv_iload_n hx hb dX1_longestOf_58 rfl (lv_at hl 1 rfl) ?_
          refine va_mmax hx hb (by rw [hml]; exact hl.1.symm) hown (hts (.methodLink RX1 59 Lib.Math.max.name) (List.mem_of_getElem? (i := 2) rfl)) (hts (.static Lib.Math.max.name) (List.mem_of_getElem? (i := 3) rfl)) (hts (.initialized "java/lang/Math") (List.mem_of_getElem? (i := 4) rfl)) (hts (.code Lib.Math.max.name Lib.Math.max.code 2 (some .int)) (List.mem_of_getElem? (i := 5) rfl)) (Nat.le_of_ble_eq_true rfl) (Nat.le_of_ble_eq_true rfl) (Nat.zero_le _) (Nat.zero_le _) dX1_longestOf_59 ?_
          refine lv_istore_n (lv' := [(2, .int (if x2 < (0 : Int32) then (0 : Int32) else x2)), (4, .int r2), (3, .int (0 : Int32)), (6, .int r2), (0, .ref a1), (1, .int x1), (5, .int x5)]) hx hb dX1_longestOf_62 rfl hl (by decide) rfl (fun ls hl => ?_)
          refine lv_iinc (v := x5 + (1 : Int32)) (lv' := [(5, .int (x5 + (1 : Int32))), (2, .int (if x2 < (0 : Int32) then (0 : Int32) else x2)), (4, .int r2), (3, .int (0 : Int32)), (6, .int r2), (0, .ref a1), (1, .int x1)]) hx hb dX1_longestOf_63 hl (k := 6) rfl rfl (by decide) rfl (fun ls hl => ?_)
          refine lv_goto (tgt := 10) hx hb dX1_longestOf_66 (by decide) ?_
          exact ih10 x1 (if x2 < (0 : Int32) then (0 : Int32) else x2) (0 : Int32) r2 (x5 + (1 : Int32)) hf _ _ hS (lv_sub hl [5, 6, 1, 3, 2, 0] rfl)
  have hl := lv_entry ([.ref a1, .int p1]) (n := 7) (Nat.le_of_ble_eq_true rfl)
  rw [lg_entry_eq]
  generalize (lg_sl ([.ref a1, .int p1]) ++ List.replicate (7 - (lg_sl ([.ref a1, .int p1])).length) Slot.unset).toArray = ls at hl ⊢
  have hl : lv_has ls 7 [(0, .ref a1), (1, .int p1)] := hl
  unfold fX1_longestOf at hf
  refine lv_iconst (v := (0 : Int32)) hx hb dX1_longestOf_0 (by decide) ?_
  refine lv_istore_n (lv' := [(2, .int (0 : Int32)), (0, .ref a1), (1, .int p1)]) hx hb dX1_longestOf_1 rfl hl (by decide) rfl (fun ls hl => ?_)
  refine lv_iconst (v := (0 : Int32)) hx hb dX1_longestOf_2 (by decide) ?_
  refine lv_istore_n (lv' := [(3, .int (0 : Int32)), (2, .int (0 : Int32)), (0, .ref a1), (1, .int p1)]) hx hb dX1_longestOf_3 rfl hl (by decide) rfl (fun ls hl => ?_)
  refine lv_iconst (v := (0 : Int32)) hx hb dX1_longestOf_4 (by decide) ?_
  refine lv_istore (lv' := [(4, .int (0 : Int32)), (3, .int (0 : Int32)), (2, .int (0 : Int32)), (0, .ref a1), (1, .int p1)]) hx hb dX1_longestOf_5 hl (by decide) rfl (fun ls hl => ?_)
  refine lv_iconst (v := (0 : Int32)) hx hb dX1_longestOf_7 (by decide) ?_
  refine lv_istore (lv' := [(5, .int (0 : Int32)), (4, .int (0 : Int32)), (3, .int (0 : Int32)), (2, .int (0 : Int32)), (0, .ref a1), (1, .int p1)]) hx hb dX1_longestOf_8 hl (by decide) rfl (fun ls hl => ?_)
  exact hb_10 300 p1 (0 : Int32) (0 : Int32) (0 : Int32) (0 : Int32) hf _ _ hS (lv_sub hl [4, 5, 3, 2, 1, 0] rfl)

set_option maxHeartbeats 4000000 in
set_option maxRecDepth 100000 in
theorem kX0_place (l : Launch) (H : Heap) (p1 : Int32) (p2 : Int32) (r : Int32) (hf : fX0_place p1 p2 = some r) : Met l yX0_place wsX0_place ({ frames := 0, cells := 0, slots := 0, locals := 0 }) (roP0 [.int p1, .int p2] H) (roQi r H) 0 0 (fun _ => False) := by
  refine Met.ofW (cc := cX0_place) (maxL := 2) (ret := (some .int)) (by decide) rfl ?_
  intro p e s m args below meth c s₁ B hml hv
  obtain ⟨rfl, hH⟩ := hv
  have hx := B.exec
  have hb := B.bytes
  have hr := B.returns
  have hts := atoms_spec (ws := wsX0_place) B.pre
  have hown : s.vm.findClass RX0 = some m.cls := findClass_of_methodNamed B.named
  have hlocks := B.notSynchronized
  subst hH
  have hS : va_S (fun _ => False) s.heap s.heap [] := va_S.rf
  have hl := lv_entry ([.int p1, .int p2]) (n := 2) (Nat.le_of_ble_eq_true rfl)
  rw [lg_entry_eq]
  generalize (lg_sl ([.int p1, .int p2]) ++ List.replicate (2 - (lg_sl ([.int p1, .int p2])).length) Slot.unset).toArray = ls at hl ⊢
  have hl : lv_has ls 2 [(0, .int p1), (1, .int p2)] := hl
  unfold fX0_place at hf
  refine lv_iload_n hx hb dX0_place_0 rfl (lv_at hl 0 rfl) ?_
  refine lv_bipush (v := (12 : Int32)) hx hb dX0_place_1 (by decide) ?_
  refine lv_imul hx hb dX0_place_3 ?_
  refine lv_iload_n hx hb dX0_place_4 rfl (lv_at hl 1 rfl) ?_
  refine lv_iadd hx hb dX0_place_5 ?_
  exact W.iret (v := (p1 * (12 : Int32)) + p2) hx hb hr (fun t ht hW => ⟨⟨_, (), rfl, Option.some.inj hf, ht⟩, hS.F ht⟩) hS.2.2 dX0_place_6
set_option maxHeartbeats 4000000 in
set_option maxRecDepth 100000 in
theorem kX0_readingOf (l : Launch) (dC : Nat → ClassId) (dI : Nat → Nat → Nat) (cy : ClassId) (H : Heap) (a0 a0_offset a0_gain a0_dark a0_bright : Nat) (f0_offset : Nat → Int32) (f0_gain : Nat → Int32) (f0_dark : Nat → Int32) (f0_bright : Nat → Int32) (p1 : Int32) (p2 : Int32) (r : Int32) (hf : fX0_readingOf f0_offset f0_gain p1 p2 = some r) : Met l yX0_readingOf wsX0_readingOf ({ frames := 2, cells := 0, slots := 0, locals := 33 }) (roP [.ref a0, .int p1, .int p2] (dC, dI) vwCl (WX0 cy a0 a0_offset a0_gain a0_dark a0_bright f0_offset f0_gain f0_dark f0_bright) [(cy, .int)] H) (roQi r H) 0 0 (fun _ => False) := by
  refine Met.ofW (cc := cX0_readingOf) (maxL := 3) (ret := (some .int)) (by decide) rfl ?_
  intro p e s m args below meth c s₁ B hml hv
  obtain ⟨rfl, hH, hP, hK⟩ := hv
  have hx := B.exec
  have hb := B.bytes
  have hr := B.returns
  have hts := atoms_spec (ws := wsX0_readingOf) B.pre
  have hown : s.vm.findClass RX0 = some m.cls := findClass_of_methodNamed B.named
  have hlocks := B.notSynchronized
  have hiX0 : ∀ w ∈ u_ws RX0 TX0 4, w ∈ wsX0_readingOf := fun _ h => List.mem_cons_of_mem _ ((List.mem_append_right _ h))
  subst hH
  have hS : va_S (fun _ => False) s.heap s.heap [] := va_S.rf
  have hl := lv_entry ([.ref a0, .int p1, .int p2]) (n := 3) (Nat.le_of_ble_eq_true rfl)
  rw [lg_entry_eq]
  generalize (lg_sl ([.ref a0, .int p1, .int p2]) ++ List.replicate (3 - (lg_sl ([.ref a0, .int p1, .int p2])).length) Slot.unset).toArray = ls at hl ⊢
  have hl : lv_has ls 3 [(0, .ref a0), (1, .int p1), (2, .int p2)] := hl
  unfold fX0_readingOf at hf
  refine lv_aload_n hx hb dX0_readingOf_0 rfl (lv_at hl 0 rfl) ?_
  refine va_get (D := (dC, dI)) (ci := 0) (v := .ref a0_offset) (C := RX0) (T := TX0) (N := 4) hx hb hts hiX0 hown hK hP 0 rfl rfl 0 (by decide) (hts (.fieldLink RX0 9 "PageLines$Cells" "offset" "[I") (List.mem_of_getElem? (i := 1) rfl)) (fun _ h9 => h9) rfl dX0_readingOf_1 ?_
  refine lv_iload_n hx hb dX0_readingOf_4 rfl (lv_at hl 1 rfl) ?_
  obtain ⟨hi_1, hf⟩ := ckI_sp hf
  refine va_iald hx hb hK hP 1 0 rfl rfl hi_1 dX0_readingOf_5 ?_
  refine lv_iload_n hx hb dX0_readingOf_6 rfl (lv_at hl 2 rfl) ?_
  refine lv_aload_n hx hb dX0_readingOf_7 rfl (lv_at hl 0 rfl) ?_
  refine va_get (D := (dC, dI)) (ci := 0) (v := .ref a0_gain) (C := RX0) (T := TX0) (N := 4) hx hb hts hiX0 hown hK hP 0 rfl rfl 1 (by decide) (hts (.fieldLink RX0 15 "PageLines$Cells" "gain" "[I") (List.mem_of_getElem? (i := 2) rfl)) (fun _ h9 => h9) rfl dX0_readingOf_8 ?_
  refine lv_iload_n hx hb dX0_readingOf_11 rfl (lv_at hl 1 rfl) ?_
  obtain ⟨hi_2, hf⟩ := ckI_sp hf
  refine va_iald hx hb hK hP 2 0 rfl rfl hi_2 dX0_readingOf_12 ?_
  refine lv_imul hx hb dX0_readingOf_13 ?_
  refine lv_bipush (v := (64 : Int32)) hx hb dX0_readingOf_14 (by decide) ?_
  refine lv_idiv hx hb dX0_readingOf_16 (by decide) ?_
  refine lv_iadd hx hb dX0_readingOf_17 ?_
  obtain ⟨r3, hr3, hf⟩ := cl1_sp hf
  refine ro_S (As := [.int ((f0_offset p1.toNatClampNeg) + ((p2 * (f0_gain p1.toNatClampNeg)) / (64 : Int32)))]) ⟨hx, hb, hml, hown, hts⟩ (kX2_atMostTop l _ ((f0_offset p1.toNatClampNeg) + ((p2 * (f0_gain p1.toNatClampNeg)) / (64 : Int32))) r3 hr3) (va_cwS 1 hts gX0_readingOf_X2_atMostTop rfl rfl rfl (by decide +kernel) ⟨Nat.le_of_ble_eq_true rfl, Nat.le_of_ble_eq_true rfl⟩) hS rfl hl.1 rfl (Nat.le_of_ble_eq_true rfl) dX0_readingOf_18 (Nat.zero_le _) (Nat.zero_le _) (fun locs hS => ?_)
  exact W.iret (v := r3) hx hb hr (fun t ht hW => ⟨⟨_, (), rfl, Option.some.inj hf, ht⟩, hS.F ht⟩) hS.2.2 dX0_readingOf_21
set_option maxHeartbeats 4000000 in
set_option maxRecDepth 100000 in
theorem kX0_readStrip (l : Launch) (dC : Nat → ClassId) (dI : Nat → Nat → Nat) (cy : ClassId) (sz : Nat) (a0 a0_offset a0_gain a0_dark a0_bright : Nat) (f0_offset : Nat → Int32) (f0_gain : Nat → Int32) (f0_dark : Nat → Int32) (f0_bright : Nat → Int32) (p1 : Int32) (o_f0_dark : Nat → Int32) (o_f0_bright : Nat → Int32) (hf : fX0_readStrip f0_offset f0_gain f0_dark f0_bright p1 = some (o_f0_dark, o_f0_bright)) : Met l yX0_readStrip wsX0_readStrip ({ frames := 3, cells := 0, slots := 0, locals := 55 }) (rwP [.ref a0, .int p1] (dC, dI) vwCl (WX0 cy a0 a0_offset a0_gain a0_dark a0_bright f0_offset f0_gain f0_dark f0_bright) [(cy, .int)] sz) (rwQv (dC, dI) vwCl (WX0 cy a0 a0_offset a0_gain a0_dark a0_bright f0_offset f0_gain o_f0_dark o_f0_bright) (va_A (WX0 cy a0 a0_offset a0_gain a0_dark a0_bright f0_offset f0_gain f0_dark f0_bright) sz)) 0 0 (va_A (WX0 cy a0 a0_offset a0_gain a0_dark a0_bright f0_offset f0_gain f0_dark f0_bright) sz) := by
  refine Met.ofW (cc := cX0_readStrip) (maxL := 3) (ret := none) (by decide) rfl ?_
  intro p e s m args below meth c s₁ B hml hv
  obtain ⟨rfl, hsz, hP, hK, hD0⟩ := hv
  have hx := B.exec
  have hb := B.bytes
  have hr := B.returns
  have hts := atoms_spec (ws := wsX0_readStrip) B.pre
  have hown : s.vm.findClass RX0 = some m.cls := findClass_of_methodNamed B.named
  have hlocks := B.notSynchronized
  have hiX0 : ∀ w ∈ u_ws RX0 TX0 4, w ∈ wsX0_readStrip := fun _ h => List.mem_cons_of_mem _ ((List.mem_append_right _ h))
  subst hsz
  have hD := hD0.self (sz := s.heap.size)
  generalize hAe : va_A (WX0 cy a0 a0_offset a0_gain a0_dark a0_bright f0_offset f0_gain f0_dark f0_bright) s.heap.size = A0 at hD ⊢
  have hA : ∀ q : Nat, s.heap.size ≤ q → A0 q := fun q h => by rw [← hAe]; exact Or.inr h
  have hS : va_S A0 s.heap s.heap [] := va_S.rf
  have hb_2 : ∀ (n : Nat) (f0_dark : Nat → Int32) (f0_bright : Nat → Int32) (x1 : Int32) (x2 : Int32), bX0_readStrip_2 f0_offset f0_gain n f0_dark f0_bright x1 x2 = some (o_f0_dark, o_f0_bright) → ∀ (H : Heap) (locs : List Loc) (ls : Array Slot), va_P (dC, dI) vwCl (WX0 cy a0 a0_offset a0_gain a0_dark a0_bright f0_offset f0_gain f0_dark f0_bright) H → va_D A0 (WX0 cy a0 a0_offset a0_gain a0_dark a0_bright f0_offset f0_gain f0_dark f0_bright) → va_S A0 s.heap H locs → lv_has ls 3 [(0, .ref a0), (1, .int x1), (2, .int x2)] → W p l e (headSpec wsX0_readStrip ({ frames := 3, cells := 0, slots := 0, locals := 55 })).room s m ([.ref a0, .int p1] : List Value).toArray below meth c H locs 0 0 (MQ below (rwQv (dC, dI) vwCl (WX0 cy a0 a0_offset a0_gain a0_dark a0_bright f0_offset f0_gain o_f0_dark o_f0_bright) A0) ([.ref a0, .int p1] : List Value).toArray s 0 0 A0) (F0 m 2 ls []) := by
    intro n
    induction n with
    | zero => intro f0_dark f0_bright x1 x2 hf; rw [bX0_readStrip_2] at hf; cases hf
    | succ n2 ih2 =>
      intro f0_dark f0_bright x1 x2 hf H locs ls hP hD hS hl
      rw [bX0_readStrip_2] at hf
      refine lv_iload_n hx hb dX0_readStrip_2 rfl (lv_at hl 2 rfl) ?_
      refine lv_bipush (v := (36 : Int32)) hx hb dX0_readStrip_3 (by decide) ?_
      refine lv_icmp_ge (tgt := 47) hx hb dX0_readStrip_5 (by decide) (fun hc => ?_) (fun hc => ?_)
      · have hf := it_p hc hf
        cases hf
        exact W.vret hx hb hr (fun t ht hW => ⟨⟨(), rfl, trivial, by rw [ht]; exact hP, hD⟩, hS.F ht⟩) hS.2.2 dX0_readStrip_47
      · have hf := it_n hc hf
        refine lv_iload_n hx hb dX0_readStrip_8 rfl (lv_at hl 1 rfl) ?_
        refine lv_if_eq (tgt := 29) hx hb dX0_readStrip_9 (by decide) (fun hc => ?_) (fun hc => ?_)
        · have hf := it_p hc hf
          refine lv_aload_n hx hb dX0_readStrip_29 rfl (lv_at hl 0 rfl) ?_
          refine va_get (D := (dC, dI)) (ci := 0) (v := .ref a0_dark) (C := RX0) (T := TX0) (N := 4) hx hb hts hiX0 hown hK hP 0 rfl rfl 2 (by decide) (hts (.fieldLink RX0 18 "PageLines$Cells" "dark" "[I") (List.mem_of_getElem? (i := 2) rfl)) (fun _ h9 => h9) rfl dX0_readStrip_30 ?_
          refine lv_iload_n hx hb dX0_readStrip_33 rfl (lv_at hl 2 rfl) ?_
          refine lv_aload_n hx hb dX0_readStrip_34 rfl (lv_at hl 0 rfl) ?_
          refine lv_iload_n hx hb dX0_readStrip_35 rfl (lv_at hl 2 rfl) ?_
          refine lv_iconst (v := (0 : Int32)) hx hb dX0_readStrip_36 (by decide) ?_
          obtain ⟨r5, hr5, hf⟩ := cl1_sp hf
          refine ro_V (As := [.int x2, .int (0 : Int32)]) ⟨hx, hb, hml, hown, hts⟩ (kX0_readingOf l dC dI cy _ a0 a0_offset a0_gain a0_dark a0_bright f0_offset f0_gain f0_dark f0_bright x2 (0 : Int32) r5 hr5) (cwV 2 hts gX0_readStrip_X0_readingOf rfl rfl rfl (by decide +kernel) ⟨Nat.le_of_ble_eq_true rfl, Nat.le_of_ble_eq_true rfl⟩) (va_recv hK hP (ci := 0) (q0 := 0) rfl rfl) (hP.sub [0, 1, 2, 3, 4] rfl) hK hS rfl hl.1 rfl (Nat.le_of_ble_eq_true rfl) dX0_readStrip_37 (Nat.zero_le _) (Nat.zero_le _) (fun locs hS => ?_)
          obtain ⟨hi_6, hf⟩ := ckI_sp hf
          refine va_iast hx hb hK hP hD hS 3 0 rfl rfl hi_6 dX0_readStrip_40 (fun H locs hP hD hS => ?_)
          have hP : va_P (dC, dI) vwCl (WX0 cy a0 a0_offset a0_gain a0_dark a0_bright f0_offset f0_gain (upd f0_dark x2.toNatClampNeg r5) f0_bright) H := hP
          have hD : va_D A0 (WX0 cy a0 a0_offset a0_gain a0_dark a0_bright f0_offset f0_gain (upd f0_dark x2.toNatClampNeg r5) f0_bright) := hD
          refine lv_iinc (v := x2 + (1 : Int32)) (lv' := [(2, .int (x2 + (1 : Int32))), (0, .ref a0), (1, .int x1)]) hx hb dX0_readStrip_41 hl (k := 2) rfl rfl (by decide) rfl (fun ls hl => ?_)
          refine lv_goto (tgt := 2) hx hb dX0_readStrip_44 (by decide) ?_
          exact ih2 (upd f0_dark x2.toNatClampNeg r5) f0_bright x1 (x2 + (1 : Int32)) hf _ _ _ hP hD hS (lv_sub hl [1, 2, 0] rfl)
        · have hf := it_n hc hf
          refine lv_aload_n hx hb dX0_readStrip_12 rfl (lv_at hl 0 rfl) ?_
          refine va_get (D := (dC, dI)) (ci := 0) (v := .ref a0_bright) (C := RX0) (T := TX0) (N := 4) hx hb hts hiX0 hown hK hP 0 rfl rfl 3 (by decide) (hts (.fieldLink RX0 21 "PageLines$Cells" "bright" "[I") (List.mem_of_getElem? (i := 1) rfl)) (fun _ h9 => h9) rfl dX0_readStrip_13 ?_
          refine lv_iload_n hx hb dX0_readStrip_16 rfl (lv_at hl 2 rfl) ?_
          refine lv_aload_n hx hb dX0_readStrip_17 rfl (lv_at hl 0 rfl) ?_
          refine lv_iload_n hx hb dX0_readStrip_18 rfl (lv_at hl 2 rfl) ?_
          refine lv_sipush (v := (255 : Int32)) hx hb dX0_readStrip_19 (by decide) ?_
          obtain ⟨r7, hr7, hf⟩ := cl1_sp hf
          refine ro_V (As := [.int x2, .int (255 : Int32)]) ⟨hx, hb, hml, hown, hts⟩ (kX0_readingOf l dC dI cy _ a0 a0_offset a0_gain a0_dark a0_bright f0_offset f0_gain f0_dark f0_bright x2 (255 : Int32) r7 hr7) (cwV 2 hts gX0_readStrip_X0_readingOf rfl rfl rfl (by decide +kernel) ⟨Nat.le_of_ble_eq_true rfl, Nat.le_of_ble_eq_true rfl⟩) (va_recv hK hP (ci := 0) (q0 := 0) rfl rfl) (hP.sub [0, 1, 2, 3, 4] rfl) hK hS rfl hl.1 rfl (Nat.le_of_ble_eq_true rfl) dX0_readStrip_22 (Nat.zero_le _) (Nat.zero_le _) (fun locs hS => ?_)
          obtain ⟨hi_8, hf⟩ := ckI_sp hf
          refine va_iast hx hb hK hP hD hS 4 0 rfl rfl hi_8 dX0_readStrip_25 (fun H locs hP hD hS => ?_)
          have hP : va_P (dC, dI) vwCl (WX0 cy a0 a0_offset a0_gain a0_dark a0_bright f0_offset f0_gain f0_dark (upd f0_bright x2.toNatClampNeg r7)) H := hP
          have hD : va_D A0 (WX0 cy a0 a0_offset a0_gain a0_dark a0_bright f0_offset f0_gain f0_dark (upd f0_bright x2.toNatClampNeg r7)) := hD
          refine lv_goto (tgt := 41) hx hb dX0_readStrip_26 (by decide) ?_
          refine lv_iinc (v := x2 + (1 : Int32)) (lv' := [(2, .int (x2 + (1 : Int32))), (0, .ref a0), (1, .int x1)]) hx hb dX0_readStrip_41 hl (k := 2) rfl rfl (by decide) rfl (fun ls hl => ?_)
          refine lv_goto (tgt := 2) hx hb dX0_readStrip_44 (by decide) ?_
          exact ih2 f0_dark (upd f0_bright x2.toNatClampNeg r7) x1 (x2 + (1 : Int32)) hf _ _ _ hP hD hS (lv_sub hl [1, 2, 0] rfl)
  have hl := lv_entry ([.ref a0, .int p1]) (n := 3) (Nat.le_of_ble_eq_true rfl)
  rw [lg_entry_eq]
  generalize (lg_sl ([.ref a0, .int p1]) ++ List.replicate (3 - (lg_sl ([.ref a0, .int p1])).length) Slot.unset).toArray = ls at hl ⊢
  have hl : lv_has ls 3 [(0, .ref a0), (1, .int p1)] := hl
  unfold fX0_readStrip at hf
  refine lv_iconst (v := (0 : Int32)) hx hb dX0_readStrip_0 (by decide) ?_
  refine lv_istore_n (lv' := [(2, .int (0 : Int32)), (0, .ref a0), (1, .int p1)]) hx hb dX0_readStrip_1 rfl hl (by decide) rfl (fun ls hl => ?_)
  exact hb_2 300 f0_dark f0_bright p1 (0 : Int32) hf _ _ _ hP hD hS (lv_sub hl [1, 2, 0] rfl)
set_option maxHeartbeats 4000000 in
set_option maxRecDepth 100000 in
theorem kX0_isLive (l : Launch) (dC : Nat → ClassId) (dI : Nat → Nat → Nat) (cy : ClassId) (H : Heap) (a0 a0_offset a0_gain a0_dark a0_bright : Nat) (f0_offset : Nat → Int32) (f0_gain : Nat → Int32) (f0_dark : Nat → Int32) (f0_bright : Nat → Int32) (p1 : Int32) (r : Int32) (hf : fX0_isLive f0_dark f0_bright p1 = some r) : Met l yX0_isLive wsX0_isLive ({ frames := 0, cells := 0, slots := 0, locals := 0 }) (roP [.ref a0, .int p1] (dC, dI) vwCl (WX0 cy a0 a0_offset a0_gain a0_dark a0_bright f0_offset f0_gain f0_dark f0_bright) [(cy, .int)] H) (roQi r H) 0 0 (fun _ => False) := by
  refine Met.ofW (cc := cX0_isLive) (maxL := 2) (ret := (some .boolean)) (by decide) rfl ?_
  intro p e s m args below meth c s₁ B hml hv
  obtain ⟨rfl, hH, hP, hK⟩ := hv
  have hx := B.exec
  have hb := B.bytes
  have hr := B.returns
  have hts := atoms_spec (ws := wsX0_isLive) B.pre
  have hown : s.vm.findClass RX0 = some m.cls := findClass_of_methodNamed B.named
  have hlocks := B.notSynchronized
  have hiX0 : ∀ w ∈ u_ws RX0 TX0 4, w ∈ wsX0_isLive := fun _ h => List.mem_cons_of_mem _ ((List.mem_append_right _ h))
  subst hH
  have hS : va_S (fun _ => False) s.heap s.heap [] := va_S.rf
  have hl := lv_entry ([.ref a0, .int p1]) (n := 2) (Nat.le_of_ble_eq_true rfl)
  rw [lg_entry_eq]
  generalize (lg_sl ([.ref a0, .int p1]) ++ List.replicate (2 - (lg_sl ([.ref a0, .int p1])).length) Slot.unset).toArray = ls at hl ⊢
  have hl : lv_has ls 2 [(0, .ref a0), (1, .int p1)] := hl
  unfold fX0_isLive at hf
  refine lv_aload_n hx hb dX0_isLive_0 rfl (lv_at hl 0 rfl) ?_
  refine va_get (D := (dC, dI)) (ci := 0) (v := .ref a0_bright) (C := RX0) (T := TX0) (N := 4) hx hb hts hiX0 hown hK hP 0 rfl rfl 3 (by decide) (hts (.fieldLink RX0 21 "PageLines$Cells" "bright" "[I") (List.mem_of_getElem? (i := 1) rfl)) (fun _ h9 => h9) rfl dX0_isLive_1 ?_
  refine lv_iload_n hx hb dX0_isLive_4 rfl (lv_at hl 1 rfl) ?_
  obtain ⟨hi_1, hf⟩ := ckI_sp hf
  refine va_iald hx hb hK hP 4 0 rfl rfl hi_1 dX0_isLive_5 ?_
  refine lv_aload_n hx hb dX0_isLive_6 rfl (lv_at hl 0 rfl) ?_
  refine va_get (D := (dC, dI)) (ci := 0) (v := .ref a0_dark) (C := RX0) (T := TX0) (N := 4) hx hb hts hiX0 hown hK hP 0 rfl rfl 2 (by decide) (hts (.fieldLink RX0 18 "PageLines$Cells" "dark" "[I") (List.mem_of_getElem? (i := 2) rfl)) (fun _ h9 => h9) rfl dX0_isLive_7 ?_
  refine lv_iload_n hx hb dX0_isLive_10 rfl (lv_at hl 1 rfl) ?_
  obtain ⟨hi_2, hf⟩ := ckI_sp hf
  refine va_iald hx hb hK hP 3 0 rfl rfl hi_2 dX0_isLive_11 ?_
  refine lv_isub hx hb dX0_isLive_12 ?_
  refine lv_bipush (v := (16 : Int32)) hx hb dX0_isLive_13 (by decide) ?_
  refine lv_icmp_lt (tgt := 22) hx hb dX0_isLive_15 (by decide) (fun hc => ?_) (fun hc => ?_)
  · have hf := it_p hc hf
    refine lv_iconst (v := (0 : Int32)) hx hb dX0_isLive_22 (by decide) ?_
    exact W.zret (v := (0 : Int32)) hx hb hr rfl (fun t ht hW => ⟨⟨_, (), rfl, Option.some.inj hf, ht⟩, hS.F ht⟩) hS.2.2 dX0_isLive_23
  · have hf := it_n hc hf
    refine lv_iconst (v := (1 : Int32)) hx hb dX0_isLive_18 (by decide) ?_
    refine lv_goto (tgt := 23) hx hb dX0_isLive_19 (by decide) ?_
    exact W.zret (v := (1 : Int32)) hx hb hr rfl (fun t ht hW => ⟨⟨_, (), rfl, Option.some.inj hf, ht⟩, hS.F ht⟩) hS.2.2 dX0_isLive_23
set_option maxHeartbeats 4000000 in
set_option maxRecDepth 100000 in
theorem kX0_countLive (l : Launch) (dC : Nat → ClassId) (dI : Nat → Nat → Nat) (cy : ClassId) (H : Heap) (a0 a0_offset a0_gain a0_dark a0_bright : Nat) (f0_offset : Nat → Int32) (f0_gain : Nat → Int32) (f0_dark : Nat → Int32) (f0_bright : Nat → Int32) (r : Int32) (hf : fX0_countLive f0_dark f0_bright = some r) : Met l yX0_countLive wsX0_countLive ({ frames := 1, cells := 0, slots := 0, locals := 21 }) (roP [.ref a0] (dC, dI) vwCl (WX0 cy a0 a0_offset a0_gain a0_dark a0_bright f0_offset f0_gain f0_dark f0_bright) [(cy, .int)] H) (roQi r H) 0 0 (fun _ => False) := by
  refine Met.ofW (cc := cX0_countLive) (maxL := 3) (ret := (some .int)) (by decide) rfl ?_
  intro p e s m args below meth c s₁ B hml hv
  obtain ⟨rfl, hH, hP, hK⟩ := hv
  have hx := B.exec
  have hb := B.bytes
  have hr := B.returns
  have hts := atoms_spec (ws := wsX0_countLive) B.pre
  have hown : s.vm.findClass RX0 = some m.cls := findClass_of_methodNamed B.named
  have hlocks := B.notSynchronized
  have hiX0 : ∀ w ∈ u_ws RX0 TX0 4, w ∈ wsX0_countLive := fun _ h => List.mem_cons_of_mem _ ((List.mem_append_right _ h))
  subst hH
  have hS : va_S (fun _ => False) s.heap s.heap [] := va_S.rf
  have hb_4 : ∀ (n : Nat) (x1 : Int32) (x2 : Int32), bX0_countLive_4 f0_dark f0_bright n x1 x2 = some r → ∀ (locs : List Loc) (ls : Array Slot), va_S (fun _ => False) s.heap s.heap locs → lv_has ls 3 [(0, .ref a0), (1, .int x1), (2, .int x2)] → W p l e (headSpec wsX0_countLive ({ frames := 1, cells := 0, slots := 0, locals := 21 })).room s m ([.ref a0] : List Value).toArray below meth c s.heap locs 0 0 (MQ below (roQi r s.heap) ([.ref a0] : List Value).toArray s 0 0 (fun _ => False)) (F0 m 4 ls []) := by
    intro n
    induction n with
    | zero => intro x1 x2 hf; rw [bX0_countLive_4] at hf; cases hf
    | succ n4 ih4 =>
      intro x1 x2 hf locs ls hS hl
      rw [bX0_countLive_4] at hf
      refine lv_iload_n hx hb dX0_countLive_4 rfl (lv_at hl 2 rfl) ?_
      refine lv_bipush (v := (36 : Int32)) hx hb dX0_countLive_5 (by decide) ?_
      refine lv_icmp_ge (tgt := 27) hx hb dX0_countLive_7 (by decide) (fun hc => ?_) (fun hc => ?_)
      · have hf := it_p hc hf
        refine lv_iload_n hx hb dX0_countLive_27 rfl (lv_at hl 1 rfl) ?_
        exact W.iret (v := x1) hx hb hr (fun t ht hW => ⟨⟨_, (), rfl, Option.some.inj hf, ht⟩, hS.F ht⟩) hS.2.2 dX0_countLive_28
      · have hf := it_n hc hf
        refine lv_aload_n hx hb dX0_countLive_10 rfl (lv_at hl 0 rfl) ?_
        refine lv_iload_n hx hb dX0_countLive_11 rfl (lv_at hl 2 rfl) ?_
        obtain ⟨r2, hr2, hf⟩ := cl1_sp hf
        refine ro_V (As := [.int x2]) ⟨hx, hb, hml, hown, hts⟩ (kX0_isLive l dC dI cy _ a0 a0_offset a0_gain a0_dark a0_bright f0_offset f0_gain f0_dark f0_bright x2 r2 hr2) (cwV 1 hts gX0_countLive_X0_isLive rfl rfl rfl (by decide +kernel) ⟨Nat.le_of_ble_eq_true rfl, Nat.le_of_ble_eq_true rfl⟩) (va_recv hK hP (ci := 0) (q0 := 0) rfl rfl) (hP.sub [0, 1, 2, 3, 4] rfl) hK hS rfl hl.1 rfl (Nat.le_of_ble_eq_true rfl) dX0_countLive_12 (Nat.zero_le _) (Nat.zero_le _) (fun locs hS => ?_)
        refine lv_if_eq (tgt := 21) hx hb dX0_countLive_15 (by decide) (fun hc => ?_) (fun hc => ?_)
        · have hf := it_p hc hf
          refine lv_iinc (v := x2 + (1 : Int32)) (lv' := [(2, .int (x2 + (1 : Int32))), (0, .ref a0), (1, .int x1)]) hx hb dX0_countLive_21 hl (k := 2) rfl rfl (by decide) rfl (fun ls hl => ?_)
          refine lv_goto (tgt := 4) hx hb dX0_countLive_24 (by decide) ?_
          exact ih4 x1 (x2 + (1 : Int32)) hf _ _ hS (lv_sub hl [1, 2, 0] rfl)
        · have hf := it_n hc hf
          refine lv_iinc (v := x1 + (1 : Int32)) (lv' := [(1, .int (x1 + (1 : Int32))), (0, .ref a0), (2, .int x2)]) hx hb dX0_countLive_18 hl (k := 1) rfl rfl (by decide) rfl (fun ls hl => ?_)
          refine lv_iinc (v := x2 + (1 : Int32)) (lv' := [(2, .int (x2 + (1 : Int32))), (1, .int (x1 + (1 : Int32))), (0, .ref a0)]) hx hb dX0_countLive_21 hl (k := 2) rfl rfl (by decide) rfl (fun ls hl => ?_)
          refine lv_goto (tgt := 4) hx hb dX0_countLive_24 (by decide) ?_
          exact ih4 (x1 + (1 : Int32)) (x2 + (1 : Int32)) hf _ _ hS (lv_sub hl [2, 1, 0] rfl)
  have hl := lv_entry ([.ref a0]) (n := 3) (Nat.le_of_ble_eq_true rfl)
  rw [lg_entry_eq]
  generalize (lg_sl ([.ref a0]) ++ List.replicate (3 - (lg_sl ([.ref a0])).length) Slot.unset).toArray = ls at hl ⊢
  have hl : lv_has ls 3 [(0, .ref a0)] := hl
  unfold fX0_countLive at hf
  refine lv_iconst (v := (0 : Int32)) hx hb dX0_countLive_0 (by decide) ?_
  refine lv_istore_n (lv' := [(1, .int (0 : Int32)), (0, .ref a0)]) hx hb dX0_countLive_1 rfl hl (by decide) rfl (fun ls hl => ?_)
  refine lv_iconst (v := (0 : Int32)) hx hb dX0_countLive_2 (by decide) ?_
  refine lv_istore_n (lv' := [(2, .int (0 : Int32)), (1, .int (0 : Int32)), (0, .ref a0)]) hx hb dX0_countLive_3 rfl hl (by decide) rfl (fun ls hl => ?_)
  exact hb_4 300 (0 : Int32) (0 : Int32) hf _ _ hS (lv_sub hl [2, 1, 0] rfl)
set_option maxHeartbeats 4000000 in
set_option maxRecDepth 100000 in
theorem kX0_evenOf (l : Launch) (dC : Nat → ClassId) (dI : Nat → Nat → Nat) (cy : ClassId) (H : Heap) (a0 a0_offset a0_gain a0_dark a0_bright : Nat) (f0_offset : Nat → Int32) (f0_gain : Nat → Int32) (f0_dark : Nat → Int32) (f0_bright : Nat → Int32) (p1 : Int32) (p2 : Int32) (r : Int32) (hf : fX0_evenOf f0_dark f0_bright p1 p2 = some r) : Met l yX0_evenOf wsX0_evenOf ({ frames := 2, cells := 0, slots := 0, locals := 33 }) (roP [.ref a0, .int p1, .int p2] (dC, dI) vwCl (WX0 cy a0 a0_offset a0_gain a0_dark a0_bright f0_offset f0_gain f0_dark f0_bright) [(cy, .int)] H) (roQi r H) 0 0 (fun _ => False) := by
  refine Met.ofW (cc := cX0_evenOf) (maxL := 3) (ret := (some .int)) (by decide) rfl ?_
  intro p e s m args below meth c s₁ B hml hv
  obtain ⟨rfl, hH, hP, hK⟩ := hv
  have hx := B.exec
  have hb := B.bytes
  have hr := B.returns
  have hts := atoms_spec (ws := wsX0_evenOf) B.pre
  have hown : s.vm.findClass RX0 = some m.cls := findClass_of_methodNamed B.named
  have hlocks := B.notSynchronized
  have hiX0 : ∀ w ∈ u_ws RX0 TX0 4, w ∈ wsX0_evenOf := fun _ h => List.mem_cons_of_mem _ ((List.mem_append_right _ h))
  subst hH
  have hS : va_S (fun _ => False) s.heap s.heap [] := va_S.rf
  have hl := lv_entry ([.ref a0, .int p1, .int p2]) (n := 3) (Nat.le_of_ble_eq_true rfl)
  rw [lg_entry_eq]
  generalize (lg_sl ([.ref a0, .int p1, .int p2]) ++ List.replicate (3 - (lg_sl ([.ref a0, .int p1, .int p2])).length) Slot.unset).toArray = ls at hl ⊢
  have hl : lv_has ls 3 [(0, .ref a0), (1, .int p1), (2, .int p2)] := hl
  unfold fX0_evenOf at hf
  refine lv_iload_n hx hb dX0_evenOf_0 rfl (lv_at hl 2 rfl) ?_
  refine lv_aload_n hx hb dX0_evenOf_1 rfl (lv_at hl 0 rfl) ?_
  refine va_get (D := (dC, dI)) (ci := 0) (v := .ref a0_dark) (C := RX0) (T := TX0) (N := 4) hx hb hts hiX0 hown hK hP 0 rfl rfl 2 (by decide) (hts (.fieldLink RX0 18 "PageLines$Cells" "dark" "[I") (List.mem_of_getElem? (i := 1) rfl)) (fun _ h9 => h9) rfl dX0_evenOf_2 ?_
  refine lv_iload_n hx hb dX0_evenOf_5 rfl (lv_at hl 1 rfl) ?_
  obtain ⟨hi_1, hf⟩ := ckI_sp hf
  refine va_iald hx hb hK hP 3 0 rfl rfl hi_1 dX0_evenOf_6 ?_
  refine lv_icmp_ge (tgt := 12) hx hb dX0_evenOf_7 (by decide) (fun hc => ?_) (fun hc => ?_)
  · have hf := it_p hc hf
    refine lv_sipush (v := (255 : Int32)) hx hb dX0_evenOf_12 (by decide) ?_
    refine lv_iload_n hx hb dX0_evenOf_15 rfl (lv_at hl 2 rfl) ?_
    refine lv_aload_n hx hb dX0_evenOf_16 rfl (lv_at hl 0 rfl) ?_
    refine va_get (D := (dC, dI)) (ci := 0) (v := .ref a0_dark) (C := RX0) (T := TX0) (N := 4) hx hb hts hiX0 hown hK hP 0 rfl rfl 2 (by decide) (hts (.fieldLink RX0 18 "PageLines$Cells" "dark" "[I") (List.mem_of_getElem? (i := 1) rfl)) (fun _ h9 => h9) rfl dX0_evenOf_17 ?_
    refine lv_iload_n hx hb dX0_evenOf_20 rfl (lv_at hl 1 rfl) ?_
    obtain ⟨hi_2, hf⟩ := ckI_sp hf
    refine va_iald hx hb hK hP 3 0 rfl rfl hi_2 dX0_evenOf_21 ?_
    refine lv_isub hx hb dX0_evenOf_22 ?_
    refine lv_imul hx hb dX0_evenOf_23 ?_
    refine lv_aload_n hx hb dX0_evenOf_24 rfl (lv_at hl 0 rfl) ?_
    refine va_get (D := (dC, dI)) (ci := 0) (v := .ref a0_bright) (C := RX0) (T := TX0) (N := 4) hx hb hts hiX0 hown hK hP 0 rfl rfl 3 (by decide) (hts (.fieldLink RX0 21 "PageLines$Cells" "bright" "[I") (List.mem_of_getElem? (i := 2) rfl)) (fun _ h9 => h9) rfl dX0_evenOf_25 ?_
    refine lv_iload_n hx hb dX0_evenOf_28 rfl (lv_at hl 1 rfl) ?_
    obtain ⟨hi_3, hf⟩ := ckI_sp hf
    refine va_iald hx hb hK hP 4 0 rfl rfl hi_3 dX0_evenOf_29 ?_
    refine lv_aload_n hx hb dX0_evenOf_30 rfl (lv_at hl 0 rfl) ?_
    refine va_get (D := (dC, dI)) (ci := 0) (v := .ref a0_dark) (C := RX0) (T := TX0) (N := 4) hx hb hts hiX0 hown hK hP 0 rfl rfl 2 (by decide) (hts (.fieldLink RX0 18 "PageLines$Cells" "dark" "[I") (List.mem_of_getElem? (i := 1) rfl)) (fun _ h9 => h9) rfl dX0_evenOf_31 ?_
    refine lv_iload_n hx hb dX0_evenOf_34 rfl (lv_at hl 1 rfl) ?_
    obtain ⟨hi_4, hf⟩ := ckI_sp hf
    refine va_iald hx hb hK hP 3 0 rfl rfl hi_4 dX0_evenOf_35 ?_
    refine lv_isub hx hb dX0_evenOf_36 ?_
    obtain ⟨r5, hr5, hf⟩ := cl1_sp hf
    refine ro_S (As := [.int ((255 : Int32) * (p2 - (f0_dark p1.toNatClampNeg))), .int ((f0_bright p1.toNatClampNeg) - (f0_dark p1.toNatClampNeg))]) ⟨hx, hb, hml, hown, hts⟩ (kX2_rounded l _ ((255 : Int32) * (p2 - (f0_dark p1.toNatClampNeg))) ((f0_bright p1.toNatClampNeg) - (f0_dark p1.toNatClampNeg)) r5 hr5) (va_cwS 2 hts gX0_evenOf_X2_rounded rfl rfl rfl (by decide +kernel) ⟨Nat.le_of_ble_eq_true rfl, Nat.le_of_ble_eq_true rfl⟩) hS rfl hl.1 rfl (Nat.le_of_ble_eq_true rfl) dX0_evenOf_37 (Nat.zero_le _) (Nat.zero_le _) (fun locs hS => ?_)
    obtain ⟨r6, hr6, hf⟩ := cl1_sp hf
    refine ro_S (As := [.int r5]) ⟨hx, hb, hml, hown, hts⟩ (kX2_atMostTop l _ r5 r6 hr6) (va_cwS 1 hts gX0_evenOf_X2_atMostTop rfl rfl rfl (by decide +kernel) ⟨Nat.le_of_ble_eq_true rfl, Nat.le_of_ble_eq_true rfl⟩) hS rfl hl.1 rfl (Nat.le_of_ble_eq_true rfl) dX0_evenOf_40 (Nat.zero_le _) (Nat.zero_le _) (fun locs hS => ?_)
    exact W.iret (v := r6) hx hb hr (fun t ht hW => ⟨⟨_, (), rfl, Option.some.inj hf, ht⟩, hS.F ht⟩) hS.2.2 dX0_evenOf_43
  · have hf := it_n hc hf
    refine lv_iconst (v := (0 : Int32)) hx hb dX0_evenOf_10 (by decide) ?_
    exact W.iret (v := (0 : Int32)) hx hb hr (fun t ht hW => ⟨⟨_, (), rfl, Option.some.inj hf, ht⟩, hS.F ht⟩) hS.2.2 dX0_evenOf_11
set_option maxHeartbeats 4000000 in
set_option maxRecDepth 100000 in
theorem kX0_nearestLive (l : Launch) (dC : Nat → ClassId) (dI : Nat → Nat → Nat) (cy : ClassId) (H : Heap) (a0 a0_offset a0_gain a0_dark a0_bright : Nat) (f0_offset : Nat → Int32) (f0_gain : Nat → Int32) (f0_dark : Nat → Int32) (f0_bright : Nat → Int32) (p1 : Int32) (p2 : Int32) (p3 : Int32) (r : Int32) (hf : fX0_nearestLive f0_dark f0_bright p1 p2 p3 = some r) : Met l yX0_nearestLive wsX0_nearestLive ({ frames := 1, cells := 0, slots := 0, locals := 21 }) (roP [.ref a0, .int p1, .int p2, .int p3] (dC, dI) vwCl (WX0 cy a0 a0_offset a0_gain a0_dark a0_bright f0_offset f0_gain f0_dark f0_bright) [(cy, .int)] H) (roQi r H) 0 0 (fun _ => False) := by
  refine Met.ofW (cc := cX0_nearestLive) (maxL := 6) (ret := (some .int)) (by decide) rfl ?_
  intro p e s m args below meth c s₁ B hml hv
  obtain ⟨rfl, hH, hP, hK⟩ := hv
  have hx := B.exec
  have hb := B.bytes
  have hr := B.returns
  have hts := atoms_spec (ws := wsX0_nearestLive) B.pre
  have hown : s.vm.findClass RX0 = some m.cls := findClass_of_methodNamed B.named
  have hlocks := B.notSynchronized
  have hiX0 : ∀ w ∈ u_ws RX0 TX0 4, w ∈ wsX0_nearestLive := fun _ h => List.mem_cons_of_mem _ ((List.mem_append_right _ h))
  subst hH
  have hS : va_S (fun _ => False) s.heap s.heap [] := va_S.rf
  have hb_6 : ∀ (n : Nat) (x1 : Int32) (x3 : Int32) (x4 : Int32) (x5 : Int32), bX0_nearestLive_6 f0_dark f0_bright n x1 x3 x4 x5 = some r → ∀ (locs : List Loc) (ls : Array Slot), va_S (fun _ => False) s.heap s.heap locs → lv_has ls 6 [(0, .ref a0), (1, .int x1), (3, .int x3), (4, .int x4), (5, .int x5)] → W p l e (headSpec wsX0_nearestLive ({ frames := 1, cells := 0, slots := 0, locals := 21 })).room s m ([.ref a0, .int p1, .int p2, .int p3] : List Value).toArray below meth c s.heap locs 0 0 (MQ below (roQi r s.heap) ([.ref a0, .int p1, .int p2, .int p3] : List Value).toArray s 0 0 (fun _ => False)) (F0 m 6 ls []) := by
    intro n
    induction n with
    | zero => intro x1 x3 x4 x5 hf; rw [bX0_nearestLive_6] at hf; cases hf
    | succ n6 ih6 =>
      intro x1 x3 x4 x5 hf locs ls hS hl
      rw [bX0_nearestLive_6] at hf
      refine lv_iload hx hb dX0_nearestLive_6 (lv_at hl 4 rfl) ?_
      refine lv_bipush (v := (12 : Int32)) hx hb dX0_nearestLive_8 (by decide) ?_
      refine lv_icmp_ge (tgt := 53) hx hb dX0_nearestLive_10 (by decide) (fun hc => ?_) (fun hc => ?_)
      · have hf := it_p hc hf
        refine lv_bipush (v := (-9 : Int32)) hx hb dX0_nearestLive_53 (by decide) ?_
        exact W.iret (v := (-9 : Int32)) hx hb hr (fun t ht hW => ⟨⟨_, (), rfl, Option.some.inj hf, ht⟩, hS.F ht⟩) hS.2.2 dX0_nearestLive_55
      · have hf := it_n hc hf
        refine lv_iload hx hb dX0_nearestLive_13 (lv_at hl 3 rfl) ?_
        refine lv_if_lt (tgt := 53) hx hb dX0_nearestLive_15 (by decide) (fun hc => ?_) (fun hc => ?_)
        · have hf := it_p hc hf
          refine lv_bipush (v := (-9 : Int32)) hx hb dX0_nearestLive_53 (by decide) ?_
          exact W.iret (v := (-9 : Int32)) hx hb hr (fun t ht hW => ⟨⟨_, (), rfl, Option.some.inj hf, ht⟩, hS.F ht⟩) hS.2.2 dX0_nearestLive_55
        · have hf := it_n hc hf
          refine lv_iload hx hb dX0_nearestLive_18 (lv_at hl 3 rfl) ?_
          refine lv_bipush (v := (12 : Int32)) hx hb dX0_nearestLive_20 (by decide) ?_
          refine lv_icmp_ge (tgt := 53) hx hb dX0_nearestLive_22 (by decide) (fun hc => ?_) (fun hc => ?_)
          · have hf := it_p hc hf
            refine lv_bipush (v := (-9 : Int32)) hx hb dX0_nearestLive_53 (by decide) ?_
            exact W.iret (v := (-9 : Int32)) hx hb hr (fun t ht hW => ⟨⟨_, (), rfl, Option.some.inj hf, ht⟩, hS.F ht⟩) hS.2.2 dX0_nearestLive_55
          · have hf := it_n hc hf
            refine lv_aload_n hx hb dX0_nearestLive_25 rfl (lv_at hl 0 rfl) ?_
            refine lv_iload_n hx hb dX0_nearestLive_26 rfl (lv_at hl 1 rfl) ?_
            refine lv_iload hx hb dX0_nearestLive_27 (lv_at hl 3 rfl) ?_
            obtain ⟨r3, hr3, hf⟩ := cl1_sp hf
            refine ro_S (As := [.int x1, .int x4]) ⟨hx, hb, hml, hown, hts⟩ (kX0_place l _ x1 x4 r3 hr3) (va_cwS 2 hts gX0_nearestLive_X0_place rfl rfl rfl (by decide +kernel) ⟨Nat.le_of_ble_eq_true rfl, Nat.le_of_ble_eq_true rfl⟩) hS rfl hl.1 rfl (Nat.le_of_ble_eq_true rfl) dX0_nearestLive_29 (Nat.zero_le _) (Nat.zero_le _) (fun locs hS => ?_)
            obtain ⟨r4, hr4, hf⟩ := cl1_sp hf
            refine ro_V (As := [.int r3]) ⟨hx, hb, hml, hown, hts⟩ (kX0_isLive l dC dI cy _ a0 a0_offset a0_gain a0_dark a0_bright f0_offset f0_gain f0_dark f0_bright r3 r4 hr4) (cwV 1 hts gX0_nearestLive_X0_isLive rfl rfl rfl (by decide +kernel) ⟨Nat.le_of_ble_eq_true rfl, Nat.le_of_ble_eq_true rfl⟩) (va_recv hK hP (ci := 0) (q0 := 0) rfl rfl) (hP.sub [0, 1, 2, 3, 4] rfl) hK hS rfl hl.1 rfl (Nat.le_of_ble_eq_true rfl) dX0_nearestLive_32 (Nat.zero_le _) (Nat.zero_le _) (fun locs hS => ?_)
            refine lv_if_eq (tgt := 41) hx hb dX0_nearestLive_35 (by decide) (fun hc => ?_) (fun hc => ?_)
            · have hf := it_p hc hf
              refine lv_iload hx hb dX0_nearestLive_41 (lv_at hl 3 rfl) ?_
              refine lv_iload_n hx hb dX0_nearestLive_43 rfl (lv_at hl 2 rfl) ?_
              refine lv_iadd hx hb dX0_nearestLive_44 ?_
              refine lv_istore (lv' := [(4, .int (x4 + x3)), (0, .ref a0), (1, .int x1), (3, .int x3), (5, .int x5)]) hx hb dX0_nearestLive_45 hl (by decide) rfl (fun ls hl => ?_)
              refine lv_iinc (v := x5 + (1 : Int32)) (lv' := [(5, .int (x5 + (1 : Int32))), (4, .int (x4 + x3)), (0, .ref a0), (1, .int x1), (3, .int x3)]) hx hb dX0_nearestLive_47 hl (k := 4) rfl rfl (by decide) rfl (fun ls hl => ?_)
              refine lv_goto (tgt := 6) hx hb dX0_nearestLive_50 (by decide) ?_
              exact ih6 x1 x3 (x4 + x3) (x5 + (1 : Int32)) hf _ _ hS (lv_sub hl [2, 3, 4, 1, 0] rfl)
            · have hf := it_n hc hf
              refine lv_iload hx hb dX0_nearestLive_38 (lv_at hl 3 rfl) ?_
              exact W.iret (v := x4) hx hb hr (fun t ht hW => ⟨⟨_, (), rfl, Option.some.inj hf, ht⟩, hS.F ht⟩) hS.2.2 dX0_nearestLive_40
  have hl := lv_entry ([.ref a0, .int p1, .int p2, .int p3]) (n := 6) (Nat.le_of_ble_eq_true rfl)
  rw [lg_entry_eq]
  generalize (lg_sl ([.ref a0, .int p1, .int p2, .int p3]) ++ List.replicate (6 - (lg_sl ([.ref a0, .int p1, .int p2, .int p3])).length) Slot.unset).toArray = ls at hl ⊢
  have hl : lv_has ls 6 [(0, .ref a0), (1, .int p1), (2, .int p2), (3, .int p3)] := hl
  unfold fX0_nearestLive at hf
  refine lv_iload_n hx hb dX0_nearestLive_0 rfl (lv_at hl 2 rfl) ?_
  refine lv_istore (lv' := [(4, .int p2), (0, .ref a0), (1, .int p1), (2, .int p2), (3, .int p3)]) hx hb dX0_nearestLive_1 hl (by decide) rfl (fun ls hl => ?_)
  refine lv_iconst (v := (0 : Int32)) hx hb dX0_nearestLive_3 (by decide) ?_
  refine lv_istore (lv' := [(5, .int (0 : Int32)), (4, .int p2), (0, .ref a0), (1, .int p1), (2, .int p2), (3, .int p3)]) hx hb dX0_nearestLive_4 hl (by decide) rfl (fun ls hl => ?_)
  exact hb_6 300 p1 p3 p2 (0 : Int32) hf _ _ hS (lv_sub hl [2, 3, 5, 1, 0] rfl)

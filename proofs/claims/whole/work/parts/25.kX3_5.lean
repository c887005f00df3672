set_option maxHeartbeats 4000000 in
set_option maxRecDepth 100000 in
theorem kX3_lay (l : Launch) (dC : Nat → ClassId) (dI : Nat → Nat → Nat) (cy : ClassId) (sz : Nat) (a3 a3_firstRow a3_lastRow a3_firstColumn a3_lastColumn a3_slants a3_tints a3_specks : Nat) (v3_ground : Int32) (v3_patches : Int32) (f3_firstRow : Nat → Int32) (f3_lastRow : Nat → Int32) (f3_firstColumn : Nat → Int32) (f3_lastColumn : Nat → Int32) (f3_slants : Nat → Int32) (f3_tints : Nat → Int32) (f3_specks : Nat → Int32) (p1 : Int32) (p2 : Int32) (p3 : Int32) (p4 : Int32) (p5 : Int32) (r : Int32) (o_v3_patches : Int32) (o_f3_firstRow : Nat → Int32) (o_f3_lastRow : Nat → Int32) (o_f3_firstColumn : Nat → Int32) (o_f3_lastColumn : Nat → Int32) (o_f3_slants : Nat → Int32) (o_f3_tints : Nat → Int32) (hf : fX3_lay v3_patches f3_firstRow f3_lastRow f3_firstColumn f3_lastColumn f3_slants f3_tints p1 p2 p3 p4 p5 = some (r, o_v3_patches, o_f3_firstRow, o_f3_lastRow, o_f3_firstColumn, o_f3_lastColumn, o_f3_slants, o_f3_tints)) : Met l yX3_lay wsX3_lay ({ frames := 0, cells := 0, slots := 0, locals := 0 }) (rwP [.ref a3, .int p1, .int p2, .int p3, .int p4, .int p5] (dC, dI) vwCl (WX3 cy a3 a3_firstRow a3_lastRow a3_firstColumn a3_lastColumn a3_slants a3_tints a3_specks v3_ground v3_patches f3_firstRow f3_lastRow f3_firstColumn f3_lastColumn f3_slants f3_tints f3_specks) [(cy, .int)] sz) (rwQi r (dC, dI) vwCl (WX3 cy a3 a3_firstRow a3_lastRow a3_firstColumn a3_lastColumn a3_slants a3_tints a3_specks v3_ground o_v3_patches o_f3_firstRow o_f3_lastRow o_f3_firstColumn o_f3_lastColumn o_f3_slants o_f3_tints f3_specks) (va_A (WX3 cy a3 a3_firstRow a3_lastRow a3_firstColumn a3_lastColumn a3_slants a3_tints a3_specks v3_ground v3_patches f3_firstRow f3_lastRow f3_firstColumn f3_lastColumn f3_slants f3_tints f3_specks) sz)) 0 0 (va_A (WX3 cy a3 a3_firstRow a3_lastRow a3_firstColumn a3_lastColumn a3_slants a3_tints a3_specks v3_ground v3_patches f3_firstRow f3_lastRow f3_firstColumn f3_lastColumn f3_slants f3_tints f3_specks) sz) := by
  refine Met.ofW (cc := cX3_lay) (maxL := 8) (ret := (some .int)) (by decide) rfl ?_
  intro p e s m args below meth c s₁ B hml hv
  obtain ⟨rfl, hsz, hP, hK, hD0⟩ := hv
  have hx := B.exec
  have hb := B.bytes
  have hr := B.returns
  have hts := atoms_spec (ws := wsX3_lay) B.pre
  have hown : s.vm.findClass RX3 = some m.cls := findClass_of_methodNamed B.named
  have hlocks := B.notSynchronized
  have hiX3 : ∀ w ∈ u_ws RX3 TX3 9, w ∈ wsX3_lay := fun _ h => List.mem_cons_of_mem _ ((List.mem_append_right _ h))
  subst hsz
  have hD := hD0.self (sz := s.heap.size)
  generalize hAe : va_A (WX3 cy a3 a3_firstRow a3_lastRow a3_firstColumn a3_lastColumn a3_slants a3_tints a3_specks v3_ground v3_patches f3_firstRow f3_lastRow f3_firstColumn f3_lastColumn f3_slants f3_tints f3_specks) s.heap.size = A0 at hD ⊢
  have hA : ∀ q : Nat, s.heap.size ≤ q → A0 q := fun q h => by rw [← hAe]; exact Or.inr h
  have hS : va_S A0 s.heap s.heap [] := va_S.rf
  have hb_86 : ∀  (v3_patches : Int32) (f3_firstRow : Nat → Int32) (f3_lastRow : Nat → Int32) (f3_firstColumn : Nat → Int32) (f3_lastColumn : Nat → Int32) (f3_slants : Nat → Int32) (f3_tints : Nat → Int32) (x6 : Int32), bX3_lay_86 v3_patches f3_firstRow f3_lastRow f3_firstColumn f3_lastColumn f3_slants f3_tints x6 = some (r, o_v3_patches, o_f3_firstRow, o_f3_lastRow, o_f3_firstColumn, o_f3_lastColumn, o_f3_slants, o_f3_tints) → ∀ (H : Heap) (locs : List Loc) (ls : Array Slot), va_P (dC, dI) vwCl (WX3 cy a3 a3_firstRow a3_lastRow a3_firstColumn a3_lastColumn a3_slants a3_tints a3_specks v3_ground v3_patches f3_firstRow f3_lastRow f3_firstColumn f3_lastColumn f3_slants f3_tints f3_specks) H → va_D A0 (WX3 cy a3 a3_firstRow a3_lastRow a3_firstColumn a3_lastColumn a3_slants a3_tints a3_specks v3_ground v3_patches f3_firstRow f3_lastRow f3_firstColumn f3_lastColumn f3_slants f3_tints f3_specks) → va_S A0 s.heap H locs → lv_has ls 8 [(0, .ref a3), (6, .int x6)] → W p l e (headSpec wsX3_lay ({ frames := 0, cells := 0, slots := 0, locals := 0 })).room s m ([.ref a3, .int p1, .int p2, .int p3, .int p4, .int p5] : List Value).toArray below meth c H locs 0 0 (MQ below (rwQi r (dC, dI) vwCl (WX3 cy a3 a3_firstRow a3_lastRow a3_firstColumn a3_lastColumn a3_slants a3_tints a3_specks v3_ground o_v3_patches o_f3_firstRow o_f3_lastRow o_f3_firstColumn o_f3_lastColumn o_f3_slants o_f3_tints f3_specks) A0) ([.ref a3, .int p1, .int p2, .int p3, .int p4, .int p5] : List Value).toArray s 0 0 A0) (F0 m 86 ls []) := by
    intro v3_patches f3_firstRow f3_lastRow f3_firstColumn f3_lastColumn f3_slants f3_tints x6 hf H locs ls hP hD hS hl
    unfold bX3_lay_86 at hf
    refine lv_aload_n hx hb dX3_lay_86 rfl (lv_at hl 0 rfl) ?_
    refine lv_dup hx hb dX3_lay_87 rfl ?_
    refine va_get (D := (dC, dI)) (ci := 2) (v := .int v3_patches) (C := RX3) (T := TX3) (N := 9) hx hb hts hiX3 hown hK hP 0 rfl rfl 1 (by decide) (hts (.fieldLink RX3 37 "PageLines$Page" "patches" "I") (List.mem_of_getElem? (i := 1) rfl)) (fun _ h9 => h9) rfl dX3_lay_88 ?_
    refine lv_iconst (v := (1 : Int32)) hx hb dX3_lay_91 (by decide) ?_
    refine lv_iadd hx hb dX3_lay_92 ?_
    refine va_put (D := (dC, dI)) (ci := 2) (v := .int (v3_patches + (1 : Int32))) (ty := .int) (C := RX3) (T := TX3) (N := 9) hx hb hts hiX3 tyX3 tyX3_ok nmX3 hown hK hP hD hS 0 rfl rfl 1 (by decide) (hts (.fieldLink RX3 37 "PageLines$Page" "patches" "I") (List.mem_of_getElem? (i := 1) rfl)) (fun _ h9 => h9) rfl (by decide +kernel) rfl rfl (Nat.le_of_ble_eq_true rfl) dX3_lay_93 (fun H locs hP hD hS => ?_)
    have hP : va_P (dC, dI) vwCl (WX3 cy a3 a3_firstRow a3_lastRow a3_firstColumn a3_lastColumn a3_slants a3_tints a3_specks v3_ground (v3_patches + (1 : Int32)) f3_firstRow f3_lastRow f3_firstColumn f3_lastColumn f3_slants f3_tints f3_specks) H := hP
    have hD : va_D A0 (WX3 cy a3 a3_firstRow a3_lastRow a3_firstColumn a3_lastColumn a3_slants a3_tints a3_specks v3_ground (v3_patches + (1 : Int32)) f3_firstRow f3_lastRow f3_firstColumn f3_lastColumn f3_slants f3_tints f3_specks) := hD
    refine lv_iload hx hb dX3_lay_96 (lv_at hl 1 rfl) ?_
    cases hf
    exact W.iret hx hb hr (fun t ht hW => ⟨⟨_, (), rfl, rfl, by rw [ht]; exact hP, hD⟩, hS.F ht⟩) hS.2.2 dX3_lay_98
  have hb_61 : ∀ (n : Nat) (v3_patches : Int32) (f3_firstRow : Nat → Int32) (f3_lastRow : Nat → Int32) (f3_firstColumn : Nat → Int32) (f3_lastColumn : Nat → Int32) (f3_slants : Nat → Int32) (f3_tints : Nat → Int32) (x6 : Int32) (x7 : Int32), bX3_lay_61 n v3_patches f3_firstRow f3_lastRow f3_firstColumn f3_lastColumn f3_slants f3_tints x6 x7 = some (r, o_v3_patches, o_f3_firstRow, o_f3_lastRow, o_f3_firstColumn, o_f3_lastColumn, o_f3_slants, o_f3_tints) → ∀ (H : Heap) (locs : List Loc) (ls : Array Slot), va_P (dC, dI) vwCl (WX3 cy a3 a3_firstRow a3_lastRow a3_firstColumn a3_lastColumn a3_slants a3_tints a3_specks v3_ground v3_patches f3_firstRow f3_lastRow f3_firstColumn f3_lastColumn f3_slants f3_tints f3_specks) H → va_D A0 (WX3 cy a3 a3_firstRow a3_lastRow a3_firstColumn a3_lastColumn a3_slants a3_tints a3_specks v3_ground v3_patches f3_firstRow f3_lastRow f3_firstColumn f3_lastColumn f3_slants f3_tints f3_specks) → va_S A0 s.heap H locs → lv_has ls 8 [(0, .ref a3), (6, .int x6), (7, .int x7)] → W p l e (headSpec wsX3_lay ({ frames := 0, cells := 0, slots := 0, locals := 0 })).room s m ([.ref a3, .int p1, .int p2, .int p3, .int p4, .int p5] : List Value).toArray below meth c H locs 0 0 (MQ below (rwQi r (dC, dI) vwCl (WX3 cy a3 a3_firstRow a3_lastRow a3_firstColumn a3_lastColumn a3_slants a3_tints a3_specks v3_ground o_v3_patches o_f3_firstRow o_f3_lastRow o_f3_firstColumn o_f3_lastColumn o_f3_slants o_f3_tints f3_specks) A0) ([.ref a3, .int p1, .int p2, .int p3, .int p4, .int p5] : List Value).toArray s 0 0 A0) (F0 m 61 ls []) := by
    intro n
    induction n with
    | zero => intro v3_patches f3_firstRow f3_lastRow f3_firstColumn f3_lastColumn f3_slants f3_tints x6 x7 hf; rw [bX3_lay_61] at hf; cases hf
    | succ n61 ih61 =>
      intro v3_patches f3_firstRow f3_lastRow f3_firstColumn f3_lastColumn f3_slants f3_tints x6 x7 hf H locs ls hP hD hS hl
      rw [bX3_lay_61] at hf
      refine lv_iload hx hb dX3_lay_61 (lv_at hl 2 rfl) ?_
      refine lv_iconst (v := (3 : Int32)) hx hb dX3_lay_63 (by decide) ?_
      refine lv_icmp_ge (tgt := 86) hx hb dX3_lay_64 (by decide) (fun hc => ?_) (fun hc => ?_)
      · have hf := it_p hc hf
        exact hb_86 v3_patches f3_firstRow f3_lastRow f3_firstColumn f3_lastColumn f3_slants f3_tints x6 hf _ _ _ hP hD hS (lv_sub hl [0, 1] rfl)
      · have hf := it_n hc hf
        refine lv_aload_n hx hb dX3_lay_67 rfl (lv_at hl 0 rfl) ?_
        refine va_get (D := (dC, dI)) (ci := 2) (v := .ref a3_tints) (C := RX3) (T := TX3) (N := 9) hx hb hts hiX3 hown hK hP 0 rfl rfl 7 (by decide) (hts (.fieldLink RX3 31 "PageLines$Page" "tints" "[I") (List.mem_of_getElem? (i := 7) rfl)) (fun _ h9 => h9) rfl dX3_lay_68 ?_
        refine lv_iload hx hb dX3_lay_71 (lv_at hl 1 rfl) ?_
        refine lv_iconst (v := (3 : Int32)) hx hb dX3_lay_73 (by decide) ?_
        refine lv_imul hx hb dX3_lay_74 ?_
        refine lv_iload hx hb dX3_lay_75 (lv_at hl 2 rfl) ?_
        refine lv_iadd hx hb dX3_lay_77 ?_
        refine lv_iconst (v := (0 : Int32)) hx hb dX3_lay_78 (by decide) ?_
        obtain ⟨hi_7, hf⟩ := ckI_sp hf
        refine va_iast hx hb hK hP hD hS 6 0 rfl rfl hi_7 dX3_lay_79 (fun H locs hP hD hS => ?_)
        have hP : va_P (dC, dI) vwCl (WX3 cy a3 a3_firstRow a3_lastRow a3_firstColumn a3_lastColumn a3_slants a3_tints a3_specks v3_ground v3_patches f3_firstRow f3_lastRow f3_firstColumn f3_lastColumn f3_slants (upd f3_tints ((x6 * (3 : Int32)) + x7).toNatClampNeg (0 : Int32)) f3_specks) H := hP
        have hD : va_D A0 (WX3 cy a3 a3_firstRow a3_lastRow a3_firstColumn a3_lastColumn a3_slants a3_tints a3_specks v3_ground v3_patches f3_firstRow f3_lastRow f3_firstColumn f3_lastColumn f3_slants (upd f3_tints ((x6 * (3 : Int32)) + x7).toNatClampNeg (0 : Int32)) f3_specks) := hD
        refine lv_iinc (v := x7 + (1 : Int32)) (lv' := [(7, .int (x7 + (1 : Int32))), (0, .ref a3), (6, .int x6)]) hx hb dX3_lay_80 hl (k := 2) rfl rfl (by decide) rfl (fun ls hl => ?_)
        refine lv_goto (tgt := 61) hx hb dX3_lay_83 (by decide) ?_
        exact ih61 v3_patches f3_firstRow f3_lastRow f3_firstColumn f3_lastColumn f3_slants (upd f3_tints ((x6 * (3 : Int32)) + x7).toNatClampNeg (0 : Int32)) x6 (x7 + (1 : Int32)) hf _ _ _ hP hD hS (lv_sub hl [1, 2, 0] rfl)
  have hl := lv_entry ([.ref a3, .int p1, .int p2, .int p3, .int p4, .int p5]) (n := 8) (Nat.le_of_ble_eq_true rfl)
  rw [lg_entry_eq]
  generalize (lg_sl ([.ref a3, .int p1, .int p2, .int p3, .int p4, .int p5]) ++ List.replicate (8 - (lg_sl ([.ref a3, .int p1, .int p2, .int p3, .int p4, .int p5])).length) Slot.unset).toArray = ls at hl ⊢
  have hl : lv_has ls 8 [(0, .ref a3), (1, .int p1), (2, .int p2), (3, .int p3), (4, .int p4), (5, .int p5)] := hl
  unfold fX3_lay at hf
  refine lv_aload_n hx hb dX3_lay_0 rfl (lv_at hl 0 rfl) ?_
  refine va_get (D := (dC, dI)) (ci := 2) (v := .int v3_patches) (C := RX3) (T := TX3) (N := 9) hx hb hts hiX3 hown hK hP 0 rfl rfl 1 (by decide) (hts (.fieldLink RX3 37 "PageLines$Page" "patches" "I") (List.mem_of_getElem? (i := 1) rfl)) (fun _ h9 => h9) rfl dX3_lay_1 ?_
  refine lv_istore (lv' := [(6, .int v3_patches), (0, .ref a3), (1, .int p1), (2, .int p2), (3, .int p3), (4, .int p4), (5, .int p5)]) hx hb dX3_lay_4 hl (by decide) rfl (fun ls hl => ?_)
  refine lv_iload hx hb dX3_lay_6 (lv_at hl 0 rfl) ?_
  refine lv_bipush (v := (12 : Int32)) hx hb dX3_lay_8 (by decide) ?_
  refine lv_icmp_lt (tgt := 16) hx hb dX3_lay_10 (by decide) (fun hc => ?_) (fun hc => ?_)
  · have hf := it_p hc hf
    refine lv_aload_n hx hb dX3_lay_16 rfl (lv_at hl 1 rfl) ?_
    refine va_get (D := (dC, dI)) (ci := 2) (v := .ref a3_firstRow) (C := RX3) (T := TX3) (N := 9) hx hb hts hiX3 hown hK hP 0 rfl rfl 2 (by decide) (hts (.fieldLink RX3 15 "PageLines$Page" "firstRow" "[I") (List.mem_of_getElem? (i := 2) rfl)) (fun _ h9 => h9) rfl dX3_lay_17 ?_
    refine lv_iload hx hb dX3_lay_20 (lv_at hl 0 rfl) ?_
    refine lv_iload_n hx hb dX3_lay_22 rfl (lv_at hl 2 rfl) ?_
    obtain ⟨hi_1, hf⟩ := ckI_sp hf
    refine va_iast hx hb hK hP hD hS 1 0 rfl rfl hi_1 dX3_lay_23 (fun H locs hP hD hS => ?_)
    have hP : va_P (dC, dI) vwCl (WX3 cy a3 a3_firstRow a3_lastRow a3_firstColumn a3_lastColumn a3_slants a3_tints a3_specks v3_ground v3_patches (upd f3_firstRow v3_patches.toNatClampNeg p1) f3_lastRow f3_firstColumn f3_lastColumn f3_slants f3_tints f3_specks) H := hP
    have hD : va_D A0 (WX3 cy a3 a3_firstRow a3_lastRow a3_firstColumn a3_lastColumn a3_slants a3_tints a3_specks v3_ground v3_patches (upd f3_firstRow v3_patches.toNatClampNeg p1) f3_lastRow f3_firstColumn f3_lastColumn f3_slants f3_tints f3_specks) := hD
    refine lv_aload_n hx hb dX3_lay_24 rfl (lv_at hl 1 rfl) ?_
    refine va_get (D := (dC, dI)) (ci := 2) (v := .ref a3_lastRow) (C := RX3) (T := TX3) (N := 9) hx hb hts hiX3 hown hK hP 0 rfl rfl 3 (by decide) (hts (.fieldLink RX3 19 "PageLines$Page" "lastRow" "[I") (List.mem_of_getElem? (i := 3) rfl)) (fun _ h9 => h9) rfl dX3_lay_25 ?_
    refine lv_iload hx hb dX3_lay_28 (lv_at hl 0 rfl) ?_
    refine lv_iload_n hx hb dX3_lay_30 rfl (lv_at hl 3 rfl) ?_
    obtain ⟨hi_2, hf⟩ := ckI_sp hf
    refine va_iast hx hb hK hP hD hS 2 0 rfl rfl hi_2 dX3_lay_31 (fun H locs hP hD hS => ?_)
    have hP : va_P (dC, dI) vwCl (WX3 cy a3 a3_firstRow a3_lastRow a3_firstColumn a3_lastColumn a3_slants a3_tints a3_specks v3_ground v3_patches (upd f3_firstRow v3_patches.toNatClampNeg p1) (upd f3_lastRow v3_patches.toNatClampNeg p2) f3_firstColumn f3_lastColumn f3_slants f3_tints f3_specks) H := hP
    have hD : va_D A0 (WX3 cy a3 a3_firstRow a3_lastRow a3_firstColumn a3_lastColumn a3_slants a3_tints a3_specks v3_ground v3_patches (upd f3_firstRow v3_patches.toNatClampNeg p1) (upd f3_lastRow v3_patches.toNatClampNeg p2) f3_firstColumn f3_lastColumn f3_slants f3_tints f3_specks) := hD
    refine lv_aload_n hx hb dX3_lay_32 rfl (lv_at hl 1 rfl) ?_
    refine va_get (D := (dC, dI)) (ci := 2) (v := .ref a3_firstColumn) (C := RX3) (T := TX3) (N := 9) hx hb hts hiX3 hown hK hP 0 rfl rfl 4 (by decide) (hts (.fieldLink RX3 22 "PageLines$Page" "firstColumn" "[I") (List.mem_of_getElem? (i := 4) rfl)) (fun _ h9 => h9) rfl dX3_lay_33 ?_
    refine lv_iload hx hb dX3_lay_36 (lv_at hl 0 rfl) ?_
    refine lv_iload_n hx hb dX3_lay_38 rfl (lv_at hl 4 rfl) ?_
    obtain ⟨hi_3, hf⟩ := ckI_sp hf
    refine va_iast hx hb hK hP hD hS 3 0 rfl rfl hi_3 dX3_lay_39 (fun H locs hP hD hS => ?_)
    have hP : va_P (dC, dI) vwCl (WX3 cy a3 a3_firstRow a3_lastRow a3_firstColumn a3_lastColumn a3_slants a3_tints a3_specks v3_ground v3_patches (upd f3_firstRow v3_patches.toNatClampNeg p1) (upd f3_lastRow v3_patches.toNatClampNeg p2) (upd f3_firstColumn v3_patches.toNatClampNeg p3) f3_lastColumn f3_slants f3_tints f3_specks) H := hP
    have hD : va_D A0 (WX3 cy a3 a3_firstRow a3_lastRow a3_firstColumn a3_lastColumn a3_slants a3_tints a3_specks v3_ground v3_patches (upd f3_firstRow v3_patches.toNatClampNeg p1) (upd f3_lastRow v3_patches.toNatClampNeg p2) (upd f3_firstColumn v3_patches.toNatClampNeg p3) f3_lastColumn f3_slants f3_tints f3_specks) := hD
    refine lv_aload_n hx hb dX3_lay_40 rfl (lv_at hl 1 rfl) ?_
    refine va_get (D := (dC, dI)) (ci := 2) (v := .ref a3_lastColumn) (C := RX3) (T := TX3) (N := 9) hx hb hts hiX3 hown hK hP 0 rfl rfl 5 (by decide) (hts (.fieldLink RX3 25 "PageLines$Page" "lastColumn" "[I") (List.mem_of_getElem? (i := 5) rfl)) (fun _ h9 => h9) rfl dX3_lay_41 ?_
    refine lv_iload hx hb dX3_lay_44 (lv_at hl 0 rfl) ?_
    refine lv_iload hx hb dX3_lay_46 (lv_at hl 5 rfl) ?_
    obtain ⟨hi_4, hf⟩ := ckI_sp hf
    refine va_iast hx hb hK hP hD hS 4 0 rfl rfl hi_4 dX3_lay_48 (fun H locs hP hD hS => ?_)
    have hP : va_P (dC, dI) vwCl (WX3 cy a3 a3_firstRow a3_lastRow a3_firstColumn a3_lastColumn a3_slants a3_tints a3_specks v3_ground v3_patches (upd f3_firstRow v3_patches.toNatClampNeg p1) (upd f3_lastRow v3_patches.toNatClampNeg p2) (upd f3_firstColumn v3_patches.toNatClampNeg p3) (upd f3_lastColumn v3_patches.toNatClampNeg p4) f3_slants f3_tints f3_specks) H := hP
    have hD : va_D A0 (WX3 cy a3 a3_firstRow a3_lastRow a3_firstColumn a3_lastColumn a3_slants a3_tints a3_specks v3_ground v3_patches (upd f3_firstRow v3_patches.toNatClampNeg p1) (upd f3_lastRow v3_patches.toNatClampNeg p2) (upd f3_firstColumn v3_patches.toNatClampNeg p3) (upd f3_lastColumn v3_patches.toNatClampNeg p4) f3_slants f3_tints f3_specks) := hD
    refine lv_aload_n hx hb dX3_lay_49 rfl (lv_at hl 1 rfl) ?_
    refine va_get (D := (dC, dI)) (ci := 2) (v := .ref a3_slants) (C := RX3) (T := TX3) (N := 9) hx hb hts hiX3 hown hK hP 0 rfl rfl 6 (by decide) (hts (.fieldLink RX3 28 "PageLines$Page" "slants" "[I") (List.mem_of_getElem? (i := 6) rfl)) (fun _ h9 => h9) rfl dX3_lay_50 ?_
    refine lv_iload hx hb dX3_lay_53 (lv_at hl 0 rfl) ?_
    refine lv_iload hx hb dX3_lay_55 (lv_at hl 6 rfl) ?_
    obtain ⟨hi_5, hf⟩ := ckI_sp hf
    refine va_iast hx hb hK hP hD hS 5 0 rfl rfl hi_5 dX3_lay_57 (fun H locs hP hD hS => ?_)
    have hP : va_P (dC, dI) vwCl (WX3 cy a3 a3_firstRow a3_lastRow a3_firstColumn a3_lastColumn a3_slants a3_tints a3_specks v3_ground v3_patches (upd f3_firstRow v3_patches.toNatClampNeg p1) (upd f3_lastRow v3_patches.toNatClampNeg p2) (upd f3_firstColumn v3_patches.toNatClampNeg p3) (upd f3_lastColumn v3_patches.toNatClampNeg p4) (upd f3_slants v3_patches.toNatClampNeg p5) f3_tints f3_specks) H := hP
    have hD : va_D A0 (WX3 cy a3 a3_firstRow a3_lastRow a3_firstColumn a3_lastColumn a3_slants a3_tints a3_specks v3_ground v3_patches (upd f3_firstRow v3_patches.toNatClampNeg p1) (upd f3_lastRow v3_patches.toNatClampNeg p2) (upd f3_firstColumn v3_patches.toNatClampNeg p3) (upd f3_lastColumn v3_patches.toNatClampNeg p4) (upd f3_slants v3_patches.toNatClampNeg p5) f3_tints f3_specks) := hD
    refine lv_iconst (v := (0 : Int32)) hx hb dX3_lay_58 (by decide) ?_
    refine lv_istore (lv' := [(7, .int (0 : Int32)), (6, .int v3_patches), (0, .ref a3), (1, .int p1), (2, .int p2), (3, .int p3), (4, .int p4), (5, .int p5)]) hx hb dX3_lay_59 hl (by decide) rfl (fun ls hl => ?_)
    exact hb_61 300 v3_patches (upd f3_firstRow v3_patches.toNatClampNeg p1) (upd f3_lastRow v3_patches.toNatClampNeg p2) (upd f3_firstColumn v3_patches.toNatClampNeg p3) (upd f3_lastColumn v3_patches.toNatClampNeg p4) (upd f3_slants v3_patches.toNatClampNeg p5) f3_tints v3_patches (0 : Int32) hf _ _ _ hP hD hS (lv_sub hl [2, 1, 0] rfl)
  · have hf := it_n hc hf
    refine lv_bipush (v := (-4 : Int32)) hx hb dX3_lay_13 (by decide) ?_
    cases hf
    exact W.iret hx hb hr (fun t ht hW => ⟨⟨_, (), rfl, rfl, by rw [ht]; exact hP, hD⟩, hS.F ht⟩) hS.2.2 dX3_lay_15
set_option maxHeartbeats 4000000 in
set_option maxRecDepth 100000 in
theorem kX3_covers (l : Launch) (dC : Nat → ClassId) (dI : Nat → Nat → Nat) (cy : ClassId) (H : Heap) (a3 a3_firstRow a3_lastRow a3_firstColumn a3_lastColumn a3_slants a3_tints a3_specks : Nat) (v3_ground : Int32) (v3_patches : Int32) (f3_firstRow : Nat → Int32) (f3_lastRow : Nat → Int32) (f3_firstColumn : Nat → Int32) (f3_lastColumn : Nat → Int32) (f3_slants : Nat → Int32) (f3_tints : Nat → Int32) (f3_specks : Nat → Int32) (p1 : Int32) (p2 : Int32) (p3 : Int32) (r : Int32) (hf : fX3_covers f3_firstRow f3_lastRow f3_firstColumn f3_lastColumn f3_slants p1 p2 p3 = some r) : Met l yX3_covers wsX3_covers ({ frames := 0, cells := 0, slots := 0, locals := 0 }) (roP [.ref a3, .int p1, .int p2, .int p3] (dC, dI) vwCl (WX3 cy a3 a3_firstRow a3_lastRow a3_firstColumn a3_lastColumn a3_slants a3_tints a3_specks v3_ground v3_patches f3_firstRow f3_lastRow f3_firstColumn f3_lastColumn f3_slants f3_tints f3_specks) [(cy, .int)] H) (roQi r H) 0 0 (fun _ => False) := by
  refine Met.ofW (cc := cX3_covers) (maxL := 5) (ret := (some .boolean)) (by decide) rfl ?_
  intro p e s m args below meth c s₁ B hml hv
  obtain ⟨rfl, hH, hP, hK⟩ := hv
  have hx := B.exec
  have hb := B.bytes
  have hr := B.returns
  have hts := atoms_spec (ws := wsX3_covers) B.pre
  have hown : s.vm.findClass RX3 = some m.cls := findClass_of_methodNamed B.named
  have hlocks := B.notSynchronized
  have hiX3 : ∀ w ∈ u_ws RX3 TX3 9, w ∈ wsX3_covers := fun _ h => List.mem_cons_of_mem _ ((List.mem_append_right _ h))
  subst hH
  have hS : va_S (fun _ => False) s.heap s.heap [] := va_S.rf
  have hl := lv_entry ([.ref a3, .int p1, .int p2, .int p3]) (n := 5) (Nat.le_of_ble_eq_true rfl)
  rw [lg_entry_eq]
  generalize (lg_sl ([.ref a3, .int p1, .int p2, .int p3]) ++ List.replicate (5 - (lg_sl ([.ref a3, .int p1, .int p2, .int p3])).length) Slot.unset).toArray = ls at hl ⊢
  have hl : lv_has ls 5 [(0, .ref a3), (1, .int p1), (2, .int p2), (3, .int p3)] := hl
  unfold fX3_covers at hf
  refine lv_iload_n hx hb dX3_covers_0 rfl (lv_at hl 2 rfl) ?_
  refine lv_aload_n hx hb dX3_covers_1 rfl (lv_at hl 0 rfl) ?_
  refine va_get (D := (dC, dI)) (ci := 2) (v := .ref a3_firstRow) (C := RX3) (T := TX3) (N := 9) hx hb hts hiX3 hown hK hP 0 rfl rfl 2 (by decide) (hts (.fieldLink RX3 15 "PageLines$Page" "firstRow" "[I") (List.mem_of_getElem? (i := 1) rfl)) (fun _ h9 => h9) rfl dX3_covers_2 ?_
  refine lv_iload_n hx hb dX3_covers_5 rfl (lv_at hl 1 rfl) ?_
  obtain ⟨hi_1, hf⟩ := ckI_sp hf
  refine va_iald hx hb hK hP 1 0 rfl rfl hi_1 dX3_covers_6 ?_
  refine lv_icmp_lt (tgt := 20) hx hb dX3_covers_7 (by decide) (fun hc => ?_) (fun hc => ?_)
  · have hf := it_p hc hf
    refine lv_iconst (v := (0 : Int32)) hx hb dX3_covers_20 (by decide) ?_
    exact W.zret (v := (0 : Int32)) hx hb hr rfl (fun t ht hW => ⟨⟨_, (), rfl, Option.some.inj hf, ht⟩, hS.F ht⟩) hS.2.2 dX3_covers_21
  · have hf := it_n hc hf
    refine lv_iload_n hx hb dX3_covers_10 rfl (lv_at hl 2 rfl) ?_
    refine lv_aload_n hx hb dX3_covers_11 rfl (lv_at hl 0 rfl) ?_
    refine va_get (D := (dC, dI)) (ci := 2) (v := .ref a3_lastRow) (C := RX3) (T := TX3) (N := 9) hx hb hts hiX3 hown hK hP 0 rfl rfl 3 (by decide) (hts (.fieldLink RX3 19 "PageLines$Page" "lastRow" "[I") (List.mem_of_getElem? (i := 2) rfl)) (fun _ h9 => h9) rfl dX3_covers_12 ?_
    refine lv_iload_n hx hb dX3_covers_15 rfl (lv_at hl 1 rfl) ?_
    obtain ⟨hi_2, hf⟩ := ckI_sp hf
    refine va_iald hx hb hK hP 2 0 rfl rfl hi_2 dX3_covers_16 ?_
    refine lv_icmp_le (tgt := 22) hx hb dX3_covers_17 (by decide) (fun hc => ?_) (fun hc => ?_)
    · have hf := it_p hc hf
      refine lv_iload_n hx hb dX3_covers_22 rfl (lv_at hl 3 rfl) ?_
      refine lv_aload_n hx hb dX3_covers_23 rfl (lv_at hl 0 rfl) ?_
      refine va_get (D := (dC, dI)) (ci := 2) (v := .ref a3_slants) (C := RX3) (T := TX3) (N := 9) hx hb hts hiX3 hown hK hP 0 rfl rfl 6 (by decide) (hts (.fieldLink RX3 28 "PageLines$Page" "slants" "[I") (List.mem_of_getElem? (i := 3) rfl)) (fun _ h9 => h9) rfl dX3_covers_24 ?_
      refine lv_iload_n hx hb dX3_covers_27 rfl (lv_at hl 1 rfl) ?_
      obtain ⟨hi_3, hf⟩ := ckI_sp hf
      refine va_iald hx hb hK hP 5 0 rfl rfl hi_3 dX3_covers_28 ?_
      refine lv_iload_n hx hb dX3_covers_29 rfl (lv_at hl 2 rfl) ?_
      refine lv_aload_n hx hb dX3_covers_30 rfl (lv_at hl 0 rfl) ?_
      refine va_get (D := (dC, dI)) (ci := 2) (v := .ref a3_firstRow) (C := RX3) (T := TX3) (N := 9) hx hb hts hiX3 hown hK hP 0 rfl rfl 2 (by decide) (hts (.fieldLink RX3 15 "PageLines$Page" "firstRow" "[I") (List.mem_of_getElem? (i := 1) rfl)) (fun _ h9 => h9) rfl dX3_covers_31 ?_
      refine lv_iload_n hx hb dX3_covers_34 rfl (lv_at hl 1 rfl) ?_
      obtain ⟨hi_4, hf⟩ := ckI_sp hf
      refine va_iald hx hb hK hP 1 0 rfl rfl hi_4 dX3_covers_35 ?_
      refine lv_isub hx hb dX3_covers_36 ?_
      refine lv_imul hx hb dX3_covers_37 ?_
      refine lv_iconst (v := (3 : Int32)) hx hb dX3_covers_38 (by decide) ?_
      refine lv_ishr hx hb dX3_covers_39 ?_
      refine lv_isub hx hb dX3_covers_40 ?_
      refine lv_istore (lv' := [(4, .int (p3 - (((f3_slants p1.toNatClampNeg) * (p2 - (f3_firstRow p1.toNatClampNeg))) >>> ((3 : Int32) &&& 31)))), (0, .ref a3), (1, .int p1), (2, .int p2), (3, .int p3)]) hx hb dX3_covers_41 hl (by decide) rfl (fun ls hl => ?_)
      refine lv_iload hx hb dX3_covers_43 (lv_at hl 0 rfl) ?_
      refine lv_aload_n hx hb dX3_covers_45 rfl (lv_at hl 1 rfl) ?_
      refine va_get (D := (dC, dI)) (ci := 2) (v := .ref a3_firstColumn) (C := RX3) (T := TX3) (N := 9) hx hb hts hiX3 hown hK hP 0 rfl rfl 4 (by decide) (hts (.fieldLink RX3 22 "PageLines$Page" "firstColumn" "[I") (List.mem_of_getElem? (i := 4) rfl)) (fun _ h9 => h9) rfl dX3_covers_46 ?_
      refine lv_iload_n hx hb dX3_covers_49 rfl (lv_at hl 2 rfl) ?_
      obtain ⟨hi_5, hf⟩ := ckI_sp hf
      refine va_iald hx hb hK hP 3 0 rfl rfl hi_5 dX3_covers_50 ?_
      refine lv_icmp_lt (tgt := 69) hx hb dX3_covers_51 (by decide) (fun hc => ?_) (fun hc => ?_)
      · have hf := it_p hc hf
        refine lv_iconst (v := (0 : Int32)) hx hb dX3_covers_69 (by decide) ?_
        exact W.zret (v := (0 : Int32)) hx hb hr rfl (fun t ht hW => ⟨⟨_, (), rfl, Option.some.inj hf, ht⟩, hS.F ht⟩) hS.2.2 dX3_covers_70
      · have hf := it_n hc hf
        refine lv_iload hx hb dX3_covers_54 (lv_at hl 0 rfl) ?_
        refine lv_aload_n hx hb dX3_covers_56 rfl (lv_at hl 1 rfl) ?_
        refine va_get (D := (dC, dI)) (ci := 2) (v := .ref a3_lastColumn) (C := RX3) (T := TX3) (N := 9) hx hb hts hiX3 hown hK hP 0 rfl rfl 5 (by decide) (hts (.fieldLink RX3 25 "PageLines$Page" "lastColumn" "[I") (List.mem_of_getElem? (i := 5) rfl)) (fun _ h9 => h9) rfl dX3_covers_57 ?_
        refine lv_iload_n hx hb dX3_covers_60 rfl (lv_at hl 2 rfl) ?_
        obtain ⟨hi_6, hf⟩ := ckI_sp hf
        refine va_iald hx hb hK hP 4 0 rfl rfl hi_6 dX3_covers_61 ?_
        refine lv_icmp_gt (tgt := 69) hx hb dX3_covers_62 (by decide) (fun hc => ?_) (fun hc => ?_)
        · have hf := it_p hc hf
          refine lv_iconst (v := (0 : Int32)) hx hb dX3_covers_69 (by decide) ?_
          exact W.zret (v := (0 : Int32)) hx hb hr rfl (fun t ht hW => ⟨⟨_, (), rfl, Option.some.inj hf, ht⟩, hS.F ht⟩) hS.2.2 dX3_covers_70
        · have hf := it_n hc hf
          refine lv_iconst (v := (1 : Int32)) hx hb dX3_covers_65 (by decide) ?_
          refine lv_goto (tgt := 70) hx hb dX3_covers_66 (by decide) ?_
          exact W.zret (v := (1 : Int32)) hx hb hr rfl (fun t ht hW => ⟨⟨_, (), rfl, Option.some.inj hf, ht⟩, hS.F ht⟩) hS.2.2 dX3_covers_70
    · have hf := it_n hc hf
      refine lv_iconst (v := (0 : Int32)) hx hb dX3_covers_20 (by decide) ?_
      exact W.zret (v := (0 : Int32)) hx hb hr rfl (fun t ht hW => ⟨⟨_, (), rfl, Option.some.inj hf, ht⟩, hS.F ht⟩) hS.2.2 dX3_covers_21
set_option maxHeartbeats 4000000 in
set_option maxRecDepth 100000 in
theorem kX3_tintAt (l : Launch) (dC : Nat → ClassId) (dI : Nat → Nat → Nat) (cy : ClassId) (H : Heap) (a3 a3_firstRow a3_lastRow a3_firstColumn a3_lastColumn a3_slants a3_tints a3_specks : Nat) (v3_ground : Int32) (v3_patches : Int32) (f3_firstRow : Nat → Int32) (f3_lastRow : Nat → Int32) (f3_firstColumn : Nat → Int32) (f3_lastColumn : Nat → Int32) (f3_slants : Nat → Int32) (f3_tints : Nat → Int32) (f3_specks : Nat → Int32) (p1 : Int32) (p2 : Int32) (p3 : Int32) (r : Int32) (hf : fX3_tintAt v3_ground v3_patches f3_firstRow f3_lastRow f3_firstColumn f3_lastColumn f3_slants f3_tints p1 p2 p3 = some r) : Met l yX3_tintAt wsX3_tintAt ({ frames := 1, cells := 0, slots := 0, locals := 24 }) (roP [.ref a3, .int p1, .int p2, .int p3] (dC, dI) vwCl (WX3 cy a3 a3_firstRow a3_lastRow a3_firstColumn a3_lastColumn a3_slants a3_tints a3_specks v3_ground v3_patches f3_firstRow f3_lastRow f3_firstColumn f3_lastColumn f3_slants f3_tints f3_specks) [(cy, .int)] H) (roQi r H) 0 0 (fun _ => False) := by
  refine Met.ofW (cc := cX3_tintAt) (maxL := 5) (ret := (some .int)) (by decide) rfl ?_
  intro p e s m args below meth c s₁ B hml hv
  obtain ⟨rfl, hH, hP, hK⟩ := hv
  have hx := B.exec
  have hb := B.bytes
  have hr := B.returns
  have hts := atoms_spec (ws := wsX3_tintAt) B.pre
  have hown : s.vm.findClass RX3 = some m.cls := findClass_of_methodNamed B.named
  have hlocks := B.notSynchronized
  have hiX3 : ∀ w ∈ u_ws RX3 TX3 9, w ∈ wsX3_tintAt := fun _ h => List.mem_cons_of_mem _ ((List.mem_append_right _ h))
  subst hH
  have hS : va_S (fun _ => False) s.heap s.heap [] := va_S.rf
  have hb_24 : ∀  (x1 : Int32) (x4 : Int32), bX3_tintAt_24 f3_tints x1 x4 = some r → ∀ (locs : List Loc) (ls : Array Slot), va_S (fun _ => False) s.heap s.heap locs → lv_has ls 5 [(0, .ref a3), (1, .int x1), (4, .int x4)] → W p l e (headSpec wsX3_tintAt ({ frames := 1, cells := 0, slots := 0, locals := 24 })).room s m ([.ref a3, .int p1, .int p2, .int p3] : List Value).toArray below meth c s.heap locs 0 0 (MQ below (roQi r s.heap) ([.ref a3, .int p1, .int p2, .int p3] : List Value).toArray s 0 0 (fun _ => False)) (F0 m 24 ls []) := by
    intro x1 x4 hf locs ls hS hl
    unfold bX3_tintAt_24 at hf
    refine lv_aload_n hx hb dX3_tintAt_24 rfl (lv_at hl 0 rfl) ?_
    refine va_get (D := (dC, dI)) (ci := 2) (v := .ref a3_tints) (C := RX3) (T := TX3) (N := 9) hx hb hts hiX3 hown hK hP 0 rfl rfl 7 (by decide) (hts (.fieldLink RX3 31 "PageLines$Page" "tints" "[I") (List.mem_of_getElem? (i := 2) rfl)) (fun _ h9 => h9) rfl dX3_tintAt_25 ?_
    refine lv_iload hx hb dX3_tintAt_28 (lv_at hl 2 rfl) ?_
    refine lv_iconst (v := (3 : Int32)) hx hb dX3_tintAt_30 (by decide) ?_
    refine lv_imul hx hb dX3_tintAt_31 ?_
    refine lv_iload_n hx hb dX3_tintAt_32 rfl (lv_at hl 1 rfl) ?_
    refine lv_iadd hx hb dX3_tintAt_33 ?_
    obtain ⟨hi_3, hf⟩ := ckI_sp hf
    refine va_iald hx hb hK hP 6 0 rfl rfl hi_3 dX3_tintAt_34 ?_
    exact W.iret (v := f3_tints ((x4 * (3 : Int32)) + x1).toNatClampNeg) hx hb hr (fun t ht hW => ⟨⟨_, (), rfl, Option.some.inj hf, ht⟩, hS.F ht⟩) hS.2.2 dX3_tintAt_35
  have hb_8 : ∀ (n : Nat) (x1 : Int32) (x2 : Int32) (x3 : Int32) (x4 : Int32), bX3_tintAt_8 v3_ground f3_firstRow f3_lastRow f3_firstColumn f3_lastColumn f3_slants f3_tints n x1 x2 x3 x4 = some r → ∀ (locs : List Loc) (ls : Array Slot), va_S (fun _ => False) s.heap s.heap locs → lv_has ls 5 [(0, .ref a3), (1, .int x1), (2, .int x2), (3, .int x3), (4, .int x4)] → W p l e (headSpec wsX3_tintAt ({ frames := 1, cells := 0, slots := 0, locals := 24 })).room s m ([.ref a3, .int p1, .int p2, .int p3] : List Value).toArray below meth c s.heap locs 0 0 (MQ below (roQi r s.heap) ([.ref a3, .int p1, .int p2, .int p3] : List Value).toArray s 0 0 (fun _ => False)) (F0 m 8 ls []) := by
    intro n
    induction n with
    | zero => intro x1 x2 x3 x4 hf; rw [bX3_tintAt_8] at hf; cases hf
    | succ n8 ih8 =>
      intro x1 x2 x3 x4 hf locs ls hS hl
      rw [bX3_tintAt_8] at hf
      refine lv_iload hx hb dX3_tintAt_8 (lv_at hl 4 rfl) ?_
      refine lv_if_lt (tgt := 42) hx hb dX3_tintAt_10 (by decide) (fun hc => ?_) (fun hc => ?_)
      · have hf := it_p hc hf
        refine lv_aload_n hx hb dX3_tintAt_42 rfl (lv_at hl 0 rfl) ?_
        refine va_get (D := (dC, dI)) (ci := 2) (v := .int v3_ground) (C := RX3) (T := TX3) (N := 9) hx hb hts hiX3 hown hK hP 0 rfl rfl 0 (by decide) (hts (.fieldLink RX3 9 "PageLines$Page" "ground" "I") (List.mem_of_getElem? (i := 3) rfl)) (fun _ h9 => h9) rfl dX3_tintAt_43 ?_
        exact W.iret (v := v3_ground) hx hb hr (fun t ht hW => ⟨⟨_, (), rfl, Option.some.inj hf, ht⟩, hS.F ht⟩) hS.2.2 dX3_tintAt_46
      · have hf := it_n hc hf
        refine lv_aload_n hx hb dX3_tintAt_13 rfl (lv_at hl 0 rfl) ?_
        refine lv_iload hx hb dX3_tintAt_14 (lv_at hl 4 rfl) ?_
        refine lv_iload_n hx hb dX3_tintAt_16 rfl (lv_at hl 2 rfl) ?_
        refine lv_iload_n hx hb dX3_tintAt_17 rfl (lv_at hl 3 rfl) ?_
        obtain ⟨r4, hr4, hf⟩ := cl1_sp hf
        refine ro_V (As := [.int x4, .int x2, .int x3]) ⟨hx, hb, hml, hown, hts⟩ (kX3_covers l dC dI cy _ a3 a3_firstRow a3_lastRow a3_firstColumn a3_lastColumn a3_slants a3_tints a3_specks v3_ground v3_patches f3_firstRow f3_lastRow f3_firstColumn f3_lastColumn f3_slants f3_tints f3_specks x4 x2 x3 r4 hr4) (cwV 3 hts gX3_tintAt_X3_covers rfl rfl rfl (by decide +kernel) ⟨Nat.le_of_ble_eq_true rfl, Nat.le_of_ble_eq_true rfl⟩) (va_recv hK hP (ci := 2) (q0 := 0) rfl rfl) (hP.sub [0, 1, 2, 3, 4, 5, 6, 7] rfl) hK hS rfl hl.1 rfl (Nat.le_of_ble_eq_true rfl) dX3_tintAt_18 (Nat.zero_le _) (Nat.zero_le _) (fun locs hS => ?_)
        refine lv_if_eq (tgt := 36) hx hb dX3_tintAt_21 (by decide) (fun hc => ?_) (fun hc => ?_)
        · have hf := it_p hc hf
          refine lv_iinc (v := x4 + (-1 : Int32)) (lv' := [(4, .int (x4 + (-1 : Int32))), (0, .ref a3), (1, .int x1), (2, .int x2), (3, .int x3)]) hx hb dX3_tintAt_36 hl (k := 4) rfl rfl (by decide) rfl (fun ls hl => ?_)
          refine lv_goto (tgt := 8) hx hb dX3_tintAt_39 (by decide) ?_
          exact ih8 x1 x2 x3 (x4 + (-1 : Int32)) hf _ _ hS (lv_sub hl [1, 2, 3, 4, 0] rfl)
        · have hf := it_n hc hf
          exact hb_24 x1 x4 hf _ _ hS (lv_sub hl [0, 1, 4] rfl)
  have hl := lv_entry ([.ref a3, .int p1, .int p2, .int p3]) (n := 5) (Nat.le_of_ble_eq_true rfl)
  rw [lg_entry_eq]
  generalize (lg_sl ([.ref a3, .int p1, .int p2, .int p3]) ++ List.replicate (5 - (lg_sl ([.ref a3, .int p1, .int p2, .int p3])).length) Slot.unset).toArray = ls at hl ⊢
  have hl : lv_has ls 5 [(0, .ref a3), (1, .int p1), (2, .int p2), (3, .int p3)] := hl
  unfold fX3_tintAt at hf
  refine lv_aload_n hx hb dX3_tintAt_0 rfl (lv_at hl 0 rfl) ?_
  refine va_get (D := (dC, dI)) (ci := 2) (v := .int v3_patches) (C := RX3) (T := TX3) (N := 9) hx hb hts hiX3 hown hK hP 0 rfl rfl 1 (by decide) (hts (.fieldLink RX3 37 "PageLines$Page" "patches" "I") (List.mem_of_getElem? (i := 1) rfl)) (fun _ h9 => h9) rfl dX3_tintAt_1 ?_
  refine lv_iconst (v := (1 : Int32)) hx hb dX3_tintAt_4 (by decide) ?_
  refine lv_isub hx hb dX3_tintAt_5 ?_
  refine lv_istore (lv' := [(4, .int (v3_patches - (1 : Int32))), (0, .ref a3), (1, .int p1), (2, .int p2), (3, .int p3)]) hx hb dX3_tintAt_6 hl (by decide) rfl (fun ls hl => ?_)
  exact hb_8 300 p1 p2 p3 (v3_patches - (1 : Int32)) hf _ _ hS (lv_sub hl [1, 2, 3, 4, 0] rfl)
set_option maxHeartbeats 4000000 in
set_option maxRecDepth 100000 in
theorem kX3_lightOn (l : Launch) (dC : Nat → ClassId) (dI : Nat → Nat → Nat) (cy : ClassId) (H : Heap) (a3 a3_firstRow a3_lastRow a3_firstColumn a3_lastColumn a3_slants a3_tints a3_specks : Nat) (v3_ground : Int32) (v3_patches : Int32) (f3_firstRow : Nat → Int32) (f3_lastRow : Nat → Int32) (f3_firstColumn : Nat → Int32) (f3_lastColumn : Nat → Int32) (f3_slants : Nat → Int32) (f3_tints : Nat → Int32) (f3_specks : Nat → Int32) (p1 : Int32) (p2 : Int32) (p3 : Int32) (p4 : Int32) (r : Int32) (hf : fX3_lightOn v3_ground v3_patches f3_firstRow f3_lastRow f3_firstColumn f3_lastColumn f3_slants f3_tints f3_specks p1 p2 p3 p4 = some r) : Met l yX3_lightOn wsX3_lightOn ({ frames := 2, cells := 0, slots := 0, locals := 48 }) (roP [.ref a3, .int p1, .int p2, .int p3, .int p4] (dC, dI) vwCl (WX3 cy a3 a3_firstRow a3_lastRow a3_firstColumn a3_lastColumn a3_slants a3_tints a3_specks v3_ground v3_patches f3_firstRow f3_lastRow f3_firstColumn f3_lastColumn f3_slants f3_tints f3_specks) [(cy, .int)] H) (roQi r H) 0 0 (fun _ => False) := by
  refine Met.ofW (cc := cX3_lightOn) (maxL := 8) (ret := (some .int)) (by decide) rfl ?_
  intro p e s m args below meth c s₁ B hml hv
  obtain ⟨rfl, hH, hP, hK⟩ := hv
  have hx := B.exec
  have hb := B.bytes
  have hr := B.returns
  have hts := atoms_spec (ws := wsX3_lightOn) B.pre
  have hown : s.vm.findClass RX3 = some m.cls := findClass_of_methodNamed B.named
  have hlocks := B.notSynchronized
  have hiX3 : ∀ w ∈ u_ws RX3 TX3 9, w ∈ wsX3_lightOn := fun _ h => List.mem_cons_of_mem _ ((List.mem_append_right _ h))
  subst hH
  have hS : va_S (fun _ => False) s.heap s.heap [] := va_S.rf
  have hl := lv_entry ([.ref a3, .int p1, .int p2, .int p3, .int p4]) (n := 8) (Nat.le_of_ble_eq_true rfl)
  rw [lg_entry_eq]
  generalize (lg_sl ([.ref a3, .int p1, .int p2, .int p3, .int p4]) ++ List.replicate (8 - (lg_sl ([.ref a3, .int p1, .int p2, .int p3, .int p4])).length) Slot.unset).toArray = ls at hl ⊢
  have hl : lv_has ls 8 [(0, .ref a3), (1, .int p1), (2, .int p2), (3, .int p3), (4, .int p4)] := hl
  unfold fX3_lightOn at hf
  refine lv_aload_n hx hb dX3_lightOn_0 rfl (lv_at hl 0 rfl) ?_
  refine lv_iload_n hx hb dX3_lightOn_1 rfl (lv_at hl 1 rfl) ?_
  refine lv_iload_n hx hb dX3_lightOn_2 rfl (lv_at hl 3 rfl) ?_
  refine lv_iload_n hx hb dX3_lightOn_3 rfl (lv_at hl 2 rfl) ?_
  obtain ⟨r1, hr1, hf⟩ := cl1_sp hf
  refine ro_V (As := [.int p1, .int p3, .int p2]) ⟨hx, hb, hml, hown, hts⟩ (kX3_tintAt l dC dI cy _ a3 a3_firstRow a3_lastRow a3_firstColumn a3_lastColumn a3_slants a3_tints a3_specks v3_ground v3_patches f3_firstRow f3_lastRow f3_firstColumn f3_lastColumn f3_slants f3_tints f3_specks p1 p3 p2 r1 hr1) (cwV 3 hts gX3_lightOn_X3_tintAt rfl rfl rfl (by decide +kernel) ⟨Nat.le_of_ble_eq_true rfl, Nat.le_of_ble_eq_true rfl⟩) (va_recv hK hP (ci := 2) (q0 := 0) rfl rfl) (hP.sub [0, 1, 2, 3, 4, 5, 6, 7] rfl) hK hS rfl hl.1 rfl (Nat.le_of_ble_eq_true rfl) dX3_lightOn_4 (Nat.zero_le _) (Nat.zero_le _) (fun locs hS => ?_)
  refine lv_istore (lv' := [(5, .int r1), (0, .ref a3), (1, .int p1), (2, .int p2), (3, .int p3), (4, .int p4)]) hx hb dX3_lightOn_7 hl (by decide) rfl (fun ls hl => ?_)
  refine lv_aload_n hx hb dX3_lightOn_9 rfl (lv_at hl 1 rfl) ?_
  refine lv_iload_n hx hb dX3_lightOn_10 rfl (lv_at hl 2 rfl) ?_
  refine lv_iload_n hx hb dX3_lightOn_11 rfl (lv_at hl 4 rfl) ?_
  refine lv_iconst (v := (1 : Int32)) hx hb dX3_lightOn_12 (by decide) ?_
  refine lv_iadd hx hb dX3_lightOn_13 ?_
  refine lv_iload_n hx hb dX3_lightOn_14 rfl (lv_at hl 3 rfl) ?_
  obtain ⟨r2, hr2, hf⟩ := cl1_sp hf
  refine ro_V (As := [.int p1, .int (p3 + (1 : Int32)), .int p2]) ⟨hx, hb, hml, hown, hts⟩ (kX3_tintAt l dC dI cy _ a3 a3_firstRow a3_lastRow a3_firstColumn a3_lastColumn a3_slants a3_tints a3_specks v3_ground v3_patches f3_firstRow f3_lastRow f3_firstColumn f3_lastColumn f3_slants f3_tints f3_specks p1 (p3 + (1 : Int32)) p2 r2 hr2) (cwV 3 hts gX3_lightOn_X3_tintAt rfl rfl rfl (by decide +kernel) ⟨Nat.le_of_ble_eq_true rfl, Nat.le_of_ble_eq_true rfl⟩) (va_recv hK hP (ci := 2) (q0 := 0) rfl rfl) (hP.sub [0, 1, 2, 3, 4, 5, 6, 7] rfl) hK hS rfl hl.1 rfl (Nat.le_of_ble_eq_true rfl) dX3_lightOn_15 (Nat.zero_le _) (Nat.zero_le _) (fun locs hS => ?_)
  refine lv_istore (lv' := [(6, .int r2), (5, .int r1), (0, .ref a3), (1, .int p1), (2, .int p2), (3, .int p3), (4, .int p4)]) hx hb dX3_lightOn_18 hl (by decide) rfl (fun ls hl => ?_)
  refine lv_iconst (v := (4 : Int32)) hx hb dX3_lightOn_20 (by decide) ?_
  refine lv_iload hx hb dX3_lightOn_21 (lv_at hl 6 rfl) ?_
  refine lv_isub hx hb dX3_lightOn_23 ?_
  refine lv_iload hx hb dX3_lightOn_24 (lv_at hl 1 rfl) ?_
  refine lv_imul hx hb dX3_lightOn_26 ?_
  refine lv_iload hx hb dX3_lightOn_27 (lv_at hl 6 rfl) ?_
  refine lv_iload hx hb dX3_lightOn_29 (lv_at hl 0 rfl) ?_
  refine lv_imul hx hb dX3_lightOn_31 ?_
  refine lv_iadd hx hb dX3_lightOn_32 ?_
  refine lv_iconst (v := (4 : Int32)) hx hb dX3_lightOn_33 (by decide) ?_
  obtain ⟨r3, hr3, hf⟩ := cl1_sp hf
  refine ro_S (As := [.int ((((4 : Int32) - p4) * r1) + (p4 * r2)), .int (4 : Int32)]) ⟨hx, hb, hml, hown, hts⟩ (kX2_rounded l _ ((((4 : Int32) - p4) * r1) + (p4 * r2)) (4 : Int32) r3 hr3) (va_cwS 2 hts gX3_lightOn_X2_rounded rfl rfl rfl (by decide +kernel) ⟨Nat.le_of_ble_eq_true rfl, Nat.le_of_ble_eq_true rfl⟩) hS rfl hl.1 rfl (Nat.le_of_ble_eq_true rfl) dX3_lightOn_34 (Nat.zero_le _) (Nat.zero_le _) (fun locs hS => ?_)
  refine lv_istore (lv' := [(7, .int r3), (6, .int r2), (5, .int r1), (0, .ref a3), (1, .int p1), (2, .int p2), (3, .int p3), (4, .int p4)]) hx hb dX3_lightOn_37 hl (by decide) rfl (fun ls hl => ?_)
  refine lv_iconst (v := (0 : Int32)) hx hb dX3_lightOn_39 (by decide) ?_
  refine lv_iload hx hb dX3_lightOn_40 (lv_at hl 0 rfl) ?_
  refine lv_aload_n hx hb dX3_lightOn_42 rfl (lv_at hl 3 rfl) ?_
  refine va_get (D := (dC, dI)) (ci := 2) (v := .ref a3_specks) (C := RX3) (T := TX3) (N := 9) hx hb hts hiX3 hown hK hP 0 rfl rfl 8 (by decide) (hts (.fieldLink RX3 34 "PageLines$Page" "specks" "[I") (List.mem_of_getElem? (i := 1) rfl)) (fun _ h9 => h9) rfl dX3_lightOn_43 ?_
  refine lv_iload_n hx hb dX3_lightOn_46 rfl (lv_at hl 5 rfl) ?_
  obtain ⟨hi_4, hf⟩ := ckI_sp hf
  refine va_iald hx hb hK hP 7 0 rfl rfl hi_4 dX3_lightOn_47 ?_
  refine lv_isub hx hb dX3_lightOn_48 ?_
  refine va_mmax hx hb (by rw [hml]; exact hl.1.symm) hown (hts (.methodLink RX3 54 Lib.Math.max.name) (List.mem_of_getElem? (i := 2) rfl)) (hts (.static Lib.Math.max.name) (List.mem_of_getElem? (i := 3) rfl)) (hts (.initialized "java/lang/Math") (List.mem_of_getElem? (i := 4) rfl)) (hts (.code Lib.Math.max.name Lib.Math.max.code 2 (some .int)) (List.mem_of_getElem? (i := 5) rfl)) (Nat.le_of_ble_eq_true rfl) (Nat.le_of_ble_eq_true rfl) (Nat.zero_le _) (Nat.zero_le _) dX3_lightOn_49 ?_
  exact W.iret (v := (if (0 : Int32) < (r3 - (f3_specks p2.toNatClampNeg)) then (r3 - (f3_specks p2.toNatClampNeg)) else (0 : Int32))) hx hb hr (fun t ht hW => ⟨⟨_, (), rfl, Option.some.inj hf, ht⟩, hS.F ht⟩) hS.2.2 dX3_lightOn_52

/-! printed by wip/whole/gen.py: a pure function for every method, as its bytecode goes -/
abbrev WX0 (cy : ClassId) (a0 a0_offset a0_gain a0_dark a0_bright : Nat) (f0_offset : Nat → Int32) (f0_gain : Nat → Int32) (f0_dark : Nat → Int32) (f0_bright : Nat → Int32) : va_W := [(a0, .inr (0, [.ref a0_offset, .ref a0_gain, .ref a0_dark, .ref a0_bright])), (a0_offset, .inl (cy, 36, .inl f0_offset)), (a0_gain, .inl (cy, 36, .inl f0_gain)), (a0_dark, .inl (cy, 36, .inl f0_dark)), (a0_bright, .inl (cy, 36, .inl f0_bright))]
abbrev WX1 (cy : ClassId) (a1 a1_values : Nat) (v1_count : Int32) (v1_threshold : Int32) (f1_values : Nat → Int32) : va_W := [(a1, .inr (1, [.int v1_count, .int v1_threshold, .ref a1_values])), (a1_values, .inl (cy, 1440, .inl f1_values))]
abbrev WX3 (cy : ClassId) (a3 a3_firstRow a3_lastRow a3_firstColumn a3_lastColumn a3_slants a3_tints a3_specks : Nat) (v3_ground : Int32) (v3_patches : Int32) (f3_firstRow : Nat → Int32) (f3_lastRow : Nat → Int32) (f3_firstColumn : Nat → Int32) (f3_lastColumn : Nat → Int32) (f3_slants : Nat → Int32) (f3_tints : Nat → Int32) (f3_specks : Nat → Int32) : va_W := [(a3, .inr (2, [.int v3_ground, .int v3_patches, .ref a3_firstRow, .ref a3_lastRow, .ref a3_firstColumn, .ref a3_lastColumn, .ref a3_slants, .ref a3_tints, .ref a3_specks])), (a3_firstRow, .inl (cy, 12, .inl f3_firstRow)), (a3_lastRow, .inl (cy, 12, .inl f3_lastRow)), (a3_firstColumn, .inl (cy, 12, .inl f3_firstColumn)), (a3_lastColumn, .inl (cy, 12, .inl f3_lastColumn)), (a3_slants, .inl (cy, 12, .inl f3_slants)), (a3_tints, .inl (cy, 36, .inl f3_tints)), (a3_specks, .inl (cy, 12, .inl f3_specks))]
abbrev WX4 (cy : ClassId) (a4 a4_kinds a4_numbers : Nat) (v4_count : Int32) (f4_kinds : Nat → Int32) (f4_numbers : Nat → Int32) : va_W := [(a4, .inr (3, [.int v4_count, .ref a4_kinds, .ref a4_numbers])), (a4_kinds, .inl (cy, 4, .inl f4_kinds)), (a4_numbers, .inl (cy, 4, .inl f4_numbers))]
abbrev WX5 (cy : ClassId) (a5 : Nat) (v5_on : Int32) (v5_lines : Int32) (v5_reach : Int32) (v5_positions : Int32) (v5_queued : Int32) (v5_position : Int32) (v5_next : Int32) (v5_mode : Int32) (v5_outTicks : Int32) (v5_stops : Int32) (v5_ticked : Int32) : va_W := [(a5, .inr (4, [.int v5_on, .int v5_lines, .int v5_reach, .int v5_positions, .int v5_queued, .int v5_position, .int v5_next, .int v5_mode, .int v5_outTicks, .int v5_stops, .int v5_ticked]))]
abbrev WX6 (cy : ClassId) (a6 a6_leads a0 a0_offset a0_gain a0_dark a0_bright a3 a3_firstRow a3_lastRow a3_firstColumn a3_lastColumn a3_slants a3_tints a3_specks a4 a4_kinds a4_numbers a5 a1 a1_values : Nat) (f6_leads : Nat → Int32) (f0_offset : Nat → Int32) (f0_gain : Nat → Int32) (f0_dark : Nat → Int32) (f0_bright : Nat → Int32) (v3_ground : Int32) (v3_patches : Int32) (f3_firstRow : Nat → Int32) (f3_lastRow : Nat → Int32) (f3_firstColumn : Nat → Int32) (f3_lastColumn : Nat → Int32) (f3_slants : Nat → Int32) (f3_tints : Nat → Int32) (f3_specks : Nat → Int32) (v4_count : Int32) (f4_kinds : Nat → Int32) (f4_numbers : Nat → Int32) (v5_on : Int32) (v5_lines : Int32) (v5_reach : Int32) (v5_positions : Int32) (v5_queued : Int32) (v5_position : Int32) (v5_next : Int32) (v5_mode : Int32) (v5_outTicks : Int32) (v5_stops : Int32) (v5_ticked : Int32) (v1_count : Int32) (v1_threshold : Int32) (f1_values : Nat → Int32) : va_W := [(a6, .inr (5, [.ref a0, .ref a3, .ref a4, .ref a5, .ref a1, .ref a6_leads])), (a6_leads, .inl (cy, 3, .inl f6_leads)), (a0, .inr (0, [.ref a0_offset, .ref a0_gain, .ref a0_dark, .ref a0_bright])), (a0_offset, .inl (cy, 36, .inl f0_offset)), (a0_gain, .inl (cy, 36, .inl f0_gain)), (a0_dark, .inl (cy, 36, .inl f0_dark)), (a0_bright, .inl (cy, 36, .inl f0_bright)), (a3, .inr (2, [.int v3_ground, .int v3_patches, .ref a3_firstRow, .ref a3_lastRow, .ref a3_firstColumn, .ref a3_lastColumn, .ref a3_slants, .ref a3_tints, .ref a3_specks])), (a3_firstRow, .inl (cy, 12, .inl f3_firstRow)), (a3_lastRow, .inl (cy, 12, .inl f3_lastRow)), (a3_firstColumn, .inl (cy, 12, .inl f3_firstColumn)), (a3_lastColumn, .inl (cy, 12, .inl f3_lastColumn)), (a3_slants, .inl (cy, 12, .inl f3_slants)), (a3_tints, .inl (cy, 36, .inl f3_tints)), (a3_specks, .inl (cy, 12, .inl f3_specks)), (a4, .inr (3, [.int v4_count, .ref a4_kinds, .ref a4_numbers])), (a4_kinds, .inl (cy, 4, .inl f4_kinds)), (a4_numbers, .inl (cy, 4, .inl f4_numbers)), (a5, .inr (4, [.int v5_on, .int v5_lines, .int v5_reach, .int v5_positions, .int v5_queued, .int v5_position, .int v5_next, .int v5_mode, .int v5_outTicks, .int v5_stops, .int v5_ticked])), (a1, .inr (1, [.int v1_count, .int v1_threshold, .ref a1_values])), (a1_values, .inl (cy, 1440, .inl f1_values))]
abbrev WX7 (cy : ClassId) (a7 a7_offset a7_gain a7_dark a7_bright a7_fromRow a7_toRow a7_left a7_right a7_slant a7_tintOf a7_speckOf a7_leadOf a7_stepKind a7_stepBy a7_pixels : Nat) (f7_offset : Nat → Int32) (f7_gain : Nat → Int32) (f7_dark : Nat → Int32) (f7_bright : Nat → Int32) (v7_ground : Int32) (v7_patches : Int32) (f7_fromRow : Nat → Int32) (f7_toRow : Nat → Int32) (f7_left : Nat → Int32) (f7_right : Nat → Int32) (f7_slant : Nat → Int32) (f7_tintOf : Nat → Int32) (f7_speckOf : Nat → Int32) (f7_leadOf : Nat → Int32) (v7_steps : Int32) (f7_stepKind : Nat → Int32) (f7_stepBy : Nat → Int32) (v7_threshold : Int32) (v7_isOn : Int32) (v7_lines : Int32) (v7_done : Int32) (v7_taken : Int32) (v7_lastPosition : Int32) (v7_position : Int32) (v7_mode : Int32) (v7_next : Int32) (v7_outs : Int32) (v7_stops : Int32) (v7_ticks : Int32) (f7_pixels : Nat → Int32) : va_W := [(a7, .inr (6, [.ref a7_offset, .ref a7_gain, .ref a7_dark, .ref a7_bright, .int v7_ground, .int v7_patches, .ref a7_fromRow, .ref a7_toRow, .ref a7_left, .ref a7_right, .ref a7_slant, .ref a7_tintOf, .ref a7_speckOf, .ref a7_leadOf, .int v7_steps, .ref a7_stepKind, .ref a7_stepBy, .int v7_threshold, .int v7_isOn, .int v7_lines, .int v7_done, .int v7_taken, .int v7_lastPosition, .int v7_position, .int v7_mode, .int v7_next, .int v7_outs, .int v7_stops, .int v7_ticks, .ref a7_pixels])), (a7_offset, .inl (cy, 36, .inl f7_offset)), (a7_gain, .inl (cy, 36, .inl f7_gain)), (a7_dark, .inl (cy, 36, .inl f7_dark)), (a7_bright, .inl (cy, 36, .inl f7_bright)), (a7_fromRow, .inl (cy, 12, .inl f7_fromRow)), (a7_toRow, .inl (cy, 12, .inl f7_toRow)), (a7_left, .inl (cy, 12, .inl f7_left)), (a7_right, .inl (cy, 12, .inl f7_right)), (a7_slant, .inl (cy, 12, .inl f7_slant)), (a7_tintOf, .inl (cy, 36, .inl f7_tintOf)), (a7_speckOf, .inl (cy, 12, .inl f7_speckOf)), (a7_leadOf, .inl (cy, 3, .inl f7_leadOf)), (a7_stepKind, .inl (cy, 4, .inl f7_stepKind)), (a7_stepBy, .inl (cy, 4, .inl f7_stepBy)), (a7_pixels, .inl (cy, 1440, .inl f7_pixels))]
noncomputable def fX2_atMostTop (p1 : Int32) : Option (Int32) :=
    some (if p1 < (255 : Int32) then p1 else (255 : Int32))
noncomputable def fX2_rounded (p1 : Int32) (p2 : Int32) : Option (Int32) :=
    if (1 : Int32) ≤ p2 then ckZ ((2 : Int32) * p2) (some ((((2 : Int32) * p1) + p2) / ((2 : Int32) * p2)))
    else some (0 : Int32)
noncomputable def bX2_greatestDivisor_15 : Nat → Int64 → Int64 → Int32 → Option (Int64)
  | 0, _, _, _ => none
  | n + 1, x4, x6, x8 =>
    if (200 : Int32) ≤ x8 then some x4
    else (if (lg_cmp x6 (0 : Int64)) = 0 then some x4
    else ckL x6 (bX2_greatestDivisor_15 n x6 (x4 - x4 / x6 * x6) (x8 + (1 : Int32))))
noncomputable def fX2_greatestDivisor (p1 : Int64) (p2 : Int64) : Option (Int64) :=
    bX2_greatestDivisor_15 300 (if 0 < p1 then p1 else -p1) (if 0 < p2 then p2 else -p2) (0 : Int32)
noncomputable def fX2_within (p1 : Int32) (p2 : Int32) (p3 : Int32) : Option (Int32) :=
    if p1 < p2 then some (0 : Int32)
    else (if p3 < p1 then some (0 : Int32)
    else some (1 : Int32))
noncomputable def fJ9_floorDiv_7cf53 (p1 : Int32) (p2 : Int32) : Option (Int32) :=
    ckZ p2 (if 0 ≤ (p1 ^^^ p2) then some (p1 / p2)
    else (if ((p1 / p2) * p2) = p1 then some (p1 / p2)
    else some ((p1 / p2) - (1 : Int32))))
noncomputable def fX0_place (p1 : Int32) (p2 : Int32) : Option (Int32) :=
    some ((p1 * (12 : Int32)) + p2)
noncomputable def fX0_readingOf (f0_offset : Nat → Int32) (f0_gain : Nat → Int32) (p1 : Int32) (p2 : Int32) : Option (Int32) :=
    ckI p1 36 (ckI p1 36 (cl1 (fX2_atMostTop ((f0_offset p1.toNatClampNeg) + ((p2 * (f0_gain p1.toNatClampNeg)) / (64 : Int32)))) (fun r3 =>
    some r3)))
noncomputable def bX0_readStrip_2 (f0_offset : Nat → Int32) (f0_gain : Nat → Int32) : Nat → (Nat → Int32) → (Nat → Int32) → Int32 → Int32 → Option ((Nat → Int32) × (Nat → Int32))
  | 0, _, _, _, _ => none
  | n + 1, f0_dark, f0_bright, x1, x2 =>
    if (36 : Int32) ≤ x2 then some (f0_dark, f0_bright)
    else (if x1 = 0 then cl1 (fX0_readingOf f0_offset f0_gain x2 (0 : Int32)) (fun r1 =>
    ckI x2 36 (bX0_readStrip_2 f0_offset f0_gain n (upd f0_dark x2.toNatClampNeg r1) f0_bright x1 (x2 + (1 : Int32))))
    else cl1 (fX0_readingOf f0_offset f0_gain x2 (255 : Int32)) (fun r3 =>
    ckI x2 36 (bX0_readStrip_2 f0_offset f0_gain n f0_dark (upd f0_bright x2.toNatClampNeg r3) x1 (x2 + (1 : Int32)))))
noncomputable def fX0_readStrip (f0_offset : Nat → Int32) (f0_gain : Nat → Int32) (f0_dark : Nat → Int32) (f0_bright : Nat → Int32) (p1 : Int32) : Option ((Nat → Int32) × (Nat → Int32)) :=
    bX0_readStrip_2 f0_offset f0_gain 300 f0_dark f0_bright p1 (0 : Int32)
noncomputable def fX0_isLive (f0_dark : Nat → Int32) (f0_bright : Nat → Int32) (p1 : Int32) : Option (Int32) :=
    ckI p1 36 (ckI p1 36 (if ((f0_bright p1.toNatClampNeg) - (f0_dark p1.toNatClampNeg)) < (16 : Int32) then some (0 : Int32)
    else some (1 : Int32)))
noncomputable def bX0_countLive_4 (f0_dark : Nat → Int32) (f0_bright : Nat → Int32) : Nat → Int32 → Int32 → Option (Int32)
  | 0, _, _ => none
  | n + 1, x1, x2 =>
    if (36 : Int32) ≤ x2 then some x1
    else cl1 (fX0_isLive f0_dark f0_bright x2) (fun r1 =>
    if r1 = 0 then bX0_countLive_4 f0_dark f0_bright n x1 (x2 + (1 : Int32))
    else bX0_countLive_4 f0_dark f0_bright n (x1 + (1 : Int32)) (x2 + (1 : Int32)))
noncomputable def fX0_countLive (f0_dark : Nat → Int32) (f0_bright : Nat → Int32) : Option (Int32) :=
    bX0_countLive_4 f0_dark f0_bright 300 (0 : Int32) (0 : Int32)
noncomputable def fX0_evenOf (f0_dark : Nat → Int32) (f0_bright : Nat → Int32) (p1 : Int32) (p2 : Int32) : Option (Int32) :=
    ckI p1 36 (if (f0_dark p1.toNatClampNeg) ≤ p2 then ckI p1 36 (ckI p1 36 (ckI p1 36 (cl1 (fX2_rounded ((255 : Int32) * (p2 - (f0_dark p1.toNatClampNeg))) ((f0_bright p1.toNatClampNeg) - (f0_dark p1.toNatClampNeg))) (fun r5 =>
    cl1 (fX2_atMostTop r5) (fun r6 =>
    some r6)))))
    else some (0 : Int32))
noncomputable def bX0_nearestLive_6 (f0_dark : Nat → Int32) (f0_bright : Nat → Int32) : Nat → Int32 → Int32 → Int32 → Int32 → Option (Int32)
  | 0, _, _, _, _ => none
  | n + 1, x1, x3, x4, x5 =>
    if (12 : Int32) ≤ x5 then some (-9 : Int32)
    else (if x4 < 0 then some (-9 : Int32)
    else (if (12 : Int32) ≤ x4 then some (-9 : Int32)
    else cl1 (fX0_place x1 x4) (fun r1 =>
    cl1 (fX0_isLive f0_dark f0_bright r1) (fun r2 =>
    if r2 = 0 then bX0_nearestLive_6 f0_dark f0_bright n x1 x3 (x4 + x3) (x5 + (1 : Int32))
    else some x4))))
noncomputable def fX0_nearestLive (f0_dark : Nat → Int32) (f0_bright : Nat → Int32) (p1 : Int32) (p2 : Int32) (p3 : Int32) : Option (Int32) :=
    bX0_nearestLive_6 f0_dark f0_bright 300 p1 p3 p2 (0 : Int32)
noncomputable def fX1_has (v1_count : Int32) (p1 : Int32) : Option (Int32) :=
    if p1 < 0 then some (0 : Int32)
    else (if v1_count ≤ p1 then some (0 : Int32)
    else some (1 : Int32))
noncomputable def fX1_greyOf (f1_values : Nat → Int32) (p1 : Int32) (p2 : Int32) : Option (Int32) :=
    ckI ((p1 * (36 : Int32)) + p2) 1440 (ckI (((p1 * (36 : Int32)) + p2) + (12 : Int32)) 1440 (ckI (((p1 * (36 : Int32)) + p2) + (24 : Int32)) 1440 (cl1 (fX2_rounded ((((2 : Int32) * (f1_values ((p1 * (36 : Int32)) + p2).toNatClampNeg)) + ((5 : Int32) * (f1_values (((p1 * (36 : Int32)) + p2) + (12 : Int32)).toNatClampNeg))) + (f1_values (((p1 * (36 : Int32)) + p2) + (24 : Int32)).toNatClampNeg)) (8 : Int32)) (fun r4 =>
    some r4))))
noncomputable def bX1_darkSet_4 (v1_threshold : Int32) (f1_values : Nat → Int32) : Nat → Int32 → Int32 → Int32 → Option (Int32)
  | 0, _, _, _ => none
  | n + 1, x1, x2, x3 =>
    if (12 : Int32) ≤ x3 then some x2
    else cl1 (fX1_greyOf f1_values x1 x3) (fun r1 =>
    if v1_threshold ≤ r1 then bX1_darkSet_4 v1_threshold f1_values n x1 x2 (x3 + (1 : Int32))
    else bX1_darkSet_4 v1_threshold f1_values n x1 (x2 ||| ((1 : Int32) <<< (x3 &&& 31))) (x3 + (1 : Int32)))
noncomputable def fX1_darkSet (v1_threshold : Int32) (f1_values : Nat → Int32) (p1 : Int32) : Option (Int32) :=
    bX1_darkSet_4 v1_threshold f1_values 300 p1 (0 : Int32) (0 : Int32)
noncomputable def fX1_isIn (p1 : Int32) (p2 : Int32) : Option (Int32) :=
    if ((p1 >>> (p2 &&& 31)) &&& (1 : Int32)) = (1 : Int32) then some (1 : Int32)
    else some (0 : Int32)
noncomputable def fX1_startsRun (p1 : Int32) (p2 : Int32) : Option (Int32) :=
    cl1 (fX1_isIn p1 p2) (fun r1 =>
    if r1 = 0 then some (0 : Int32)
    else (if p2 = 0 then some (1 : Int32)
    else cl1 (fX1_isIn p1 (p2 - (1 : Int32))) (fun r2 =>
    if r2 = 0 then some (1 : Int32)
    else some (0 : Int32))))
noncomputable def bX1_runStart_4 : Nat → Int32 → Int32 → Int32 → Int32 → Option (Int32)
  | 0, _, _, _, _ => none
  | n + 1, x0, x1, x2, x3 =>
    if (12 : Int32) ≤ x3 then some (-9 : Int32)
    else cl1 (fX1_startsRun x0 x3) (fun r1 =>
    if r1 = 0 then bX1_runStart_4 n x0 x1 x2 (x3 + (1 : Int32))
    else (if x2 = x1 then some x3
    else bX1_runStart_4 n x0 x1 (x2 + (1 : Int32)) (x3 + (1 : Int32))))
noncomputable def fX1_runStart (p1 : Int32) (p2 : Int32) : Option (Int32) :=
    bX1_runStart_4 300 p1 p2 (0 : Int32) (0 : Int32)
noncomputable def fX1_edgeOf (v1_threshold : Int32) (f1_values : Nat → Int32) (p1 : Int32) : Option (Int32) :=
    cl1 (fX1_darkSet v1_threshold f1_values p1) (fun r1 =>
    cl1 (fX1_runStart r1 (0 : Int32)) (fun r2 =>
    some r2))
noncomputable def bX1_runLength_4 : Nat → Int32 → Int32 → Int32 → Option (Int32)
  | 0, _, _, _ => none
  | n + 1, x0, x2, x3 =>
    if (12 : Int32) ≤ x3 then some x2
    else cl1 (fX1_isIn x0 x3) (fun r1 =>
    if r1 = 0 then some x2
    else bX1_runLength_4 n x0 (x2 + (1 : Int32)) (x3 + (1 : Int32)))
noncomputable def fX1_runLength (p1 : Int32) (p2 : Int32) : Option (Int32) :=
    bX1_runLength_4 300 p1 (0 : Int32) p2
noncomputable def bX1_countRuns_21 (v1_count : Int32) (v1_threshold : Int32) (f1_values : Nat → Int32) (kk : Int32 → Int32 → Option (Int32)) : Nat → Int32 → Int32 → Int32 → Int32 → Option (Int32)
  | 0, _, _, _, _ => none
  | n + 1, x1, x2, x3, x4 =>
    if (12 : Int32) ≤ x4 then kk x1 (x2 + (1 : Int32))
    else cl1 (fX1_startsRun x3 x4) (fun r2 =>
    if r2 = 0 then bX1_countRuns_21 v1_count v1_threshold f1_values kk n x1 x2 x3 (x4 + (1 : Int32))
    else bX1_countRuns_21 v1_count v1_threshold f1_values kk n (x1 + (1 : Int32)) x2 x3 (x4 + (1 : Int32)))
noncomputable def bX1_countRuns_4 (v1_count : Int32) (v1_threshold : Int32) (f1_values : Nat → Int32) : Nat → Int32 → Int32 → Option (Int32)
  | 0, _, _ => none
  | n + 1, x1, x2 =>
    if v1_count ≤ x2 then some x1
    else cl1 (fX1_darkSet v1_threshold f1_values x2) (fun r1 =>
    bX1_countRuns_21 v1_count v1_threshold f1_values (fun z0 z1 => bX1_countRuns_4 v1_count v1_threshold f1_values n z0 z1) 300 x1 x2 r1 (0 : Int32))
noncomputable def fX1_countRuns (v1_count : Int32) (v1_threshold : Int32) (f1_values : Nat → Int32) : Option (Int32) :=
    bX1_countRuns_4 v1_count v1_threshold f1_values 300 (0 : Int32) (0 : Int32)
noncomputable def bX1_skewPart_94 (x1 : Int32) (x2 : Int64) (x4 : Int64) (x6 : Int64) (x8 : Int64) (x10 : Int64) : Option (Int64) :=
    if 0 ≤ (lg_cmp x2 (2 : Int64)) then cl1 (fX2_greatestDivisor ((x2 * x8) - (x4 * x6)) ((x2 * x10) - (x4 * x4))) (fun r1 =>
    if 0 ≤ (lg_cmp r1 (1 : Int64)) then (if x1 = 0 then ckL r1 (some (((x2 * x8) - (x4 * x6)) / r1))
    else ckL r1 (some (((x2 * x10) - (x4 * x4)) / r1)))
    else some (-9223372036854775808 : Int64))
    else some (-9223372036854775808 : Int64)
noncomputable def bX1_skewPart_17 (v1_count : Int32) (v1_threshold : Int32) (f1_values : Nat → Int32) : Nat → Int32 → Int64 → Int64 → Int64 → Int64 → Int64 → Int32 → Option (Int64)
  | 0, _, _, _, _, _, _, _ => none
  | n + 1, x1, x2, x4, x6, x8, x10, x12 =>
    if v1_count ≤ x12 then bX1_skewPart_94 x1 x2 x4 x6 x8 x10
    else cl1 (fX1_edgeOf v1_threshold f1_values x12) (fun r7 =>
    if r7 = (-9 : Int32) then bX1_skewPart_17 v1_count v1_threshold f1_values n x1 x2 x4 x6 x8 x10 (x12 + (1 : Int32))
    else bX1_skewPart_17 v1_count v1_threshold f1_values n x1 (x2 + (1 : Int64)) (x4 + (x12.toInt64)) (x6 + (r7.toInt64)) (x8 + ((x12.toInt64) * (r7.toInt64))) (x10 + ((x12.toInt64) * (x12.toInt64))) (x12 + (1 : Int32)))
noncomputable def fX1_skewPart (v1_count : Int32) (v1_threshold : Int32) (f1_values : Nat → Int32) (p1 : Int32) : Option (Int64) :=
    bX1_skewPart_17 v1_count v1_threshold f1_values 300 p1 (0 : Int64) (0 : Int64) (0 : Int64) (0 : Int64) (0 : Int64) (0 : Int32)
noncomputable def fX1_wayOut (f1_values : Nat → Int32) (p1 : Int32) (p2 : Int32) : Option (Int32) :=
    if p2 < (1 : Int32) then some (0 : Int32)
    else (if p2 ≤ (10 : Int32) then cl1 (fX1_greyOf f1_values p1 (p2 - (1 : Int32))) (fun r1 =>
    cl1 (fX1_greyOf f1_values p1 p2) (fun r2 =>
    cl1 (fX1_greyOf f1_values p1 (p2 + (1 : Int32))) (fun r3 =>
    if (r2 - r1) < (24 : Int32) then (if (r1 - r2) < (24 : Int32) then some (0 : Int32)
    else (if (r3 - r2) < (24 : Int32) then some (0 : Int32)
    else some (-1 : Int32)))
    else (if (r2 - r3) < (24 : Int32) then (if (r1 - r2) < (24 : Int32) then some (0 : Int32)
    else (if (r3 - r2) < (24 : Int32) then some (0 : Int32)
    else some (-1 : Int32)))
    else some (1 : Int32)))))
    else some (0 : Int32))
noncomputable def bX1_longestOf_10 (v1_count : Int32) (f1_values : Nat → Int32) : Nat → Int32 → Int32 → Int32 → Int32 → Int32 → Option (Int32)
  | 0, _, _, _, _, _ => none
  | n + 1, x1, x2, x3, x4, x5 =>
    if v1_count ≤ x5 then some x2
    else cl1 (fX1_wayOut f1_values x5 x1) (fun r1 =>
    if r1 = 0 then bX1_longestOf_10 v1_count f1_values n x1 (if x2 < (0 : Int32) then (0 : Int32) else x2) (0 : Int32) r1 (x5 + (1 : Int32))
    else (if r1 = x4 then bX1_longestOf_10 v1_count f1_values n x1 (if x2 < (x3 + (1 : Int32)) then (x3 + (1 : Int32)) else x2) (x3 + (1 : Int32)) r1 (x5 + (1 : Int32))
    else bX1_longestOf_10 v1_count f1_values n x1 (if x2 < (1 : Int32) then (1 : Int32) else x2) (1 : Int32) r1 (x5 + (1 : Int32))))
noncomputable def fX1_longestOf (v1_count : Int32) (f1_values : Nat → Int32) (p1 : Int32) : Option (Int32) :=
    bX1_longestOf_10 v1_count f1_values 300 p1 (0 : Int32) (0 : Int32) (0 : Int32) (0 : Int32)
noncomputable def bX3_lay_86 (v3_patches : Int32) (f3_firstRow : Nat → Int32) (f3_lastRow : Nat → Int32) (f3_firstColumn : Nat → Int32) (f3_lastColumn : Nat → Int32) (f3_slants : Nat → Int32) (f3_tints : Nat → Int32) (x6 : Int32) : Option (Int32 × Int32 × (Nat → Int32) × (Nat → Int32) × (Nat → Int32) × (Nat → Int32) × (Nat → Int32) × (Nat → Int32)) :=
    some (x6, v3_patches + (1 : Int32), f3_firstRow, f3_lastRow, f3_firstColumn, f3_lastColumn, f3_slants, f3_tints)
noncomputable def bX3_lay_61 : Nat → Int32 → (Nat → Int32) → (Nat → Int32) → (Nat → Int32) → (Nat → Int32) → (Nat → Int32) → (Nat → Int32) → Int32 → Int32 → Option (Int32 × Int32 × (Nat → Int32) × (Nat → Int32) × (Nat → Int32) × (Nat → Int32) × (Nat → Int32) × (Nat → Int32))
  | 0, _, _, _, _, _, _, _, _, _ => none
  | n + 1, v3_patches, f3_firstRow, f3_lastRow, f3_firstColumn, f3_lastColumn, f3_slants, f3_tints, x6, x7 =>
    if (3 : Int32) ≤ x7 then bX3_lay_86 v3_patches f3_firstRow f3_lastRow f3_firstColumn f3_lastColumn f3_slants f3_tints x6
    else ckI ((x6 * (3 : Int32)) + x7) 36 (bX3_lay_61 n v3_patches f3_firstRow f3_lastRow f3_firstColumn f3_lastColumn f3_slants (upd f3_tints ((x6 * (3 : Int32)) + x7).toNatClampNeg (0 : Int32)) x6 (x7 + (1 : Int32)))
noncomputable def fX3_lay (v3_patches : Int32) (f3_firstRow : Nat → Int32) (f3_lastRow : Nat → Int32) (f3_firstColumn : Nat → Int32) (f3_lastColumn : Nat → Int32) (f3_slants : Nat → Int32) (f3_tints : Nat → Int32) (p1 : Int32) (p2 : Int32) (p3 : Int32) (p4 : Int32) (p5 : Int32) : Option (Int32 × Int32 × (Nat → Int32) × (Nat → Int32) × (Nat → Int32) × (Nat → Int32) × (Nat → Int32) × (Nat → Int32)) :=
    if v3_patches < (12 : Int32) then ckI v3_patches 12 (ckI v3_patches 12 (ckI v3_patches 12 (ckI v3_patches 12 (ckI v3_patches 12 (bX3_lay_61 300 v3_patches (upd f3_firstRow v3_patches.toNatClampNeg p1) (upd f3_lastRow v3_patches.toNatClampNeg p2) (upd f3_firstColumn v3_patches.toNatClampNeg p3) (upd f3_lastColumn v3_patches.toNatClampNeg p4) (upd f3_slants v3_patches.toNatClampNeg p5) f3_tints v3_patches (0 : Int32))))))
    else some ((-4 : Int32), v3_patches, f3_firstRow, f3_lastRow, f3_firstColumn, f3_lastColumn, f3_slants, f3_tints)
noncomputable def fX3_covers (f3_firstRow : Nat → Int32) (f3_lastRow : Nat → Int32) (f3_firstColumn : Nat → Int32) (f3_lastColumn : Nat → Int32) (f3_slants : Nat → Int32) (p1 : Int32) (p2 : Int32) (p3 : Int32) : Option (Int32) :=
    ckI p1 12 (if p2 < (f3_firstRow p1.toNatClampNeg) then some (0 : Int32)
    else ckI p1 12 (if p2 ≤ (f3_lastRow p1.toNatClampNeg) then ckI p1 12 (ckI p1 12 (ckI p1 12 (if (p3 - (((f3_slants p1.toNatClampNeg) * (p2 - (f3_firstRow p1.toNatClampNeg))) >>> ((3 : Int32) &&& 31))) < (f3_firstColumn p1.toNatClampNeg) then some (0 : Int32)
    else ckI p1 12 (if (f3_lastColumn p1.toNatClampNeg) < (p3 - (((f3_slants p1.toNatClampNeg) * (p2 - (f3_firstRow p1.toNatClampNeg))) >>> ((3 : Int32) &&& 31))) then some (0 : Int32)
    else some (1 : Int32)))))
    else some (0 : Int32)))
noncomputable def bX3_tintAt_24 (f3_tints : Nat → Int32) (x1 : Int32) (x4 : Int32) : Option (Int32) :=
    ckI ((x4 * (3 : Int32)) + x1) 36 (some (f3_tints ((x4 * (3 : Int32)) + x1).toNatClampNeg))
noncomputable def bX3_tintAt_8 (v3_ground : Int32) (f3_firstRow : Nat → Int32) (f3_lastRow : Nat → Int32) (f3_firstColumn : Nat → Int32) (f3_lastColumn : Nat → Int32) (f3_slants : Nat → Int32) (f3_tints : Nat → Int32) : Nat → Int32 → Int32 → Int32 → Int32 → Option (Int32)
  | 0, _, _, _, _ => none
  | n + 1, x1, x2, x3, x4 =>
    if x4 < 0 then some v3_ground
    else cl1 (fX3_covers f3_firstRow f3_lastRow f3_firstColumn f3_lastColumn f3_slants x4 x2 x3) (fun r1 =>
    if r1 = 0 then bX3_tintAt_8 v3_ground f3_firstRow f3_lastRow f3_firstColumn f3_lastColumn f3_slants f3_tints n x1 x2 x3 (x4 + (-1 : Int32))
    else bX3_tintAt_24 f3_tints x1 x4)
noncomputable def fX3_tintAt (v3_ground : Int32) (v3_patches : Int32) (f3_firstRow : Nat → Int32) (f3_lastRow : Nat → Int32) (f3_firstColumn : Nat → Int32) (f3_lastColumn : Nat → Int32) (f3_slants : Nat → Int32) (f3_tints : Nat → Int32) (p1 : Int32) (p2 : Int32) (p3 : Int32) : Option (Int32) :=
    bX3_tintAt_8 v3_ground f3_firstRow f3_lastRow f3_firstColumn f3_lastColumn f3_slants f3_tints 300 p1 p2 p3 (v3_patches - (1 : Int32))
noncomputable def fX3_lightOn (v3_ground : Int32) (v3_patches : Int32) (f3_firstRow : Nat → Int32) (f3_lastRow : Nat → Int32) (f3_firstColumn : Nat → Int32) (f3_lastColumn : Nat → Int32) (f3_slants : Nat → Int32) (f3_tints : Nat → Int32) (f3_specks : Nat → Int32) (p1 : Int32) (p2 : Int32) (p3 : Int32) (p4 : Int32) : Option (Int32) :=
    cl1 (fX3_tintAt v3_ground v3_patches f3_firstRow f3_lastRow f3_firstColumn f3_lastColumn f3_slants f3_tints p1 p3 p2) (fun r1 =>
    cl1 (fX3_tintAt v3_ground v3_patches f3_firstRow f3_lastRow f3_firstColumn f3_lastColumn f3_slants f3_tints p1 (p3 + (1 : Int32)) p2) (fun r2 =>
    cl1 (fX2_rounded ((((4 : Int32) - p4) * r1) + (p4 * r2)) (4 : Int32)) (fun r3 =>
    ckI p2 12 (some (if (0 : Int32) < (r3 - (f3_specks p2.toNatClampNeg)) then (r3 - (f3_specks p2.toNatClampNeg)) else (0 : Int32))))))
noncomputable def fX4_isStep (p1 : Int32) (p2 : Int32) : Option (Int32) :=
    if p1 = (0 : Int32) then some (1 : Int32)
    else if p1 = (1 : Int32) then cl1 (fX2_within p2 (0 : Int32) (255 : Int32)) (fun r3 =>
    ckB r3 (some r3))
    else if p1 = (2 : Int32) then cl1 (fX2_within p2 (-255 : Int32) (255 : Int32)) (fun r5 =>
    ckB r5 (some r5))
    else if p1 = (3 : Int32) then cl1 (fX2_within p2 (0 : Int32) (255 : Int32)) (fun r7 =>
    ckB r7 (some r7))
    else some (0 : Int32)
noncomputable def fX4_addStep (v4_count : Int32) (f4_kinds : Nat → Int32) (f4_numbers : Nat → Int32) (p1 : Int32) (p2 : Int32) : Option (Int32 × Int32 × (Nat → Int32) × (Nat → Int32)) :=
    if v4_count < (4 : Int32) then ckI v4_count 4 (ckI v4_count 4 (some (v4_count + (1 : Int32), v4_count + (1 : Int32), upd f4_kinds v4_count.toNatClampNeg p1, upd f4_numbers v4_count.toNatClampNeg p2)))
    else some ((-4 : Int32), v4_count, f4_kinds, f4_numbers)
noncomputable def bX4_dropStep_46 (v4_count : Int32) (f4_kinds : Nat → Int32) (f4_numbers : Nat → Int32) : Option (Int32 × (Nat → Int32) × (Nat → Int32)) :=
    some (v4_count - (1 : Int32), f4_kinds, f4_numbers)
noncomputable def bX4_dropStep_2 : Nat → Int32 → (Nat → Int32) → (Nat → Int32) → Int32 → Option (Int32 × (Nat → Int32) × (Nat → Int32))
  | 0, _, _, _, _ => none
  | n + 1, v4_count, f4_kinds, f4_numbers, x2 =>
    if v4_count ≤ (x2 + (1 : Int32)) then bX4_dropStep_46 v4_count f4_kinds f4_numbers
    else ckI (x2 + (1 : Int32)) 4 (ckI x2 4 (ckI (x2 + (1 : Int32)) 4 (ckI x2 4 (bX4_dropStep_2 n v4_count (upd f4_kinds x2.toNatClampNeg (f4_kinds (x2 + (1 : Int32)).toNatClampNeg)) (upd f4_numbers x2.toNatClampNeg (f4_numbers (x2 + (1 : Int32)).toNatClampNeg)) (x2 + (1 : Int32))))))
noncomputable def fX4_dropStep (v4_count : Int32) (f4_kinds : Nat → Int32) (f4_numbers : Nat → Int32) (p1 : Int32) : Option (Int32 × (Nat → Int32) × (Nat → Int32)) :=
    bX4_dropStep_2 300 v4_count f4_kinds f4_numbers p1
noncomputable def fX4_stepped (p1 : Int32) (p2 : Int32) (p3 : Int32) : Option (Int32) :=
    if p1 = (0 : Int32) then some ((255 : Int32) - p3)
    else if p1 = (1 : Int32) then cl1 (fX2_atMostTop ((p2 * p3) / (16 : Int32))) (fun r3 =>
    some r3)
    else if p1 = (2 : Int32) then cl1 (fX2_atMostTop (if (0 : Int32) < (p3 + p2) then (p3 + p2) else (0 : Int32))) (fun r5 =>
    some r5)
    else if p1 = (3 : Int32) then (if p3 < p2 then some (0 : Int32)
    else some (255 : Int32))
    else some p3
noncomputable def bX4_through_4 (v4_count : Int32) (f4_kinds : Nat → Int32) (f4_numbers : Nat → Int32) : Nat → Int32 → Int32 → Option (Int32)
  | 0, _, _ => none
  | n + 1, x2, x3 =>
    if v4_count ≤ x3 then some x2
    else ckI x3 4 (ckI x3 4 (cl1 (fX4_stepped (f4_kinds x3.toNatClampNeg) (f4_numbers x3.toNatClampNeg) x2) (fun r3 =>
    bX4_through_4 v4_count f4_kinds f4_numbers n r3 (x3 + (1 : Int32)))))
noncomputable def fX4_through (v4_count : Int32) (f4_kinds : Nat → Int32) (f4_numbers : Nat → Int32) (p1 : Int32) : Option (Int32) :=
    bX4_through_4 v4_count f4_kinds f4_numbers 300 p1 (0 : Int32)
noncomputable def fX5_start (v5_on : Int32) (v5_lines : Int32) (v5_reach : Int32) (v5_positions : Int32) (v5_queued : Int32) (v5_position : Int32) (v5_next : Int32) (v5_mode : Int32) (v5_stops : Int32) (v5_ticked : Int32) (p1 : Int32) (p2 : Int32) : Option (Int32 × Int32 × Int32 × Int32 × Int32 × Int32 × Int32 × Int32 × Int32 × Int32) :=
    some ((1 : Int32), p1, p2, p1 + p2, (0 : Int32), (-4 : Int32), (0 : Int32), (0 : Int32), (0 : Int32), (0 : Int32))
noncomputable def fX5_wantsMore (v5_on : Int32) (v5_positions : Int32) (v5_next : Int32) : Option (Int32) :=
    if v5_on = 0 then some (0 : Int32)
    else (if v5_positions ≤ v5_next then some (0 : Int32)
    else some (1 : Int32))
noncomputable def fX5_leave (v5_on : Int32) (v5_positions : Int32) (v5_next : Int32) (v5_mode : Int32) (v5_outTicks : Int32) (v5_stops : Int32) : Option (Int32 × Int32 × Int32) :=
    cl1 (fX5_wantsMore v5_on v5_positions v5_next) (fun r1 =>
    if r1 = 0 then some ((3 : Int32), (0 : Int32), v5_stops)
    else some ((3 : Int32), (0 : Int32), v5_stops + (1 : Int32)))
noncomputable def fX5_runUp (v5_on : Int32) (v5_positions : Int32) (v5_position : Int32) (v5_next : Int32) (v5_mode : Int32) (v5_outTicks : Int32) (v5_stops : Int32) : Option (Int32 × Int32 × Int32 × Int32) :=
    cl1 (fX5_wantsMore v5_on v5_positions v5_next) (fun r1 =>
    if r1 = 0 then cl3 (fX5_leave v5_on v5_positions v5_next v5_mode v5_outTicks v5_stops) (fun w2_mode w2_outTicks w2_stops =>
    some (v5_position + (1 : Int32), w2_mode, w2_outTicks, w2_stops))
    else (if (v5_position + (1 : Int32)) = v5_next then some (v5_position + (1 : Int32), (2 : Int32), v5_outTicks, v5_stops)
    else some (v5_position + (1 : Int32), v5_mode, v5_outTicks, v5_stops)))
noncomputable def fX5_readOne (v5_on : Int32) (v5_reach : Int32) (v5_positions : Int32) (v5_queued : Int32) (v5_position : Int32) (v5_next : Int32) (v5_mode : Int32) (v5_outTicks : Int32) (v5_stops : Int32) : Option (Int32 × Int32 × Int32 × Int32 × Int32 × Int32 × Int32) :=
    cl1 (fX5_wantsMore v5_on v5_positions v5_next) (fun r1 =>
    if r1 = 0 then cl3 (fX5_leave v5_on v5_positions v5_next v5_mode v5_outTicks v5_stops) (fun w8_mode w8_outTicks w8_stops =>
    some ((0 : Int32), v5_queued, v5_position + (1 : Int32), v5_next, w8_mode, w8_outTicks, w8_stops))
    else (if v5_position < v5_reach then cl1 (fX5_wantsMore v5_on v5_positions (v5_next + (1 : Int32))) (fun r2 =>
    if r2 = 0 then cl3 (fX5_leave v5_on v5_positions (v5_next + (1 : Int32)) v5_mode v5_outTicks v5_stops) (fun w3_mode w3_outTicks w3_stops =>
    some ((0 : Int32), v5_queued + (0 : Int32), v5_position + (1 : Int32), v5_next + (1 : Int32), w3_mode, w3_outTicks, w3_stops))
    else (if (v5_queued + (0 : Int32)) < (6 : Int32) then some ((0 : Int32), v5_queued + (0 : Int32), v5_position + (1 : Int32), v5_next + (1 : Int32), v5_mode, v5_outTicks, v5_stops)
    else cl3 (fX5_leave v5_on v5_positions (v5_next + (1 : Int32)) v5_mode v5_outTicks v5_stops) (fun w4_mode w4_outTicks w4_stops =>
    some ((0 : Int32), v5_queued + (0 : Int32), v5_position + (1 : Int32), v5_next + (1 : Int32), w4_mode, w4_outTicks, w4_stops))))
    else cl1 (fX5_wantsMore v5_on v5_positions (v5_next + (1 : Int32))) (fun r5 =>
    if r5 = 0 then cl3 (fX5_leave v5_on v5_positions (v5_next + (1 : Int32)) v5_mode v5_outTicks v5_stops) (fun w6_mode w6_outTicks w6_stops =>
    some ((1 : Int32), v5_queued + (1 : Int32), v5_position + (1 : Int32), v5_next + (1 : Int32), w6_mode, w6_outTicks, w6_stops))
    else (if (v5_queued + (1 : Int32)) < (6 : Int32) then some ((1 : Int32), v5_queued + (1 : Int32), v5_position + (1 : Int32), v5_next + (1 : Int32), v5_mode, v5_outTicks, v5_stops)
    else cl3 (fX5_leave v5_on v5_positions (v5_next + (1 : Int32)) v5_mode v5_outTicks v5_stops) (fun w7_mode w7_outTicks w7_stops =>
    some ((1 : Int32), v5_queued + (1 : Int32), v5_position + (1 : Int32), v5_next + (1 : Int32), w7_mode, w7_outTicks, w7_stops))))))
noncomputable def fX5_runOut (v5_position : Int32) (v5_mode : Int32) (v5_outTicks : Int32) : Option (Int32 × Int32 × Int32) :=
    if (v5_outTicks + (1 : Int32)) < (3 : Int32) then some (v5_position + (1 : Int32), v5_mode, v5_outTicks + (1 : Int32))
    else some (v5_position + (1 : Int32), (4 : Int32), v5_outTicks + (1 : Int32))
noncomputable def fX5_goBack (v5_position : Int32) (v5_next : Int32) (v5_mode : Int32) : Option (Int32 × Int32) :=
    if (v5_position - (1 : Int32)) = (v5_next - (4 : Int32)) then some (v5_position - (1 : Int32), (0 : Int32))
    else some (v5_position - (1 : Int32), v5_mode)
noncomputable def fX5_tick (v5_on : Int32) (v5_reach : Int32) (v5_positions : Int32) (v5_queued : Int32) (v5_position : Int32) (v5_next : Int32) (v5_mode : Int32) (v5_outTicks : Int32) (v5_stops : Int32) (v5_ticked : Int32) : Option (Int32 × Int32 × Int32 × Int32 × Int32 × Int32 × Int32 × Int32) :=
    if v5_mode = (0 : Int32) then cl1 (fX5_wantsMore v5_on v5_positions v5_next) (fun r2 =>
    if r2 = 0 then some ((0 : Int32), v5_queued, v5_position, v5_next, v5_mode, v5_outTicks, v5_stops, v5_ticked + (1 : Int32))
    else (if (2 : Int32) < v5_queued then some ((0 : Int32), v5_queued, v5_position, v5_next, v5_mode, v5_outTicks, v5_stops, v5_ticked + (1 : Int32))
    else some ((0 : Int32), v5_queued, v5_position, v5_next, (1 : Int32), v5_outTicks, v5_stops, v5_ticked + (1 : Int32))))
    else if v5_mode = (1 : Int32) then cl4 (fX5_runUp v5_on v5_positions v5_position v5_next v5_mode v5_outTicks v5_stops) (fun w4_position w4_mode w4_outTicks w4_stops =>
    some ((0 : Int32), v5_queued, w4_position, v5_next, w4_mode, w4_outTicks, w4_stops, v5_ticked + (1 : Int32)))
    else if v5_mode = (2 : Int32) then cl7 (fX5_readOne v5_on v5_reach v5_positions v5_queued v5_position v5_next v5_mode v5_outTicks v5_stops) (fun r6 w6_queued w6_position w6_next w6_mode w6_outTicks w6_stops =>
    some (r6, w6_queued, w6_position, w6_next, w6_mode, w6_outTicks, w6_stops, v5_ticked + (1 : Int32)))
    else if v5_mode = (3 : Int32) then cl3 (fX5_runOut v5_position v5_mode v5_outTicks) (fun w8_position w8_mode w8_outTicks =>
    some ((0 : Int32), v5_queued, w8_position, v5_next, w8_mode, w8_outTicks, v5_stops, v5_ticked + (1 : Int32)))
    else cl2 (fX5_goBack v5_position v5_next v5_mode) (fun w9_position w9_mode =>
    some ((0 : Int32), v5_queued, w9_position, v5_next, w9_mode, v5_outTicks, v5_stops, v5_ticked + (1 : Int32)))
noncomputable def fX6_isColour (p1 : Int32) : Option (Int32) :=
    cl1 (fX2_within p1 (0 : Int32) (2 : Int32)) (fun r1 =>
    ckB r1 (some r1))
noncomputable def fX6_isColumn (p1 : Int32) : Option (Int32) :=
    cl1 (fX2_within p1 (0 : Int32) (11 : Int32)) (fun r1 =>
    ckB r1 (some r1))
noncomputable def fX6_isCell (p1 : Int32) (p2 : Int32) : Option (Int32) :=
    cl1 (fX6_isColour p1) (fun r1 =>
    if r1 = 0 then some (0 : Int32)
    else cl1 (fX6_isColumn p2) (fun r2 =>
    if r2 = 0 then some (0 : Int32)
    else some (1 : Int32)))
noncomputable def fX6_cell (f0_offset : Nat → Int32) (f0_gain : Nat → Int32) (v5_on : Int32) (p1 : Int32) (p2 : Int32) (p3 : Int32) (p4 : Int32) : Option (Int32 × (Nat → Int32) × (Nat → Int32)) :=
    cl1 (fX6_isCell p1 p2) (fun r1 =>
    if r1 = 0 then some ((-1 : Int32), f0_offset, f0_gain)
    else cl1 (fX2_within p3 (0 : Int32) (63 : Int32)) (fun r2 =>
    if r2 = 0 then some ((-2 : Int32), f0_offset, f0_gain)
    else cl1 (fX2_within p4 (0 : Int32) (127 : Int32)) (fun r3 =>
    if r3 = 0 then some ((-2 : Int32), f0_offset, f0_gain)
    else (if v5_on = 0 then cl1 (fX0_place p1 p2) (fun r4 =>
    ckI r4 36 (ckI r4 36 (some ((1 : Int32), upd f0_offset r4.toNatClampNeg p3, upd f0_gain r4.toNatClampNeg p4))))
    else some ((-3 : Int32), f0_offset, f0_gain)))))
noncomputable def fX6_strip (f0_offset : Nat → Int32) (f0_gain : Nat → Int32) (f0_dark : Nat → Int32) (f0_bright : Nat → Int32) (v5_on : Int32) (p1 : Int32) : Option (Int32 × (Nat → Int32) × (Nat → Int32)) :=
    cl1 (fX2_within p1 (0 : Int32) (1 : Int32)) (fun r1 =>
    if r1 = 0 then some ((-2 : Int32), f0_dark, f0_bright)
    else (if v5_on = 0 then (if p1 = (1 : Int32) then cl2 (fX0_readStrip f0_offset f0_gain f0_dark f0_bright (1 : Int32)) (fun w4_dark w4_bright =>
    cl1 (fX0_countLive w4_dark w4_bright) (fun r5 =>
    some (r5, w4_dark, w4_bright)))
    else cl2 (fX0_readStrip f0_offset f0_gain f0_dark f0_bright (0 : Int32)) (fun w2_dark w2_bright =>
    cl1 (fX0_countLive w2_dark w2_bright) (fun r3 =>
    some (r3, w2_dark, w2_bright))))
    else some ((-3 : Int32), f0_dark, f0_bright)))
noncomputable def fX6_ofCell (f0_offset : Nat → Int32) (f0_gain : Nat → Int32) (f0_dark : Nat → Int32) (f0_bright : Nat → Int32) (p1 : Int32) (p2 : Int32) (p3 : Int32) : Option (Int32) :=
    cl1 (fX6_isCell p1 p2) (fun r1 =>
    if r1 = 0 then some (-1 : Int32)
    else cl1 (fX0_place p1 p2) (fun r2 =>
    if p3 = (0 : Int32) then ckI r2 36 (some (f0_offset r2.toNatClampNeg))
    else if p3 = (1 : Int32) then ckI r2 36 (some (f0_gain r2.toNatClampNeg))
    else if p3 = (2 : Int32) then ckI r2 36 (some (f0_dark r2.toNatClampNeg))
    else if p3 = (3 : Int32) then ckI r2 36 (some (f0_bright r2.toNatClampNeg))
    else if p3 = (4 : Int32) then cl1 (fX0_isLive f0_dark f0_bright r2) (fun r12 =>
    if r12 = 0 then some (0 : Int32)
    else some (1 : Int32))
    else some (-2 : Int32)))
noncomputable def fX6_reading (f0_offset : Nat → Int32) (f0_gain : Nat → Int32) (p1 : Int32) (p2 : Int32) (p3 : Int32) : Option (Int32) :=
    cl1 (fX6_isCell p1 p2) (fun r1 =>
    if r1 = 0 then some (-1 : Int32)
    else cl1 (fX2_within p3 (0 : Int32) (255 : Int32)) (fun r2 =>
    if r2 = 0 then some (-2 : Int32)
    else cl1 (fX0_place p1 p2) (fun r3 =>
    cl1 (fX0_readingOf f0_offset f0_gain r3 p3) (fun r4 =>
    some r4))))
noncomputable def fX6_even (f0_dark : Nat → Int32) (f0_bright : Nat → Int32) (p1 : Int32) (p2 : Int32) (p3 : Int32) : Option (Int32) :=
    cl1 (fX6_isCell p1 p2) (fun r1 =>
    if r1 = 0 then some (-1 : Int32)
    else cl1 (fX2_within p3 (0 : Int32) (255 : Int32)) (fun r2 =>
    if r2 = 0 then some (-2 : Int32)
    else cl1 (fX0_place p1 p2) (fun r3 =>
    cl1 (fX0_isLive f0_dark f0_bright r3) (fun r4 =>
    if r4 = 0 then some (-3 : Int32)
    else cl1 (fX0_evenOf f0_dark f0_bright r3 p3) (fun r5 =>
    some r5)))))
noncomputable def fX6_ground (v3_ground : Int32) (v5_on : Int32) (p1 : Int32) : Option (Int32 × Int32) :=
    cl1 (fX2_within p1 (0 : Int32) (255 : Int32)) (fun r1 =>
    if r1 = 0 then some ((-2 : Int32), v3_ground)
    else (if v5_on = 0 then some (v3_ground, p1)
    else some ((-3 : Int32), v3_ground)))
noncomputable def fX6_patch (v3_patches : Int32) (f3_firstRow : Nat → Int32) (f3_lastRow : Nat → Int32) (f3_firstColumn : Nat → Int32) (f3_lastColumn : Nat → Int32) (f3_slants : Nat → Int32) (f3_tints : Nat → Int32) (v5_on : Int32) (p1 : Int32) (p2 : Int32) (p3 : Int32) (p4 : Int32) (p5 : Int32) : Option (Int32 × Int32 × (Nat → Int32) × (Nat → Int32) × (Nat → Int32) × (Nat → Int32) × (Nat → Int32) × (Nat → Int32)) :=
    if p1 < 0 then some ((-2 : Int32), v3_patches, f3_firstRow, f3_lastRow, f3_firstColumn, f3_lastColumn, f3_slants, f3_tints)
    else (if p2 < p1 then some ((-2 : Int32), v3_patches, f3_firstRow, f3_lastRow, f3_firstColumn, f3_lastColumn, f3_slants, f3_tints)
    else (if p2 ≤ (63 : Int32) then (if p3 < 0 then some ((-2 : Int32), v3_patches, f3_firstRow, f3_lastRow, f3_firstColumn, f3_lastColumn, f3_slants, f3_tints)
    else (if p4 < p3 then some ((-2 : Int32), v3_patches, f3_firstRow, f3_lastRow, f3_firstColumn, f3_lastColumn, f3_slants, f3_tints)
    else (if p4 < (12 : Int32) then cl1 (fX2_within p5 (-16 : Int32) (16 : Int32)) (fun r1 =>
    if r1 = 0 then some ((-2 : Int32), v3_patches, f3_firstRow, f3_lastRow, f3_firstColumn, f3_lastColumn, f3_slants, f3_tints)
    else (if v5_on = 0 then cl8 (fX3_lay v3_patches f3_firstRow f3_lastRow f3_firstColumn f3_lastColumn f3_slants f3_tints p1 p2 p3 p4 p5) (fun r2 w2_patches w2_firstRow w2_lastRow w2_firstColumn w2_lastColumn w2_slants w2_tints =>
    some (r2, w2_patches, w2_firstRow, w2_lastRow, w2_firstColumn, w2_lastColumn, w2_slants, w2_tints))
    else some ((-3 : Int32), v3_patches, f3_firstRow, f3_lastRow, f3_firstColumn, f3_lastColumn, f3_slants, f3_tints)))
    else some ((-2 : Int32), v3_patches, f3_firstRow, f3_lastRow, f3_firstColumn, f3_lastColumn, f3_slants, f3_tints))))
    else some ((-2 : Int32), v3_patches, f3_firstRow, f3_lastRow, f3_firstColumn, f3_lastColumn, f3_slants, f3_tints)))
noncomputable def fX6_tint (v3_patches : Int32) (f3_tints : Nat → Int32) (v5_on : Int32) (p1 : Int32) (p2 : Int32) (p3 : Int32) : Option (Int32 × (Nat → Int32)) :=
    if p1 < 0 then some ((-1 : Int32), f3_tints)
    else (if v3_patches ≤ p1 then some ((-1 : Int32), f3_tints)
    else cl1 (fX6_isColour p2) (fun r1 =>
    if r1 = 0 then some ((-1 : Int32), f3_tints)
    else cl1 (fX2_within p3 (0 : Int32) (255 : Int32)) (fun r2 =>
    if r2 = 0 then some ((-2 : Int32), f3_tints)
    else (if v5_on = 0 then ckI ((p1 * (3 : Int32)) + p2) 36 (ckI ((p1 * (3 : Int32)) + p2) 36 (some (f3_tints ((p1 * (3 : Int32)) + p2).toNatClampNeg, upd f3_tints ((p1 * (3 : Int32)) + p2).toNatClampNeg p3)))
    else some ((-3 : Int32), f3_tints)))))
noncomputable def fX6_blank (v3_patches : Int32) (v5_on : Int32) : Option (Int32 × Int32) :=
    if v5_on = 0 then some (v3_patches, (0 : Int32))
    else some ((-3 : Int32), v3_patches)
noncomputable def fX6_speck (f3_specks : Nat → Int32) (v5_on : Int32) (p1 : Int32) (p2 : Int32) : Option (Int32 × (Nat → Int32)) :=
    cl1 (fX6_isColumn p1) (fun r1 =>
    if r1 = 0 then some ((-1 : Int32), f3_specks)
    else cl1 (fX2_within p2 (0 : Int32) (255 : Int32)) (fun r2 =>
    if r2 = 0 then some ((-2 : Int32), f3_specks)
    else (if v5_on = 0 then ckI p1 12 (ckI p1 12 (some (f3_specks p1.toNatClampNeg, upd f3_specks p1.toNatClampNeg p2)))
    else some ((-3 : Int32), f3_specks))))
noncomputable def fX6_light (v3_ground : Int32) (v3_patches : Int32) (f3_firstRow : Nat → Int32) (f3_lastRow : Nat → Int32) (f3_firstColumn : Nat → Int32) (f3_lastColumn : Nat → Int32) (f3_slants : Nat → Int32) (f3_tints : Nat → Int32) (f3_specks : Nat → Int32) (p1 : Int32) (p2 : Int32) (p3 : Int32) (p4 : Int32) : Option (Int32) :=
    cl1 (fX6_isCell p1 p2) (fun r1 =>
    if r1 = 0 then some (-1 : Int32)
    else cl1 (fX2_within p3 (-1000 : Int32) (1000 : Int32)) (fun r2 =>
    if r2 = 0 then some (-2 : Int32)
    else cl1 (fX2_within p4 (0 : Int32) (3 : Int32)) (fun r3 =>
    if r3 = 0 then some (-2 : Int32)
    else cl1 (fX3_lightOn v3_ground v3_patches f3_firstRow f3_lastRow f3_firstColumn f3_lastColumn f3_slants f3_tints f3_specks p1 p2 p3 p4) (fun r4 =>
    some r4))))
noncomputable def fX6_lead (f6_leads : Nat → Int32) (v5_on : Int32) (p1 : Int32) (p2 : Int32) : Option (Int32 × (Nat → Int32)) :=
    cl1 (fX6_isColour p1) (fun r1 =>
    if r1 = 0 then some ((-1 : Int32), f6_leads)
    else (if p1 = 0 then some ((-1 : Int32), f6_leads)
    else cl1 (fX2_within p2 (0 : Int32) (15 : Int32)) (fun r2 =>
    if r2 = 0 then some ((-2 : Int32), f6_leads)
    else (if v5_on = 0 then ckI p1 3 (ckI p1 3 (some (f6_leads p1.toNatClampNeg, upd f6_leads p1.toNatClampNeg p2)))
    else some ((-3 : Int32), f6_leads)))))
noncomputable def fX6_pipe (v4_count : Int32) (f4_kinds : Nat → Int32) (f4_numbers : Nat → Int32) (v5_on : Int32) (p1 : Int32) (p2 : Int32) : Option (Int32 × Int32 × (Nat → Int32) × (Nat → Int32)) :=
    cl1 (fX4_isStep p1 p2) (fun r1 =>
    if r1 = 0 then some ((-2 : Int32), v4_count, f4_kinds, f4_numbers)
    else (if v5_on = 0 then cl4 (fX4_addStep v4_count f4_kinds f4_numbers p1 p2) (fun r2 w2_count w2_kinds w2_numbers =>
    some (r2, w2_count, w2_kinds, w2_numbers))
    else some ((-3 : Int32), v4_count, f4_kinds, f4_numbers)))
noncomputable def fX6_unpipe (v4_count : Int32) (f4_kinds : Nat → Int32) (f4_numbers : Nat → Int32) (v5_on : Int32) (p1 : Int32) : Option (Int32 × Int32 × (Nat → Int32) × (Nat → Int32)) :=
    if p1 < 0 then some ((-1 : Int32), v4_count, f4_kinds, f4_numbers)
    else (if p1 < v4_count then (if v5_on = 0 then cl3 (fX4_dropStep v4_count f4_kinds f4_numbers p1) (fun w1_count w1_kinds w1_numbers =>
    some (w1_count, w1_count, w1_kinds, w1_numbers))
    else some ((-3 : Int32), v4_count, f4_kinds, f4_numbers))
    else some ((-1 : Int32), v4_count, f4_kinds, f4_numbers))
noncomputable def fX6_piped (v4_count : Int32) (f4_kinds : Nat → Int32) (f4_numbers : Nat → Int32) (p1 : Int32) : Option (Int32) :=
    cl1 (fX2_within p1 (0 : Int32) (255 : Int32)) (fun r1 =>
    if r1 = 0 then some (-2 : Int32)
    else cl1 (fX4_through v4_count f4_kinds f4_numbers p1) (fun r2 =>
    some r2))
noncomputable def fX6_threshold (v5_on : Int32) (v1_threshold : Int32) (p1 : Int32) : Option (Int32 × Int32) :=
    cl1 (fX2_within p1 (0 : Int32) (256 : Int32)) (fun r1 =>
    if r1 = 0 then some ((-2 : Int32), v1_threshold)
    else (if v5_on = 0 then some (v1_threshold, p1)
    else some ((-3 : Int32), v1_threshold)))
noncomputable def bX6_reach_4 (f6_leads : Nat → Int32) : Nat → Int32 → Int32 → Option (Int32)
  | 0, _, _ => none
  | n + 1, x1, x2 =>
    if (3 : Int32) ≤ x2 then some x1
    else ckI x2 3 (bX6_reach_4 f6_leads n (if x1 < ((((f6_leads x2.toNatClampNeg) + (4 : Int32)) - (1 : Int32)) / (4 : Int32)) then ((((f6_leads x2.toNatClampNeg) + (4 : Int32)) - (1 : Int32)) / (4 : Int32)) else x1) (x2 + (1 : Int32)))
noncomputable def fX6_reach (f6_leads : Nat → Int32) : Option (Int32) :=
    bX6_reach_4 f6_leads 300 (0 : Int32) (0 : Int32)
noncomputable def fX6_begin (f6_leads : Nat → Int32) (v5_on : Int32) (v5_lines : Int32) (v5_reach : Int32) (v5_positions : Int32) (v5_queued : Int32) (v5_position : Int32) (v5_next : Int32) (v5_mode : Int32) (v5_stops : Int32) (v5_ticked : Int32) (v1_count : Int32) (p1 : Int32) : Option (Int32 × Int32 × Int32 × Int32 × Int32 × Int32 × Int32 × Int32 × Int32 × Int32 × Int32 × Int32) :=
    cl1 (fX2_within p1 (1 : Int32) (40 : Int32)) (fun r1 =>
    if r1 = 0 then some ((-2 : Int32), v5_on, v5_lines, v5_reach, v5_positions, v5_queued, v5_position, v5_next, v5_mode, v5_stops, v5_ticked, v1_count)
    else (if v5_on = 0 then cl1 (fX6_reach f6_leads) (fun r2 =>
    cl10 (fX5_start v5_on v5_lines v5_reach v5_positions v5_queued v5_position v5_next v5_mode v5_stops v5_ticked p1 r2) (fun w3_on w3_lines w3_reach w3_positions w3_queued w3_position w3_next w3_mode w3_stops w3_ticked =>
    some (w3_positions, w3_on, w3_lines, w3_reach, w3_positions, w3_queued, w3_position, w3_next, w3_mode, w3_stops, w3_ticked, (0 : Int32))))
    else some ((-3 : Int32), v5_on, v5_lines, v5_reach, v5_positions, v5_queued, v5_position, v5_next, v5_mode, v5_stops, v5_ticked, v1_count)))
noncomputable def bX6_ticks_18 (v5_on : Int32) (v5_reach : Int32) (v5_positions : Int32) : Nat → Int32 → Int32 → Int32 → Int32 → Int32 → Int32 → Int32 → Int32 → Int32 → Int32 → Option (Int32 × Int32 × Int32 × Int32 × Int32 × Int32 × Int32 × Int32)
  | 0, _, _, _, _, _, _, _, _, _, _ => none
  | n + 1, v5_queued, v5_position, v5_next, v5_mode, v5_outTicks, v5_stops, v5_ticked, x1, x2, x3 =>
    if x1 ≤ x3 then some (x2, v5_queued, v5_position, v5_next, v5_mode, v5_outTicks, v5_stops, v5_ticked)
    else cl8 (fX5_tick v5_on v5_reach v5_positions v5_queued v5_position v5_next v5_mode v5_outTicks v5_stops v5_ticked) (fun r2 w2_queued w2_position w2_next w2_mode w2_outTicks w2_stops w2_ticked =>
    bX6_ticks_18 v5_on v5_reach v5_positions n w2_queued w2_position w2_next w2_mode w2_outTicks w2_stops w2_ticked x1 (x2 + r2) (x3 + (1 : Int32)))
noncomputable def fX6_ticks (v5_on : Int32) (v5_reach : Int32) (v5_positions : Int32) (v5_queued : Int32) (v5_position : Int32) (v5_next : Int32) (v5_mode : Int32) (v5_outTicks : Int32) (v5_stops : Int32) (v5_ticked : Int32) (p1 : Int32) : Option (Int32 × Int32 × Int32 × Int32 × Int32 × Int32 × Int32 × Int32) :=
    cl1 (fX2_within p1 (0 : Int32) (200 : Int32)) (fun r1 =>
    if r1 = 0 then some ((-2 : Int32), v5_queued, v5_position, v5_next, v5_mode, v5_outTicks, v5_stops, v5_ticked)
    else bX6_ticks_18 v5_on v5_reach v5_positions 300 v5_queued v5_position v5_next v5_mode v5_outTicks v5_stops v5_ticked p1 (0 : Int32) (0 : Int32))
noncomputable def fX6_liveValue (f6_leads : Nat → Int32) (f0_offset : Nat → Int32) (f0_gain : Nat → Int32) (f0_dark : Nat → Int32) (f0_bright : Nat → Int32) (v3_ground : Int32) (v3_patches : Int32) (f3_firstRow : Nat → Int32) (f3_lastRow : Nat → Int32) (f3_firstColumn : Nat → Int32) (f3_lastColumn : Nat → Int32) (f3_slants : Nat → Int32) (f3_tints : Nat → Int32) (f3_specks : Nat → Int32) (p1 : Int32) (p2 : Int32) (p3 : Int32) : Option (Int32) :=
    ckI p2 3 (cl1 (fJ9_floorDiv_7cf53 (((4 : Int32) * p1) - (f6_leads p2.toNatClampNeg)) (4 : Int32)) (fun r2 =>
    cl1 (fX3_lightOn v3_ground v3_patches f3_firstRow f3_lastRow f3_firstColumn f3_lastColumn f3_slants f3_tints f3_specks p2 p3 r2 ((((4 : Int32) * p1) - (f6_leads p2.toNatClampNeg)) - ((4 : Int32) * r2))) (fun r3 =>
    cl1 (fX0_place p2 p3) (fun r4 =>
    cl1 (fX0_readingOf f0_offset f0_gain r4 r3) (fun r5 =>
    cl1 (fX0_evenOf f0_dark f0_bright r4 r5) (fun r6 =>
    some r6))))))
noncomputable def fX6_valueAt (f6_leads : Nat → Int32) (f0_offset : Nat → Int32) (f0_gain : Nat → Int32) (f0_dark : Nat → Int32) (f0_bright : Nat → Int32) (v3_ground : Int32) (v3_patches : Int32) (f3_firstRow : Nat → Int32) (f3_lastRow : Nat → Int32) (f3_firstColumn : Nat → Int32) (f3_lastColumn : Nat → Int32) (f3_slants : Nat → Int32) (f3_tints : Nat → Int32) (f3_specks : Nat → Int32) (p1 : Int32) (p2 : Int32) (p3 : Int32) : Option (Int32) :=
    cl1 (fX0_nearestLive f0_dark f0_bright p2 p3 (-1 : Int32)) (fun r1 =>
    if r1 = p3 then cl1 (fX6_liveValue f6_leads f0_offset f0_gain f0_dark f0_bright v3_ground v3_patches f3_firstRow f3_lastRow f3_firstColumn f3_lastColumn f3_slants f3_tints f3_specks p1 p2 p3) (fun r13 =>
    some r13)
    else cl1 (fX0_nearestLive f0_dark f0_bright p2 p3 (1 : Int32)) (fun r2 =>
    if r1 = (-9 : Int32) then (if r2 = (-9 : Int32) then some (0 : Int32)
    else (if r1 = (-9 : Int32) then cl1 (fX6_liveValue f6_leads f0_offset f0_gain f0_dark f0_bright v3_ground v3_patches f3_firstRow f3_lastRow f3_firstColumn f3_lastColumn f3_slants f3_tints f3_specks p1 p2 r2) (fun r12 =>
    some r12)
    else (if r2 = (-9 : Int32) then cl1 (fX6_liveValue f6_leads f0_offset f0_gain f0_dark f0_bright v3_ground v3_patches f3_firstRow f3_lastRow f3_firstColumn f3_lastColumn f3_slants f3_tints f3_specks p1 p2 r1) (fun r11 =>
    some r11)
    else cl1 (fX6_liveValue f6_leads f0_offset f0_gain f0_dark f0_bright v3_ground v3_patches f3_firstRow f3_lastRow f3_firstColumn f3_lastColumn f3_slants f3_tints f3_specks p1 p2 r1) (fun r8 =>
    cl1 (fX6_liveValue f6_leads f0_offset f0_gain f0_dark f0_bright v3_ground v3_patches f3_firstRow f3_lastRow f3_firstColumn f3_lastColumn f3_slants f3_tints f3_specks p1 p2 r2) (fun r9 =>
    cl1 (fX2_rounded ((r8 * (r2 - p3)) + (r9 * (p3 - r1))) (r2 - r1)) (fun r10 =>
    some r10))))))
    else (if r1 = (-9 : Int32) then cl1 (fX6_liveValue f6_leads f0_offset f0_gain f0_dark f0_bright v3_ground v3_patches f3_firstRow f3_lastRow f3_firstColumn f3_lastColumn f3_slants f3_tints f3_specks p1 p2 r2) (fun r7 =>
    some r7)
    else (if r2 = (-9 : Int32) then cl1 (fX6_liveValue f6_leads f0_offset f0_gain f0_dark f0_bright v3_ground v3_patches f3_firstRow f3_lastRow f3_firstColumn f3_lastColumn f3_slants f3_tints f3_specks p1 p2 r1) (fun r6 =>
    some r6)
    else cl1 (fX6_liveValue f6_leads f0_offset f0_gain f0_dark f0_bright v3_ground v3_patches f3_firstRow f3_lastRow f3_firstColumn f3_lastColumn f3_slants f3_tints f3_specks p1 p2 r1) (fun r3 =>
    cl1 (fX6_liveValue f6_leads f0_offset f0_gain f0_dark f0_bright v3_ground v3_patches f3_firstRow f3_lastRow f3_firstColumn f3_lastColumn f3_slants f3_tints f3_specks p1 p2 r2) (fun r4 =>
    cl1 (fX2_rounded ((r3 * (r2 - p3)) + (r4 * (p3 - r1))) (r2 - r1)) (fun r5 =>
    some r5)))))))
noncomputable def fX6_lineValue (f6_leads : Nat → Int32) (f0_offset : Nat → Int32) (f0_gain : Nat → Int32) (f0_dark : Nat → Int32) (f0_bright : Nat → Int32) (v3_ground : Int32) (v3_patches : Int32) (f3_firstRow : Nat → Int32) (f3_lastRow : Nat → Int32) (f3_firstColumn : Nat → Int32) (f3_lastColumn : Nat → Int32) (f3_slants : Nat → Int32) (f3_tints : Nat → Int32) (f3_specks : Nat → Int32) (v4_count : Int32) (f4_kinds : Nat → Int32) (f4_numbers : Nat → Int32) (p1 : Int32) (p2 : Int32) (p3 : Int32) : Option (Int32) :=
    ckI p2 3 (ckI p2 3 (cl1 (fX6_valueAt f6_leads f0_offset f0_gain f0_dark f0_bright v3_ground v3_patches f3_firstRow f3_lastRow f3_firstColumn f3_lastColumn f3_slants f3_tints f3_specks (p1 + ((f6_leads p2.toNatClampNeg) / (4 : Int32))) p2 p3) (fun r3 =>
    if ((f6_leads p2.toNatClampNeg) - (f6_leads p2.toNatClampNeg) / (4 : Int32) * (4 : Int32)) ≤ 0 then cl1 (fX4_through v4_count f4_kinds f4_numbers r3) (fun r4 =>
    some r4)
    else cl1 (fX6_valueAt f6_leads f0_offset f0_gain f0_dark f0_bright v3_ground v3_patches f3_firstRow f3_lastRow f3_firstColumn f3_lastColumn f3_slants f3_tints f3_specks ((p1 + ((f6_leads p2.toNatClampNeg) / (4 : Int32))) + (1 : Int32)) p2 p3) (fun r5 =>
    cl1 (fX2_rounded ((r3 * ((4 : Int32) - ((f6_leads p2.toNatClampNeg) - (f6_leads p2.toNatClampNeg) / (4 : Int32) * (4 : Int32)))) + (r5 * ((f6_leads p2.toNatClampNeg) - (f6_leads p2.toNatClampNeg) / (4 : Int32) * (4 : Int32)))) (4 : Int32)) (fun r6 =>
    cl1 (fX4_through v4_count f4_kinds f4_numbers r6) (fun r7 =>
    some r7))))))
noncomputable def bX6_take_98 (v5_lines : Int32) (v5_on : Int32) (v5_queued : Int32) (v1_count : Int32) (f1_values : Nat → Int32) (x1 : Int32) : Option (Int32 × Int32 × Int32 × Int32 × (Nat → Int32)) :=
    if (v1_count + (1 : Int32)) < v5_lines then some (x1, v5_on, v5_queued - (1 : Int32), v1_count + (1 : Int32), f1_values)
    else some (x1, (0 : Int32), v5_queued - (1 : Int32), v1_count + (1 : Int32), f1_values)
noncomputable def bX6_take_55 (f6_leads : Nat → Int32) (f0_offset : Nat → Int32) (f0_gain : Nat → Int32) (f0_dark : Nat → Int32) (f0_bright : Nat → Int32) (v3_ground : Int32) (v3_patches : Int32) (f3_firstRow : Nat → Int32) (f3_lastRow : Nat → Int32) (f3_firstColumn : Nat → Int32) (f3_lastColumn : Nat → Int32) (f3_slants : Nat → Int32) (f3_tints : Nat → Int32) (f3_specks : Nat → Int32) (v4_count : Int32) (f4_kinds : Nat → Int32) (f4_numbers : Nat → Int32) (v5_lines : Int32) (kk : Int32 → Int32 → Int32 → (Nat → Int32) → Int32 → Int32 → Option (Int32 × Int32 × Int32 × Int32 × (Nat → Int32))) : Nat → Int32 → Int32 → Int32 → (Nat → Int32) → Int32 → Int32 → Int32 → Option (Int32 × Int32 × Int32 × Int32 × (Nat → Int32))
  | 0, _, _, _, _, _, _, _ => none
  | n + 1, v5_on, v5_queued, v1_count, f1_values, x1, x2, x3 =>
    if (12 : Int32) ≤ x3 then kk v5_on v5_queued v1_count f1_values x1 (x2 + (1 : Int32))
    else cl1 (fX0_place x2 x3) (fun r1 =>
    cl1 (fX6_lineValue f6_leads f0_offset f0_gain f0_dark f0_bright v3_ground v3_patches f3_firstRow f3_lastRow f3_firstColumn f3_lastColumn f3_slants f3_tints f3_specks v4_count f4_kinds f4_numbers x1 x2 x3) (fun r2 =>
    ckI ((x1 * (36 : Int32)) + r1) 1440 (bX6_take_55 f6_leads f0_offset f0_gain f0_dark f0_bright v3_ground v3_patches f3_firstRow f3_lastRow f3_firstColumn f3_lastColumn f3_slants f3_tints f3_specks v4_count f4_kinds f4_numbers v5_lines kk n v5_on v5_queued v1_count (upd f1_values ((x1 * (36 : Int32)) + r1).toNatClampNeg r2) x1 x2 (x3 + (1 : Int32)))))
noncomputable def bX6_take_48 (f6_leads : Nat → Int32) (f0_offset : Nat → Int32) (f0_gain : Nat → Int32) (f0_dark : Nat → Int32) (f0_bright : Nat → Int32) (v3_ground : Int32) (v3_patches : Int32) (f3_firstRow : Nat → Int32) (f3_lastRow : Nat → Int32) (f3_firstColumn : Nat → Int32) (f3_lastColumn : Nat → Int32) (f3_slants : Nat → Int32) (f3_tints : Nat → Int32) (f3_specks : Nat → Int32) (v4_count : Int32) (f4_kinds : Nat → Int32) (f4_numbers : Nat → Int32) (v5_lines : Int32) : Nat → Int32 → Int32 → Int32 → (Nat → Int32) → Int32 → Int32 → Option (Int32 × Int32 × Int32 × Int32 × (Nat → Int32))
  | 0, _, _, _, _, _, _ => none
  | n + 1, v5_on, v5_queued, v1_count, f1_values, x1, x2 =>
    if (3 : Int32) ≤ x2 then bX6_take_98 v5_lines v5_on v5_queued v1_count f1_values x1
    else bX6_take_55 f6_leads f0_offset f0_gain f0_dark f0_bright v3_ground v3_patches f3_firstRow f3_lastRow f3_firstColumn f3_lastColumn f3_slants f3_tints f3_specks v4_count f4_kinds f4_numbers v5_lines (fun z0 z1 z2 z3 z4 z5 => bX6_take_48 f6_leads f0_offset f0_gain f0_dark f0_bright v3_ground v3_patches f3_firstRow f3_lastRow f3_firstColumn f3_lastColumn f3_slants f3_tints f3_specks v4_count f4_kinds f4_numbers v5_lines n z0 z1 z2 z3 z4 z5) 300 v5_on v5_queued v1_count f1_values x1 x2 (0 : Int32)
noncomputable def fX6_take (f6_leads : Nat → Int32) (f0_offset : Nat → Int32) (f0_gain : Nat → Int32) (f0_dark : Nat → Int32) (f0_bright : Nat → Int32) (v3_ground : Int32) (v3_patches : Int32) (f3_firstRow : Nat → Int32) (f3_lastRow : Nat → Int32) (f3_firstColumn : Nat → Int32) (f3_lastColumn : Nat → Int32) (f3_slants : Nat → Int32) (f3_tints : Nat → Int32) (f3_specks : Nat → Int32) (v4_count : Int32) (f4_kinds : Nat → Int32) (f4_numbers : Nat → Int32) (v5_on : Int32) (v5_lines : Int32) (v5_queued : Int32) (v1_count : Int32) (f1_values : Nat → Int32) : Option (Int32 × Int32 × Int32 × Int32 × (Nat → Int32)) :=
    if v5_on = 0 then some ((-3 : Int32), v5_on, v5_queued, v1_count, f1_values)
    else (if v5_queued ≤ 0 then some ((-9 : Int32), v5_on, v5_queued, v1_count, f1_values)
    else (if v1_count < (40 : Int32) then bX6_take_48 f6_leads f0_offset f0_gain f0_dark f0_bright v3_ground v3_patches f3_firstRow f3_lastRow f3_firstColumn f3_lastColumn f3_slants f3_tints f3_specks v4_count f4_kinds f4_numbers v5_lines 300 v5_on v5_queued v1_count f1_values v1_count (0 : Int32)
    else some ((-9 : Int32), v5_on, v5_queued, v1_count, f1_values)))
noncomputable def fX6_stop (v5_on : Int32) (v5_lines : Int32) (v5_queued : Int32) (v1_count : Int32) : Option (Int32 × Int32 × Int32) :=
    if v5_on = 0 then some ((-3 : Int32), v5_on, v5_queued)
    else some (v5_lines - v1_count, (0 : Int32), (0 : Int32))
noncomputable def fX6_head (f6_leads : Nat → Int32) (v5_on : Int32) (v5_queued : Int32) (v5_position : Int32) (v5_next : Int32) (v5_mode : Int32) (v5_stops : Int32) (v5_ticked : Int32) (p1 : Int32) : Option (Int32) :=
    if p1 = (0 : Int32) then some (v5_position + (1000 : Int32))
    else if p1 = (1 : Int32) then some v5_mode
    else if p1 = (2 : Int32) then some v5_next
    else if p1 = (3 : Int32) then some v5_queued
    else if p1 = (4 : Int32) then some v5_stops
    else if p1 = (5 : Int32) then some v5_ticked
    else if p1 = (6 : Int32) then (if v5_on = 0 then some (0 : Int32)
    else some (1 : Int32))
    else if p1 = (7 : Int32) then cl1 (fX6_reach f6_leads) (fun r9 =>
    some r9)
    else some (-2 : Int32)
noncomputable def fX6_whole (f6_leads : Nat → Int32) (f0_offset : Nat → Int32) (f0_gain : Nat → Int32) (f0_dark : Nat → Int32) (f0_bright : Nat → Int32) (v3_ground : Int32) (v3_patches : Int32) (f3_firstRow : Nat → Int32) (f3_lastRow : Nat → Int32) (f3_firstColumn : Nat → Int32) (f3_lastColumn : Nat → Int32) (f3_slants : Nat → Int32) (f3_tints : Nat → Int32) (f3_specks : Nat → Int32) (v4_count : Int32) (f4_kinds : Nat → Int32) (f4_numbers : Nat → Int32) (p1 : Int32) (p2 : Int32) (p3 : Int32) : Option (Int32) :=
    cl1 (fX6_isCell p2 p3) (fun r1 =>
    if r1 = 0 then some (-1 : Int32)
    else cl1 (fX2_within p1 (0 : Int32) (39 : Int32)) (fun r2 =>
    if r2 = 0 then some (-2 : Int32)
    else cl1 (fX6_lineValue f6_leads f0_offset f0_gain f0_dark f0_bright v3_ground v3_patches f3_firstRow f3_lastRow f3_firstColumn f3_lastColumn f3_slants f3_tints f3_specks v4_count f4_kinds f4_numbers p1 p2 p3) (fun r3 =>
    some r3)))
noncomputable def fX6_pixel (v1_count : Int32) (f1_values : Nat → Int32) (p1 : Int32) (p2 : Int32) (p3 : Int32) : Option (Int32) :=
    cl1 (fX1_has v1_count p1) (fun r1 =>
    if r1 = 0 then some (-1 : Int32)
    else cl1 (fX6_isCell p2 p3) (fun r2 =>
    if r2 = 0 then some (-1 : Int32)
    else cl1 (fX0_place p2 p3) (fun r3 =>
    ckI ((p1 * (36 : Int32)) + r3) 1440 (some (f1_values ((p1 * (36 : Int32)) + r3).toNatClampNeg)))))
noncomputable def fX6_grey (v1_count : Int32) (f1_values : Nat → Int32) (p1 : Int32) (p2 : Int32) : Option (Int32) :=
    cl1 (fX1_has v1_count p1) (fun r1 =>
    if r1 = 0 then some (-1 : Int32)
    else cl1 (fX6_isColumn p2) (fun r2 =>
    if r2 = 0 then some (-1 : Int32)
    else cl1 (fX1_greyOf f1_values p1 p2) (fun r3 =>
    some r3)))
noncomputable def fX6_dark (v1_count : Int32) (v1_threshold : Int32) (f1_values : Nat → Int32) (p1 : Int32) : Option (Int32) :=
    cl1 (fX1_has v1_count p1) (fun r1 =>
    if r1 = 0 then some (-1 : Int32)
    else cl1 (fX1_darkSet v1_threshold f1_values p1) (fun r2 =>
    some r2))
noncomputable def fX6_run (v1_count : Int32) (v1_threshold : Int32) (f1_values : Nat → Int32) (p1 : Int32) (p2 : Int32) (p3 : Int32) : Option (Int32) :=
    cl1 (fX1_has v1_count p1) (fun r1 =>
    if r1 = 0 then some (-1 : Int32)
    else cl1 (fX1_darkSet v1_threshold f1_values p1) (fun r2 =>
    cl1 (fX1_runStart r2 p2) (fun r3 =>
    if r3 = (-9 : Int32) then some (-1 : Int32)
    else (if p3 = (0 : Int32) then some r3
    else if p3 = (1 : Int32) then cl1 (fX1_runLength r2 r3) (fun r6 =>
    some r6)
    else some (-2 : Int32)))))
noncomputable def fX6_edge (v1_count : Int32) (v1_threshold : Int32) (f1_values : Nat → Int32) (p1 : Int32) : Option (Int32) :=
    cl1 (fX1_has v1_count p1) (fun r1 =>
    if r1 = 0 then some (-1 : Int32)
    else cl1 (fX1_edgeOf v1_threshold f1_values p1) (fun r2 =>
    some r2))
noncomputable def fX6_skew (v1_count : Int32) (v1_threshold : Int32) (f1_values : Nat → Int32) (p1 : Int32) : Option (Int64) :=
    cl1 (fX2_within p1 (0 : Int32) (1 : Int32)) (fun r1 =>
    if r1 = 0 then some (-9223372036854775808 : Int64)
    else (if p1 = (1 : Int32) then cl1 (fX1_skewPart v1_count v1_threshold f1_values (1 : Int32)) (fun r3 =>
    some r3)
    else cl1 (fX1_skewPart v1_count v1_threshold f1_values (0 : Int32)) (fun r2 =>
    some r2)))
noncomputable def fX6_longest (v1_count : Int32) (f1_values : Nat → Int32) (p1 : Int32) : Option (Int32) :=
    cl1 (fX6_isColumn p1) (fun r1 =>
    if r1 = 0 then some (-1 : Int32)
    else cl1 (fX1_longestOf v1_count f1_values p1) (fun r2 =>
    some r2))
noncomputable def bX6_streaks_4 (v1_count : Int32) (f1_values : Nat → Int32) : Nat → Int32 → Int32 → Option (Int32)
  | 0, _, _ => none
  | n + 1, x1, x2 =>
    if (12 : Int32) ≤ x2 then some x1
    else cl1 (fX1_longestOf v1_count f1_values x2) (fun r1 =>
    if r1 < (4 : Int32) then bX6_streaks_4 v1_count f1_values n x1 (x2 + (1 : Int32))
    else bX6_streaks_4 v1_count f1_values n (x1 ||| ((1 : Int32) <<< (x2 &&& 31))) (x2 + (1 : Int32)))
noncomputable def fX6_streaks (v1_count : Int32) (f1_values : Nat → Int32) : Option (Int32) :=
    bX6_streaks_4 v1_count f1_values 300 (0 : Int32) (0 : Int32)
noncomputable def fX6_many (f0_dark : Nat → Int32) (f0_bright : Nat → Int32) (v3_patches : Int32) (v4_count : Int32) (v5_lines : Int32) (v1_count : Int32) (v1_threshold : Int32) (f1_values : Nat → Int32) (p1 : Int32) : Option (Int32) :=
    if p1 = (0 : Int32) then some v3_patches
    else if p1 = (1 : Int32) then some v4_count
    else if p1 = (2 : Int32) then some v1_count
    else if p1 = (3 : Int32) then cl1 (fX0_countLive f0_dark f0_bright) (fun r5 =>
    some r5)
    else if p1 = (4 : Int32) then some v5_lines
    else if p1 = (5 : Int32) then cl1 (fX1_countRuns v1_count v1_threshold f1_values) (fun r8 =>
    some r8)
    else some (-2 : Int32)
noncomputable def fX7_within (p1 : Int32) (p2 : Int32) (p3 : Int32) : Option (Int32) :=
    if p1 < p2 then some (0 : Int32)
    else (if p3 < p1 then some (0 : Int32)
    else some (1 : Int32))
noncomputable def fX7_isColour (p1 : Int32) : Option (Int32) :=
    cl1 (fX7_within p1 (0 : Int32) (2 : Int32)) (fun r1 =>
    ckB r1 (some r1))
noncomputable def fX7_isColumn (p1 : Int32) : Option (Int32) :=
    cl1 (fX7_within p1 (0 : Int32) (11 : Int32)) (fun r1 =>
    ckB r1 (some r1))
noncomputable def fX7_isCell (p1 : Int32) (p2 : Int32) : Option (Int32) :=
    cl1 (fX7_isColour p1) (fun r1 =>
    if r1 = 0 then some (0 : Int32)
    else cl1 (fX7_isColumn p2) (fun r2 =>
    if r2 = 0 then some (0 : Int32)
    else some (1 : Int32)))
noncomputable def fX7_atMost (p1 : Int32) (p2 : Int32) : Option (Int32) :=
    if p1 ≤ p2 then some p1
    else some p2
noncomputable def fX7_atLeast (p1 : Int32) (p2 : Int32) : Option (Int32) :=
    if p2 ≤ p1 then some p1
    else some p2
noncomputable def fX7_rounded (p1 : Int32) (p2 : Int32) : Option (Int32) :=
    ckZ ((2 : Int32) * p2) (some ((((2 : Int32) * p1) + p2) / ((2 : Int32) * p2)))
noncomputable def fX7_cell (f7_offset : Nat → Int32) (f7_gain : Nat → Int32) (v7_isOn : Int32) (p1 : Int32) (p2 : Int32) (p3 : Int32) (p4 : Int32) : Option (Int32 × (Nat → Int32) × (Nat → Int32)) :=
    cl1 (fX7_isCell p1 p2) (fun r1 =>
    if r1 = 0 then some ((-1 : Int32), f7_offset, f7_gain)
    else cl1 (fX7_within p3 (0 : Int32) (63 : Int32)) (fun r2 =>
    if r2 = 0 then some ((-2 : Int32), f7_offset, f7_gain)
    else cl1 (fX7_within p4 (0 : Int32) (127 : Int32)) (fun r3 =>
    if r3 = 0 then some ((-2 : Int32), f7_offset, f7_gain)
    else (if v7_isOn = 0 then ckI (((12 : Int32) * p1) + p2) 36 (ckI (((12 : Int32) * p1) + p2) 36 (some ((1 : Int32), upd f7_offset (((12 : Int32) * p1) + p2).toNatClampNeg p3, upd f7_gain (((12 : Int32) * p1) + p2).toNatClampNeg p4)))
    else some ((-3 : Int32), f7_offset, f7_gain)))))
noncomputable def fX7_readingOf (f7_offset : Nat → Int32) (f7_gain : Nat → Int32) (p1 : Int32) (p2 : Int32) : Option (Int32) :=
    ckI p1 36 (ckI p1 36 (cl1 (fX7_atMost ((f7_offset p1.toNatClampNeg) + ((p2 * (f7_gain p1.toNatClampNeg)) / (64 : Int32))) (255 : Int32)) (fun r3 =>
    some r3)))
noncomputable def fX7_isLive (f7_dark : Nat → Int32) (f7_bright : Nat → Int32) (p1 : Int32) : Option (Int32) :=
    ckI p1 36 (ckI p1 36 (if (f7_bright p1.toNatClampNeg) < ((f7_dark p1.toNatClampNeg) + (16 : Int32)) then some (0 : Int32)
    else some (1 : Int32)))
noncomputable def bX7_manyLive_4 (f7_dark : Nat → Int32) (f7_bright : Nat → Int32) : Nat → Int32 → Int32 → Option (Int32)
  | 0, _, _ => none
  | n + 1, x1, x2 =>
    if (36 : Int32) ≤ x2 then some x1
    else cl1 (fX7_isLive f7_dark f7_bright x2) (fun r1 =>
    if r1 = 0 then bX7_manyLive_4 f7_dark f7_bright n (x1 + (0 : Int32)) (x2 + (1 : Int32))
    else bX7_manyLive_4 f7_dark f7_bright n (x1 + (1 : Int32)) (x2 + (1 : Int32)))
noncomputable def fX7_manyLive (f7_dark : Nat → Int32) (f7_bright : Nat → Int32) : Option (Int32) :=
    bX7_manyLive_4 f7_dark f7_bright 300 (0 : Int32) (0 : Int32)
noncomputable def bX7_strip_24 (f7_offset : Nat → Int32) (f7_gain : Nat → Int32) : Nat → (Nat → Int32) → (Nat → Int32) → Int32 → Int32 → Option (Int32 × (Nat → Int32) × (Nat → Int32))
  | 0, _, _, _, _ => none
  | n + 1, f7_dark, f7_bright, x1, x2 =>
    if (36 : Int32) ≤ x2 then cl1 (fX7_manyLive f7_dark f7_bright) (fun r2 =>
    some (r2, f7_dark, f7_bright))
    else (if x1 = 0 then cl1 (fX7_readingOf f7_offset f7_gain x2 (0 : Int32)) (fun r9 =>
    ckI x2 36 (if x1 = (1 : Int32) then cl1 (fX7_readingOf f7_offset f7_gain x2 (255 : Int32)) (fun r13 =>
    ckI x2 36 (bX7_strip_24 f7_offset f7_gain n (upd f7_dark x2.toNatClampNeg r9) (upd f7_bright x2.toNatClampNeg r13) x1 (x2 + (1 : Int32))))
    else ckI x2 36 (ckI x2 36 (bX7_strip_24 f7_offset f7_gain n (upd f7_dark x2.toNatClampNeg r9) (upd f7_bright x2.toNatClampNeg (f7_bright x2.toNatClampNeg)) x1 (x2 + (1 : Int32))))))
    else ckI x2 36 (ckI x2 36 (if x1 = (1 : Int32) then cl1 (fX7_readingOf f7_offset f7_gain x2 (255 : Int32)) (fun r7 =>
    ckI x2 36 (bX7_strip_24 f7_offset f7_gain n (upd f7_dark x2.toNatClampNeg (f7_dark x2.toNatClampNeg)) (upd f7_bright x2.toNatClampNeg r7) x1 (x2 + (1 : Int32))))
    else ckI x2 36 (ckI x2 36 (bX7_strip_24 f7_offset f7_gain n (upd f7_dark x2.toNatClampNeg (f7_dark x2.toNatClampNeg)) (upd f7_bright x2.toNatClampNeg (f7_bright x2.toNatClampNeg)) x1 (x2 + (1 : Int32)))))))
noncomputable def fX7_strip (f7_offset : Nat → Int32) (f7_gain : Nat → Int32) (f7_dark : Nat → Int32) (f7_bright : Nat → Int32) (v7_isOn : Int32) (p1 : Int32) : Option (Int32 × (Nat → Int32) × (Nat → Int32)) :=
    cl1 (fX7_within p1 (0 : Int32) (1 : Int32)) (fun r1 =>
    if r1 = 0 then some ((-2 : Int32), f7_dark, f7_bright)
    else (if v7_isOn = 0 then bX7_strip_24 f7_offset f7_gain 300 f7_dark f7_bright p1 (0 : Int32)
    else some ((-3 : Int32), f7_dark, f7_bright)))
noncomputable def fX7_ofCell (f7_offset : Nat → Int32) (f7_gain : Nat → Int32) (f7_dark : Nat → Int32) (f7_bright : Nat → Int32) (p1 : Int32) (p2 : Int32) (p3 : Int32) : Option (Int32) :=
    cl1 (fX7_isCell p1 p2) (fun r1 =>
    if r1 = 0 then some (-1 : Int32)
    else (if p3 = (0 : Int32) then ckI (((12 : Int32) * p1) + p2) 36 (some (f7_offset (((12 : Int32) * p1) + p2).toNatClampNeg))
    else if p3 = (1 : Int32) then ckI (((12 : Int32) * p1) + p2) 36 (some (f7_gain (((12 : Int32) * p1) + p2).toNatClampNeg))
    else if p3 = (2 : Int32) then ckI (((12 : Int32) * p1) + p2) 36 (some (f7_dark (((12 : Int32) * p1) + p2).toNatClampNeg))
    else if p3 = (3 : Int32) then ckI (((12 : Int32) * p1) + p2) 36 (some (f7_bright (((12 : Int32) * p1) + p2).toNatClampNeg))
    else if p3 = (4 : Int32) then cl1 (fX7_isLive f7_dark f7_bright (((12 : Int32) * p1) + p2)) (fun r11 =>
    if r11 = 0 then some (0 : Int32)
    else some (1 : Int32))
    else some (-2 : Int32)))
noncomputable def fX7_reading (f7_offset : Nat → Int32) (f7_gain : Nat → Int32) (p1 : Int32) (p2 : Int32) (p3 : Int32) : Option (Int32) :=
    cl1 (fX7_isCell p1 p2) (fun r1 =>
    if r1 = 0 then some (-1 : Int32)
    else cl1 (fX7_within p3 (0 : Int32) (255 : Int32)) (fun r2 =>
    if r2 = 0 then some (-2 : Int32)
    else cl1 (fX7_readingOf f7_offset f7_gain (((12 : Int32) * p1) + p2) p3) (fun r3 =>
    some r3)))
noncomputable def fX7_evenOf (f7_dark : Nat → Int32) (f7_bright : Nat → Int32) (p1 : Int32) (p2 : Int32) : Option (Int32) :=
    ckI p1 36 (if (f7_dark p1.toNatClampNeg) ≤ p2 then ckI p1 36 (ckI p1 36 (ckI p1 36 (cl1 (fX7_rounded ((255 : Int32) * (p2 - (f7_dark p1.toNatClampNeg))) ((f7_bright p1.toNatClampNeg) - (f7_dark p1.toNatClampNeg))) (fun r5 =>
    cl1 (fX7_atMost r5 (255 : Int32)) (fun r6 =>
    some r6)))))
    else some (0 : Int32))
noncomputable def fX7_even (f7_dark : Nat → Int32) (f7_bright : Nat → Int32) (p1 : Int32) (p2 : Int32) (p3 : Int32) : Option (Int32) :=
    cl1 (fX7_isCell p1 p2) (fun r1 =>
    if r1 = 0 then some (-1 : Int32)
    else cl1 (fX7_within p3 (0 : Int32) (255 : Int32)) (fun r2 =>
    if r2 = 0 then some (-2 : Int32)
    else cl1 (fX7_isLive f7_dark f7_bright (((12 : Int32) * p1) + p2)) (fun r3 =>
    if r3 = 0 then some (-3 : Int32)
    else cl1 (fX7_evenOf f7_dark f7_bright (((12 : Int32) * p1) + p2) p3) (fun r4 =>
    some r4))))
noncomputable def fX7_ground (v7_ground : Int32) (v7_isOn : Int32) (p1 : Int32) : Option (Int32 × Int32) :=
    cl1 (fX7_within p1 (0 : Int32) (255 : Int32)) (fun r1 =>
    if r1 = 0 then some ((-2 : Int32), v7_ground)
    else (if v7_isOn = 0 then some (v7_ground, p1)
    else some ((-3 : Int32), v7_ground)))
noncomputable def bX7_patch_151 (v7_patches : Int32) (f7_fromRow : Nat → Int32) (f7_toRow : Nat → Int32) (f7_left : Nat → Int32) (f7_right : Nat → Int32) (f7_slant : Nat → Int32) (f7_tintOf : Nat → Int32) : Option (Int32 × Int32 × (Nat → Int32) × (Nat → Int32) × (Nat → Int32) × (Nat → Int32) × (Nat → Int32) × (Nat → Int32)) :=
    some ((v7_patches + (1 : Int32)) - (1 : Int32), v7_patches + (1 : Int32), f7_fromRow, f7_toRow, f7_left, f7_right, f7_slant, f7_tintOf)
noncomputable def bX7_patch_124 : Nat → Int32 → (Nat → Int32) → (Nat → Int32) → (Nat → Int32) → (Nat → Int32) → (Nat → Int32) → (Nat → Int32) → Int32 → Option (Int32 × Int32 × (Nat → Int32) × (Nat → Int32) × (Nat → Int32) × (Nat → Int32) × (Nat → Int32) × (Nat → Int32))
  | 0, _, _, _, _, _, _, _, _ => none
  | n + 1, v7_patches, f7_fromRow, f7_toRow, f7_left, f7_right, f7_slant, f7_tintOf, x6 =>
    if (3 : Int32) ≤ x6 then bX7_patch_151 v7_patches f7_fromRow f7_toRow f7_left f7_right f7_slant f7_tintOf
    else ckI (((3 : Int32) * v7_patches) + x6) 36 (bX7_patch_124 n v7_patches f7_fromRow f7_toRow f7_left f7_right f7_slant (upd f7_tintOf (((3 : Int32) * v7_patches) + x6).toNatClampNeg (0 : Int32)) (x6 + (1 : Int32)))
noncomputable def fX7_patch (v7_patches : Int32) (f7_fromRow : Nat → Int32) (f7_toRow : Nat → Int32) (f7_left : Nat → Int32) (f7_right : Nat → Int32) (f7_slant : Nat → Int32) (f7_tintOf : Nat → Int32) (v7_isOn : Int32) (p1 : Int32) (p2 : Int32) (p3 : Int32) (p4 : Int32) (p5 : Int32) : Option (Int32 × Int32 × (Nat → Int32) × (Nat → Int32) × (Nat → Int32) × (Nat → Int32) × (Nat → Int32) × (Nat → Int32)) :=
    if p1 < 0 then some ((-2 : Int32), v7_patches, f7_fromRow, f7_toRow, f7_left, f7_right, f7_slant, f7_tintOf)
    else (if p2 < p1 then some ((-2 : Int32), v7_patches, f7_fromRow, f7_toRow, f7_left, f7_right, f7_slant, f7_tintOf)
    else (if (63 : Int32) < p2 then some ((-2 : Int32), v7_patches, f7_fromRow, f7_toRow, f7_left, f7_right, f7_slant, f7_tintOf)
    else (if p3 < 0 then some ((-2 : Int32), v7_patches, f7_fromRow, f7_toRow, f7_left, f7_right, f7_slant, f7_tintOf)
    else (if p4 < p3 then some ((-2 : Int32), v7_patches, f7_fromRow, f7_toRow, f7_left, f7_right, f7_slant, f7_tintOf)
    else (if (12 : Int32) ≤ p4 then some ((-2 : Int32), v7_patches, f7_fromRow, f7_toRow, f7_left, f7_right, f7_slant, f7_tintOf)
    else cl1 (fX7_within p5 (-16 : Int32) (16 : Int32)) (fun r1 =>
    if r1 = 0 then some ((-2 : Int32), v7_patches, f7_fromRow, f7_toRow, f7_left, f7_right, f7_slant, f7_tintOf)
    else (if v7_isOn = 0 then (if v7_patches = (12 : Int32) then some ((-4 : Int32), v7_patches, f7_fromRow, f7_toRow, f7_left, f7_right, f7_slant, f7_tintOf)
    else ckI v7_patches 12 (ckI v7_patches 12 (ckI v7_patches 12 (ckI v7_patches 12 (ckI v7_patches 12 (bX7_patch_124 300 v7_patches (upd f7_fromRow v7_patches.toNatClampNeg p1) (upd f7_toRow v7_patches.toNatClampNeg p2) (upd f7_left v7_patches.toNatClampNeg p3) (upd f7_right v7_patches.toNatClampNeg p4) (upd f7_slant v7_patches.toNatClampNeg p5) f7_tintOf (0 : Int32)))))))
    else some ((-3 : Int32), v7_patches, f7_fromRow, f7_toRow, f7_left, f7_right, f7_slant, f7_tintOf))))))))
noncomputable def fX7_tint (v7_patches : Int32) (f7_tintOf : Nat → Int32) (v7_isOn : Int32) (p1 : Int32) (p2 : Int32) (p3 : Int32) : Option (Int32 × (Nat → Int32)) :=
    cl1 (fX7_within p1 (0 : Int32) (v7_patches - (1 : Int32))) (fun r1 =>
    if r1 = 0 then some ((-1 : Int32), f7_tintOf)
    else cl1 (fX7_isColour p2) (fun r2 =>
    if r2 = 0 then some ((-1 : Int32), f7_tintOf)
    else cl1 (fX7_within p3 (0 : Int32) (255 : Int32)) (fun r3 =>
    if r3 = 0 then some ((-2 : Int32), f7_tintOf)
    else (if v7_isOn = 0 then ckI (((3 : Int32) * p1) + p2) 36 (ckI (((3 : Int32) * p1) + p2) 36 (some (f7_tintOf (((3 : Int32) * p1) + p2).toNatClampNeg, upd f7_tintOf (((3 : Int32) * p1) + p2).toNatClampNeg p3)))
    else some ((-3 : Int32), f7_tintOf)))))
noncomputable def fX7_blank (v7_patches : Int32) (v7_isOn : Int32) : Option (Int32 × Int32) :=
    if v7_isOn = 0 then some (v7_patches, (0 : Int32))
    else some ((-3 : Int32), v7_patches)
noncomputable def fX7_speck (f7_speckOf : Nat → Int32) (v7_isOn : Int32) (p1 : Int32) (p2 : Int32) : Option (Int32 × (Nat → Int32)) :=
    cl1 (fX7_isColumn p1) (fun r1 =>
    if r1 = 0 then some ((-1 : Int32), f7_speckOf)
    else cl1 (fX7_within p2 (0 : Int32) (255 : Int32)) (fun r2 =>
    if r2 = 0 then some ((-2 : Int32), f7_speckOf)
    else (if v7_isOn = 0 then ckI p1 12 (ckI p1 12 (some (f7_speckOf p1.toNatClampNeg, upd f7_speckOf p1.toNatClampNeg p2)))
    else some ((-3 : Int32), f7_speckOf))))
noncomputable def fX7_down (p1 : Int32) (p2 : Int32) : Option (Int32) :=
    if p1 < 0 then ckZ p2 (some (-(((p2 - (1 : Int32)) - p1) / p2)))
    else ckZ p2 (some (p1 / p2))
noncomputable def fX7_isCovered (f7_fromRow : Nat → Int32) (f7_toRow : Nat → Int32) (f7_left : Nat → Int32) (f7_right : Nat → Int32) (f7_slant : Nat → Int32) (p1 : Int32) (p2 : Int32) (p3 : Int32) : Option (Int32) :=
    ckI p1 12 (if p2 < (f7_fromRow p1.toNatClampNeg) then some (0 : Int32)
    else ckI p1 12 (if p2 ≤ (f7_toRow p1.toNatClampNeg) then ckI p1 12 (ckI p1 12 (cl1 (fX7_down ((f7_slant p1.toNatClampNeg) * (p2 - (f7_fromRow p1.toNatClampNeg))) (8 : Int32)) (fun r5 =>
    ckI p1 12 (ckI p1 12 (cl1 (fX7_within (p3 - r5) (f7_left p1.toNatClampNeg) (f7_right p1.toNatClampNeg)) (fun r8 =>
    ckB r8 (some r8)))))))
    else some (0 : Int32)))
noncomputable def bX7_pageAt_9 (v7_patches : Int32) (f7_fromRow : Nat → Int32) (f7_toRow : Nat → Int32) (f7_left : Nat → Int32) (f7_right : Nat → Int32) (f7_slant : Nat → Int32) (f7_tintOf : Nat → Int32) : Nat → Int32 → Int32 → Int32 → Int32 → Int32 → Option (Int32)
  | 0, _, _, _, _, _ => none
  | n + 1, x1, x2, x3, x4, x5 =>
    if v7_patches ≤ x5 then some x4
    else cl1 (fX7_isCovered f7_fromRow f7_toRow f7_left f7_right f7_slant x5 x2 x3) (fun r1 =>
    if r1 = 0 then bX7_pageAt_9 v7_patches f7_fromRow f7_toRow f7_left f7_right f7_slant f7_tintOf n x1 x2 x3 x4 (x5 + (1 : Int32))
    else ckI (((3 : Int32) * x5) + x1) 36 (bX7_pageAt_9 v7_patches f7_fromRow f7_toRow f7_left f7_right f7_slant f7_tintOf n x1 x2 x3 (f7_tintOf (((3 : Int32) * x5) + x1).toNatClampNeg) (x5 + (1 : Int32))))
noncomputable def fX7_pageAt (v7_ground : Int32) (v7_patches : Int32) (f7_fromRow : Nat → Int32) (f7_toRow : Nat → Int32) (f7_left : Nat → Int32) (f7_right : Nat → Int32) (f7_slant : Nat → Int32) (f7_tintOf : Nat → Int32) (p1 : Int32) (p2 : Int32) (p3 : Int32) : Option (Int32) :=
    bX7_pageAt_9 v7_patches f7_fromRow f7_toRow f7_left f7_right f7_slant f7_tintOf 300 p1 p2 p3 v7_ground (0 : Int32)
noncomputable def fX7_lightAt (v7_ground : Int32) (v7_patches : Int32) (f7_fromRow : Nat → Int32) (f7_toRow : Nat → Int32) (f7_left : Nat → Int32) (f7_right : Nat → Int32) (f7_slant : Nat → Int32) (f7_tintOf : Nat → Int32) (f7_speckOf : Nat → Int32) (p1 : Int32) (p2 : Int32) (p3 : Int32) : Option (Int32) :=
    cl1 (fX7_down p3 (4 : Int32)) (fun r1 =>
    cl1 (fX7_pageAt v7_ground v7_patches f7_fromRow f7_toRow f7_left f7_right f7_slant f7_tintOf p1 r1 p2) (fun r2 =>
    cl1 (fX7_pageAt v7_ground v7_patches f7_fromRow f7_toRow f7_left f7_right f7_slant f7_tintOf p1 (r1 + (1 : Int32)) p2) (fun r3 =>
    cl1 (fX7_rounded ((((4 : Int32) - (p3 - ((4 : Int32) * r1))) * r2) + ((p3 - ((4 : Int32) * r1)) * r3)) (4 : Int32)) (fun r4 =>
    ckI p2 12 (cl1 (fX7_atLeast (r4 - (f7_speckOf p2.toNatClampNeg)) (0 : Int32)) (fun r6 =>
    some r6))))))
noncomputable def fX7_light (v7_ground : Int32) (v7_patches : Int32) (f7_fromRow : Nat → Int32) (f7_toRow : Nat → Int32) (f7_left : Nat → Int32) (f7_right : Nat → Int32) (f7_slant : Nat → Int32) (f7_tintOf : Nat → Int32) (f7_speckOf : Nat → Int32) (p1 : Int32) (p2 : Int32) (p3 : Int32) (p4 : Int32) : Option (Int32) :=
    cl1 (fX7_isCell p1 p2) (fun r1 =>
    if r1 = 0 then some (-1 : Int32)
    else cl1 (fX7_within p3 (-1000 : Int32) (1000 : Int32)) (fun r2 =>
    if r2 = 0 then some (-2 : Int32)
    else cl1 (fX7_within p4 (0 : Int32) (3 : Int32)) (fun r3 =>
    if r3 = 0 then some (-2 : Int32)
    else cl1 (fX7_lightAt v7_ground v7_patches f7_fromRow f7_toRow f7_left f7_right f7_slant f7_tintOf f7_speckOf p1 p2 (((4 : Int32) * p3) + p4)) (fun r4 =>
    some r4))))
noncomputable def fX7_lead (f7_leadOf : Nat → Int32) (v7_isOn : Int32) (p1 : Int32) (p2 : Int32) : Option (Int32 × (Nat → Int32)) :=
    cl1 (fX7_within p1 (1 : Int32) (2 : Int32)) (fun r1 =>
    if r1 = 0 then some ((-1 : Int32), f7_leadOf)
    else cl1 (fX7_within p2 (0 : Int32) (15 : Int32)) (fun r2 =>
    if r2 = 0 then some ((-2 : Int32), f7_leadOf)
    else (if v7_isOn = 0 then ckI p1 3 (ckI p1 3 (some (f7_leadOf p1.toNatClampNeg, upd f7_leadOf p1.toNatClampNeg p2)))
    else some ((-3 : Int32), f7_leadOf))))
noncomputable def fX7_isStep (p1 : Int32) (p2 : Int32) : Option (Int32) :=
    if p1 = (0 : Int32) then some (1 : Int32)
    else if p1 = (1 : Int32) then cl1 (fX7_within p2 (0 : Int32) (255 : Int32)) (fun r3 =>
    ckB r3 (some r3))
    else if p1 = (2 : Int32) then cl1 (fX7_within p2 (-255 : Int32) (255 : Int32)) (fun r5 =>
    ckB r5 (some r5))
    else if p1 = (3 : Int32) then cl1 (fX7_within p2 (0 : Int32) (255 : Int32)) (fun r7 =>
    ckB r7 (some r7))
    else some (0 : Int32)
noncomputable def fX7_pipe (v7_steps : Int32) (f7_stepKind : Nat → Int32) (f7_stepBy : Nat → Int32) (v7_isOn : Int32) (p1 : Int32) (p2 : Int32) : Option (Int32 × Int32 × (Nat → Int32) × (Nat → Int32)) :=
    cl1 (fX7_isStep p1 p2) (fun r1 =>
    if r1 = 0 then some ((-2 : Int32), v7_steps, f7_stepKind, f7_stepBy)
    else (if v7_isOn = 0 then (if v7_steps = (4 : Int32) then some ((-4 : Int32), v7_steps, f7_stepKind, f7_stepBy)
    else ckI v7_steps 4 (ckI v7_steps 4 (some (v7_steps + (1 : Int32), v7_steps + (1 : Int32), upd f7_stepKind v7_steps.toNatClampNeg p1, upd f7_stepBy v7_steps.toNatClampNeg p2))))
    else some ((-3 : Int32), v7_steps, f7_stepKind, f7_stepBy)))
noncomputable def bX7_unpipe_38 : Nat → Int32 → (Nat → Int32) → (Nat → Int32) → Int32 → Option (Int32 × Int32 × (Nat → Int32) × (Nat → Int32))
  | 0, _, _, _, _ => none
  | n + 1, v7_steps, f7_stepKind, f7_stepBy, x2 =>
    if v7_steps ≤ x2 then some (v7_steps, v7_steps, f7_stepKind, f7_stepBy)
    else ckI (x2 + (1 : Int32)) 4 (ckI x2 4 (ckI (x2 + (1 : Int32)) 4 (ckI x2 4 (bX7_unpipe_38 n v7_steps (upd f7_stepKind x2.toNatClampNeg (f7_stepKind (x2 + (1 : Int32)).toNatClampNeg)) (upd f7_stepBy x2.toNatClampNeg (f7_stepBy (x2 + (1 : Int32)).toNatClampNeg)) (x2 + (1 : Int32))))))
noncomputable def fX7_unpipe (v7_steps : Int32) (f7_stepKind : Nat → Int32) (f7_stepBy : Nat → Int32) (v7_isOn : Int32) (p1 : Int32) : Option (Int32 × Int32 × (Nat → Int32) × (Nat → Int32)) :=
    cl1 (fX7_within p1 (0 : Int32) (v7_steps - (1 : Int32))) (fun r1 =>
    if r1 = 0 then some ((-1 : Int32), v7_steps, f7_stepKind, f7_stepBy)
    else (if v7_isOn = 0 then bX7_unpipe_38 300 (v7_steps - (1 : Int32)) f7_stepKind f7_stepBy p1
    else some ((-3 : Int32), v7_steps, f7_stepKind, f7_stepBy)))
noncomputable def bX7_pipedOf_4 (v7_steps : Int32) (f7_stepKind : Nat → Int32) (f7_stepBy : Nat → Int32) : Nat → Int32 → Int32 → Option (Int32)
  | 0, _, _ => none
  | n + 1, x2, x3 =>
    if v7_steps ≤ x3 then some x2
    else ckI x3 4 (ckI x3 4 (if (f7_stepKind x3.toNatClampNeg) = (0 : Int32) then bX7_pipedOf_4 v7_steps f7_stepKind f7_stepBy n ((255 : Int32) - x2) (x3 + (1 : Int32))
    else if (f7_stepKind x3.toNatClampNeg) = (1 : Int32) then cl1 (fX7_atMost (((f7_stepBy x3.toNatClampNeg) * x2) / (16 : Int32)) (255 : Int32)) (fun r5 =>
    bX7_pipedOf_4 v7_steps f7_stepKind f7_stepBy n r5 (x3 + (1 : Int32)))
    else if (f7_stepKind x3.toNatClampNeg) = (2 : Int32) then cl1 (fX7_atMost (x2 + (f7_stepBy x3.toNatClampNeg)) (255 : Int32)) (fun r7 =>
    cl1 (fX7_atLeast r7 (0 : Int32)) (fun r8 =>
    bX7_pipedOf_4 v7_steps f7_stepKind f7_stepBy n r8 (x3 + (1 : Int32))))
    else (if x2 < (f7_stepBy x3.toNatClampNeg) then bX7_pipedOf_4 v7_steps f7_stepKind f7_stepBy n (0 : Int32) (x3 + (1 : Int32))
    else bX7_pipedOf_4 v7_steps f7_stepKind f7_stepBy n (255 : Int32) (x3 + (1 : Int32)))))
noncomputable def fX7_pipedOf (v7_steps : Int32) (f7_stepKind : Nat → Int32) (f7_stepBy : Nat → Int32) (p1 : Int32) : Option (Int32) :=
    bX7_pipedOf_4 v7_steps f7_stepKind f7_stepBy 300 p1 (0 : Int32)
noncomputable def fX7_piped (v7_steps : Int32) (f7_stepKind : Nat → Int32) (f7_stepBy : Nat → Int32) (p1 : Int32) : Option (Int32) :=
    cl1 (fX7_within p1 (0 : Int32) (255 : Int32)) (fun r1 =>
    if r1 = 0 then some (-2 : Int32)
    else cl1 (fX7_pipedOf v7_steps f7_stepKind f7_stepBy p1) (fun r2 =>
    some r2))
noncomputable def fX7_threshold (v7_threshold : Int32) (v7_isOn : Int32) (p1 : Int32) : Option (Int32 × Int32) :=
    cl1 (fX7_within p1 (0 : Int32) (256 : Int32)) (fun r1 =>
    if r1 = 0 then some ((-2 : Int32), v7_threshold)
    else (if v7_isOn = 0 then some (v7_threshold, p1)
    else some ((-3 : Int32), v7_threshold)))
noncomputable def bX7_nearest_3 (f7_dark : Nat → Int32) (f7_bright : Nat → Int32) : Nat → Int32 → Int32 → Int32 → Option (Int32)
  | 0, _, _, _ => none
  | n + 1, x1, x3, x4 =>
    cl1 (fX7_isColumn x4) (fun r1 =>
    if r1 = 0 then some (-9 : Int32)
    else cl1 (fX7_isLive f7_dark f7_bright (((12 : Int32) * x1) + x4)) (fun r2 =>
    if r2 = 0 then bX7_nearest_3 f7_dark f7_bright n x1 x3 (x4 + x3)
    else some x4))
noncomputable def fX7_nearest (f7_dark : Nat → Int32) (f7_bright : Nat → Int32) (p1 : Int32) (p2 : Int32) (p3 : Int32) : Option (Int32) :=
    bX7_nearest_3 f7_dark f7_bright 300 p1 p3 p2
noncomputable def fX7_liveValue (f7_offset : Nat → Int32) (f7_gain : Nat → Int32) (f7_dark : Nat → Int32) (f7_bright : Nat → Int32) (v7_ground : Int32) (v7_patches : Int32) (f7_fromRow : Nat → Int32) (f7_toRow : Nat → Int32) (f7_left : Nat → Int32) (f7_right : Nat → Int32) (f7_slant : Nat → Int32) (f7_tintOf : Nat → Int32) (f7_speckOf : Nat → Int32) (f7_leadOf : Nat → Int32) (p1 : Int32) (p2 : Int32) (p3 : Int32) : Option (Int32) :=
    ckI p1 3 (cl1 (fX7_lightAt v7_ground v7_patches f7_fromRow f7_toRow f7_left f7_right f7_slant f7_tintOf f7_speckOf p1 p2 (((4 : Int32) * p3) - (f7_leadOf p1.toNatClampNeg))) (fun r2 =>
    cl1 (fX7_readingOf f7_offset f7_gain (((12 : Int32) * p1) + p2) r2) (fun r3 =>
    cl1 (fX7_evenOf f7_dark f7_bright (((12 : Int32) * p1) + p2) r3) (fun r4 =>
    some r4))))
noncomputable def fX7_valueAt (f7_offset : Nat → Int32) (f7_gain : Nat → Int32) (f7_dark : Nat → Int32) (f7_bright : Nat → Int32) (v7_ground : Int32) (v7_patches : Int32) (f7_fromRow : Nat → Int32) (f7_toRow : Nat → Int32) (f7_left : Nat → Int32) (f7_right : Nat → Int32) (f7_slant : Nat → Int32) (f7_tintOf : Nat → Int32) (f7_speckOf : Nat → Int32) (f7_leadOf : Nat → Int32) (p1 : Int32) (p2 : Int32) (p3 : Int32) : Option (Int32) :=
    cl1 (fX7_nearest f7_dark f7_bright p1 p2 (-1 : Int32)) (fun r1 =>
    cl1 (fX7_nearest f7_dark f7_bright p1 p2 (1 : Int32)) (fun r2 =>
    if r1 = (-9 : Int32) then (if r2 = (-9 : Int32) then some (0 : Int32)
    else (if r1 = (-9 : Int32) then (if r1 = (-9 : Int32) then cl1 (fX7_liveValue f7_offset f7_gain f7_dark f7_bright v7_ground v7_patches f7_fromRow f7_toRow f7_left f7_right f7_slant f7_tintOf f7_speckOf f7_leadOf p1 r2 p3) (fun r13 =>
    some r13)
    else cl1 (fX7_liveValue f7_offset f7_gain f7_dark f7_bright v7_ground v7_patches f7_fromRow f7_toRow f7_left f7_right f7_slant f7_tintOf f7_speckOf f7_leadOf p1 r1 p3) (fun r12 =>
    some r12))
    else (if r2 = (-9 : Int32) then (if r1 = (-9 : Int32) then cl1 (fX7_liveValue f7_offset f7_gain f7_dark f7_bright v7_ground v7_patches f7_fromRow f7_toRow f7_left f7_right f7_slant f7_tintOf f7_speckOf f7_leadOf p1 r2 p3) (fun r15 =>
    some r15)
    else cl1 (fX7_liveValue f7_offset f7_gain f7_dark f7_bright v7_ground v7_patches f7_fromRow f7_toRow f7_left f7_right f7_slant f7_tintOf f7_speckOf f7_leadOf p1 r1 p3) (fun r14 =>
    some r14))
    else (if r1 = r2 then (if r1 = (-9 : Int32) then cl1 (fX7_liveValue f7_offset f7_gain f7_dark f7_bright v7_ground v7_patches f7_fromRow f7_toRow f7_left f7_right f7_slant f7_tintOf f7_speckOf f7_leadOf p1 r2 p3) (fun r20 =>
    some r20)
    else cl1 (fX7_liveValue f7_offset f7_gain f7_dark f7_bright v7_ground v7_patches f7_fromRow f7_toRow f7_left f7_right f7_slant f7_tintOf f7_speckOf f7_leadOf p1 r1 p3) (fun r19 =>
    some r19))
    else cl1 (fX7_liveValue f7_offset f7_gain f7_dark f7_bright v7_ground v7_patches f7_fromRow f7_toRow f7_left f7_right f7_slant f7_tintOf f7_speckOf f7_leadOf p1 r1 p3) (fun r16 =>
    cl1 (fX7_liveValue f7_offset f7_gain f7_dark f7_bright v7_ground v7_patches f7_fromRow f7_toRow f7_left f7_right f7_slant f7_tintOf f7_speckOf f7_leadOf p1 r2 p3) (fun r17 =>
    cl1 (fX7_rounded ((r16 * (r2 - p2)) + (r17 * (p2 - r1))) (r2 - r1)) (fun r18 =>
    some r18)))))))
    else (if r1 = (-9 : Int32) then (if r1 = (-9 : Int32) then cl1 (fX7_liveValue f7_offset f7_gain f7_dark f7_bright v7_ground v7_patches f7_fromRow f7_toRow f7_left f7_right f7_slant f7_tintOf f7_speckOf f7_leadOf p1 r2 p3) (fun r4 =>
    some r4)
    else cl1 (fX7_liveValue f7_offset f7_gain f7_dark f7_bright v7_ground v7_patches f7_fromRow f7_toRow f7_left f7_right f7_slant f7_tintOf f7_speckOf f7_leadOf p1 r1 p3) (fun r3 =>
    some r3))
    else (if r2 = (-9 : Int32) then (if r1 = (-9 : Int32) then cl1 (fX7_liveValue f7_offset f7_gain f7_dark f7_bright v7_ground v7_patches f7_fromRow f7_toRow f7_left f7_right f7_slant f7_tintOf f7_speckOf f7_leadOf p1 r2 p3) (fun r6 =>
    some r6)
    else cl1 (fX7_liveValue f7_offset f7_gain f7_dark f7_bright v7_ground v7_patches f7_fromRow f7_toRow f7_left f7_right f7_slant f7_tintOf f7_speckOf f7_leadOf p1 r1 p3) (fun r5 =>
    some r5))
    else (if r1 = r2 then (if r1 = (-9 : Int32) then cl1 (fX7_liveValue f7_offset f7_gain f7_dark f7_bright v7_ground v7_patches f7_fromRow f7_toRow f7_left f7_right f7_slant f7_tintOf f7_speckOf f7_leadOf p1 r2 p3) (fun r11 =>
    some r11)
    else cl1 (fX7_liveValue f7_offset f7_gain f7_dark f7_bright v7_ground v7_patches f7_fromRow f7_toRow f7_left f7_right f7_slant f7_tintOf f7_speckOf f7_leadOf p1 r1 p3) (fun r10 =>
    some r10))
    else cl1 (fX7_liveValue f7_offset f7_gain f7_dark f7_bright v7_ground v7_patches f7_fromRow f7_toRow f7_left f7_right f7_slant f7_tintOf f7_speckOf f7_leadOf p1 r1 p3) (fun r7 =>
    cl1 (fX7_liveValue f7_offset f7_gain f7_dark f7_bright v7_ground v7_patches f7_fromRow f7_toRow f7_left f7_right f7_slant f7_tintOf f7_speckOf f7_leadOf p1 r2 p3) (fun r8 =>
    cl1 (fX7_rounded ((r7 * (r2 - p2)) + (r8 * (p2 - r1))) (r2 - r1)) (fun r9 =>
    some r9))))))))
noncomputable def fX7_wholeOf (f7_offset : Nat → Int32) (f7_gain : Nat → Int32) (f7_dark : Nat → Int32) (f7_bright : Nat → Int32) (v7_ground : Int32) (v7_patches : Int32) (f7_fromRow : Nat → Int32) (f7_toRow : Nat → Int32) (f7_left : Nat → Int32) (f7_right : Nat → Int32) (f7_slant : Nat → Int32) (f7_tintOf : Nat → Int32) (f7_speckOf : Nat → Int32) (f7_leadOf : Nat → Int32) (v7_steps : Int32) (f7_stepKind : Nat → Int32) (f7_stepBy : Nat → Int32) (p1 : Int32) (p2 : Int32) (p3 : Int32) : Option (Int32) :=
    ckI p2 3 (ckI p2 3 (cl1 (fX7_valueAt f7_offset f7_gain f7_dark f7_bright v7_ground v7_patches f7_fromRow f7_toRow f7_left f7_right f7_slant f7_tintOf f7_speckOf f7_leadOf p2 p3 (p1 + ((f7_leadOf p2.toNatClampNeg) / (4 : Int32)))) (fun r3 =>
    if ((f7_leadOf p2.toNatClampNeg) - (f7_leadOf p2.toNatClampNeg) / (4 : Int32) * (4 : Int32)) = 0 then cl1 (fX7_pipedOf v7_steps f7_stepKind f7_stepBy r3) (fun r7 =>
    some r7)
    else cl1 (fX7_valueAt f7_offset f7_gain f7_dark f7_bright v7_ground v7_patches f7_fromRow f7_toRow f7_left f7_right f7_slant f7_tintOf f7_speckOf f7_leadOf p2 p3 ((p1 + ((f7_leadOf p2.toNatClampNeg) / (4 : Int32))) + (1 : Int32))) (fun r4 =>
    cl1 (fX7_rounded ((r3 * ((4 : Int32) - ((f7_leadOf p2.toNatClampNeg) - (f7_leadOf p2.toNatClampNeg) / (4 : Int32) * (4 : Int32)))) + (r4 * ((f7_leadOf p2.toNatClampNeg) - (f7_leadOf p2.toNatClampNeg) / (4 : Int32) * (4 : Int32)))) (4 : Int32)) (fun r5 =>
    cl1 (fX7_pipedOf v7_steps f7_stepKind f7_stepBy r5) (fun r6 =>
    some r6))))))
noncomputable def fX7_whole (f7_offset : Nat → Int32) (f7_gain : Nat → Int32) (f7_dark : Nat → Int32) (f7_bright : Nat → Int32) (v7_ground : Int32) (v7_patches : Int32) (f7_fromRow : Nat → Int32) (f7_toRow : Nat → Int32) (f7_left : Nat → Int32) (f7_right : Nat → Int32) (f7_slant : Nat → Int32) (f7_tintOf : Nat → Int32) (f7_speckOf : Nat → Int32) (f7_leadOf : Nat → Int32) (v7_steps : Int32) (f7_stepKind : Nat → Int32) (f7_stepBy : Nat → Int32) (p1 : Int32) (p2 : Int32) (p3 : Int32) : Option (Int32) :=
    cl1 (fX7_isCell p2 p3) (fun r1 =>
    if r1 = 0 then some (-1 : Int32)
    else cl1 (fX7_within p1 (0 : Int32) (39 : Int32)) (fun r2 =>
    if r2 = 0 then some (-2 : Int32)
    else cl1 (fX7_wholeOf f7_offset f7_gain f7_dark f7_bright v7_ground v7_patches f7_fromRow f7_toRow f7_left f7_right f7_slant f7_tintOf f7_speckOf f7_leadOf v7_steps f7_stepKind f7_stepBy p1 p2 p3) (fun r3 =>
    some r3)))
noncomputable def bX7_reach_4 (f7_leadOf : Nat → Int32) : Nat → Int32 → Int32 → Option (Int32)
  | 0, _, _ => none
  | n + 1, x1, x2 =>
    if (3 : Int32) ≤ x2 then some x1
    else ckI x2 3 (cl1 (fX7_atLeast x1 (((f7_leadOf x2.toNatClampNeg) + (3 : Int32)) / (4 : Int32))) (fun r2 =>
    bX7_reach_4 f7_leadOf n r2 (x2 + (1 : Int32))))
noncomputable def fX7_reach (f7_leadOf : Nat → Int32) : Option (Int32) :=
    bX7_reach_4 f7_leadOf 300 (0 : Int32) (0 : Int32)
noncomputable def fX7_begin (f7_leadOf : Nat → Int32) (v7_isOn : Int32) (v7_lines : Int32) (v7_done : Int32) (v7_taken : Int32) (v7_lastPosition : Int32) (v7_position : Int32) (v7_mode : Int32) (v7_next : Int32) (v7_stops : Int32) (v7_ticks : Int32) (p1 : Int32) : Option (Int32 × Int32 × Int32 × Int32 × Int32 × Int32 × Int32 × Int32 × Int32 × Int32 × Int32) :=
    cl1 (fX7_within p1 (1 : Int32) (40 : Int32)) (fun r1 =>
    if r1 = 0 then some ((-2 : Int32), v7_isOn, v7_lines, v7_done, v7_taken, v7_lastPosition, v7_position, v7_mode, v7_next, v7_stops, v7_ticks)
    else (if v7_isOn = 0 then cl1 (fX7_reach f7_leadOf) (fun r2 =>
    cl1 (fX7_reach f7_leadOf) (fun r3 =>
    some (p1 + r3, (1 : Int32), p1, (0 : Int32), (0 : Int32), (p1 - (1 : Int32)) + r2, (-4 : Int32), (0 : Int32), (0 : Int32), (0 : Int32), (0 : Int32))))
    else some ((-3 : Int32), v7_isOn, v7_lines, v7_done, v7_taken, v7_lastPosition, v7_position, v7_mode, v7_next, v7_stops, v7_ticks)))
noncomputable def fX7_areToBeRead (v7_isOn : Int32) (v7_lastPosition : Int32) (v7_next : Int32) : Option (Int32) :=
    if v7_isOn = 0 then some (0 : Int32)
    else (if v7_lastPosition < v7_next then some (0 : Int32)
    else some (1 : Int32))
noncomputable def fX7_read (f7_leadOf : Nat → Int32) (v7_isOn : Int32) (v7_done : Int32) (v7_taken : Int32) (v7_lastPosition : Int32) (v7_position : Int32) (v7_mode : Int32) (v7_next : Int32) (v7_outs : Int32) (v7_stops : Int32) : Option (Int32 × Int32 × Int32 × Int32 × Int32 × Int32) :=
    cl1 (fX7_reach f7_leadOf) (fun r1 =>
    if (v7_next - r1) < 0 then cl1 (fX7_areToBeRead v7_isOn v7_lastPosition (v7_next + (1 : Int32))) (fun r2 =>
    if r2 = 0 then cl1 (fX7_areToBeRead v7_isOn v7_lastPosition (v7_next + (1 : Int32))) (fun r3 =>
    if r3 = 0 then some (v7_done, v7_position + (1 : Int32), (3 : Int32), v7_next + (1 : Int32), (0 : Int32), v7_stops + (0 : Int32))
    else some (v7_done, v7_position + (1 : Int32), (3 : Int32), v7_next + (1 : Int32), (0 : Int32), v7_stops + (1 : Int32)))
    else (if (v7_done - v7_taken) = (6 : Int32) then cl1 (fX7_areToBeRead v7_isOn v7_lastPosition (v7_next + (1 : Int32))) (fun r4 =>
    if r4 = 0 then some (v7_done, v7_position + (1 : Int32), (3 : Int32), v7_next + (1 : Int32), (0 : Int32), v7_stops + (0 : Int32))
    else some (v7_done, v7_position + (1 : Int32), (3 : Int32), v7_next + (1 : Int32), (0 : Int32), v7_stops + (1 : Int32)))
    else some (v7_done, v7_position + (1 : Int32), v7_mode, v7_next + (1 : Int32), v7_outs, v7_stops)))
    else cl1 (fX7_areToBeRead v7_isOn v7_lastPosition (v7_next + (1 : Int32))) (fun r5 =>
    if r5 = 0 then cl1 (fX7_areToBeRead v7_isOn v7_lastPosition (v7_next + (1 : Int32))) (fun r6 =>
    if r6 = 0 then some ((v7_next - r1) + (1 : Int32), v7_position + (1 : Int32), (3 : Int32), v7_next + (1 : Int32), (0 : Int32), v7_stops + (0 : Int32))
    else some ((v7_next - r1) + (1 : Int32), v7_position + (1 : Int32), (3 : Int32), v7_next + (1 : Int32), (0 : Int32), v7_stops + (1 : Int32)))
    else (if (((v7_next - r1) + (1 : Int32)) - v7_taken) = (6 : Int32) then cl1 (fX7_areToBeRead v7_isOn v7_lastPosition (v7_next + (1 : Int32))) (fun r7 =>
    if r7 = 0 then some ((v7_next - r1) + (1 : Int32), v7_position + (1 : Int32), (3 : Int32), v7_next + (1 : Int32), (0 : Int32), v7_stops + (0 : Int32))
    else some ((v7_next - r1) + (1 : Int32), v7_position + (1 : Int32), (3 : Int32), v7_next + (1 : Int32), (0 : Int32), v7_stops + (1 : Int32)))
    else some ((v7_next - r1) + (1 : Int32), v7_position + (1 : Int32), v7_mode, v7_next + (1 : Int32), v7_outs, v7_stops))))
noncomputable def fX7_tick (f7_leadOf : Nat → Int32) (v7_isOn : Int32) (v7_done : Int32) (v7_taken : Int32) (v7_lastPosition : Int32) (v7_position : Int32) (v7_mode : Int32) (v7_next : Int32) (v7_outs : Int32) (v7_stops : Int32) (v7_ticks : Int32) : Option (Int32 × Int32 × Int32 × Int32 × Int32 × Int32 × Int32) :=
    if v7_mode = 0 then cl1 (fX7_areToBeRead v7_isOn v7_lastPosition v7_next) (fun r6 =>
    if r6 = 0 then some (v7_done, v7_position, (0 : Int32), v7_next, v7_outs, v7_stops, v7_ticks + (1 : Int32))
    else (if (2 : Int32) < (v7_done - v7_taken) then some (v7_done, v7_position, (0 : Int32), v7_next, v7_outs, v7_stops, v7_ticks + (1 : Int32))
    else some (v7_done, v7_position, (1 : Int32), v7_next, v7_outs, v7_stops, v7_ticks + (1 : Int32))))
    else (if v7_mode = (1 : Int32) then cl1 (fX7_areToBeRead v7_isOn v7_lastPosition v7_next) (fun r1 =>
    if r1 = 0 then some (v7_done, v7_position + (1 : Int32), (3 : Int32), v7_next, (0 : Int32), v7_stops, v7_ticks + (1 : Int32))
    else (if v7_mode = (1 : Int32) then (if (v7_position + (1 : Int32)) = v7_next then some (v7_done, v7_position + (1 : Int32), (2 : Int32), v7_next, v7_outs, v7_stops, v7_ticks + (1 : Int32))
    else some (v7_done, v7_position + (1 : Int32), (1 : Int32), v7_next, v7_outs, v7_stops, v7_ticks + (1 : Int32)))
    else (if v7_mode = (2 : Int32) then cl6 (fX7_read f7_leadOf v7_isOn v7_done v7_taken v7_lastPosition v7_position v7_mode v7_next v7_outs v7_stops) (fun w2_done w2_position w2_mode w2_next w2_outs w2_stops =>
    some (w2_done, w2_position, w2_mode, w2_next, w2_outs, w2_stops, v7_ticks + (1 : Int32)))
    else (if v7_mode = (3 : Int32) then (if (v7_outs + (1 : Int32)) = (3 : Int32) then some (v7_done, v7_position + (1 : Int32), (4 : Int32), v7_next, v7_outs + (1 : Int32), v7_stops, v7_ticks + (1 : Int32))
    else some (v7_done, v7_position + (1 : Int32), (3 : Int32), v7_next, v7_outs + (1 : Int32), v7_stops, v7_ticks + (1 : Int32)))
    else (if (v7_position - (1 : Int32)) = (v7_next - (4 : Int32)) then some (v7_done, v7_position - (1 : Int32), (0 : Int32), v7_next, v7_outs, v7_stops, v7_ticks + (1 : Int32))
    else some (v7_done, v7_position - (1 : Int32), (4 : Int32), v7_next, v7_outs, v7_stops, v7_ticks + (1 : Int32)))))))
    else (if v7_mode = (2 : Int32) then cl1 (fX7_areToBeRead v7_isOn v7_lastPosition v7_next) (fun r4 =>
    if r4 = 0 then some (v7_done, v7_position + (1 : Int32), (3 : Int32), v7_next, (0 : Int32), v7_stops, v7_ticks + (1 : Int32))
    else (if v7_mode = (1 : Int32) then (if (v7_position + (1 : Int32)) = v7_next then some (v7_done, v7_position + (1 : Int32), (2 : Int32), v7_next, v7_outs, v7_stops, v7_ticks + (1 : Int32))
    else some (v7_done, v7_position + (1 : Int32), (1 : Int32), v7_next, v7_outs, v7_stops, v7_ticks + (1 : Int32)))
    else (if v7_mode = (2 : Int32) then cl6 (fX7_read f7_leadOf v7_isOn v7_done v7_taken v7_lastPosition v7_position v7_mode v7_next v7_outs v7_stops) (fun w5_done w5_position w5_mode w5_next w5_outs w5_stops =>
    some (w5_done, w5_position, w5_mode, w5_next, w5_outs, w5_stops, v7_ticks + (1 : Int32)))
    else (if v7_mode = (3 : Int32) then (if (v7_outs + (1 : Int32)) = (3 : Int32) then some (v7_done, v7_position + (1 : Int32), (4 : Int32), v7_next, v7_outs + (1 : Int32), v7_stops, v7_ticks + (1 : Int32))
    else some (v7_done, v7_position + (1 : Int32), (3 : Int32), v7_next, v7_outs + (1 : Int32), v7_stops, v7_ticks + (1 : Int32)))
    else (if (v7_position - (1 : Int32)) = (v7_next - (4 : Int32)) then some (v7_done, v7_position - (1 : Int32), (0 : Int32), v7_next, v7_outs, v7_stops, v7_ticks + (1 : Int32))
    else some (v7_done, v7_position - (1 : Int32), (4 : Int32), v7_next, v7_outs, v7_stops, v7_ticks + (1 : Int32)))))))
    else (if v7_mode = (1 : Int32) then (if (v7_position + (1 : Int32)) = v7_next then some (v7_done, v7_position + (1 : Int32), (2 : Int32), v7_next, v7_outs, v7_stops, v7_ticks + (1 : Int32))
    else some (v7_done, v7_position + (1 : Int32), (1 : Int32), v7_next, v7_outs, v7_stops, v7_ticks + (1 : Int32)))
    else (if v7_mode = (2 : Int32) then cl6 (fX7_read f7_leadOf v7_isOn v7_done v7_taken v7_lastPosition v7_position v7_mode v7_next v7_outs v7_stops) (fun w3_done w3_position w3_mode w3_next w3_outs w3_stops =>
    some (w3_done, w3_position, w3_mode, w3_next, w3_outs, w3_stops, v7_ticks + (1 : Int32)))
    else (if v7_mode = (3 : Int32) then (if (v7_outs + (1 : Int32)) = (3 : Int32) then some (v7_done, v7_position + (1 : Int32), (4 : Int32), v7_next, v7_outs + (1 : Int32), v7_stops, v7_ticks + (1 : Int32))
    else some (v7_done, v7_position + (1 : Int32), (3 : Int32), v7_next, v7_outs + (1 : Int32), v7_stops, v7_ticks + (1 : Int32)))
    else (if (v7_position - (1 : Int32)) = (v7_next - (4 : Int32)) then some (v7_done, v7_position - (1 : Int32), (0 : Int32), v7_next, v7_outs, v7_stops, v7_ticks + (1 : Int32))
    else some (v7_done, v7_position - (1 : Int32), (4 : Int32), v7_next, v7_outs, v7_stops, v7_ticks + (1 : Int32))))))))
noncomputable def bX7_ticks_21 (f7_leadOf : Nat → Int32) (v7_isOn : Int32) (v7_taken : Int32) (v7_lastPosition : Int32) : Nat → Int32 → Int32 → Int32 → Int32 → Int32 → Int32 → Int32 → Int32 → Int32 → Int32 → Option (Int32 × Int32 × Int32 × Int32 × Int32 × Int32 × Int32 × Int32)
  | 0, _, _, _, _, _, _, _, _, _, _ => none
  | n + 1, v7_done, v7_position, v7_mode, v7_next, v7_outs, v7_stops, v7_ticks, x1, x2, x3 =>
    if x1 ≤ x3 then some (v7_done - x2, v7_done, v7_position, v7_mode, v7_next, v7_outs, v7_stops, v7_ticks)
    else cl7 (fX7_tick f7_leadOf v7_isOn v7_done v7_taken v7_lastPosition v7_position v7_mode v7_next v7_outs v7_stops v7_ticks) (fun w2_done w2_position w2_mode w2_next w2_outs w2_stops w2_ticks =>
    bX7_ticks_21 f7_leadOf v7_isOn v7_taken v7_lastPosition n w2_done w2_position w2_mode w2_next w2_outs w2_stops w2_ticks x1 x2 (x3 + (1 : Int32)))
noncomputable def fX7_ticks (f7_leadOf : Nat → Int32) (v7_isOn : Int32) (v7_done : Int32) (v7_taken : Int32) (v7_lastPosition : Int32) (v7_position : Int32) (v7_mode : Int32) (v7_next : Int32) (v7_outs : Int32) (v7_stops : Int32) (v7_ticks : Int32) (p1 : Int32) : Option (Int32 × Int32 × Int32 × Int32 × Int32 × Int32 × Int32 × Int32) :=
    cl1 (fX7_within p1 (0 : Int32) (200 : Int32)) (fun r1 =>
    if r1 = 0 then some ((-2 : Int32), v7_done, v7_position, v7_mode, v7_next, v7_outs, v7_stops, v7_ticks)
    else bX7_ticks_21 f7_leadOf v7_isOn v7_taken v7_lastPosition 300 v7_done v7_position v7_mode v7_next v7_outs v7_stops v7_ticks p1 v7_done (0 : Int32))
noncomputable def bX7_take_68 (v7_lines : Int32) (v7_isOn : Int32) (v7_taken : Int32) (f7_pixels : Nat → Int32) : Option (Int32 × Int32 × Int32 × (Nat → Int32)) :=
    if v7_lines ≤ (v7_taken + (1 : Int32)) then some ((v7_taken + (1 : Int32)) - (1 : Int32), (0 : Int32), v7_taken + (1 : Int32), f7_pixels)
    else some ((v7_taken + (1 : Int32)) - (1 : Int32), (1 : Int32), v7_taken + (1 : Int32), f7_pixels)
noncomputable def bX7_take_26 (f7_offset : Nat → Int32) (f7_gain : Nat → Int32) (f7_dark : Nat → Int32) (f7_bright : Nat → Int32) (v7_ground : Int32) (v7_patches : Int32) (f7_fromRow : Nat → Int32) (f7_toRow : Nat → Int32) (f7_left : Nat → Int32) (f7_right : Nat → Int32) (f7_slant : Nat → Int32) (f7_tintOf : Nat → Int32) (f7_speckOf : Nat → Int32) (f7_leadOf : Nat → Int32) (v7_steps : Int32) (f7_stepKind : Nat → Int32) (f7_stepBy : Nat → Int32) (v7_lines : Int32) : Nat → Int32 → Int32 → (Nat → Int32) → Int32 → Option (Int32 × Int32 × Int32 × (Nat → Int32))
  | 0, _, _, _, _ => none
  | n + 1, v7_isOn, v7_taken, f7_pixels, x1 =>
    if (36 : Int32) ≤ x1 then bX7_take_68 v7_lines v7_isOn v7_taken f7_pixels
    else cl1 (fX7_wholeOf f7_offset f7_gain f7_dark f7_bright v7_ground v7_patches f7_fromRow f7_toRow f7_left f7_right f7_slant f7_tintOf f7_speckOf f7_leadOf v7_steps f7_stepKind f7_stepBy v7_taken (x1 / (12 : Int32)) (x1 - x1 / (12 : Int32) * (12 : Int32))) (fun r1 =>
    ckI (((36 : Int32) * v7_taken) + x1) 1440 (bX7_take_26 f7_offset f7_gain f7_dark f7_bright v7_ground v7_patches f7_fromRow f7_toRow f7_left f7_right f7_slant f7_tintOf f7_speckOf f7_leadOf v7_steps f7_stepKind f7_stepBy v7_lines n v7_isOn v7_taken (upd f7_pixels (((36 : Int32) * v7_taken) + x1).toNatClampNeg r1) (x1 + (1 : Int32))))
noncomputable def fX7_take (f7_offset : Nat → Int32) (f7_gain : Nat → Int32) (f7_dark : Nat → Int32) (f7_bright : Nat → Int32) (v7_ground : Int32) (v7_patches : Int32) (f7_fromRow : Nat → Int32) (f7_toRow : Nat → Int32) (f7_left : Nat → Int32) (f7_right : Nat → Int32) (f7_slant : Nat → Int32) (f7_tintOf : Nat → Int32) (f7_speckOf : Nat → Int32) (f7_leadOf : Nat → Int32) (v7_steps : Int32) (f7_stepKind : Nat → Int32) (f7_stepBy : Nat → Int32) (v7_isOn : Int32) (v7_lines : Int32) (v7_done : Int32) (v7_taken : Int32) (f7_pixels : Nat → Int32) : Option (Int32 × Int32 × Int32 × (Nat → Int32)) :=
    if v7_isOn = 0 then some ((-3 : Int32), v7_isOn, v7_taken, f7_pixels)
    else (if v7_done = v7_taken then some ((-9 : Int32), v7_isOn, v7_taken, f7_pixels)
    else bX7_take_26 f7_offset f7_gain f7_dark f7_bright v7_ground v7_patches f7_fromRow f7_toRow f7_left f7_right f7_slant f7_tintOf f7_speckOf f7_leadOf v7_steps f7_stepKind f7_stepBy v7_lines 300 v7_isOn v7_taken f7_pixels (0 : Int32))
noncomputable def fX7_stop (v7_isOn : Int32) (v7_lines : Int32) (v7_done : Int32) (v7_taken : Int32) : Option (Int32 × Int32 × Int32) :=
    if v7_isOn = 0 then some ((-3 : Int32), v7_isOn, v7_done)
    else some (v7_lines - v7_taken, (0 : Int32), v7_taken)
noncomputable def fX7_head (f7_leadOf : Nat → Int32) (v7_isOn : Int32) (v7_done : Int32) (v7_taken : Int32) (v7_position : Int32) (v7_mode : Int32) (v7_next : Int32) (v7_stops : Int32) (v7_ticks : Int32) (p1 : Int32) : Option (Int32) :=
    if p1 = (0 : Int32) then some (v7_position + (1000 : Int32))
    else if p1 = (1 : Int32) then some v7_mode
    else if p1 = (2 : Int32) then some v7_next
    else if p1 = (3 : Int32) then some (v7_done - v7_taken)
    else if p1 = (4 : Int32) then some v7_stops
    else if p1 = (5 : Int32) then some v7_ticks
    else if p1 = (6 : Int32) then (if v7_isOn = 0 then some (0 : Int32)
    else some (1 : Int32))
    else if p1 = (7 : Int32) then cl1 (fX7_reach f7_leadOf) (fun r9 =>
    some r9)
    else some (-2 : Int32)
noncomputable def fX7_isTaken (v7_taken : Int32) (p1 : Int32) : Option (Int32) :=
    cl1 (fX7_within p1 (0 : Int32) (v7_taken - (1 : Int32))) (fun r1 =>
    ckB r1 (some r1))
noncomputable def fX7_pixel (v7_taken : Int32) (f7_pixels : Nat → Int32) (p1 : Int32) (p2 : Int32) (p3 : Int32) : Option (Int32) :=
    cl1 (fX7_isTaken v7_taken p1) (fun r1 =>
    if r1 = 0 then some (-1 : Int32)
    else cl1 (fX7_isCell p2 p3) (fun r2 =>
    if r2 = 0 then some (-1 : Int32)
    else ckI ((((36 : Int32) * p1) + ((12 : Int32) * p2)) + p3) 1440 (some (f7_pixels ((((36 : Int32) * p1) + ((12 : Int32) * p2)) + p3).toNatClampNeg))))
noncomputable def fX7_greyOf (f7_pixels : Nat → Int32) (p1 : Int32) (p2 : Int32) : Option (Int32) :=
    ckI (((36 : Int32) * p1) + p2) 1440 (ckI ((((36 : Int32) * p1) + p2) + (12 : Int32)) 1440 (ckI ((((36 : Int32) * p1) + p2) + (24 : Int32)) 1440 (cl1 (fX7_rounded ((((2 : Int32) * (f7_pixels (((36 : Int32) * p1) + p2).toNatClampNeg)) + ((5 : Int32) * (f7_pixels ((((36 : Int32) * p1) + p2) + (12 : Int32)).toNatClampNeg))) + (f7_pixels ((((36 : Int32) * p1) + p2) + (24 : Int32)).toNatClampNeg)) (8 : Int32)) (fun r4 =>
    some r4))))
noncomputable def fX7_grey (v7_taken : Int32) (f7_pixels : Nat → Int32) (p1 : Int32) (p2 : Int32) : Option (Int32) :=
    cl1 (fX7_isTaken v7_taken p1) (fun r1 =>
    if r1 = 0 then some (-1 : Int32)
    else cl1 (fX7_isColumn p2) (fun r2 =>
    if r2 = 0 then some (-1 : Int32)
    else cl1 (fX7_greyOf f7_pixels p1 p2) (fun r3 =>
    some r3)))
noncomputable def bX7_darkOf_4 (v7_threshold : Int32) (f7_pixels : Nat → Int32) : Nat → Int32 → Int32 → Int32 → Option (Int32)
  | 0, _, _, _ => none
  | n + 1, x1, x2, x3 =>
    if (12 : Int32) ≤ x3 then some x2
    else cl1 (fX7_greyOf f7_pixels x1 x3) (fun r1 =>
    if v7_threshold ≤ r1 then bX7_darkOf_4 v7_threshold f7_pixels n x1 (x2 ||| (0 : Int32)) (x3 + (1 : Int32))
    else bX7_darkOf_4 v7_threshold f7_pixels n x1 (x2 ||| ((1 : Int32) <<< (x3 &&& 31))) (x3 + (1 : Int32)))
noncomputable def fX7_darkOf (v7_threshold : Int32) (f7_pixels : Nat → Int32) (p1 : Int32) : Option (Int32) :=
    bX7_darkOf_4 v7_threshold f7_pixels 300 p1 (0 : Int32) (0 : Int32)
noncomputable def fX7_dark (v7_threshold : Int32) (v7_taken : Int32) (f7_pixels : Nat → Int32) (p1 : Int32) : Option (Int32) :=
    cl1 (fX7_isTaken v7_taken p1) (fun r1 =>
    if r1 = 0 then some (-1 : Int32)
    else cl1 (fX7_darkOf v7_threshold f7_pixels p1) (fun r2 =>
    some r2))
noncomputable def fX7_begins (p1 : Int32) : Option (Int32) :=
    some (p1 &&& ((p1 <<< ((1 : Int32) &&& 31)) ^^^ (-1 : Int32)))
noncomputable def bX7_sizeOf_4 : Nat → Int32 → Int32 → Int32 → Option (Int32)
  | 0, _, _, _ => none
  | n + 1, x0, x1, x2 =>
    if (12 : Int32) ≤ x2 then some x1
    else bX7_sizeOf_4 n x0 (x1 + ((x0 >>> (x2 &&& 31)) &&& (1 : Int32))) (x2 + (1 : Int32))
noncomputable def fX7_sizeOf (p1 : Int32) : Option (Int32) :=
    bX7_sizeOf_4 300 p1 (0 : Int32) (0 : Int32)
noncomputable def bX7_run_117 (x3 : Int32) (x5 : Int32) (x7 : Int32) : Option (Int32) :=
    if x3 = 0 then some x5
    else some x7
noncomputable def bX7_run_97 : Nat → Int32 → Int32 → Int32 → Int32 → Option (Int32)
  | 0, _, _, _, _ => none
  | n + 1, x3, x4, x5, x7 =>
    if ((x4 >>> ((x5 + x7) &&& 31)) &&& (1 : Int32)) = (1 : Int32) then bX7_run_97 n x3 x4 x5 (x7 + (1 : Int32))
    else bX7_run_117 x3 x5 x7
noncomputable def bX7_run_94 (x3 : Int32) (x4 : Int32) (x5 : Int32) : Option (Int32) :=
    bX7_run_97 300 x3 x4 x5 (0 : Int32)
noncomputable def bX7_run_55 : Nat → Int32 → Int32 → Int32 → Int32 → Option (Int32)
  | 0, _, _, _, _ => none
  | n + 1, x3, x4, x5, x6 =>
    if 0 < x6 then cl1 (fX7_begins x4) (fun r7 =>
    bX7_run_55 n x3 x4 (x5 + (1 : Int32)) (x6 - ((r7 >>> (x5 &&& 31)) &&& (1 : Int32))))
    else cl1 (fX7_begins x4) (fun r8 =>
    if ((r8 >>> (x5 &&& 31)) &&& (1 : Int32)) = 0 then cl1 (fX7_begins x4) (fun r9 =>
    bX7_run_55 n x3 x4 (x5 + (1 : Int32)) (x6 - ((r9 >>> (x5 &&& 31)) &&& (1 : Int32))))
    else bX7_run_94 x3 x4 x5)
noncomputable def fX7_run (v7_threshold : Int32) (v7_taken : Int32) (f7_pixels : Nat → Int32) (p1 : Int32) (p2 : Int32) (p3 : Int32) : Option (Int32) :=
    cl1 (fX7_isTaken v7_taken p1) (fun r1 =>
    if r1 = 0 then some (-1 : Int32)
    else cl1 (fX7_darkOf v7_threshold f7_pixels p1) (fun r2 =>
    cl1 (fX7_begins r2) (fun r3 =>
    cl1 (fX7_sizeOf r3) (fun r4 =>
    cl1 (fX7_within p2 (0 : Int32) (r4 - (1 : Int32))) (fun r5 =>
    if r5 = 0 then some (-1 : Int32)
    else cl1 (fX7_within p3 (0 : Int32) (1 : Int32)) (fun r6 =>
    if r6 = 0 then some (-2 : Int32)
    else bX7_run_55 300 p3 r2 (0 : Int32) p2))))))
noncomputable def bX7_edgeOf_8 : Nat → Int32 → Int32 → Option (Int32)
  | 0, _, _ => none
  | n + 1, x2, x3 =>
    if (12 : Int32) ≤ x3 then some (-9 : Int32)
    else (if ((x2 >>> (x3 &&& 31)) &&& (1 : Int32)) = (1 : Int32) then some x3
    else bX7_edgeOf_8 n x2 (x3 + (1 : Int32)))
noncomputable def fX7_edgeOf (v7_threshold : Int32) (f7_pixels : Nat → Int32) (p1 : Int32) : Option (Int32) :=
    cl1 (fX7_darkOf v7_threshold f7_pixels p1) (fun r1 =>
    bX7_edgeOf_8 300 r1 (0 : Int32))
noncomputable def fX7_edge (v7_threshold : Int32) (v7_taken : Int32) (f7_pixels : Nat → Int32) (p1 : Int32) : Option (Int32) :=
    cl1 (fX7_isTaken v7_taken p1) (fun r1 =>
    if r1 = 0 then some (-1 : Int32)
    else cl1 (fX7_edgeOf v7_threshold f7_pixels p1) (fun r2 =>
    some r2))
noncomputable def bX7_inLeastTerms_42 (x0 : Int64) (x2 : Int64) (x4 : Int32) (x5 : Int64) : Option (Int64) :=
    if x4 = 0 then ckL x5 (some (x0 / x5))
    else ckL x5 (some (x2 / x5))
noncomputable def bX7_inLeastTerms_17 : Nat → Int64 → Int64 → Int32 → Int64 → Int64 → Option (Int64)
  | 0, _, _, _, _, _ => none
  | n + 1, x0, x2, x4, x5, x7 =>
    if (lg_cmp x7 (0 : Int64)) = 0 then bX7_inLeastTerms_42 x0 x2 x4 x5
    else ckL x7 (bX7_inLeastTerms_17 n x0 x2 x4 x7 (x5 - x5 / x7 * x7))
noncomputable def fX7_inLeastTerms (p1 : Int64) (p2 : Int64) (p3 : Int32) : Option (Int64) :=
    if 0 ≤ (lg_cmp p1 (0 : Int64)) then bX7_inLeastTerms_17 300 p1 p2 p3 p1 p2
    else bX7_inLeastTerms_17 300 p1 p2 p3 (-p1) p2
noncomputable def bX7_skew_102 (x1 : Int32) (x2 : Int64) (x4 : Int64) (x6 : Int64) (x8 : Int64) (x10 : Int64) : Option (Int64) :=
    if 0 ≤ (lg_cmp x2 (2 : Int64)) then cl1 (fX7_inLeastTerms ((x2 * x8) - (x4 * x6)) ((x2 * x10) - (x4 * x4)) x1) (fun r2 =>
    some r2)
    else some (-9223372036854775808 : Int64)
noncomputable def bX7_skew_30 (v7_threshold : Int32) (v7_taken : Int32) (f7_pixels : Nat → Int32) : Nat → Int32 → Int64 → Int64 → Int64 → Int64 → Int64 → Int32 → Option (Int64)
  | 0, _, _, _, _, _, _, _ => none
  | n + 1, x1, x2, x4, x6, x8, x10, x12 =>
    if v7_taken ≤ x12 then bX7_skew_102 x1 x2 x4 x6 x8 x10
    else cl1 (fX7_edgeOf v7_threshold f7_pixels x12) (fun r4 =>
    if r4 = (-9 : Int32) then bX7_skew_30 v7_threshold v7_taken f7_pixels n x1 x2 x4 x6 x8 x10 (x12 + (1 : Int32))
    else bX7_skew_30 v7_threshold v7_taken f7_pixels n x1 (x2 + (1 : Int64)) (x4 + (x12.toInt64)) (x6 + (r4.toInt64)) (x8 + ((x12 * r4).toInt64)) (x10 + ((x12 * x12).toInt64)) (x12 + (1 : Int32)))
noncomputable def fX7_skew (v7_threshold : Int32) (v7_taken : Int32) (f7_pixels : Nat → Int32) (p1 : Int32) : Option (Int64) :=
    cl1 (fX7_within p1 (0 : Int32) (1 : Int32)) (fun r1 =>
    if r1 = 0 then some (-9223372036854775808 : Int64)
    else bX7_skew_30 v7_threshold v7_taken f7_pixels 300 p1 (0 : Int64) (0 : Int64) (0 : Int64) (0 : Int64) (0 : Int64) (0 : Int32))
noncomputable def fX7_sticks (f7_pixels : Nat → Int32) (p1 : Int32) (p2 : Int32) : Option (Int32) :=
    cl1 (fX7_greyOf f7_pixels p1 p2) (fun r1 =>
    cl1 (fX7_greyOf f7_pixels p1 (p2 - (1 : Int32))) (fun r2 =>
    cl1 (fX7_greyOf f7_pixels p1 p2) (fun r3 =>
    cl1 (fX7_greyOf f7_pixels p1 (p2 + (1 : Int32))) (fun r4 =>
    if (r1 - r2) < (24 : Int32) then (if (-24 : Int32) < (r1 - r2) then some (0 : Int32)
    else (if (-24 : Int32) < (r3 - r4) then some (0 : Int32)
    else some (-1 : Int32)))
    else (if (r3 - r4) < (24 : Int32) then (if (-24 : Int32) < (r1 - r2) then some (0 : Int32)
    else (if (-24 : Int32) < (r3 - r4) then some (0 : Int32)
    else some (-1 : Int32)))
    else some (1 : Int32))))))
noncomputable def bX7_longestOf_7 (v7_taken : Int32) (f7_pixels : Nat → Int32) : Nat → Int32 → Int32 → Int32 → Int32 → Option (Int32)
  | 0, _, _, _, _ => none
  | n + 1, x1, x2, x3, x4 =>
    if v7_taken ≤ x4 then some x2
    else cl1 (fX7_sticks f7_pixels x4 x1) (fun r1 =>
    if x4 ≤ 0 then (if r1 = 0 then (if (0 : Int32) ≤ x2 then bX7_longestOf_7 v7_taken f7_pixels n x1 x2 (0 : Int32) (x4 + (1 : Int32))
    else bX7_longestOf_7 v7_taken f7_pixels n x1 (0 : Int32) (0 : Int32) (x4 + (1 : Int32)))
    else (if (1 : Int32) ≤ x2 then bX7_longestOf_7 v7_taken f7_pixels n x1 x2 (1 : Int32) (x4 + (1 : Int32))
    else bX7_longestOf_7 v7_taken f7_pixels n x1 (1 : Int32) (1 : Int32) (x4 + (1 : Int32))))
    else cl1 (fX7_sticks f7_pixels (x4 - (1 : Int32)) x1) (fun r2 =>
    if r1 = r2 then (if r1 = 0 then (if (0 : Int32) ≤ x2 then bX7_longestOf_7 v7_taken f7_pixels n x1 x2 (0 : Int32) (x4 + (1 : Int32))
    else bX7_longestOf_7 v7_taken f7_pixels n x1 (0 : Int32) (0 : Int32) (x4 + (1 : Int32)))
    else (if (x3 + (1 : Int32)) ≤ x2 then bX7_longestOf_7 v7_taken f7_pixels n x1 x2 (x3 + (1 : Int32)) (x4 + (1 : Int32))
    else bX7_longestOf_7 v7_taken f7_pixels n x1 (x3 + (1 : Int32)) (x3 + (1 : Int32)) (x4 + (1 : Int32))))
    else (if r1 = 0 then (if (0 : Int32) ≤ x2 then bX7_longestOf_7 v7_taken f7_pixels n x1 x2 (0 : Int32) (x4 + (1 : Int32))
    else bX7_longestOf_7 v7_taken f7_pixels n x1 (0 : Int32) (0 : Int32) (x4 + (1 : Int32)))
    else (if (1 : Int32) ≤ x2 then bX7_longestOf_7 v7_taken f7_pixels n x1 x2 (1 : Int32) (x4 + (1 : Int32))
    else bX7_longestOf_7 v7_taken f7_pixels n x1 (1 : Int32) (1 : Int32) (x4 + (1 : Int32))))))
noncomputable def fX7_longestOf (v7_taken : Int32) (f7_pixels : Nat → Int32) (p1 : Int32) : Option (Int32) :=
    bX7_longestOf_7 v7_taken f7_pixels 300 p1 (0 : Int32) (0 : Int32) (0 : Int32)
noncomputable def fX7_longest (v7_taken : Int32) (f7_pixels : Nat → Int32) (p1 : Int32) : Option (Int32) :=
    cl1 (fX7_isColumn p1) (fun r1 =>
    if r1 = 0 then some (-1 : Int32)
    else cl1 (fX7_within p1 (1 : Int32) (10 : Int32)) (fun r2 =>
    if r2 = 0 then some (0 : Int32)
    else cl1 (fX7_longestOf v7_taken f7_pixels p1) (fun r3 =>
    some r3)))
noncomputable def bX7_streaks_4 (v7_taken : Int32) (f7_pixels : Nat → Int32) : Nat → Int32 → Int32 → Option (Int32)
  | 0, _, _ => none
  | n + 1, x1, x2 =>
    if (11 : Int32) ≤ x2 then some x1
    else cl1 (fX7_longestOf v7_taken f7_pixels x2) (fun r1 =>
    if r1 < (4 : Int32) then bX7_streaks_4 v7_taken f7_pixels n (x1 ||| (0 : Int32)) (x2 + (1 : Int32))
    else bX7_streaks_4 v7_taken f7_pixels n (x1 ||| ((1 : Int32) <<< (x2 &&& 31))) (x2 + (1 : Int32)))
noncomputable def fX7_streaks (v7_taken : Int32) (f7_pixels : Nat → Int32) : Option (Int32) :=
    bX7_streaks_4 v7_taken f7_pixels 300 (0 : Int32) (1 : Int32)
noncomputable def bX7_manyRuns_4 (v7_threshold : Int32) (v7_taken : Int32) (f7_pixels : Nat → Int32) : Nat → Int32 → Int32 → Option (Int32)
  | 0, _, _ => none
  | n + 1, x1, x2 =>
    if v7_taken ≤ x2 then some x1
    else cl1 (fX7_darkOf v7_threshold f7_pixels x2) (fun r1 =>
    cl1 (fX7_begins r1) (fun r2 =>
    cl1 (fX7_sizeOf r2) (fun r3 =>
    bX7_manyRuns_4 v7_threshold v7_taken f7_pixels n (x1 + r3) (x2 + (1 : Int32)))))
noncomputable def fX7_manyRuns (v7_threshold : Int32) (v7_taken : Int32) (f7_pixels : Nat → Int32) : Option (Int32) :=
    bX7_manyRuns_4 v7_threshold v7_taken f7_pixels 300 (0 : Int32) (0 : Int32)
noncomputable def fX7_many (f7_dark : Nat → Int32) (f7_bright : Nat → Int32) (v7_patches : Int32) (v7_steps : Int32) (v7_threshold : Int32) (v7_lines : Int32) (v7_taken : Int32) (f7_pixels : Nat → Int32) (p1 : Int32) : Option (Int32) :=
    if p1 = (0 : Int32) then some v7_patches
    else if p1 = (1 : Int32) then some v7_steps
    else if p1 = (2 : Int32) then some v7_taken
    else if p1 = (3 : Int32) then cl1 (fX7_manyLive f7_dark f7_bright) (fun r5 =>
    some r5)
    else if p1 = (4 : Int32) then some v7_lines
    else if p1 = (5 : Int32) then cl1 (fX7_manyRuns v7_threshold v7_taken f7_pixels) (fun r8 =>
    some r8)
    else some (-2 : Int32)

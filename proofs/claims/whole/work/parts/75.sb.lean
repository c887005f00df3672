theorem i3_a (c k : Nat) : nI c * (3 : Int32) + nI k = nI (c * 3 + k) := by
  show nI c * nI 3 + nI k = _
  rw [pk_mul, nI_add]
theorem i3_b (c k : Nat) : (3 : Int32) * nI c + nI k = nI (c * 3 + k) := by
  rw [Int32.mul_comm]; exact i3_a c k
theorem ly_loop (P : Nat) (hP : P < 12) (fr lr fc lc sl : Nat → Int32) : ∀ (n i : Nat) (ti : Nat → Int32), i ≤ 3 → 4 ≤ i + n →
    ∃ t2, bX3_lay_61 n (nI P) fr lr fc lc sl ti (nI P) (nI i) = some (nI P, nI (P + 1), fr, lr, fc, lc, sl, t2) ∧ bX7_patch_124 n (nI P) fr lr fc lc sl ti (nI i) = some (nI P, nI (P + 1), fr, lr, fc, lc, sl, t2) := by
  intro n
  induction n with
  | zero => intro i ti h1 h2; omega
  | succ n ih =>
    intro i ti h1 h2
    rw [bX3_lay_61, bX7_patch_124]
    by_cases h : (3 : Int32) ≤ nI i
    · rw [if_pos h, if_pos h]
      refine ⟨ti, ?_, ?_⟩
      · show some (nI P, nI P + 1, fr, lr, fc, lc, sl, ti) = _
        rw [nI_1]
      · show some (nI P + 1 - 1, nI P + 1, fr, lr, fc, lc, sl, ti) = _
        rw [nI_1, nI_pred]
    · have hi : i < 3 := by
        rcases Nat.lt_or_ge i 3 with q | q
        · exact q
        · exact absurd ((l_le 3 (by omega) (by omega)).mpr q) h
      rw [if_neg h, if_neg h, i3_a, i3_b]
      have v := vin (show P * 3 + i < 36 by omega) (by omega)
      rw [ckI_ok v, ckI_ok v, nI_1]
      exact ih (i + 1) _ (by omega) (by omega)
theorem dr_loop (C : Nat) (hC : C ≤ 4) : ∀ (n i : Nat) (kd nb : Nat → Int32), i < C → C ≤ i + n → (∀ j : Nat, j < C → rg (kd j) 0 3) →
    ∃ k2 n2, bX4_dropStep_2 n (nI C) kd nb (nI i) = some (nI (C - 1), k2, n2) ∧ bX7_unpipe_38 n (nI (C - 1)) kd nb (nI i) = some (nI (C - 1), nI (C - 1), k2, n2) ∧ (∀ j : Nat, j < C → rg (k2 j) 0 3) := by
  intro n
  induction n with
  | zero => intro i kd nb h1 h2; omega
  | succ n ih =>
    intro i kd nb h1 h2 hk
    rw [bX4_dropStep_2, bX7_unpipe_38, nI_1]
    by_cases h : C ≤ i + 1
    · rw [if_pos ((l_le C (by omega) (by omega)).mpr h), if_pos ((l_le (C - 1) (by omega) (by omega)).mpr (by omega))]
      refine ⟨kd, nb, ?_, rfl, hk⟩
      show some (nI C - 1, kd, nb) = _
      rw [show C = (C - 1) + 1 by omega, nI_pred]
      rfl
    · rw [if_neg (fun q => h ((l_le C (by omega) (by omega)).mp q)), if_neg (fun q => h (by have := (l_le (C - 1) (by omega) (by omega)).mp q; omega))]
      have v := vin (show i + 1 < 4 by omega) (by omega)
      have v2 := vin (show i < 4 by omega) (by omega)
      rw [ckI_ok v, ckI_ok v2, ckI_ok v, ckI_ok v2, ckI_ok v, ckI_ok v2, ckI_ok v, ckI_ok v2, nI_clamp (by omega), nI_clamp (by omega)]
      refine ih (i + 1) _ _ (by omega) (by omega) (fun j hj => ?_)
      by_cases e : j = i
      · rw [e, up_at]; exact hk (i + 1) (by omega)
      · rw [up_ne e]; exact hk j hj
theorem eM_isStep (p q : Int32) : fX7_isStep p q = fX4_isStep p q := rfl
theorem sp_cases (p q : Int32) : fX4_isStep p q = some 0 ∨ (fX4_isStep p q = some 1 ∧ rg p 0 3) := by
  unfold fX4_isStep
  by_cases h0 : p = 0
  · rw [if_pos h0]; right; exact ⟨rfl, by rw [h0]; exact ⟨by decide, by decide⟩⟩
  rw [if_neg h0]
  by_cases h1 : p = 1
  · rw [if_pos h1]
    rcases wi_cases q 0 255 with ⟨h, -⟩ | ⟨h, -, -⟩
    · left; rw [cv h, ckB_ok (Or.inl rfl)]
    · right; rw [cv h, ckB_ok (Or.inr rfl), h1]; exact ⟨rfl, by decide, by decide⟩
  rw [if_neg h1]
  by_cases h2 : p = 2
  · rw [if_pos h2]
    rcases wi_cases q (-255) 255 with ⟨h, -⟩ | ⟨h, -, -⟩
    · left; rw [cv h, ckB_ok (Or.inl rfl)]
    · right; rw [cv h, ckB_ok (Or.inr rfl), h2]; exact ⟨rfl, by decide, by decide⟩
  rw [if_neg h2]
  by_cases h3 : p = 3
  · rw [if_pos h3]
    rcases wi_cases q 0 255 with ⟨h, -⟩ | ⟨h, -, -⟩
    · left; rw [cv h, ckB_ok (Or.inl rfl)]
    · right; rw [cv h, ckB_ok (Or.inr rfl), h3]; exact ⟨rfl, by decide, by decide⟩
  rw [if_neg h3]; left; rfl
/-- a scan is not on: nothing more is said -/
theorem sOK_off {ld ld2 : Nat → Int32} {li re po qu pos nx mo ou co dn la : Int32} (h : sOK ld 0 li re po qu pos nx mo ou co dn la) : sOK ld2 0 li re po qu pos nx mo ou co dn la :=
  ⟨h.1, h.2.1, h.2.2.1, h.2.2.2.1, h.2.2.2.2.1, h.2.2.2.2.2.1, fun q => absurd q (by decide)⟩
set_option maxHeartbeats 1000000 in
theorem st_patch (f6_leads : Nat → Int32) (f0_offset : Nat → Int32) (f0_gain : Nat → Int32) (f0_dark : Nat → Int32) (f0_bright : Nat → Int32) (v3_ground : Int32) (v3_patches : Int32) (f3_firstRow : Nat → Int32) (f3_lastRow : Nat → Int32) (f3_firstColumn : Nat → Int32) (f3_lastColumn : Nat → Int32) (f3_slants : Nat → Int32) (f3_tints : Nat → Int32) (f3_specks : Nat → Int32) (v4_count : Int32) (f4_kinds : Nat → Int32) (f4_numbers : Nat → Int32) (v5_on : Int32) (v5_lines : Int32) (v5_reach : Int32) (v5_positions : Int32) (v5_queued : Int32) (v5_position : Int32) (v5_next : Int32) (v5_mode : Int32) (v5_outTicks : Int32) (v5_stops : Int32) (v5_ticked : Int32) (v1_count : Int32) (v1_threshold : Int32) (f1_values : Nat → Int32) (v7_done : Int32) (v7_lastPosition : Int32) (p1 : Int32) (p2 : Int32) (p3 : Int32) (p4 : Int32) (p5 : Int32) (hI : Iv f6_leads f0_offset f0_gain f0_dark f0_bright v3_ground v3_patches f3_firstRow f3_lastRow f3_firstColumn f3_lastColumn f3_slants f3_tints f3_specks v4_count f4_kinds f4_numbers v5_on v5_lines v5_reach v5_positions v5_queued v5_position v5_next v5_mode v5_outTicks v5_stops v5_ticked v1_count v1_threshold f1_values v7_done v7_lastPosition) : ∃ (r : Int32) (n_v3_patches : Int32) (n_f3_firstRow : Nat → Int32) (n_f3_lastRow : Nat → Int32) (n_f3_firstColumn : Nat → Int32) (n_f3_lastColumn : Nat → Int32) (n_f3_slants : Nat → Int32) (n_f3_tints : Nat → Int32), fX6_patch v3_patches f3_firstRow f3_lastRow f3_firstColumn f3_lastColumn f3_slants f3_tints v5_on p1 p2 p3 p4 p5 = some (r, n_v3_patches, n_f3_firstRow, n_f3_lastRow, n_f3_firstColumn, n_f3_lastColumn, n_f3_slants, n_f3_tints) ∧ fX7_patch v3_patches f3_firstRow f3_lastRow f3_firstColumn f3_lastColumn f3_slants f3_tints v5_on p1 p2 p3 p4 p5 = some (r, n_v3_patches, n_f3_firstRow, n_f3_lastRow, n_f3_firstColumn, n_f3_lastColumn, n_f3_slants, n_f3_tints) ∧ Iv f6_leads f0_offset f0_gain f0_dark f0_bright v3_ground n_v3_patches n_f3_firstRow n_f3_lastRow n_f3_firstColumn n_f3_lastColumn n_f3_slants n_f3_tints f3_specks v4_count f4_kinds f4_numbers v5_on v5_lines v5_reach v5_positions v5_queued v5_position v5_next v5_mode v5_outTicks v5_stops v5_ticked v1_count v1_threshold f1_values v7_done v7_lastPosition := by
  obtain ⟨hc, hp, hl, hk, hs⟩ := hI
  unfold fX6_patch fX7_patch
  by_cases a1 : p1 < 0
  · rw [if_pos a1, if_pos a1]; exact ⟨_, _, _, _, _, _, _, _, rfl, rfl, hc, hp, hl, hk, hs⟩
  rw [if_neg a1, if_neg a1]
  by_cases a2 : p2 < p1
  · rw [if_pos a2, if_pos a2]; exact ⟨_, _, _, _, _, _, _, _, rfl, rfl, hc, hp, hl, hk, hs⟩
  rw [if_neg a2, if_neg a2]
  by_cases a3 : 63 < p2
  · rw [if_neg (fun q : p2 ≤ 63 => by rw [fa_lt] at a3; rw [fa_le] at q; omega), if_pos a3]; exact ⟨_, _, _, _, _, _, _, _, rfl, rfl, hc, hp, hl, hk, hs⟩
  rw [if_pos (show p2 ≤ 63 by rw [fa_lt] at a3; rw [fa_le]; omega), if_neg a3]
  by_cases a4 : p3 < 0
  · rw [if_pos a4, if_pos a4]; exact ⟨_, _, _, _, _, _, _, _, rfl, rfl, hc, hp, hl, hk, hs⟩
  rw [if_neg a4, if_neg a4]
  by_cases a5 : p4 < p3
  · rw [if_pos a5, if_pos a5]; exact ⟨_, _, _, _, _, _, _, _, rfl, rfl, hc, hp, hl, hk, hs⟩
  rw [if_neg a5, if_neg a5]
  by_cases a6 : 12 ≤ p4
  · rw [if_neg (fun q : p4 < 12 => by rw [fa_le] at a6; rw [fa_lt] at q; omega), if_pos a6]; exact ⟨_, _, _, _, _, _, _, _, rfl, rfl, hc, hp, hl, hk, hs⟩
  rw [if_pos (show p4 < 12 by rw [fa_le] at a6; rw [fa_lt]; omega), if_neg a6]
  rcases wi_cases p5 (-16) 16 with ⟨h, -⟩ | ⟨h, b1, b2⟩
  · exact ⟨_, _, _, _, _, _, _, _, c0 h, c0 h, hc, hp, hl, hk, hs⟩
  rw [c1 h, eM_within, c1 h]
  by_cases q : v5_on = 0
  · rw [if_pos q, if_pos q]
    obtain ⟨⟨p0, p12⟩, hr⟩ := hp
    obtain ⟨P, hP, rfl⟩ := of_rg (n := 12) p0 p12 (by omega)
    unfold fX3_lay
    by_cases e : P = 12
    · rw [e, if_neg (show ¬ nI 12 < 12 by decide), if_pos (show nI 12 = 12 from rfl)]
      exact ⟨_, _, _, _, _, _, _, _, rfl, rfl, hc, ⟨⟨by decide, by decide⟩, by rw [e] at hr; exact hr⟩, hl, hk, hs⟩
    · have hP2 : P < 12 := by omega
      have v := vin hP2 (show 12 < 2 ^ 31 by omega)
      rw [if_pos (show nI P < 12 from nI_lt (b := 12) hP2 (by decide)), if_neg (show ¬ nI P = 12 from fun q => e ((nI_eq (b := 12) (by omega) (by omega)).mp q)), nI_clamp (by omega)]
      repeat rw [ckI_ok v]
      obtain ⟨t2, e1, e2⟩ := ly_loop P hP2 (upd f3_firstRow P p1) (upd f3_lastRow P p2) (upd f3_firstColumn P p3) (upd f3_lastColumn P p4) (upd f3_slants P p5) 300 0 f3_tints (by omega) (by omega)
      refine ⟨nI P, nI (P + 1), _, _, _, _, _, t2, ?_, e2, hc, ⟨⟨by rw [nI_toInt (by omega)]; omega, by rw [nI_toInt (by omega)]; omega⟩, fun i hi => ?_⟩, hl, hk, hs⟩
      · exact congrArg (fun z => cl8 z (fun r2 w1 w2 w3 w4 w5 w6 w7 => some (r2, w1, w2, w3, w4, w5, w6, w7))) e1
      · rw [nI_toInt (by omega)] at hi
        rw [fa_lt] at a1 a2 a3
        have z1 : ¬ p1.toInt < 0 := a1
        have z3 : ¬ 63 < p2.toInt := a3
        by_cases ei : i = P
        · rw [ei, up_at, up_at, up_at]
          exact ⟨⟨by omega, by omega⟩, ⟨by omega, by omega⟩, b1, b2⟩
        · rw [up_ne ei, up_ne ei, up_ne ei]
          exact hr i (by rw [nI_toInt (by omega)]; omega)
  · exact ⟨_, _, _, _, _, _, _, _, if_neg q, if_neg q, hc, hp, hl, hk, hs⟩
set_option maxHeartbeats 1000000 in
theorem st_tint (f6_leads : Nat → Int32) (f0_offset : Nat → Int32) (f0_gain : Nat → Int32) (f0_dark : Nat → Int32) (f0_bright : Nat → Int32) (v3_ground : Int32) (v3_patches : Int32) (f3_firstRow : Nat → Int32) (f3_lastRow : Nat → Int32) (f3_firstColumn : Nat → Int32) (f3_lastColumn : Nat → Int32) (f3_slants : Nat → Int32) (f3_tints : Nat → Int32) (f3_specks : Nat → Int32) (v4_count : Int32) (f4_kinds : Nat → Int32) (f4_numbers : Nat → Int32) (v5_on : Int32) (v5_lines : Int32) (v5_reach : Int32) (v5_positions : Int32) (v5_queued : Int32) (v5_position : Int32) (v5_next : Int32) (v5_mode : Int32) (v5_outTicks : Int32) (v5_stops : Int32) (v5_ticked : Int32) (v1_count : Int32) (v1_threshold : Int32) (f1_values : Nat → Int32) (v7_done : Int32) (v7_lastPosition : Int32) (p1 : Int32) (p2 : Int32) (p3 : Int32) (hI : Iv f6_leads f0_offset f0_gain f0_dark f0_bright v3_ground v3_patches f3_firstRow f3_lastRow f3_firstColumn f3_lastColumn f3_slants f3_tints f3_specks v4_count f4_kinds f4_numbers v5_on v5_lines v5_reach v5_positions v5_queued v5_position v5_next v5_mode v5_outTicks v5_stops v5_ticked v1_count v1_threshold f1_values v7_done v7_lastPosition) : ∃ (r : Int32) (n_f3_tints : Nat → Int32), fX6_tint v3_patches f3_tints v5_on p1 p2 p3 = some (r, n_f3_tints) ∧ fX7_tint v3_patches f3_tints v5_on p1 p2 p3 = some (r, n_f3_tints) ∧ Iv f6_leads f0_offset f0_gain f0_dark f0_bright v3_ground v3_patches f3_firstRow f3_lastRow f3_firstColumn f3_lastColumn f3_slants n_f3_tints f3_specks v4_count f4_kinds f4_numbers v5_on v5_lines v5_reach v5_positions v5_queued v5_position v5_next v5_mode v5_outTicks v5_stops v5_ticked v1_count v1_threshold f1_values v7_done v7_lastPosition := by
  have hI2 := hI
  obtain ⟨hc, hp, hl, hk, hs⟩ := hI
  obtain ⟨⟨p0, p12⟩, hr⟩ := hp
  obtain ⟨P, hP, rfl⟩ := of_rg (n := 12) p0 p12 (by omega)
  unfold fX6_tint fX7_tint
  have eP : (nI P - 1).toInt = (P : Int) - 1 := pk_sub_toInt (a := P) (b := 1) (by omega) (by omega)
  have eN : (nI P).toInt = (P : Int) := nI_toInt (by omega)
  by_cases a1 : p1 < 0
  · rw [if_pos a1]
    rcases wi_cases p1 0 (nI P - 1) with ⟨h, -⟩ | ⟨h, b1, b2⟩
    · exact ⟨_, _, rfl, c0 h, hI2⟩
    · rw [fa_lt] at a1; omega
  rw [if_neg a1]
  by_cases a2 : nI P ≤ p1
  · rw [if_pos a2]
    rcases wi_cases p1 0 (nI P - 1) with ⟨h, -⟩ | ⟨h, b1, b2⟩
    · exact ⟨_, _, rfl, c0 h, hI2⟩
    · rw [fa_le] at a2; omega
  rw [if_neg a2]
  rw [fa_lt] at a1
  rw [fa_le] at a2
  have z1 : ¬ p1.toInt < 0 := a1
  rcases wi_cases p1 0 (nI P - 1) with ⟨h, b1⟩ | ⟨h, b1, b2⟩
  · have b2 : p1.toInt < 0 ∨ (nI P - 1).toInt < p1.toInt := b1
    omega
  rw [eM_within, c1 h, eM_isColour]
  obtain ⟨j, hj, rfl⟩ := of_rg (x := p1) (n := 11) (by omega) (by omega) (by omega)
  rcases co_cases p2 with h | ⟨h, c, h1, rfl⟩
  · exact ⟨_, _, c0 h, c0 h, hI2⟩
  rw [c1 h, c1 h]
  rcases wi_cases p3 0 255 with ⟨h, -⟩ | ⟨h, -, -⟩
  · exact ⟨_, _, c0 h, c0 h, hI2⟩
  rw [c1 h, eM_within, c1 h, i3_a, i3_b]
  have v := vin (show j * 3 + c < 36 by omega) (show 36 < 2 ^ 31 by omega)
  by_cases q : v5_on = 0
  · rw [if_pos q, ckI_ok v, ckI_ok v]; exact ⟨_, _, rfl, rfl, hI2⟩
  · exact ⟨_, _, if_neg q, if_neg q, hI2⟩
set_option maxHeartbeats 1000000 in
theorem st_lead (f6_leads : Nat → Int32) (f0_offset : Nat → Int32) (f0_gain : Nat → Int32) (f0_dark : Nat → Int32) (f0_bright : Nat → Int32) (v3_ground : Int32) (v3_patches : Int32) (f3_firstRow : Nat → Int32) (f3_lastRow : Nat → Int32) (f3_firstColumn : Nat → Int32) (f3_lastColumn : Nat → Int32) (f3_slants : Nat → Int32) (f3_tints : Nat → Int32) (f3_specks : Nat → Int32) (v4_count : Int32) (f4_kinds : Nat → Int32) (f4_numbers : Nat → Int32) (v5_on : Int32) (v5_lines : Int32) (v5_reach : Int32) (v5_positions : Int32) (v5_queued : Int32) (v5_position : Int32) (v5_next : Int32) (v5_mode : Int32) (v5_outTicks : Int32) (v5_stops : Int32) (v5_ticked : Int32) (v1_count : Int32) (v1_threshold : Int32) (f1_values : Nat → Int32) (v7_done : Int32) (v7_lastPosition : Int32) (p1 : Int32) (p2 : Int32) (hI : Iv f6_leads f0_offset f0_gain f0_dark f0_bright v3_ground v3_patches f3_firstRow f3_lastRow f3_firstColumn f3_lastColumn f3_slants f3_tints f3_specks v4_count f4_kinds f4_numbers v5_on v5_lines v5_reach v5_positions v5_queued v5_position v5_next v5_mode v5_outTicks v5_stops v5_ticked v1_count v1_threshold f1_values v7_done v7_lastPosition) : ∃ (r : Int32) (n_f6_leads : Nat → Int32), fX6_lead f6_leads v5_on p1 p2 = some (r, n_f6_leads) ∧ fX7_lead f6_leads v5_on p1 p2 = some (r, n_f6_leads) ∧ Iv n_f6_leads f0_offset f0_gain f0_dark f0_bright v3_ground v3_patches f3_firstRow f3_lastRow f3_firstColumn f3_lastColumn f3_slants f3_tints f3_specks v4_count f4_kinds f4_numbers v5_on v5_lines v5_reach v5_positions v5_queued v5_position v5_next v5_mode v5_outTicks v5_stops v5_ticked v1_count v1_threshold f1_values v7_done v7_lastPosition := by
  have hI2 := hI
  obtain ⟨hc, hp, hl, hk, hs⟩ := hI
  unfold fX6_lead fX7_lead
  have hM : (∃ A : Int32 → Option (Int32 × (Nat → Int32)), True) := ⟨fun _ => none, trivial⟩
  rcases co_cases p1 with h | ⟨h, c, h1, rfl⟩
  · refine ⟨_, _, c0 h, ?_, hI2⟩
    rcases wi_cases p1 1 2 with ⟨h2, -⟩ | ⟨h2, b1, b2⟩
    · exact c0 h2
    · have b1' : 1 ≤ p1.toInt := b1
      have b2' : p1.toInt ≤ 2 := b2
      unfold fX6_isColour at h
      rcases wi_cases p1 0 2 with ⟨h3, b3⟩ | ⟨h3, -, -⟩
      · have b4 : p1.toInt < 0 ∨ 2 < p1.toInt := b3
        omega
      · rw [cv h3, ckB_ok (Or.inr rfl)] at h
        exact absurd (Option.some.inj h) (by decide)
  rw [c1 h]
  have eN : (nI c).toInt = (c : Int) := nI_toInt (by omega)
  by_cases a1 : nI c = 0
  · rw [if_pos a1]
    rcases wi_cases (nI c) 1 2 with ⟨h2, -⟩ | ⟨h2, b1, b2⟩
    · exact ⟨_, _, rfl, c0 h2, hI2⟩
    · rw [a1] at b1; exact absurd b1 (by decide)
  rw [if_neg a1]
  have hc0 : c ≠ 0 := fun e => a1 (by rw [e]; rfl)
  rcases wi_cases (nI c) 1 2 with ⟨h2, b1⟩ | ⟨h2, b1, b2⟩
  · have b2 : (nI c).toInt < 1 ∨ 2 < (nI c).toInt := b1
    omega
  rw [eM_within, c1 h2]
  rcases wi_cases p2 0 15 with ⟨h, -⟩ | ⟨h, b3, b4⟩
  · exact ⟨_, _, c0 h, c0 h, hI2⟩
  rw [c1 h, eM_within, c1 h]
  have v := vin h1 (show 3 < 2 ^ 31 by omega)
  by_cases q : v5_on = 0
  · rw [if_pos q, ckI_ok v, ckI_ok v, nI_clamp (by omega)]
    refine ⟨_, _, rfl, rfl, hc, hp, fun i hi => ?_, hk, ?_⟩
    · by_cases e : i = c
      · rw [e, up_at]; exact ⟨b3, b4⟩
      · rw [up_ne e]; exact hl i hi
    · subst q; exact sOK_off hs
  · exact ⟨_, _, if_neg q, if_neg q, hI2⟩
set_option maxHeartbeats 1000000 in
theorem st_pipe (f6_leads : Nat → Int32) (f0_offset : Nat → Int32) (f0_gain : Nat → Int32) (f0_dark : Nat → Int32) (f0_bright : Nat → Int32) (v3_ground : Int32) (v3_patches : Int32) (f3_firstRow : Nat → Int32) (f3_lastRow : Nat → Int32) (f3_firstColumn : Nat → Int32) (f3_lastColumn : Nat → Int32) (f3_slants : Nat → Int32) (f3_tints : Nat → Int32) (f3_specks : Nat → Int32) (v4_count : Int32) (f4_kinds : Nat → Int32) (f4_numbers : Nat → Int32) (v5_on : Int32) (v5_lines : Int32) (v5_reach : Int32) (v5_positions : Int32) (v5_queued : Int32) (v5_position : Int32) (v5_next : Int32) (v5_mode : Int32) (v5_outTicks : Int32) (v5_stops : Int32) (v5_ticked : Int32) (v1_count : Int32) (v1_threshold : Int32) (f1_values : Nat → Int32) (v7_done : Int32) (v7_lastPosition : Int32) (p1 : Int32) (p2 : Int32) (hI : Iv f6_leads f0_offset f0_gain f0_dark f0_bright v3_ground v3_patches f3_firstRow f3_lastRow f3_firstColumn f3_lastColumn f3_slants f3_tints f3_specks v4_count f4_kinds f4_numbers v5_on v5_lines v5_reach v5_positions v5_queued v5_position v5_next v5_mode v5_outTicks v5_stops v5_ticked v1_count v1_threshold f1_values v7_done v7_lastPosition) : ∃ (r : Int32) (n_v4_count : Int32) (n_f4_kinds : Nat → Int32) (n_f4_numbers : Nat → Int32), fX6_pipe v4_count f4_kinds f4_numbers v5_on p1 p2 = some (r, n_v4_count, n_f4_kinds, n_f4_numbers) ∧ fX7_pipe v4_count f4_kinds f4_numbers v5_on p1 p2 = some (r, n_v4_count, n_f4_kinds, n_f4_numbers) ∧ Iv f6_leads f0_offset f0_gain f0_dark f0_bright v3_ground v3_patches f3_firstRow f3_lastRow f3_firstColumn f3_lastColumn f3_slants f3_tints f3_specks n_v4_count n_f4_kinds n_f4_numbers v5_on v5_lines v5_reach v5_positions v5_queued v5_position v5_next v5_mode v5_outTicks v5_stops v5_ticked v1_count v1_threshold f1_values v7_done v7_lastPosition := by
  have hI2 := hI
  obtain ⟨hc, hp, hl, hk, hs⟩ := hI
  unfold fX6_pipe fX7_pipe
  rcases sp_cases p1 p2 with h | ⟨h, hr⟩
  · exact ⟨_, _, _, _, c0 h, c0 h, hI2⟩
  rw [c1 h, eM_isStep, c1 h]
  by_cases q : v5_on = 0
  · rw [if_pos q, if_pos q]
    obtain ⟨⟨k0, k4⟩, kr⟩ := hk
    obtain ⟨C, hC, rfl⟩ := of_rg (n := 4) k0 k4 (by omega)
    unfold fX4_addStep
    by_cases e : C = 4
    · rw [e, if_neg (show ¬ nI 4 < 4 by decide), if_pos (show nI 4 = 4 from rfl)]
      exact ⟨_, _, _, _, rfl, rfl, hc, hp, hl, ⟨⟨by decide, by decide⟩, by rw [e] at kr; exact kr⟩, hs⟩
    · have hC2 : C < 4 := by omega
      have v := vin hC2 (show 4 < 2 ^ 31 by omega)
      rw [if_pos (show nI C < 4 from nI_lt (b := 4) hC2 (by decide)), if_neg (show ¬ nI C = 4 from fun q => e ((nI_eq (b := 4) (by omega) (by omega)).mp q)), nI_clamp (by omega), nI_1]
      repeat rw [ckI_ok v]
      refine ⟨_, _, _, _, rfl, rfl, hc, hp, hl, ⟨⟨by rw [nI_toInt (by omega)]; omega, by rw [nI_toInt (by omega)]; omega⟩, fun i hi => ?_⟩, hs⟩
      rw [nI_toInt (by omega)] at hi
      by_cases ei : i = C
      · rw [ei, up_at]; exact hr
      · rw [up_ne ei]; exact kr i (by rw [nI_toInt (by omega)]; omega)
  · exact ⟨_, _, _, _, if_neg q, if_neg q, hI2⟩
set_option maxHeartbeats 1000000 in
theorem st_unpipe (f6_leads : Nat → Int32) (f0_offset : Nat → Int32) (f0_gain : Nat → Int32) (f0_dark : Nat → Int32) (f0_bright : Nat → Int32) (v3_ground : Int32) (v3_patches : Int32) (f3_firstRow : Nat → Int32) (f3_lastRow : Nat → Int32) (f3_firstColumn : Nat → Int32) (f3_lastColumn : Nat → Int32) (f3_slants : Nat → Int32) (f3_tints : Nat → Int32) (f3_specks : Nat → Int32) (v4_count : Int32) (f4_kinds : Nat → Int32) (f4_numbers : Nat → Int32) (v5_on : Int32) (v5_lines : Int32) (v5_reach : Int32) (v5_positions : Int32) (v5_queued : Int32) (v5_position : Int32) (v5_next : Int32) (v5_mode : Int32) (v5_outTicks : Int32) (v5_stops : Int32) (v5_ticked : Int32) (v1_count : Int32) (v1_threshold : Int32) (f1_values : Nat → Int32) (v7_done : Int32) (v7_lastPosition : Int32) (p1 : Int32) (hI : Iv f6_leads f0_offset f0_gain f0_dark f0_bright v3_ground v3_patches f3_firstRow f3_lastRow f3_firstColumn f3_lastColumn f3_slants f3_tints f3_specks v4_count f4_kinds f4_numbers v5_on v5_lines v5_reach v5_positions v5_queued v5_position v5_next v5_mode v5_outTicks v5_stops v5_ticked v1_count v1_threshold f1_values v7_done v7_lastPosition) : ∃ (r : Int32) (n_v4_count : Int32) (n_f4_kinds : Nat → Int32) (n_f4_numbers : Nat → Int32), fX6_unpipe v4_count f4_kinds f4_numbers v5_on p1 = some (r, n_v4_count, n_f4_kinds, n_f4_numbers) ∧ fX7_unpipe v4_count f4_kinds f4_numbers v5_on p1 = some (r, n_v4_count, n_f4_kinds, n_f4_numbers) ∧ Iv f6_leads f0_offset f0_gain f0_dark f0_bright v3_ground v3_patches f3_firstRow f3_lastRow f3_firstColumn f3_lastColumn f3_slants f3_tints f3_specks n_v4_count n_f4_kinds n_f4_numbers v5_on v5_lines v5_reach v5_positions v5_queued v5_position v5_next v5_mode v5_outTicks v5_stops v5_ticked v1_count v1_threshold f1_values v7_done v7_lastPosition := by
  have hI2 := hI
  obtain ⟨hc, hp, hl, hk, hs⟩ := hI
  obtain ⟨⟨k0, k4⟩, kr⟩ := hk
  obtain ⟨C, hC, rfl⟩ := of_rg (n := 4) k0 k4 (by omega)
  unfold fX6_unpipe fX7_unpipe
  have eP : (nI C - 1).toInt = (C : Int) - 1 := pk_sub_toInt (a := C) (b := 1) (by omega) (by omega)
  have eN : (nI C).toInt = (C : Int) := nI_toInt (by omega)
  by_cases a1 : p1 < 0
  · rw [if_pos a1]
    rcases wi_cases p1 0 (nI C - 1) with ⟨h, -⟩ | ⟨h, b1, b2⟩
    · exact ⟨_, _, _, _, rfl, c0 h, hI2⟩
    · rw [fa_lt] at a1; omega
  rw [if_neg a1]
  rw [fa_lt] at a1
  have z1 : ¬ p1.toInt < 0 := a1
  by_cases a2 : p1 < nI C
  · rw [if_pos a2]
    rw [fa_lt] at a2
    rcases wi_cases p1 0 (nI C - 1) with ⟨h, b1⟩ | ⟨h, b1, b2⟩
    · have b2 : p1.toInt < 0 ∨ (nI C - 1).toInt < p1.toInt := b1
      omega
    rw [eM_within, c1 h]
    by_cases q : v5_on = 0
    · rw [if_pos q, if_pos q]
      obtain ⟨j, hj, rfl⟩ := of_rg (x := p1) (n := 3) (by omega) (by omega) (by omega)
      rw [nI_toInt (by omega)] at a2
      obtain ⟨k2, n2, e1, e2, e3⟩ := dr_loop C hC 300 j f4_kinds f4_numbers (by omega) (by omega) (fun i hi => kr i (by rw [eN]; omega))
      have e4 : nI C - 1 = nI (C - 1) := by
        have : C = (C - 1) + 1 := by omega
        rw [this, nI_pred]; rfl
      refine ⟨nI (C - 1), nI (C - 1), k2, n2, ?_, by rw [e4]; exact e2, hc, hp, hl, ⟨⟨by rw [nI_toInt (by omega)]; omega, by rw [nI_toInt (by omega)]; omega⟩, fun i hi => ?_⟩, hs⟩
      · unfold fX4_dropStep; rw [e1]; rfl
      · rw [nI_toInt (by omega)] at hi; exact e3 i (by omega)
    · exact ⟨_, _, _, _, if_neg q, if_neg q, hI2⟩
  · rw [if_neg a2]
    rw [fa_lt] at a2
    rcases wi_cases p1 0 (nI C - 1) with ⟨h, -⟩ | ⟨h, b1, b2⟩
    · exact ⟨_, _, _, _, rfl, c0 h, hI2⟩
    · omega

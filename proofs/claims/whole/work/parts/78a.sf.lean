noncomputable def fillS (f : Nat → Int32) (b : Nat) (v : Nat → Int32) : Nat → (Nat → Int32)
  | 0 => f
  | n + 1 => upd (fillS f b v n) (b + n) (v n)
theorem i36_a (y k : Nat) : nI y * (36 : Int32) + nI k = nI (y * 36 + k) := by
  show nI y * nI 36 + nI k = _
  rw [pk_mul, nI_add]
theorem i36_b (y k : Nat) : (36 : Int32) * nI y + nI k = nI (y * 36 + k) := by
  rw [Int32.mul_comm]; exact i36_a y k
section TAKE
variable {ld o g d b : Nat → Int32} {gr pa : Int32} {fr lr fc lc sl ti sp : Nat → Int32} {pc : Int32} {kd nb : Nat → Int32} {li : Int32}
theorem tk_in (y : Nat) (hy : y < 40) (v : Nat → Int32) (hv : ∀ i, i < 36 → fX6_lineValue ld o g d b gr pa fr lr fc lc sl ti sp pc kd nb (nI y) (nI (i / 12)) (nI (i % 12)) = some (v i)) (f0 : Nat → Int32) (c : Nat) (hc : c < 3)
    (kk : Int32 → Int32 → Int32 → (Nat → Int32) → Int32 → Int32 → Option (Int32 × Int32 × Int32 × Int32 × (Nat → Int32))) (on qu co : Int32) : ∀ (n k : Nat), k ≤ 12 → 13 ≤ k + n →
    bX6_take_55 ld o g d b gr pa fr lr fc lc sl ti sp pc kd nb li kk n on qu co (fillS f0 (y * 36) v (c * 12 + k)) (nI y) (nI c) (nI k) = kk on qu co (fillS f0 (y * 36) v ((c + 1) * 12)) (nI y) (nI (c + 1)) := by
  intro n
  induction n with
  | zero => intro k h1 h2; omega
  | succ n ih =>
    intro k h1 h2
    rw [bX6_take_55]
    by_cases q : (12 : Int32) ≤ nI k
    · have hk : k = 12 := by have := (l_le 12 (by omega) (by omega)).mp q; omega
      rw [if_pos q, hk, nI_1, show c * 12 + 12 = (c + 1) * 12 by omega]
    · have hk : k < 12 := by
        rcases Nat.lt_or_ge k 12 with z | z
        · exact z
        · exact absurd ((l_le 12 (by omega) (by omega)).mpr z) q
      have e := hv (c * 12 + k) (by omega)
      rw [show (c * 12 + k) / 12 = c by omega, show (c * 12 + k) % 12 = k by omega] at e
      rw [if_neg q, cv (show fX0_place (nI c) (nI k) = some (nI (c * 12 + k)) from congrArg some (pl_a c k)), cv e, i36_a, ckI_ok (vin (show y * 36 + (c * 12 + k) < 1440 by omega) (by omega)), nI_clamp (by omega), nI_1]
      exact ih (k + 1) (by omega) (by omega)
theorem tk_out (y : Nat) (hy : y < 40) (v : Nat → Int32) (hv : ∀ i, i < 36 → fX6_lineValue ld o g d b gr pa fr lr fc lc sl ti sp pc kd nb (nI y) (nI (i / 12)) (nI (i % 12)) = some (v i)) (f0 : Nat → Int32) (on qu co : Int32) : ∀ (n c : Nat), c ≤ 3 → 4 ≤ c + n →
    bX6_take_48 ld o g d b gr pa fr lr fc lc sl ti sp pc kd nb li n on qu co (fillS f0 (y * 36) v (c * 12)) (nI y) (nI c) = bX6_take_98 li on qu co (fillS f0 (y * 36) v 36) (nI y) := by
  intro n
  induction n with
  | zero => intro k h1 h2; omega
  | succ n ih =>
    intro c h1 h2
    rw [bX6_take_48]
    by_cases q : (3 : Int32) ≤ nI c
    · have hk : c = 3 := by have := (l_le 3 (by omega) (by omega)).mp q; omega
      rw [if_pos q, hk]
    · have hc : c < 3 := by
        rcases Nat.lt_or_ge c 3 with z | z
        · exact z
        · exact absurd ((l_le 3 (by omega) (by omega)).mpr z) q
      rw [if_neg q]
      exact (tk_in y hy v hv f0 c hc _ on qu co 300 0 (by omega) (by omega)).trans (ih (c + 1) (by omega) (by omega))
theorem tk_m (y : Nat) (hy : y < 40) (v : Nat → Int32) (hv : ∀ i, i < 36 → fX7_wholeOf o g d b gr pa fr lr fc lc sl ti sp ld pc kd nb (nI y) (nI (i / 12)) (nI (i % 12)) = some (v i)) (f0 : Nat → Int32) (on : Int32) : ∀ (n i : Nat), i ≤ 36 → 37 ≤ i + n →
    bX7_take_26 o g d b gr pa fr lr fc lc sl ti sp ld pc kd nb li n on (nI y) (fillS f0 (y * 36) v i) (nI i) = bX7_take_68 li on (nI y) (fillS f0 (y * 36) v 36) := by
  intro n
  induction n with
  | zero => intro k h1 h2; omega
  | succ n ih =>
    intro i h1 h2
    rw [bX7_take_26]
    by_cases q : (36 : Int32) ≤ nI i
    · have hk : i = 36 := by have := (l_le 36 (by omega) (by omega)).mp q; omega
      rw [if_pos q, hk]
    · have hi : i < 36 := by
        rcases Nat.lt_or_ge i 36 with z | z
        · exact z
        · exact absurd ((l_le 36 (by omega) (by omega)).mpr z) q
      have e1 : nI i - nI i / 12 * 12 = nI (i % 12) := pk_rem (d := 12) (by omega) (by omega) (by omega)
      have e2 : nI i / 12 = nI (i / 12) := pk_div (d := 12) (by omega) (by omega) (by omega)
      rw [if_neg q, e1, e2, cv (hv i hi), i36_b, ckI_ok (vin (show y * 36 + i < 1440 by omega) (by omega)), nI_clamp (by omega), nI_1]
      exact ih (i + 1) (by omega) (by omega)
end TAKE
set_option maxHeartbeats 1000000 in
theorem st_take (f6_leads : Nat → Int32) (f0_offset : Nat → Int32) (f0_gain : Nat → Int32) (f0_dark : Nat → Int32) (f0_bright : Nat → Int32) (v3_ground : Int32) (v3_patches : Int32) (f3_firstRow : Nat → Int32) (f3_lastRow : Nat → Int32) (f3_firstColumn : Nat → Int32) (f3_lastColumn : Nat → Int32) (f3_slants : Nat → Int32) (f3_tints : Nat → Int32) (f3_specks : Nat → Int32) (v4_count : Int32) (f4_kinds : Nat → Int32) (f4_numbers : Nat → Int32) (v5_on : Int32) (v5_lines : Int32) (v5_reach : Int32) (v5_positions : Int32) (v5_queued : Int32) (v5_position : Int32) (v5_next : Int32) (v5_mode : Int32) (v5_outTicks : Int32) (v5_stops : Int32) (v5_ticked : Int32) (v1_count : Int32) (v1_threshold : Int32) (f1_values : Nat → Int32) (v7_done : Int32) (v7_lastPosition : Int32)  (hI : Iv f6_leads f0_offset f0_gain f0_dark f0_bright v3_ground v3_patches f3_firstRow f3_lastRow f3_firstColumn f3_lastColumn f3_slants f3_tints f3_specks v4_count f4_kinds f4_numbers v5_on v5_lines v5_reach v5_positions v5_queued v5_position v5_next v5_mode v5_outTicks v5_stops v5_ticked v1_count v1_threshold f1_values v7_done v7_lastPosition) : ∃ (r : Int32) (n_v5_on : Int32) (n_v5_queued : Int32) (n_v1_count : Int32) (n_f1_values : Nat → Int32), fX6_take f6_leads f0_offset f0_gain f0_dark f0_bright v3_ground v3_patches f3_firstRow f3_lastRow f3_firstColumn f3_lastColumn f3_slants f3_tints f3_specks v4_count f4_kinds f4_numbers v5_on v5_lines v5_queued v1_count f1_values = some (r, n_v5_on, n_v5_queued, n_v1_count, n_f1_values) ∧ fX7_take f0_offset f0_gain f0_dark f0_bright v3_ground v3_patches f3_firstRow f3_lastRow f3_firstColumn f3_lastColumn f3_slants f3_tints f3_specks f6_leads v4_count f4_kinds f4_numbers v5_on v5_lines v7_done v1_count f1_values = some (r, n_v5_on, n_v1_count, n_f1_values) ∧ Iv f6_leads f0_offset f0_gain f0_dark f0_bright v3_ground v3_patches f3_firstRow f3_lastRow f3_firstColumn f3_lastColumn f3_slants f3_tints f3_specks v4_count f4_kinds f4_numbers n_v5_on v5_lines v5_reach v5_positions n_v5_queued v5_position v5_next v5_mode v5_outTicks v5_stops v5_ticked n_v1_count v1_threshold n_f1_values v7_done v7_lastPosition := by
  have hI2 := hI
  obtain ⟨hc, hp, hl, hk, h1, h2, h3, h4, h5, h6, h7⟩ := hI
  unfold fX6_take fX7_take
  by_cases q : v5_on = 0
  · rw [if_pos q, if_pos q]; exact ⟨_, _, _, _, _, rfl, rfl, hI2⟩
  rw [if_neg q, if_neg q]
  obtain ⟨q0, q6⟩ := h2
  have edn : v7_done.toInt = v1_count.toInt + v5_queued.toInt := by
    obtain ⟨c1, c2⟩ := h3
    rw [h4]; exact fb_addI (by omega) (by omega)
  by_cases q2 : v5_queued ≤ 0
  · rw [fa_le] at q2
    have q2' : v5_queued.toInt ≤ 0 := q2
    rw [if_pos ((fa_le _ _).mpr q2), if_pos (show v7_done = v1_count by rw [fa_eq]; omega)]
    exact ⟨_, _, _, _, _, rfl, rfl, hI2⟩
  rw [fa_le] at q2
  have q2' : ¬ v5_queued.toInt ≤ 0 := q2
  have hon : v5_on = 1 := by
    rcases h1 with z | z
    · exact absurd z q
    · exact z
  obtain ⟨⟨g1a, g1b⟩, g2, g3, g4, g5, g6, g7, g8, g9, g10⟩ := h7 hon
  obtain ⟨c1', c2'⟩ := h3
  rw [if_neg (fun z => q2 ((fa_le _ _).mp z)), if_neg (show ¬ v7_done = v1_count by rw [fa_eq]; omega), if_pos (show v1_count < 40 by rw [fa_lt]; show _ < (40 : Int); omega)]
  obtain ⟨y, hy, ey⟩ := of_rg (x := v1_count) (n := 39) (by omega) (by omega) (by omega)
  have hv0 : ∀ i : Nat, ∃ w : Int32, i < 36 → fX6_lineValue f6_leads f0_offset f0_gain f0_dark f0_bright v3_ground v3_patches f3_firstRow f3_lastRow f3_firstColumn f3_lastColumn f3_slants f3_tints f3_specks v4_count f4_kinds f4_numbers (nI y) (nI (i / 12)) (nI (i % 12)) = some w ∧ fX7_wholeOf f0_offset f0_gain f0_dark f0_bright v3_ground v3_patches f3_firstRow f3_lastRow f3_firstColumn f3_lastColumn f3_slants f3_tints f3_specks f6_leads v4_count f4_kinds f4_numbers (nI y) (nI (i / 12)) (nI (i % 12)) = some w := by
    intro i
    by_cases hi : i < 36
    · obtain ⟨w, w1, w2⟩ := ln_same (gr := v3_ground) (fc := f3_firstColumn) (lc := f3_lastColumn) (ti := f3_tints) (sp := f3_specks) (nb := f4_numbers) hc hp hl hk (i / 12) (i % 12) (by omega) (by omega) (y := nI y) (by rw [nI_toInt (by omega)]; omega) (by rw [nI_toInt (by omega)]; omega)
      exact ⟨w, fun _ => ⟨w1, w2⟩⟩
    · exact ⟨0, fun z => absurd z hi⟩
  obtain ⟨v, hv⟩ := Classical.axiomOfChoice hv0
  have eX := tk_out (li := v5_lines) y (by omega) v (fun i hi => (hv i hi).1) f1_values v5_on v5_queued v1_count 300 0 (by omega) (by omega)
  have eM := tk_m (li := v5_lines) y (by omega) v (fun i hi => (hv i hi).2) f1_values v5_on 300 0 (by omega) (by omega)
  have ec1 : (v1_count + 1).toInt = v1_count.toInt + 1 := by
    rw [fb_addI (by show _ ≤ _ + (1 : Int); omega) (by show _ + (1 : Int) < _; omega)]; rfl
  have eq1 : (v5_queued - 1).toInt = v5_queued.toInt - 1 := by
    rw [fb_subI (by show _ ≤ _ - (1 : Int); omega) (by show _ - (1 : Int) < _; omega)]; rfl
  have h4' : v7_done = v1_count + 1 + (v5_queued - 1) := by
    rw [fa_eq, fb_addI (by rw [ec1, eq1]; omega) (by rw [ec1, eq1]; omega), ec1, eq1]; omega
  have ev : v1_count + 1 - 1 = v1_count := Int32.add_sub_cancel _ _
  have eX' : bX6_take_48 f6_leads f0_offset f0_gain f0_dark f0_bright v3_ground v3_patches f3_firstRow f3_lastRow f3_firstColumn f3_lastColumn f3_slants f3_tints f3_specks v4_count f4_kinds f4_numbers v5_lines 300 v5_on v5_queued v1_count f1_values v1_count 0 = bX6_take_98 v5_lines v5_on v5_queued v1_count (fillS f1_values (y * 36) v 36) v1_count := by
    rw [← ey] at eX; exact eX
  have eM' : bX7_take_26 f0_offset f0_gain f0_dark f0_bright v3_ground v3_patches f3_firstRow f3_lastRow f3_firstColumn f3_lastColumn f3_slants f3_tints f3_specks f6_leads v4_count f4_kinds f4_numbers v5_lines 300 v5_on v1_count f1_values 0 = bX7_take_68 v5_lines v5_on v1_count (fillS f1_values (y * 36) v 36) := by
    rw [← ey] at eM; exact eM
  rw [eX', eM']
  unfold bX6_take_98 bX7_take_68
  rw [ev]
  by_cases z : v1_count + 1 < v5_lines
  · rw [fa_lt, ec1] at z
    rw [if_pos (show v1_count + 1 < v5_lines by rw [fa_lt, ec1]; exact z), if_neg (show ¬ v5_lines ≤ v1_count + 1 by rw [fa_le, ec1]; omega), hon]
    exact ⟨_, _, _, _, _, rfl, rfl, hc, hp, hl, hk, Or.inr rfl, ⟨by omega, by omega⟩, ⟨by omega, by omega⟩, h4', h5, h6, fun _ => ⟨⟨g1a, g1b⟩, by omega, g3, g4, g5, g6, g7, g8, fun w => by have := g9 w; omega, g10⟩⟩
  · have z' : ¬ v1_count.toInt + 1 < v5_lines.toInt := fun w => z (by rw [fa_lt, ec1]; exact w)
    rw [if_neg z, if_pos (show v5_lines ≤ v1_count + 1 by rw [fa_le, ec1]; omega)]
    exact ⟨_, _, _, _, _, rfl, rfl, hc, hp, hl, hk, Or.inl rfl, ⟨by omega, by omega⟩, ⟨by omega, by omega⟩, h4', h5, h6, fun w => absurd w (by decide)⟩

theorem cz (B : Nat) (h : B < 2 ^ 62) : lg_cmp (lN B) 0 = 0 ↔ B = 0 := by
  unfold lg_cmp
  by_cases q : B = 0
  · rw [q, if_neg (by decide), if_pos (by decide)]; exact ⟨fun _ => rfl, fun _ => rfl⟩
  · have h1 : lN B > 0 := by
      show lN 0 < lN B
      rw [pk_lLT (by omega) (by omega)]; omega
    rw [if_pos h1]
    exact ⟨fun z => absurd z (by decide), fun z => absurd z q⟩
theorem ln_ne (B : Nat) (h : B < 2 ^ 62) (h0 : 0 < B) : ¬ lN B = 0 := by
  show ¬ lN B = lN 0
  rw [pk_lEQ (by omega) (by omega)]; omega
theorem gc_loop (u l : Int64) (w : Int32) : ∀ (k n m A B i : Nat), B < 2 ^ k → 2 * k + 1 ≤ n → 2 * k + 1 ≤ m → i + 2 * k + 1 ≤ 200 → A < 2 ^ 40 → B < 2 ^ 40 → 1 ≤ A + B →
    ∃ G : Nat, 1 ≤ G ∧ G < 2 ^ 40 ∧ bX2_greatestDivisor_15 n (lN A) (lN B) (nI i) = some (lN G) ∧ bX7_inLeastTerms_17 m u l w (lN A) (lN B) = bX7_inLeastTerms_42 u l w (lN G) := by
  have fin : ∀ (n m A i : Nat), 1 ≤ n → 1 ≤ m → i < 200 → bX2_greatestDivisor_15 n (lN A) (lN 0) (nI i) = some (lN A) ∧ bX7_inLeastTerms_17 m u l w (lN A) (lN 0) = bX7_inLeastTerms_42 u l w (lN A) := by
    intro n m A i h1 h2 h3
    match n, m, h1, h2 with
    | n + 1, m + 1, _, _ =>
      have e0 : lg_cmp (lN 0) 0 = 0 := by decide
      rw [bX2_greatestDivisor_15, bX7_inLeastTerms_17, if_pos e0, if_pos e0]
      exact ⟨by split <;> rfl, rfl⟩
  have stp : ∀ (n m A B i : Nat), 0 < B → i < 200 → A < 2 ^ 40 → B < 2 ^ 40 → bX2_greatestDivisor_15 (n + 1) (lN A) (lN B) (nI i) = bX2_greatestDivisor_15 n (lN B) (lN (A % B)) (nI (i + 1)) ∧ bX7_inLeastTerms_17 (m + 1) u l w (lN A) (lN B) = bX7_inLeastTerms_17 m u l w (lN B) (lN (A % B)) := by
    intro n m A B i h0 h1 h2 h3
    have n0 : ¬ lg_cmp (lN B) 0 = 0 := fun z => by have := (cz B (by omega)).mp z; omega
    rw [bX2_greatestDivisor_15, bX7_inLeastTerms_17, if_neg n0, if_neg n0, if_neg (show ¬ (200 : Int32) ≤ nI i from fun z => by have := (l_le 200 (by omega) (by omega)).mp z; omega), ckL_ok (ln_ne B (by omega) h0), ckL_ok (ln_ne B (by omega) h0), pk_lRem (by omega) h0 (by omega), nI_1]
    exact ⟨rfl, rfl⟩
  intro k
  induction k with
  | zero =>
    intro n m A B i hB hn hm hi hA hB2 hs
    have : B = 0 := by omega
    subst this
    obtain ⟨f1, f2⟩ := fin n m A i (by omega) (by omega) (by omega)
    exact ⟨A, by omega, hA, f1, f2⟩
  | succ k ih =>
    intro n m A B i hB hn hm hi hA hB2 hs
    rcases Nat.eq_zero_or_pos B with h0 | h0
    · subst h0
      obtain ⟨f1, f2⟩ := fin n m A i (by omega) (by omega) (by omega)
      exact ⟨A, by omega, hA, f1, f2⟩
    · obtain ⟨n', rfl⟩ : ∃ n', n = n' + 1 := ⟨n - 1, by omega⟩
      obtain ⟨m', rfl⟩ : ∃ m', m = m' + 1 := ⟨m - 1, by omega⟩
      obtain ⟨s1, s2⟩ := stp n' m' A B i h0 (by omega) hA hB2
      have hr := Nat.mod_lt A h0
      rcases Nat.eq_zero_or_pos (A % B) with r0 | r0
      · obtain ⟨f1, f2⟩ := fin n' m' B (i + 1) (by omega) (by omega) (by omega)
        rw [r0] at s1 s2
        exact ⟨B, by omega, hB2, s1.trans f1, s2.trans f2⟩
      · obtain ⟨n2, rfl⟩ : ∃ n2, n' = n2 + 1 := ⟨n' - 1, by omega⟩
        obtain ⟨m2, rfl⟩ : ∃ m2, m' = m2 + 1 := ⟨m' - 1, by omega⟩
        obtain ⟨t1, t2⟩ := stp n2 m2 B (A % B) (i + 1) r0 (by omega) hB2 (by omega)
        have hr2 := Nat.mod_lt B r0
        have hle : B % (A % B) + A % B ≤ B := by
          have h1 := Nat.div_add_mod B (A % B)
          have h2 : 1 ≤ B / (A % B) := (Nat.le_div_iff_mul_le r0).mpr (by omega)
          have h3 : A % B * 1 ≤ A % B * (B / (A % B)) := Nat.mul_le_mul_left _ h2
          omega
        have hk : 2 ^ (k + 1) = 2 * 2 ^ k := by rw [Nat.pow_succ, Nat.mul_comm]
        obtain ⟨G, g1, g2, g3, g4⟩ := ih n2 m2 (A % B) (B % (A % B)) (i + 1 + 1) (by omega) (by omega) (by omega) (by omega) (by omega) (by omega) (by omega)
        exact ⟨G, g1, g2, s1.trans (t1.trans g3), s2.trans (t2.trans g4)⟩
theorem abs_of (u : Int64) (h1 : -1000000000 < u.toInt) (h2 : u.toInt < 1000000000) : (if 0 < u then u else -u) = lN u.toInt.natAbs ∧ (0 ≤ lg_cmp u 0 → u = lN u.toInt.natAbs) ∧ (¬ 0 ≤ lg_cmp u 0 → -u = lN u.toInt.natAbs) := by
  have eN : (lN u.toInt.natAbs).toInt = (u.toInt.natAbs : Int) := pk_lT (by omega)
  have en : (-u).toInt = -u.toInt := by
    rw [Int64.toInt_neg, fb_bmodL (by omega) (by omega)]
  refine ⟨?_, fun h => ?_, fun h => ?_⟩
  · by_cases q : 0 < u
    · rw [if_pos q]
      rw [fa_lt64] at q
      have q' : 0 < u.toInt := q
      rw [fa_eq64, eN]; omega
    · rw [if_neg q]
      rw [fa_lt64] at q
      have q' : ¬ 0 < u.toInt := q
      rw [fa_eq64, eN, en]; omega
  · rw [lg_cmp_ge, fa_le64] at h
    have h' : 0 ≤ u.toInt := h
    rw [fa_eq64, eN]; omega
  · rw [lg_cmp_ge, fa_le64] at h
    have h' : ¬ 0 ≤ u.toInt := h
    rw [fa_eq64, eN, en]; omega
theorem q_step (N a d y : Int) (hq : ∀ t, y ≤ t → N + 2 * (t * a) ≤ N * (t * t) + d) : ∀ t, y + 1 ≤ t → (N + 1) + 2 * (t * (a + y)) ≤ (N + 1) * (t * t) + (d + y * y) := by
  intro t ht
  have h1 := hq t (by omega)
  have h2 : 0 < (t - y) * (t - y) := Int.mul_pos (by omega) (by omega)
  rw [Int.sub_mul, Int.mul_sub, Int.mul_sub, Int.mul_comm y t] at h2
  rw [Int.mul_add, Int.add_mul, Int.one_mul]
  omega
theorem D_step (N a d y : Int) (hN : 0 ≤ N) (hq : ∀ t, y ≤ t → N + 2 * (t * a) ≤ N * (t * t) + d) (hX : 0 ≤ N * d - a * a) : N + 1 ≤ ((N + 1) * (d + y * y) - (a + y) * (a + y)) + 1 := by
  have h1 := hq y (by omega)
  rw [Int.add_mul, Int.one_mul, Int.mul_add, Int.add_mul a y (a + y), Int.mul_add, Int.mul_add, Int.mul_comm a y]
  omega
def skI (y N a b c d : Nat) : Prop := N ≤ y ∧ a ≤ 40 * N ∧ b ≤ 12 * N ∧ c ≤ 480 * N ∧ d ≤ 1600 * N ∧ (∀ t : Int, (y : Int) ≤ t → (N : Int) + 2 * (t * (a : Int)) ≤ (N : Int) * (t * t) + (d : Int)) ∧ (N : Int) ≤ ((N : Int) * d - (a : Int) * a) + 1 ∧ 0 ≤ (N : Int) * d - (a : Int) * a
theorem skI_0 : skI 0 0 0 0 0 0 := ⟨Nat.le_refl 0, Nat.le_refl 0, Nat.le_refl 0, Nat.le_refl 0, Nat.le_refl 0, fun t _ => by simp, by simp, by simp⟩
theorem skI_no {y N a b c d : Nat} (h : skI y N a b c d) : skI (y + 1) N a b c d := by
  obtain ⟨h1, h2, h3, h4, h5, h6, h7, h8⟩ := h
  exact ⟨by omega, h2, h3, h4, h5, fun t ht => h6 t (by omega), h7, h8⟩
theorem skI_yes {y N a b c d e : Nat} (hy : y < 40) (he : e < 12) (h : skI y N a b c d) : skI (y + 1) (N + 1) (a + y) (b + e) (c + y * e) (d + y * y) := by
  obtain ⟨h1, h2, h3, h4, h5, h6, h7, h8⟩ := h
  have m1 : y * e ≤ 39 * 11 := Nat.mul_le_mul (by omega) (by omega)
  have m2 : y * y ≤ 39 * 39 := Nat.mul_le_mul (by omega) (by omega)
  have q1 := q_step N a d y h6
  have q2 := D_step N a d y (by omega) h6 h8
  refine ⟨by omega, by omega, by omega, by omega, by omega, fun t ht => ?_, ?_, ?_⟩
  · have := q1 t (by omega)
    push_cast
    exact this
  · push_cast
    exact q2
  · push_cast
    omega
theorem sw_end (w : Int32) {y N a b c d : Nat} (hy : y ≤ 40) (h : skI y N a b c d) : Same (bX1_skewPart_94 w (lN N) (lN a) (lN b) (lN c) (lN d)) (bX7_skew_102 w (lN N) (lN a) (lN b) (lN c) (lN d)) := by
  obtain ⟨h1, h2, h3, h4, h5, h6, h7, h8⟩ := h
  unfold bX1_skewPart_94 bX7_skew_102
  refine sm_ite Iff.rfl (fun q => ?_) (fun _ => sm_som _)
  rw [lg_cmp_ge] at q
  have q' : lN 2 ≤ lN N := q
  rw [pk_lLE (by omega) (by omega)] at q'
  have b1 : N * c ≤ 40 * 19200 := Nat.mul_le_mul (by omega) (by omega)
  have b2 : a * b ≤ 1600 * 480 := Nat.mul_le_mul (by omega) (by omega)
  have b3 : N * d ≤ 40 * 64000 := Nat.mul_le_mul (by omega) (by omega)
  have b4 : a * a ≤ 1600 * 1600 := Nat.mul_le_mul (by omega) (by omega)
  have c1' : ((N * d : Nat) : Int) = (N : Int) * d := Int.natCast_mul N d
  have c2' : ((a * a : Nat) : Int) = (a : Int) * a := Int.natCast_mul a a
  have hD : a * a + 1 ≤ N * d := by omega
  rw [lN_mul, lN_mul, lN_mul, lN_mul]
  have el : lN (N * d) - lN (a * a) = lN (N * d - a * a) := lN_sub (by omega)
  rw [el]
  have eu : (lN (N * c) - lN (a * b)).toInt = ((N * c : Nat) : Int) - ((a * b : Nat) : Int) := by
    have e1 : (lN (N * c)).toInt = ((N * c : Nat) : Int) := pk_lT (by omega)
    have e2 : (lN (a * b)).toInt = ((a * b : Nat) : Int) := pk_lT (by omega)
    rw [fb_subL (by rw [e1, e2]; omega) (by rw [e1, e2]; omega), e1, e2]
  generalize lN (N * c) - lN (a * b) = u at eu ⊢
  obtain ⟨a1, a2, a3⟩ := abs_of u (by omega) (by omega)
  have elt : (lN (N * d - a * a)).toInt = ((N * d - a * a : Nat) : Int) := pk_lT (by omega)
  obtain ⟨d1, -, -⟩ := abs_of (lN (N * d - a * a)) (by omega) (by omega)
  rw [elt, Int.natAbs_natCast] at d1
  generalize hDD : N * d - a * a = D at d1 elt ⊢
  have hD1 : 1 ≤ D := by omega
  have hD2 : D < 2 ^ 22 := by omega
  obtain ⟨G, g1, g2, g3, g4⟩ := gc_loop u (lN D) w 22 300 300 u.toInt.natAbs D 0 hD2 (by omega) (by omega) (by omega) (by omega) (by omega) (by omega)
  have eX : fX2_greatestDivisor u (lN D) = some (lN G) := by
    unfold fX2_greatestDivisor
    rw [a1, d1]; exact g3
  have eM : fX7_inLeastTerms u (lN D) w = bX7_inLeastTerms_42 u (lN D) w (lN G) := by
    unfold fX7_inLeastTerms
    by_cases z : 0 ≤ lg_cmp u 0
    · rw [if_pos z]
      have e := a2 z
      conv => lhs; arg 5; rw [e]
      exact g4
    · rw [if_neg z, a3 z]; exact g4
  rw [cv eX, eM]
  have hG : 0 ≤ lg_cmp (lN G) 1 := by
    rw [lg_cmp_ge]
    show lN 1 ≤ lN G
    rw [pk_lLE (by omega) (by omega)]; exact g1
  rw [if_pos hG]
  unfold bX7_inLeastTerms_42
  have hz := ln_ne G (by omega) (by omega)
  by_cases z : w = 0
  · rw [if_pos z, ckL_ok hz]; exact sm_som _
  · rw [if_neg z, ckL_ok hz]; exact sm_som _
theorem sw_loop (t w : Int32) (f : Nat → Int32) (C : Nat) (hC : C ≤ 40) : ∀ (n y N a b c d : Nat), y ≤ C → C < y + n → skI y N a b c d → Same (bX1_skewPart_17 (nI C) t f n w (lN N) (lN a) (lN b) (lN c) (lN d) (nI y)) (bX7_skew_30 t (nI C) f n w (lN N) (lN a) (lN b) (lN c) (lN d) (nI y)) := by
  intro n
  induction n with
  | zero => intro y N a b c d h3 h4; omega
  | succ n ih =>
    intro y N a b c d h3 h4 hi
    rw [bX1_skewPart_17, bX7_skew_30]
    refine sm_ite Iff.rfl (fun _ => sw_end w (by omega) hi) (fun q => ?_)
    have hy : y < C := by
      rcases Nat.lt_or_ge y C with z | z
      · exact z
      · exact absurd ((l_le C (by omega) (by omega)).mpr z) q
    obtain ⟨r, r1, r2, r3⟩ := ed_of t f (show y < 40 by omega)
    rw [cv r1, cv r2, nI_1]
    rcases r3 with rfl | ⟨e, he, rfl⟩
    · rw [if_pos rfl, if_pos rfl]
      exact ih (y + 1) N a b c d (by omega) (by omega) (skI_no hi)
    · have h9 : ¬ nI e = -9 := fun z => by
        rw [fa_eq, nI_toInt (by omega)] at z
        have z' : (e : Int) = -9 := z
        omega
      have m1 : y * e ≤ 39 * 11 := Nat.mul_le_mul (by omega) (by omega)
      have m2 : y * y ≤ 39 * 39 := Nat.mul_le_mul (by omega) (by omega)
      rw [if_neg h9, if_neg h9, pk_mul, pk_mul, nI_l (show y < 2 ^ 31 by omega), nI_l (show e < 2 ^ 31 by omega), nI_l (show y * e < 2 ^ 31 by omega), nI_l (show y * y < 2 ^ 31 by omega), lN_mul, lN_mul, lN_add, lN_add, lN_add, lN_add, lN_1]
      exact ih (y + 1) (N + 1) (a + y) (b + e) (c + y * e) (d + y * y) (by omega) (by omega) (skI_yes (by omega) he hi)
theorem in_loop : ∀ (n i : Nat) (g b : Nat → Int32), i ≤ 36 → 37 ≤ i + n → (∀ j, j < i → g j = 64 ∧ b j = 255) → ∃ g2 b2, bX0_init_38 n g b (nI i) = some (g2, b2) ∧ bX7_init_150 n g b (nI i) = some (g2, b2) ∧ ∀ j, j < 36 → g2 j = 64 ∧ b2 j = 255 := by
  intro n
  induction n with
  | zero => intro i g b h1 h2; omega
  | succ n ih =>
    intro i g b h1 h2 h
    rw [bX0_init_38, bX7_init_150]
    by_cases q : (36 : Int32) ≤ nI i
    · have hi : i = 36 := by have := (l_le 36 (by omega) (by omega)).mp q; omega
      rw [if_pos q, if_pos q]
      exact ⟨g, b, rfl, rfl, fun j hj => h j (by omega)⟩
    · have hi : i < 36 := by
        rcases Nat.lt_or_ge i 36 with z | z
        · exact z
        · exact absurd ((l_le 36 (by omega) (by omega)).mpr z) q
      have v := vin hi (show 36 < 2 ^ 31 by omega)
      rw [if_neg q, if_neg q, nI_clamp (by omega), nI_1]
      repeat rw [ckI_ok v]
      refine ih (i + 1) _ _ (by omega) (by omega) (fun j hj => ?_)
      by_cases e : j = i
      · rw [e, up_at, up_at]; exact ⟨rfl, rfl⟩
      · rw [up_ne e, up_ne e]; exact h j (by omega)
set_option maxHeartbeats 1000000 in
theorem st_skew (f6_leads : Nat → Int32) (f0_offset : Nat → Int32) (f0_gain : Nat → Int32) (f0_dark : Nat → Int32) (f0_bright : Nat → Int32) (v3_ground : Int32) (v3_patches : Int32) (f3_firstRow : Nat → Int32) (f3_lastRow : Nat → Int32) (f3_firstColumn : Nat → Int32) (f3_lastColumn : Nat → Int32) (f3_slants : Nat → Int32) (f3_tints : Nat → Int32) (f3_specks : Nat → Int32) (v4_count : Int32) (f4_kinds : Nat → Int32) (f4_numbers : Nat → Int32) (v5_on : Int32) (v5_lines : Int32) (v5_reach : Int32) (v5_positions : Int32) (v5_queued : Int32) (v5_position : Int32) (v5_next : Int32) (v5_mode : Int32) (v5_outTicks : Int32) (v5_stops : Int32) (v5_ticked : Int32) (v1_count : Int32) (v1_threshold : Int32) (f1_values : Nat → Int32) (v7_done : Int32) (v7_lastPosition : Int32) (p1 : Int32) (hI : Iv f6_leads f0_offset f0_gain f0_dark f0_bright v3_ground v3_patches f3_firstRow f3_lastRow f3_firstColumn f3_lastColumn f3_slants f3_tints f3_specks v4_count f4_kinds f4_numbers v5_on v5_lines v5_reach v5_positions v5_queued v5_position v5_next v5_mode v5_outTicks v5_stops v5_ticked v1_count v1_threshold f1_values v7_done v7_lastPosition) : ∃ (r : Int64), fX6_skew v1_count v1_threshold f1_values p1 = some r ∧ fX7_skew v1_threshold v1_count f1_values p1 = some r := by
  obtain ⟨hc, hp, hl, hk, h1, h2, ⟨h3, h3'⟩, h4⟩ := hI
  obtain ⟨C, hC, rfl⟩ := of_rg (n := 40) h3 h3' (by omega)
  unfold fX6_skew fX7_skew
  rcases wi_cases p1 0 1 with ⟨h, -⟩ | ⟨h, a1, a2⟩
  · exact ⟨_, c0 h, c0 h⟩
  rw [c1 h, eM_within, c1 h]
  have hs := fun w : Int32 => sw_loop v1_threshold w f1_values C hC 300 0 0 0 0 0 0 (by omega) (by omega) skI_0
  by_cases w1 : p1 = 1
  · rw [if_pos w1, w1]
    obtain ⟨r, r1, r2⟩ := hs 1
    exact ⟨r, by rw [cv (show fX1_skewPart (nI C) v1_threshold f1_values 1 = some r from r1)], r2⟩
  · rw [if_neg w1]
    have w0 : p1 = 0 := by
      have a1' : 0 ≤ p1.toInt := a1
      have a2' : p1.toInt ≤ 1 := a2
      rw [fa_eq] at w1
      have w1' : ¬ p1.toInt = 1 := w1
      rw [fa_eq]; show p1.toInt = 0; omega
    rw [w0]
    obtain ⟨r, r1, r2⟩ := hs 0
    exact ⟨r, by rw [cv (show fX1_skewPart (nI C) v1_threshold f1_values 0 = some r from r1)], r2⟩
set_option maxHeartbeats 1000000 in
theorem iv_start : ∃ (o_f0_gain o_f0_bright : Nat → Int32), bX0_init_38 300 (fun _ => (0 : Int32)) (fun _ => (0 : Int32)) (0 : Int32) = some (o_f0_gain, o_f0_bright) ∧ bX7_init_150 300 (fun _ => (0 : Int32)) (fun _ => (0 : Int32)) (0 : Int32) = some (o_f0_gain, o_f0_bright) ∧ Iv (fun _ => (0 : Int32)) (fun _ => (0 : Int32)) o_f0_gain (fun _ => (0 : Int32)) o_f0_bright (255 : Int32) (0 : Int32) (fun _ => (0 : Int32)) (fun _ => (0 : Int32)) (fun _ => (0 : Int32)) (fun _ => (0 : Int32)) (fun _ => (0 : Int32)) (fun _ => (0 : Int32)) (fun _ => (0 : Int32)) (0 : Int32) (fun _ => (0 : Int32)) (fun _ => (0 : Int32)) (0 : Int32) (0 : Int32) (0 : Int32) (0 : Int32) (0 : Int32) (-4 : Int32) (0 : Int32) (0 : Int32) (0 : Int32) (0 : Int32) (0 : Int32) (0 : Int32) (128 : Int32) (fun _ => (0 : Int32)) (0 : Int32) (-9 : Int32) := by
  obtain ⟨g2, b2, e1, e2, h⟩ := in_loop 300 0 (fun _ => (0 : Int32)) (fun _ => (0 : Int32)) (by omega) (by omega) (fun j hj => absurd hj (Nat.not_lt_zero j))
  refine ⟨g2, b2, e1, e2, fun i hi => ?_, ⟨⟨by decide, by decide⟩, fun i hi => ?_⟩, fun i _ => (show rg (0 : Int32) 0 15 from ⟨by decide, by decide⟩), ⟨⟨by decide, by decide⟩, fun i hi => ?_⟩, Or.inl rfl, ⟨by decide, by decide⟩, ⟨by decide, by decide⟩, by decide, ⟨by decide, by decide⟩, fun z => absurd z (by decide), fun z => absurd z (by decide)⟩
  · obtain ⟨q1, q2⟩ := h i hi
    rw [q1, q2]
    exact ⟨(show rg (0 : Int32) 0 63 from ⟨by decide, by decide⟩), ⟨by decide, by decide⟩, (show rg (0 : Int32) 0 255 from ⟨by decide, by decide⟩), by decide, by decide⟩
  · have : (i : Int) < 0 := hi
    omega
  · have : (i : Int) < 0 := hi
    omega

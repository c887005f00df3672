/-! longest, streaks -/
theorem wy_of (f : Nat → Int32) {y k : Nat} (hy : y < 40) (h1 : 1 ≤ k) (h2 : k ≤ 10) : ∃ r, fX1_wayOut f (nI y) (nI k) = some r ∧ fX7_sticks f (nI y) (nI k) = some r := by
  obtain ⟨j, rfl⟩ : ∃ j, k = j + 1 := ⟨k - 1, by omega⟩
  obtain ⟨a, a1, a2, a3, a4⟩ := gy_of f hy (show j < 12 by omega)
  obtain ⟨b, b1, b2, b3, b4⟩ := gy_of f hy (show j + 1 < 12 by omega)
  obtain ⟨c, c1, c2, c3, c4⟩ := gy_of f hy (show j + 1 + 1 < 12 by omega)
  unfold fX1_wayOut fX7_sticks
  rw [if_neg (show ¬ nI (j + 1) < 1 from fun z => by rw [fa_lt, nI_toInt (by omega)] at z; have z' : ((j + 1 : Nat) : Int) < 1 := z; omega),
    if_pos (show nI (j + 1) ≤ 10 from by rw [fa_le, nI_toInt (by omega)]; show ((j + 1 : Nat) : Int) ≤ 10; omega), nI_pred, nI_1, cv a1, cv b1, cv c1, cv b2, cv a2, cv b2, cv c2]
  have e1 : (b - a).toInt = b.toInt - a.toInt := fb_subI (by omega) (by omega)
  have e2 : (a - b).toInt = a.toInt - b.toInt := fb_subI (by omega) (by omega)
  have e3 : (c - b).toInt = c.toInt - b.toInt := fb_subI (by omega) (by omega)
  have e4 : (b - c).toInt = b.toInt - c.toInt := fb_subI (by omega) (by omega)
  have q1 : (a - b < 24) ↔ (-24 < b - a) := by
    rw [fa_lt, fa_lt, e1, e2]; show _ < (24 : Int) ↔ (-24 : Int) < _; omega
  have q2 : (c - b < 24) ↔ (-24 < b - c) := by
    rw [fa_lt, fa_lt, e3, e4]; show _ < (24 : Int) ↔ (-24 : Int) < _; omega
  refine sm_ite Iff.rfl (fun _ => sm_ite q1 (fun _ => sm_som _) (fun _ => sm_ite q2 (fun _ => sm_som _) (fun _ => sm_som _))) (fun _ => sm_ite Iff.rfl (fun _ => sm_ite q1 (fun _ => sm_som _) (fun _ => sm_ite q2 (fun _ => sm_som _) (fun _ => sm_som _))) (fun _ => sm_som _))
theorem mx_eq {α : Type} (F : Int32 → Option α) (a b : Int32) : (if b ≤ a then F a else F b) = F (if a < b then b else a) := by
  by_cases h : a < b
  · rw [if_pos h, if_neg (fun z => by rw [fa_lt] at h; rw [fa_le] at z; omega)]
  · rw [if_neg h, if_pos (by rw [fa_lt] at h; rw [fa_le]; omega)]
theorem lo_loop (f : Nat → Int32) (C : Nat) (hC : C ≤ 40) (k : Nat) (h1 : 1 ≤ k) (h2 : k ≤ 10) : ∀ (n y : Nat) (m l w : Int32), y ≤ C → C < y + n → (y = 0 ∧ w = 0 ∨ 0 < y ∧ fX7_sticks f (nI (y - 1)) (nI k) = some w) →
    Same (bX1_longestOf_10 (nI C) f n (nI k) m l w (nI y)) (bX7_longestOf_7 (nI C) f n (nI k) m l (nI y)) := by
  intro n
  induction n with
  | zero => intro y m l w h3 h4; omega
  | succ n ih =>
    intro y m l w h3 h4 hw
    rw [bX1_longestOf_10, bX7_longestOf_7]
    refine sm_ite Iff.rfl (fun _ => sm_som _) (fun q => ?_)
    have hy : y < C := by
      rcases Nat.lt_or_ge y C with z | z
      · exact z
      · exact absurd ((l_le C (by omega) (by omega)).mpr z) q
    obtain ⟨r, r1, r2⟩ := wy_of f (show y < 40 by omega) h1 h2
    rw [cv r1, cv r2, nI_1]
    rw [mx_eq (fun z => bX7_longestOf_7 (nI C) f n (nI k) z 0 (nI (y + 1))), mx_eq (fun z => bX7_longestOf_7 (nI C) f n (nI k) z 1 (nI (y + 1)))]
    have nxt : ∀ m l : Int32, Same (bX1_longestOf_10 (nI C) f n (nI k) m l r (nI (y + 1))) (bX7_longestOf_7 (nI C) f n (nI k) m l (nI (y + 1))) := fun m l => ih (y + 1) m l r (by omega) (by omega) (Or.inr ⟨by omega, by rw [Nat.add_sub_cancel]; exact r2⟩)
    rcases hw with ⟨rfl, rfl⟩ | ⟨hy0, hw⟩
    · rw [if_pos (show nI 0 ≤ 0 by decide)]
      by_cases z : r = 0
      · rw [if_pos z, if_pos z]; exact nxt _ _
      · rw [if_neg z, if_neg z, if_neg z]; exact nxt _ _
    · rw [if_neg (nI_nle hy0 (by omega))]
      obtain ⟨j, rfl⟩ : ∃ j, y = j + 1 := ⟨y - 1, by omega⟩
      rw [Nat.add_sub_cancel] at hw
      rw [nI_pred, cv hw, mx_eq (fun z => bX7_longestOf_7 (nI C) f n (nI k) z (l + 1) (nI (j + 1 + 1)))]
      by_cases z : r = 0
      · rw [if_pos z, if_pos z, if_pos z]
        by_cases z2 : r = w
        · rw [if_pos z2]; exact nxt _ _
        · rw [if_neg z2]; exact nxt _ _
      · rw [if_neg z, if_neg z, if_neg z]
        by_cases z2 : r = w
        · rw [if_pos z2, if_pos z2]; exact nxt _ _
        · rw [if_neg z2, if_neg z2]; exact nxt _ _
theorem lo_same (f : Nat → Int32) (C : Nat) (hC : C ≤ 40) (k : Nat) (h1 : 1 ≤ k) (h2 : k ≤ 10) : Same (fX1_longestOf (nI C) f (nI k)) (fX7_longestOf (nI C) f (nI k)) :=
  lo_loop f C hC k h1 h2 300 0 0 0 0 (by omega) (by omega) (Or.inl ⟨rfl, rfl⟩)
/-- the outer columns stick out nowhere -/
theorem lo_edge (f : Nat → Int32) (C : Nat) (hC : C ≤ 40) (k : Nat) (hk : k = 0 ∨ k = 11) : ∀ (n y : Nat), y ≤ C → C < y + n → bX1_longestOf_10 (nI C) f n (nI k) 0 0 0 (nI y) = some 0 := by
  intro n
  induction n with
  | zero => intro y h3 h4; omega
  | succ n ih =>
    intro y h3 h4
    rw [bX1_longestOf_10]
    by_cases q : nI C ≤ nI y
    · rw [if_pos q]
    · have hy : y < C := by
        rcases Nat.lt_or_ge y C with z | z
        · exact z
        · exact absurd ((l_le C (by omega) (by omega)).mpr z) q
      have e : fX1_wayOut f (nI y) (nI k) = some 0 := by
        unfold fX1_wayOut
        rcases hk with rfl | rfl
        · rw [if_pos (by decide)]
        · rw [if_neg (by decide), if_neg (by decide)]
      rw [if_neg q, cv e, if_pos rfl, if_neg (by decide), nI_1]
      exact ih (y + 1) (by omega) (by omega)
theorem lo_X0 (f : Nat → Int32) (C : Nat) (hC : C ≤ 40) (k : Nat) (hk : k = 0 ∨ k = 11) : fX1_longestOf (nI C) f (nI k) = some 0 := lo_edge f C hC k hk 300 0 (by omega) (by omega)
theorem sk_loop (f : Nat → Int32) (C : Nat) (hC : C ≤ 40) : ∀ (n m k : Nat) (s : Int32), 1 ≤ k → k ≤ 11 → 13 ≤ k + n → 12 ≤ k + m → Same (bX6_streaks_4 (nI C) f n s (nI k)) (bX7_streaks_4 (nI C) f m s (nI k)) := by
  intro n
  induction n with
  | zero => intro m k s h1 h2 h3; omega
  | succ n ih =>
    intro m k s h1 h2 h3 h4
    match m, h4 with
    | 0, h4 => omega
    | m + 1, h4 =>
      rw [bX6_streaks_4, bX7_streaks_4, if_neg (show ¬ (12 : Int32) ≤ nI k from fun z => by have := (l_le 12 (by omega) (by omega)).mp z; omega)]
      by_cases q : (11 : Int32) ≤ nI k
      · have hk : k = 11 := by have := (l_le 11 (by omega) (by omega)).mp q; omega
        subst hk
        rw [if_pos q, cv (lo_X0 f C hC 11 (Or.inr rfl)), if_pos (by decide), nI_1]
        match n, h3 with
        | n + 1, _ => rw [bX6_streaks_4, if_pos (by decide)]; exact sm_som _
      · have hk : k < 11 := by
          rcases Nat.lt_or_ge k 11 with z | z
          · exact z
          · exact absurd ((l_le 11 (by omega) (by omega)).mpr z) q
        rw [if_neg q, or_0, nI_1]
        refine sm_call (lo_same f C hC k h1 (by omega)) (fun r _ => sm_ite Iff.rfl (fun _ => ih m (k + 1) _ (by omega) (by omega) (by omega) (by omega)) (fun _ => ih m (k + 1) _ (by omega) (by omega) (by omega) (by omega)))
/-! runs in all -/
theorem cr_in (v c t : Int32) (f : Nat → Int32) (x : Int32) (kk : Int32 → Int32 → Option Int32) (a : Int32) : ∀ (n k : Nat), k ≤ 12 → 13 ≤ k + n → bX1_countRuns_21 c t f kk n (a + nI (cnS x k)) v x (nI k) = kk (a + nI (cnS x 12)) (v + 1) := by
  intro n
  induction n with
  | zero => intro k h1 h2; omega
  | succ n ih =>
    intro k h1 h2
    rw [bX1_countRuns_21]
    by_cases q : (12 : Int32) ≤ nI k
    · have hk : k = 12 := by have := (l_le 12 (by omega) (by omega)).mp q; omega
      rw [if_pos q, hk]
    · have hk : k < 12 := by
        rcases Nat.lt_or_ge k 12 with z | z
        · exact z
        · exact absurd ((l_le 12 (by omega) (by omega)).mpr z) q
      rw [if_neg q, sr_of x (by omega), nI_1]
      have := ih (k + 1) (by omega) (by omega)
      rw [cnS] at this
      by_cases s : sR x k = true
      · rw [if_pos s] at this ⊢
        rw [c1 rfl, Int32.add_assoc, nI_1]; exact this
      · rw [if_neg s] at this ⊢
        rw [c0 rfl]; exact this
theorem cr_loop (t : Int32) (f : Nat → Int32) (C : Nat) (hC : C ≤ 40) : ∀ (n y : Nat) (a : Int32), y ≤ C → C < y + n → Same (bX1_countRuns_4 (nI C) t f n a (nI y)) (bX7_manyRuns_4 t (nI C) f n a (nI y)) := by
  intro n
  induction n with
  | zero => intro y a h3 h4; omega
  | succ n ih =>
    intro y a h3 h4
    rw [bX1_countRuns_4, bX7_manyRuns_4]
    refine sm_ite Iff.rfl (fun _ => sm_som _) (fun q => ?_)
    have hy : y < C := by
      rcases Nat.lt_or_ge y C with z | z
      · exact z
      · exact absurd ((l_le C (by omega) (by omega)).mpr z) q
    obtain ⟨s, s1, s2, -⟩ := dk_of t f (show y < 40 by omega)
    rw [cv s1, cv s2, cv (show fX7_begins s = some (s &&& ((s <<< ((1 : Int32) &&& 31)) ^^^ (-1))) from rfl), cv (sz_of2 s)]
    have e := cr_in (nI y) (nI C) t f s (fun z0 z1 => bX1_countRuns_4 (nI C) t f n z0 z1) a 300 0 (by omega) (by omega)
    have e' : bX1_countRuns_21 (nI C) t f (fun z0 z1 => bX1_countRuns_4 (nI C) t f n z0 z1) 300 a (nI y) s 0 = bX1_countRuns_4 (nI C) t f n (a + nI (cnS s 12)) (nI y + 1) := by
      have e0 : a + nI (cnS s 0) = a := Int32.add_zero a
      rw [e0] at e
      exact e
    rw [e', nI_1]
    exact ih (y + 1) _ (by omega) (by omega)
set_option maxHeartbeats 1000000 in
theorem st_longest (f6_leads : Nat → Int32) (f0_offset : Nat → Int32) (f0_gain : Nat → Int32) (f0_dark : Nat → Int32) (f0_bright : Nat → Int32) (v3_ground : Int32) (v3_patches : Int32) (f3_firstRow : Nat → Int32) (f3_lastRow : Nat → Int32) (f3_firstColumn : Nat → Int32) (f3_lastColumn : Nat → Int32) (f3_slants : Nat → Int32) (f3_tints : Nat → Int32) (f3_specks : Nat → Int32) (v4_count : Int32) (f4_kinds : Nat → Int32) (f4_numbers : Nat → Int32) (v5_on : Int32) (v5_lines : Int32) (v5_reach : Int32) (v5_positions : Int32) (v5_queued : Int32) (v5_position : Int32) (v5_next : Int32) (v5_mode : Int32) (v5_outTicks : Int32) (v5_stops : Int32) (v5_ticked : Int32) (v1_count : Int32) (v1_threshold : Int32) (f1_values : Nat → Int32) (v7_done : Int32) (v7_lastPosition : Int32) (p1 : Int32) (hI : Iv f6_leads f0_offset f0_gain f0_dark f0_bright v3_ground v3_patches f3_firstRow f3_lastRow f3_firstColumn f3_lastColumn f3_slants f3_tints f3_specks v4_count f4_kinds f4_numbers v5_on v5_lines v5_reach v5_positions v5_queued v5_position v5_next v5_mode v5_outTicks v5_stops v5_ticked v1_count v1_threshold f1_values v7_done v7_lastPosition) : ∃ (r : Int32), fX6_longest v1_count f1_values p1 = some r ∧ fX7_longest v1_count f1_values p1 = some r := by
  obtain ⟨hc, hp, hl, hk, h1, h2, ⟨h3, h3'⟩, h4⟩ := hI
  obtain ⟨C, hC, rfl⟩ := of_rg (n := 40) h3 h3' (by omega)
  unfold fX6_longest fX7_longest
  rcases cm_cases p1 with ⟨h, -⟩ | ⟨h, k, hk12, rfl⟩
  · exact ⟨_, c0 h, c0 h⟩
  rw [c1 h, eM_isColumn, c1 h]
  have ek : (nI k).toInt = (k : Int) := nI_toInt (by omega)
  rcases wi_cases (nI k) 1 10 with ⟨h, b⟩ | ⟨h, b1, b2⟩
  · have b' : (nI k).toInt < 1 ∨ 10 < (nI k).toInt := b
    rw [eM_within, c0 h, cv (lo_X0 f1_values C hC k (by omega))]
    exact sm_som _
  · have b1' : 1 ≤ (nI k).toInt := b1
    have b2' : (nI k).toInt ≤ 10 := b2
    rw [eM_within, c1 h]
    exact sm_call (lo_same f1_values C hC k (by omega) (by omega)) (fun r _ => sm_som r)
set_option maxHeartbeats 1000000 in
theorem st_streaks (f6_leads : Nat → Int32) (f0_offset : Nat → Int32) (f0_gain : Nat → Int32) (f0_dark : Nat → Int32) (f0_bright : Nat → Int32) (v3_ground : Int32) (v3_patches : Int32) (f3_firstRow : Nat → Int32) (f3_lastRow : Nat → Int32) (f3_firstColumn : Nat → Int32) (f3_lastColumn : Nat → Int32) (f3_slants : Nat → Int32) (f3_tints : Nat → Int32) (f3_specks : Nat → Int32) (v4_count : Int32) (f4_kinds : Nat → Int32) (f4_numbers : Nat → Int32) (v5_on : Int32) (v5_lines : Int32) (v5_reach : Int32) (v5_positions : Int32) (v5_queued : Int32) (v5_position : Int32) (v5_next : Int32) (v5_mode : Int32) (v5_outTicks : Int32) (v5_stops : Int32) (v5_ticked : Int32) (v1_count : Int32) (v1_threshold : Int32) (f1_values : Nat → Int32) (v7_done : Int32) (v7_lastPosition : Int32)  (hI : Iv f6_leads f0_offset f0_gain f0_dark f0_bright v3_ground v3_patches f3_firstRow f3_lastRow f3_firstColumn f3_lastColumn f3_slants f3_tints f3_specks v4_count f4_kinds f4_numbers v5_on v5_lines v5_reach v5_positions v5_queued v5_position v5_next v5_mode v5_outTicks v5_stops v5_ticked v1_count v1_threshold f1_values v7_done v7_lastPosition) : ∃ (r : Int32), fX6_streaks v1_count f1_values = some r ∧ fX7_streaks v1_count f1_values = some r := by
  obtain ⟨hc, hp, hl, hk, h1, h2, ⟨h3, h3'⟩, h4⟩ := hI
  obtain ⟨C, hC, rfl⟩ := of_rg (n := 40) h3 h3' (by omega)
  unfold fX6_streaks fX7_streaks
  rw [show (300 : Nat) = 299 + 1 from rfl, bX6_streaks_4, if_neg (by decide), cv (show fX1_longestOf (nI C) f1_values 0 = some 0 from lo_X0 f1_values C hC 0 (Or.inl rfl)), if_pos (by decide)]
  exact sk_loop f1_values C hC 299 300 1 0 (by omega) (by omega) (by omega) (by omega)
set_option maxHeartbeats 1000000 in
theorem st_many (f6_leads : Nat → Int32) (f0_offset : Nat → Int32) (f0_gain : Nat → Int32) (f0_dark : Nat → Int32) (f0_bright : Nat → Int32) (v3_ground : Int32) (v3_patches : Int32) (f3_firstRow : Nat → Int32) (f3_lastRow : Nat → Int32) (f3_firstColumn : Nat → Int32) (f3_lastColumn : Nat → Int32) (f3_slants : Nat → Int32) (f3_tints : Nat → Int32) (f3_specks : Nat → Int32) (v4_count : Int32) (f4_kinds : Nat → Int32) (f4_numbers : Nat → Int32) (v5_on : Int32) (v5_lines : Int32) (v5_reach : Int32) (v5_positions : Int32) (v5_queued : Int32) (v5_position : Int32) (v5_next : Int32) (v5_mode : Int32) (v5_outTicks : Int32) (v5_stops : Int32) (v5_ticked : Int32) (v1_count : Int32) (v1_threshold : Int32) (f1_values : Nat → Int32) (v7_done : Int32) (v7_lastPosition : Int32) (p1 : Int32) (hI : Iv f6_leads f0_offset f0_gain f0_dark f0_bright v3_ground v3_patches f3_firstRow f3_lastRow f3_firstColumn f3_lastColumn f3_slants f3_tints f3_specks v4_count f4_kinds f4_numbers v5_on v5_lines v5_reach v5_positions v5_queued v5_position v5_next v5_mode v5_outTicks v5_stops v5_ticked v1_count v1_threshold f1_values v7_done v7_lastPosition) : ∃ (r : Int32), fX6_many f0_dark f0_bright v3_patches v4_count v5_lines v1_count v1_threshold f1_values p1 = some r ∧ fX7_many f0_dark f0_bright v3_patches v4_count v1_threshold v5_lines v1_count f1_values p1 = some r := by
  obtain ⟨hc, hp, hl, hk, h1, h2, ⟨h3, h3'⟩, h4⟩ := hI
  obtain ⟨C, hC, rfl⟩ := of_rg (n := 40) h3 h3' (by omega)
  unfold fX6_many fX7_many
  refine sm_ite Iff.rfl (fun _ => sm_som _) (fun _ => sm_ite Iff.rfl (fun _ => sm_som _) (fun _ => sm_ite Iff.rfl (fun _ => sm_som _) (fun _ => sm_ite Iff.rfl (fun _ => sm_call (cl_same hc) (fun r _ => sm_som r)) (fun _ => sm_ite Iff.rfl (fun _ => sm_som _) (fun _ => sm_ite Iff.rfl (fun _ => sm_call (cr_loop v1_threshold f1_values C hC 300 0 0 (by omega) (by omega)) (fun r _ => sm_som r)) (fun _ => sm_som _))))))

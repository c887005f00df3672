theorem nr_loop {o g d b : Nat → Int32} (hc : cOK o g d b) (c k : Nat) (hc3 : c < 3) (hk : k < 12) (s : Int32) (hs : s = 1 ∨ s = -1) : ∀ (n j : Nat) (x : Int32), j ≤ 12 → 13 ≤ j + n → (s = 1 → x.toInt = (k : Int) + j) → (s = -1 → x.toInt = (k : Int) - j) →
    ∃ r, bX0_nearestLive_6 d b n (nI c) s x (nI j) = some r ∧ bX7_nearest_3 d b n (nI c) s x = some r ∧ (r = -9 ∨ ∃ q : Nat, q < 12 ∧ r = nI q ∧ Lv d b (c * 12 + q) ∧ (s = 1 → k + j ≤ q) ∧ (s = -1 → q + j ≤ k)) := by
  intro n
  induction n with
  | zero => intro j x h1 h2; omega
  | succ n ih =>
    intro j x h1 h2 hp hm
    rw [bX0_nearestLive_6, bX7_nearest_3, eM_isColumn]
    rcases cm_cases x with ⟨e, hx⟩ | ⟨e, q, hq, rfl⟩
    · refine ⟨-9, ?_, c0 e, Or.inl rfl⟩
      by_cases a1 : (12 : Int32) ≤ nI j
      · rw [if_pos a1]
      rw [if_neg a1]
      by_cases a2 : x < 0
      · rw [if_pos a2]
      rw [if_neg a2]
      by_cases a3 : (12 : Int32) ≤ x
      · rw [if_pos a3]
      rw [fa_lt] at a2
      rw [fa_le] at a3
      have a2' : ¬ x.toInt < 0 := a2
      have a3' : ¬ 12 ≤ x.toInt := a3
      omega
    · have eq : (nI q).toInt = (q : Int) := nI_toInt (by omega)
      rw [c1 e]
      have hj : j < 12 := by
        rcases hs with h | h
        · have := hp h; omega
        · have := hm h; omega
      rw [if_neg (show ¬ (12 : Int32) ≤ nI j from fun z => absurd ((l_le 12 (by omega) (by omega)).mp z) (by omega)), if_neg (nI_pos (by omega)), if_neg (show ¬ (12 : Int32) ≤ nI q from fun z => absurd ((l_le 12 (by omega) (by omega)).mp z) (by omega)),
        cv (show fX0_place (nI c) (nI q) = some (nI (c * 12 + q)) from congrArg some (pl_a c q)), pl_b]
      rcases lv_cases hc (show c * 12 + q < 36 by omega) with ⟨e1, e2, -⟩ | ⟨e1, e2, hl⟩
      · rw [c0 e1, c0 e2, nI_1]
        have ex : (nI q + s).toInt = (q : Int) + s.toInt := by
          have : s.toInt = 1 ∨ s.toInt = -1 := by rcases hs with h | h <;> rw [h] <;> decide
          rw [fb_addI (by rw [eq]; omega) (by rw [eq]; omega), eq]
        obtain ⟨r, r1, r2, r3⟩ := ih (j + 1) (nI q + s) (by omega) (by omega) (fun h => by have := hp h; rw [ex, h]; show (q : Int) + 1 = _; omega) (fun h => by have := hm h; rw [ex, h]; show (q : Int) + -1 = _; omega)
        refine ⟨r, r1, r2, ?_⟩
        rcases r3 with r3 | ⟨q2, t1, t2, t3, t4, t5⟩
        · exact Or.inl r3
        · exact Or.inr ⟨q2, t1, t2, t3, fun h => by have := t4 h; omega, fun h => by have := t5 h; omega⟩
      · rw [c1 e1, c1 e2]
        refine ⟨nI q, rfl, rfl, Or.inr ⟨q, hq, rfl, hl, fun h => ?_, fun h => ?_⟩⟩
        · have := hp h; omega
        · have := hm h; omega
theorem nr_of {o g d b : Nat → Int32} (hc : cOK o g d b) (c k : Nat) (hc3 : c < 3) (hk : k < 12) (s : Int32) (hs : s = 1 ∨ s = -1) :
    ∃ r, fX0_nearestLive d b (nI c) (nI k) s = some r ∧ fX7_nearest d b (nI c) (nI k) s = some r ∧ (r = -9 ∨ ∃ q : Nat, q < 12 ∧ r = nI q ∧ Lv d b (c * 12 + q) ∧ (s = 1 → k ≤ q) ∧ (s = -1 → q ≤ k)) ∧ (Lv d b (c * 12 + k) → r = nI k) := by
  have ek : (nI k).toInt = (k : Int) := nI_toInt (by omega)
  obtain ⟨r, r1, r2, r3⟩ := nr_loop hc c k hc3 hk s hs 300 0 (nI k) (by omega) (by omega) (fun _ => by rw [ek]; omega) (fun _ => by rw [ek]; omega)
  refine ⟨r, r1, r2, ?_, fun hl => ?_⟩
  · rcases r3 with r3 | ⟨q2, t1, t2, t3, t4, t5⟩
    · exact Or.inl r3
    · exact Or.inr ⟨q2, t1, t2, t3, fun h => by have := t4 h; omega, fun h => by have := t5 h; omega⟩
  · rw [show (300 : Nat) = 299 + 1 from rfl, bX7_nearest_3, eM_isColumn] at r2
    rcases cm_cases (nI k) with ⟨e, hx⟩ | ⟨e, -⟩
    · rw [ek] at hx; omega
    · rw [c1 e, pl_b] at r2
      rcases lv_cases hc (show c * 12 + k < 36 by omega) with ⟨e1, e2, h⟩ | ⟨e1, e2, -⟩
      · exact absurd hl h
      · rw [c1 e2] at r2
        exact (Option.some.inj r2).symm
section VAL
variable {ld o g d b : Nat → Int32} {gr pa : Int32} {fr lr fc lc sl ti sp : Nat → Int32}
theorem lq_same (hc : cOK o g d b) (hp : pOK pa fr lr sl) (hl : lOK ld) (c k : Nat) (h3 : c < 3) (h12 : k < 12) (hv : Lv d b (c * 12 + k)) {pos : Int32} (p1 : 0 ≤ pos.toInt) (p2 : pos.toInt ≤ 100) :
    Same (fX6_liveValue ld o g d b gr pa fr lr fc lc sl ti sp pos (nI c) (nI k)) (fX7_liveValue o g d b gr pa fr lr fc lc sl ti sp ld (nI c) (nI k) pos) := by
  unfold fX6_liveValue fX7_liveValue
  have v := vin h3 (show 3 < 2 ^ 31 by omega)
  rw [ckI_ok v, ckI_ok v, nI_clamp (by omega)]
  obtain ⟨l1, l2⟩ := hl c h3
  have e1 : ((4 : Int32) * pos).toInt = 4 * pos.toInt := by
    rw [fb_mulI (by show _ ≤ (4 : Int) * _; omega) (by show (4 : Int) * _ < _; omega)]; rfl
  have e2 : ((4 : Int32) * pos - ld c).toInt = 4 * pos.toInt - (ld c).toInt := by
    rw [fb_subI (by rw [e1]; omega) (by rw [e1]; omega), e1]
  obtain ⟨r, q1, q2, -⟩ := fd_of ((4 : Int32) * pos - ld c) (by omega) (by omega)
  rw [cv q2]
  refine sm_call (lt_same hp c k h3 h12 q1 rfl) (fun r3 _ => ?_)
  have hi : c * 12 + k < 36 := by omega
  rw [cv (show fX0_place (nI c) (nI k) = some (nI (c * 12 + k)) from congrArg some (pl_a c k)), pl_b, rd_M, cv (rd_X hi r3), cv (rd_X hi r3)]
  exact sm_call (ev_same hc hi hv _) (fun r _ => sm_som r)
theorem va_same (hc : cOK o g d b) (hp : pOK pa fr lr sl) (hl : lOK ld) (c k : Nat) (h3 : c < 3) (h12 : k < 12) {pos : Int32} (p1 : 0 ≤ pos.toInt) (p2 : pos.toInt ≤ 100) :
    Same (fX6_valueAt ld o g d b gr pa fr lr fc lc sl ti sp pos (nI c) (nI k)) (fX7_valueAt o g d b gr pa fr lr fc lc sl ti sp ld (nI c) (nI k) pos) := by
  obtain ⟨r1, a1, a2, n1, f1⟩ := nr_of hc c k h3 h12 (-1) (Or.inr rfl)
  obtain ⟨r2, b1, b2, n2, f2⟩ := nr_of hc c k h3 h12 1 (Or.inl rfl)
  have n9 : ∀ q : Nat, q < 12 → ¬ nI q = -9 := by
    intro q hq h
    rw [fa_eq, nI_toInt (by omega)] at h
    have h' : (q : Int) = -9 := h
    omega
  unfold fX6_valueAt fX7_valueAt
  rw [cv a1, cv a2, cv b2]
  by_cases e : r1 = nI k
  · have hlk : Lv d b (c * 12 + k) := by
      rcases n1 with h | ⟨q, hq, h, hv, -, -⟩
      · rw [e] at h; exact absurd h (n9 k h12)
      · rw [e] at h
        have : k = q := (nI_eq (by omega) (by omega)).mp h
        rw [this]; exact hv
    have e2 := f2 hlk
    rw [e, e2]
    have h9 := n9 k h12
    rw [if_pos rfl, if_neg h9, if_neg h9, if_neg h9, if_pos rfl, if_neg h9]
    exact sm_call (lq_same hc hp hl c k h3 h12 hlk p1 p2) (fun r _ => sm_som r)
  · rw [if_neg e, cv b1]
    have hnk : ¬ Lv d b (c * 12 + k) := fun h => e (f1 h)
    rcases n1 with h1 | ⟨q1, hq1, h1, hv1, -, hm1⟩
    · rcases n2 with h2 | ⟨q2, hq2, h2, hv2, hp2, -⟩
      · rw [h1, h2, if_pos rfl, if_pos rfl, if_pos rfl, if_pos rfl]; exact sm_som _
      · rw [h1, h2, if_pos rfl, if_neg (n9 q2 hq2), if_pos rfl, if_pos rfl, if_neg (n9 q2 hq2), if_pos rfl, if_pos rfl]
        exact sm_call (lq_same hc hp hl c q2 h3 hq2 hv2 p1 p2) (fun r _ => sm_som r)
    · rcases n2 with h2 | ⟨q2, hq2, h2, hv2, hp2, -⟩
      · have h9 := n9 q1 hq1
        rw [h1, h2, if_neg h9, if_neg h9, if_pos rfl, if_neg h9, if_neg h9, if_pos rfl, if_neg h9]
        exact sm_call (lq_same hc hp hl c q1 h3 hq1 hv1 p1 p2) (fun r _ => sm_som r)
      · have k1 : q1 ≠ k := fun z => hnk (z ▸ hv1)
        have k2 : q2 ≠ k := fun z => hnk (z ▸ hv2)
        have m1 := hm1 rfl
        have m2 := hp2 rfl
        have h9 := n9 q1 hq1
        have h9b := n9 q2 hq2
        have hne : ¬ nI q1 = nI q2 := fun z => by
          have := (nI_eq (a := q1) (b := q2) (by omega) (by omega)).mp z
          omega
        rw [h1, h2, if_neg h9, if_neg h9, if_neg h9b, if_neg h9, if_neg h9, if_neg h9b, if_neg hne]
        refine sm_call (lq_same hc hp hl c q1 h3 hq1 hv1 p1 p2) (fun r3 _ => sm_call (lq_same hc hp hl c q2 h3 hq2 hv2 p1 p2) (fun r4 _ => ?_))
        have ed : (nI q2 - nI q1).toInt = (q2 : Int) - q1 := pk_sub_toInt (by omega) (by omega)
        obtain ⟨w1, r, w2⟩ := eM_rounded (u := r3 * (nI q2 - nI k) + r4 * (nI k - nI q1)) (d := nI q2 - nI q1) (by omega) (by omega)
        rw [w1, cv w2]
        exact sm_som _
theorem ln_same {pc : Int32} {kd nb : Nat → Int32} (hc : cOK o g d b) (hp : pOK pa fr lr sl) (hl : lOK ld) (hk : kOK pc kd) (c k : Nat) (h3 : c < 3) (h12 : k < 12) {y : Int32} (y1 : 0 ≤ y.toInt) (y2 : y.toInt ≤ 39) :
    Same (fX6_lineValue ld o g d b gr pa fr lr fc lc sl ti sp pc kd nb y (nI c) (nI k)) (fX7_wholeOf o g d b gr pa fr lr fc lc sl ti sp ld pc kd nb y (nI c) (nI k)) := by
  unfold fX6_lineValue fX7_wholeOf
  have v := vin h3 (show 3 < 2 ^ 31 by omega)
  rw [nI_clamp (by omega)]
  repeat rw [ckI_ok v]
  obtain ⟨l1, l2⟩ := hl c h3
  obtain ⟨l, hl15, el⟩ := of_rg (n := 15) l1 l2 (by omega)
  have e4 : ld c / 4 = nI (l / 4) := by rw [el]; exact pk_div (d := 4) (by omega) (by omega) (by omega)
  have e5 : ld c - ld c / 4 * 4 = nI (l % 4) := by rw [el]; exact pk_rem (d := 4) (by omega) (by omega) (by omega)
  rw [e5, e4]
  have eq : (nI (l / 4)).toInt = ((l / 4 : Nat) : Int) := nI_toInt (by omega)
  have ep : (y + nI (l / 4)).toInt = y.toInt + ((l / 4 : Nat) : Int) := by
    rw [fb_addI (by rw [eq]; omega) (by rw [eq]; omega), eq]
  have ep1 : (y + nI (l / 4) + 1).toInt = y.toInt + ((l / 4 : Nat) : Int) + 1 := by
    rw [fb_addI (by rw [ep]; show _ ≤ _ + (1 : Int); omega) (by rw [ep]; show _ + (1 : Int) < _; omega), ep]; rfl
  have er : (nI (l % 4)).toInt = ((l % 4 : Nat) : Int) := nI_toInt (by omega)
  refine sm_call (va_same hc hp hl c k h3 h12 (by omega) (by omega)) (fun r3 _ => ?_)
  refine sm_ite ?_ (fun _ => sm_call (th_same hk r3) (fun r _ => sm_som r)) (fun _ => ?_)
  · rw [fa_le, fa_eq, er]
    show ((l % 4 : Nat) : Int) ≤ 0 ↔ ((l % 4 : Nat) : Int) = 0
    omega
  · refine sm_call (va_same hc hp hl c k h3 h12 (by omega) (by omega)) (fun r5 _ => ?_)
    obtain ⟨w1, r, w2⟩ := eM_rounded (u := r3 * ((4 : Int32) - nI (l % 4)) + r5 * nI (l % 4)) (d := 4) (by decide) (by decide)
    rw [w1, cv w2, cv w2]
    exact sm_call (th_same hk r) (fun r _ => sm_som r)
end VAL
theorem rc_rg {ld : Nat → Int32} (hl : lOK ld) : ∀ i, i ≤ 3 → rg (rchS ld i) 0 4 := by
  intro i
  induction i with
  | zero => intro _; show rg 0 0 4; exact ⟨by decide, by decide⟩
  | succ i ih =>
    intro h
    obtain ⟨l1, l2⟩ := hl i (by omega)
    obtain ⟨l, hl15, el⟩ := of_rg (n := 15) l1 l2 (by omega)
    have e : (ld i + 3) / 4 = nI ((l + 3) / 4) := by
      rw [el, show nI l + (3 : Int32) = nI (l + 3) from nI_add l 3]
      exact pk_div (d := 4) (by omega) (by omega) (by omega)
    rw [rchS, e]
    split
    · exact ⟨by rw [nI_toInt (by omega)]; omega, by rw [nI_toInt (by omega)]; omega⟩
    · exact ih (by omega)
theorem rc_loop {ld : Nat → Int32} (hl : lOK ld) : ∀ (n i : Nat), i ≤ 3 → 4 ≤ i + n → bX6_reach_4 ld n (rchS ld i) (nI i) = some (rchS ld 3) ∧ bX7_reach_4 ld n (rchS ld i) (nI i) = some (rchS ld 3) := by
  intro n
  induction n with
  | zero => intro i h1 h2; omega
  | succ n ih =>
    intro i h1 h2
    rw [bX6_reach_4, bX7_reach_4]
    by_cases h : (3 : Int32) ≤ nI i
    · have : i = 3 := by have := (l_le 3 (by omega) (by omega)).mp h; omega
      rw [if_pos h, if_pos h, this]; exact ⟨rfl, rfl⟩
    · have hi : i < 3 := by
        rcases Nat.lt_or_ge i 3 with q | q
        · exact q
        · exact absurd ((l_le 3 (by omega) (by omega)).mpr q) h
      have v := vin hi (show 3 < 2 ^ 31 by omega)
      rw [if_neg h, if_neg h, ckI_ok v, ckI_ok v, nI_clamp (by omega), nI_1]
      obtain ⟨l1, l2⟩ := hl i (by omega)
      obtain ⟨l, hl15, el⟩ := of_rg (n := 15) l1 l2 (by omega)
      have e1 : ld i + 4 - 1 = ld i + 3 := by
        rw [el, show nI l + (4 : Int32) = nI (l + 3 + 1) from nI_add l 4, nI_pred, show nI l + (3 : Int32) = nI (l + 3) from nI_add l 3]
      rw [e1]
      obtain ⟨i1, i2⟩ := ih (i + 1) (by omega) (by omega)
      refine ⟨i1, ?_⟩
      have e2 : fX7_atLeast (rchS ld i) ((ld i + 3) / 4) = some (rchS ld (i + 1)) := by
        unfold fX7_atLeast
        rw [rchS]
        by_cases q : rchS ld i < (ld i + 3) / 4
        · rw [if_pos q, if_neg (fun z => by rw [fa_lt] at q; rw [fa_le] at z; omega)]
        · rw [if_neg q, if_pos (by rw [fa_lt] at q; rw [fa_le]; omega)]
      rw [cv e2]
      exact i2
theorem rc_X {ld : Nat → Int32} (hl : lOK ld) : fX6_reach ld = some (rchS ld 3) := (rc_loop hl 300 0 (by omega) (by omega)).1
theorem rc_M {ld : Nat → Int32} (hl : lOK ld) : fX7_reach ld = some (rchS ld 3) := (rc_loop hl 300 0 (by omega) (by omega)).2
set_option maxHeartbeats 1000000 in
theorem st_whole (f6_leads : Nat → Int32) (f0_offset : Nat → Int32) (f0_gain : Nat → Int32) (f0_dark : Nat → Int32) (f0_bright : Nat → Int32) (v3_ground : Int32) (v3_patches : Int32) (f3_firstRow : Nat → Int32) (f3_lastRow : Nat → Int32) (f3_firstColumn : Nat → Int32) (f3_lastColumn : Nat → Int32) (f3_slants : Nat → Int32) (f3_tints : Nat → Int32) (f3_specks : Nat → Int32) (v4_count : Int32) (f4_kinds : Nat → Int32) (f4_numbers : Nat → Int32) (v5_on : Int32) (v5_lines : Int32) (v5_reach : Int32) (v5_positions : Int32) (v5_queued : Int32) (v5_position : Int32) (v5_next : Int32) (v5_mode : Int32) (v5_outTicks : Int32) (v5_stops : Int32) (v5_ticked : Int32) (v1_count : Int32) (v1_threshold : Int32) (f1_values : Nat → Int32) (v7_done : Int32) (v7_lastPosition : Int32) (p1 : Int32) (p2 : Int32) (p3 : Int32) (hI : Iv f6_leads f0_offset f0_gain f0_dark f0_bright v3_ground v3_patches f3_firstRow f3_lastRow f3_firstColumn f3_lastColumn f3_slants f3_tints f3_specks v4_count f4_kinds f4_numbers v5_on v5_lines v5_reach v5_positions v5_queued v5_position v5_next v5_mode v5_outTicks v5_stops v5_ticked v1_count v1_threshold f1_values v7_done v7_lastPosition) : ∃ (r : Int32), fX6_whole f6_leads f0_offset f0_gain f0_dark f0_bright v3_ground v3_patches f3_firstRow f3_lastRow f3_firstColumn f3_lastColumn f3_slants f3_tints f3_specks v4_count f4_kinds f4_numbers p1 p2 p3 = some r ∧ fX7_whole f0_offset f0_gain f0_dark f0_bright v3_ground v3_patches f3_firstRow f3_lastRow f3_firstColumn f3_lastColumn f3_slants f3_tints f3_specks f6_leads v4_count f4_kinds f4_numbers p1 p2 p3 = some r := by
  obtain ⟨hc, hp, hl, hk, hs⟩ := hI
  unfold fX6_whole fX7_whole
  rcases ce_cases p2 p3 with h | ⟨h, c, k, h1, h2, rfl, rfl⟩
  · exact ⟨_, c0 h, c0 h⟩
  rw [c1 h, eM_isCell, c1 h]
  rcases wi_cases p1 0 39 with ⟨h, -⟩ | ⟨h, a1, a2⟩
  · exact ⟨_, c0 h, c0 h⟩
  rw [c1 h, eM_within, c1 h]
  exact sm_call (ln_same hc hp hl hk c k h1 h2 a1 a2) (fun r _ => sm_som r)
set_option maxHeartbeats 1000000 in
theorem st_begin (f6_leads : Nat → Int32) (f0_offset : Nat → Int32) (f0_gain : Nat → Int32) (f0_dark : Nat → Int32) (f0_bright : Nat → Int32) (v3_ground : Int32) (v3_patches : Int32) (f3_firstRow : Nat → Int32) (f3_lastRow : Nat → Int32) (f3_firstColumn : Nat → Int32) (f3_lastColumn : Nat → Int32) (f3_slants : Nat → Int32) (f3_tints : Nat → Int32) (f3_specks : Nat → Int32) (v4_count : Int32) (f4_kinds : Nat → Int32) (f4_numbers : Nat → Int32) (v5_on : Int32) (v5_lines : Int32) (v5_reach : Int32) (v5_positions : Int32) (v5_queued : Int32) (v5_position : Int32) (v5_next : Int32) (v5_mode : Int32) (v5_outTicks : Int32) (v5_stops : Int32) (v5_ticked : Int32) (v1_count : Int32) (v1_threshold : Int32) (f1_values : Nat → Int32) (v7_done : Int32) (v7_lastPosition : Int32) (p1 : Int32) (hI : Iv f6_leads f0_offset f0_gain f0_dark f0_bright v3_ground v3_patches f3_firstRow f3_lastRow f3_firstColumn f3_lastColumn f3_slants f3_tints f3_specks v4_count f4_kinds f4_numbers v5_on v5_lines v5_reach v5_positions v5_queued v5_position v5_next v5_mode v5_outTicks v5_stops v5_ticked v1_count v1_threshold f1_values v7_done v7_lastPosition) : ∃ (r : Int32) (n_v5_on : Int32) (n_v5_lines : Int32) (n_v5_reach : Int32) (n_v5_positions : Int32) (n_v5_queued : Int32) (n_v5_position : Int32) (n_v5_next : Int32) (n_v5_mode : Int32) (n_v5_stops : Int32) (n_v5_ticked : Int32) (n_v1_count : Int32) (n_v7_done : Int32) (n_v7_lastPosition : Int32), fX6_begin f6_leads v5_on v5_lines v5_reach v5_positions v5_queued v5_position v5_next v5_mode v5_stops v5_ticked v1_count p1 = some (r, n_v5_on, n_v5_lines, n_v5_reach, n_v5_positions, n_v5_queued, n_v5_position, n_v5_next, n_v5_mode, n_v5_stops, n_v5_ticked, n_v1_count) ∧ fX7_begin f6_leads v5_on v5_lines v7_done v1_count v7_lastPosition v5_position v5_mode v5_next v5_stops v5_ticked p1 = some (r, n_v5_on, n_v5_lines, n_v7_done, n_v1_count, n_v7_lastPosition, n_v5_position, n_v5_mode, n_v5_next, n_v5_stops, n_v5_ticked) ∧ Iv f6_leads f0_offset f0_gain f0_dark f0_bright v3_ground v3_patches f3_firstRow f3_lastRow f3_firstColumn f3_lastColumn f3_slants f3_tints f3_specks v4_count f4_kinds f4_numbers n_v5_on n_v5_lines n_v5_reach n_v5_positions n_v5_queued n_v5_position n_v5_next n_v5_mode v5_outTicks n_v5_stops n_v5_ticked n_v1_count v1_threshold f1_values n_v7_done n_v7_lastPosition := by
  have hI2 := hI
  obtain ⟨hc, hp, hl, hk, hs⟩ := hI
  unfold fX6_begin fX7_begin
  rcases wi_cases p1 1 40 with ⟨h, -⟩ | ⟨h, a1, a2⟩
  · exact ⟨_, _, _, _, _, _, _, _, _, _, _, _, _, _, c0 h, c0 h, hI2⟩
  rw [c1 h, eM_within, c1 h]
  by_cases q : v5_on = 0
  · rw [if_pos q, if_pos q, cv (rc_X hl), cv (rc_M hl), cv (rc_M hl)]
    obtain ⟨g1, g2⟩ := rc_rg hl 3 (by omega)
    have a1' : 1 ≤ p1.toInt := a1
    have a2' : p1.toInt ≤ 40 := a2
    have ep : (p1 + rchS f6_leads 3).toInt = p1.toInt + (rchS f6_leads 3).toInt := fb_addI (by omega) (by omega)
    refine ⟨p1 + rchS f6_leads 3, 1, p1, rchS f6_leads 3, p1 + rchS f6_leads 3, 0, -4, 0, 0, 0, 0, 0, 0, p1 - 1 + rchS f6_leads 3, rfl, rfl, hc, hp, hl, hk, Or.inr rfl, ⟨by decide, by decide⟩, ⟨by decide, by decide⟩, by decide, ⟨by decide, by decide⟩, fun z => absurd z (by decide), fun _ => ⟨⟨a1, a2⟩, ?_, ⟨g1, g2⟩, rfl, rfl, rfl, ⟨by decide, ?_⟩, ?_, fun z => absurd z (by decide), fun z => absurd z (by decide)⟩⟩
    · show (0 : Int) < p1.toInt; omega
    · show (0 : Int) ≤ (p1 + rchS f6_leads 3).toInt; omega
    · show (0 : Int) = if (0 : Int) < (rchS f6_leads 3).toInt then 0 else 0 - (rchS f6_leads 3).toInt
      split <;> omega
  · exact ⟨_, _, _, _, _, _, _, _, _, _, _, _, _, _, if_neg q, if_neg q, hI2⟩
set_option maxHeartbeats 1000000 in
theorem st_stop (f6_leads : Nat → Int32) (f0_offset : Nat → Int32) (f0_gain : Nat → Int32) (f0_dark : Nat → Int32) (f0_bright : Nat → Int32) (v3_ground : Int32) (v3_patches : Int32) (f3_firstRow : Nat → Int32) (f3_lastRow : Nat → Int32) (f3_firstColumn : Nat → Int32) (f3_lastColumn : Nat → Int32) (f3_slants : Nat → Int32) (f3_tints : Nat → Int32) (f3_specks : Nat → Int32) (v4_count : Int32) (f4_kinds : Nat → Int32) (f4_numbers : Nat → Int32) (v5_on : Int32) (v5_lines : Int32) (v5_reach : Int32) (v5_positions : Int32) (v5_queued : Int32) (v5_position : Int32) (v5_next : Int32) (v5_mode : Int32) (v5_outTicks : Int32) (v5_stops : Int32) (v5_ticked : Int32) (v1_count : Int32) (v1_threshold : Int32) (f1_values : Nat → Int32) (v7_done : Int32) (v7_lastPosition : Int32)  (hI : Iv f6_leads f0_offset f0_gain f0_dark f0_bright v3_ground v3_patches f3_firstRow f3_lastRow f3_firstColumn f3_lastColumn f3_slants f3_tints f3_specks v4_count f4_kinds f4_numbers v5_on v5_lines v5_reach v5_positions v5_queued v5_position v5_next v5_mode v5_outTicks v5_stops v5_ticked v1_count v1_threshold f1_values v7_done v7_lastPosition) : ∃ (r : Int32) (n_v5_on : Int32) (n_v5_queued : Int32) (n_v7_done : Int32), fX6_stop v5_on v5_lines v5_queued v1_count = some (r, n_v5_on, n_v5_queued) ∧ fX7_stop v5_on v5_lines v7_done v1_count = some (r, n_v5_on, n_v7_done) ∧ Iv f6_leads f0_offset f0_gain f0_dark f0_bright v3_ground v3_patches f3_firstRow f3_lastRow f3_firstColumn f3_lastColumn f3_slants f3_tints f3_specks v4_count f4_kinds f4_numbers n_v5_on v5_lines v5_reach v5_positions n_v5_queued v5_position v5_next v5_mode v5_outTicks v5_stops v5_ticked v1_count v1_threshold f1_values n_v7_done v7_lastPosition := by
  have hI2 := hI
  obtain ⟨hc, hp, hl, hk, h1, h2, h3, h4, h5, h6, h7⟩ := hI
  unfold fX6_stop fX7_stop
  by_cases q : v5_on = 0
  · rw [if_pos q, if_pos q]; exact ⟨_, _, _, _, rfl, rfl, hI2⟩
  · rw [if_neg q, if_neg q]
    exact ⟨_, _, _, _, rfl, rfl, hc, hp, hl, hk, Or.inl rfl, ⟨by decide, by decide⟩, h3, (Int32.add_zero _).symm, h5, h6, fun z => absurd z (by decide)⟩
set_option maxHeartbeats 1000000 in
theorem st_head (f6_leads : Nat → Int32) (f0_offset : Nat → Int32) (f0_gain : Nat → Int32) (f0_dark : Nat → Int32) (f0_bright : Nat → Int32) (v3_ground : Int32) (v3_patches : Int32) (f3_firstRow : Nat → Int32) (f3_lastRow : Nat → Int32) (f3_firstColumn : Nat → Int32) (f3_lastColumn : Nat → Int32) (f3_slants : Nat → Int32) (f3_tints : Nat → Int32) (f3_specks : Nat → Int32) (v4_count : Int32) (f4_kinds : Nat → Int32) (f4_numbers : Nat → Int32) (v5_on : Int32) (v5_lines : Int32) (v5_reach : Int32) (v5_positions : Int32) (v5_queued : Int32) (v5_position : Int32) (v5_next : Int32) (v5_mode : Int32) (v5_outTicks : Int32) (v5_stops : Int32) (v5_ticked : Int32) (v1_count : Int32) (v1_threshold : Int32) (f1_values : Nat → Int32) (v7_done : Int32) (v7_lastPosition : Int32) (p1 : Int32) (hI : Iv f6_leads f0_offset f0_gain f0_dark f0_bright v3_ground v3_patches f3_firstRow f3_lastRow f3_firstColumn f3_lastColumn f3_slants f3_tints f3_specks v4_count f4_kinds f4_numbers v5_on v5_lines v5_reach v5_positions v5_queued v5_position v5_next v5_mode v5_outTicks v5_stops v5_ticked v1_count v1_threshold f1_values v7_done v7_lastPosition) : ∃ (r : Int32), fX6_head f6_leads v5_on v5_queued v5_position v5_next v5_mode v5_stops v5_ticked p1 = some r ∧ fX7_head f6_leads v5_on v7_done v1_count v5_position v5_mode v5_next v5_stops v5_ticked p1 = some r := by
  obtain ⟨hc, hp, hl, hk, h1, h2, h3, h4, h5, h6, h7⟩ := hI
  unfold fX6_head fX7_head
  have e : v7_done - v1_count = v5_queued := by rw [h4, Int32.add_comm, Int32.add_sub_cancel]
  rw [e, rc_X hl, rc_M hl]
  refine sm_ite Iff.rfl (fun _ => sm_som _) (fun _ => sm_ite Iff.rfl (fun _ => sm_som _) (fun _ => sm_ite Iff.rfl (fun _ => sm_som _) (fun _ => sm_ite Iff.rfl (fun _ => sm_som _) (fun _ => sm_ite Iff.rfl (fun _ => sm_som _) (fun _ => sm_ite Iff.rfl (fun _ => sm_som _) (fun _ => sm_ite Iff.rfl (fun _ => sm_ite Iff.rfl (fun _ => sm_som _) (fun _ => sm_som _)) (fun _ => sm_ite Iff.rfl (fun _ => sm_som _) (fun _ => sm_som _))))))))

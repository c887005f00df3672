theorem dn_of (x : Int32) (k : Nat) (hk : k = 4 ∨ k = 8) (h1 : -1000000 ≤ x.toInt) (h2 : x.toInt ≤ 1000000) : ∃ r, fX7_down x (nI k) = some r ∧ r.toInt = x.toInt / (k : Int) := by
  have ek : (nI k).toInt = (k : Int) := nI_toInt (by omega)
  have hz : ¬ nI k = 0 := by rw [fa_eq, ek]; show ¬ (k : Int) = 0; omega
  unfold fX7_down
  by_cases h : x < 0
  · rw [if_pos h, ckZ_ok hz]
    rw [fa_lt] at h
    have h' : x.toInt < 0 := h
    refine ⟨_, rfl, ?_⟩
    have e1 : (nI k - 1).toInt = (k : Int) - 1 := by
      rw [fb_subI (by rw [ek]; show _ ≤ (k : Int) - 1; omega) (by rw [ek]; show (k : Int) - 1 < _; omega), ek]; rfl
    have e2 : (nI k - 1 - x).toInt = (k : Int) - 1 - x.toInt := by
      rw [fb_subI (by rw [e1]; omega) (by rw [e1]; omega), e1]
    have e3 : ((nI k - 1 - x) / nI k).toInt = ((k : Int) - 1 - x.toInt) / (k : Int) := by
      rw [lg_idiv_nonneg (by rw [e2]; omega) (by rw [ek]; omega), e2, ek]
    rw [fb_negI (by rw [e3]; rcases hk with rfl | rfl <;> omega), e3]
    rcases hk with rfl | rfl <;> omega
  · rw [if_neg h, ckZ_ok hz]
    rw [fa_lt] at h
    have h' : ¬ x.toInt < 0 := h
    exact ⟨_, rfl, by rw [lg_idiv_nonneg (by omega) (by rw [ek]; omega), ek]⟩
theorem xor_sign (x : Int32) : 0 ≤ (x ^^^ (4 : Int32)) ↔ 0 ≤ x := by
  have key : ∀ y : Int32, 0 ≤ y ↔ y.toBitVec.msb = false := by
    intro y
    rw [fa_le]
    show 0 ≤ y.toBitVec.toInt ↔ _
    rw [BitVec.toInt_eq_msb_cond]
    have := y.toBitVec.isLt
    cases hm : y.toBitVec.msb <;> simp <;> omega
  rw [key, key]
  show (x.toBitVec ^^^ (4 : Int32).toBitVec).msb = false ↔ _
  rw [BitVec.msb_xor, show (4 : Int32).toBitVec.msb = false from by decide, Bool.xor_false]
theorem fd_of (x : Int32) (h1 : -1000000 ≤ x.toInt) (h2 : x.toInt ≤ 1000000) : ∃ r, fX7_down x 4 = some r ∧ fJ9_floorDiv_7cf53 x 4 = some r ∧ r.toInt = x.toInt / 4 := by
  obtain ⟨r, hr, er⟩ := dn_of x 4 (Or.inl rfl) h1 h2
  refine ⟨r, hr, ?_, er⟩
  have ed : (x / 4).toInt = x.toInt.tdiv 4 := Jvm.Kit.i32_div (fun h => absurd h.2 (by decide))
  unfold fJ9_floorDiv_7cf53
  rw [ckZ_ok (by decide)]
  by_cases h : 0 ≤ x
  · rw [if_pos ((xor_sign x).mpr h)]
    refine congrArg some ((fa_eq _ _).mpr ?_)
    rw [fa_le] at h
    have h' : 0 ≤ x.toInt := h
    rw [ed, er, Int.tdiv_eq_ediv_of_nonneg h']
    rfl
  · rw [if_neg (fun q => h ((xor_sign x).mp q))]
    rw [fa_le] at h
    have h' : ¬ 0 ≤ x.toInt := h
    have e1 : x.toInt.tdiv 4 = -((-x.toInt) / 4) := by
      rw [show x.toInt = -(-x.toInt) by omega, Int.neg_tdiv, Int.tdiv_eq_ediv_of_nonneg (by omega)]
      omega
    have e2 : (x / 4).toInt = -((-x.toInt) / 4) := ed.trans e1
    have e3 : (x / 4 * 4).toInt = -((-x.toInt) / 4) * 4 := by
      rw [fb_mulI (by rw [e2]; show _ ≤ _ * (4 : Int); omega) (by rw [e2]; show _ * (4 : Int) < _; omega), e2]; rfl
    have er' : r.toInt = x.toInt / 4 := er
    by_cases q : x / 4 * 4 = x
    · rw [if_pos q]
      refine congrArg some ((fa_eq _ _).mpr ?_)
      rw [fa_eq, e3] at q
      rw [e2, er']; omega
    · rw [if_neg q]
      refine congrArg some ((fa_eq _ _).mpr ?_)
      rw [fa_eq, e3] at q
      rw [fb_subI (by rw [e2]; show _ ≤ _ - (1 : Int); omega) (by rw [e2]; show _ - (1 : Int) < _; omega), e2, er']
      show -((-x.toInt) / 4) - 1 = _
      omega
/-- a patch covers a place: both say the same -/
theorem cov_cases {pa : Int32} {fr lr fc lc sl : Nat → Int32} (hp : pOK pa fr lr sl) {p : Nat} (h : (p : Int) < pa.toInt) (row k : Int32) :
    (fX3_covers fr lr fc lc sl (nI p) row k = some 0 ∧ fX7_isCovered fr lr fc lc sl (nI p) row k = some 0) ∨ (fX3_covers fr lr fc lc sl (nI p) row k = some 1 ∧ fX7_isCovered fr lr fc lc sl (nI p) row k = some 1) := by
  obtain ⟨⟨p0, p12⟩, hr⟩ := hp
  obtain ⟨⟨f1, f2⟩, ⟨l1, l2⟩, s1, s2⟩ := hr p h
  have v := vin (show p < 12 by omega) (show 12 < 2 ^ 31 by omega)
  unfold fX3_covers fX7_isCovered
  rw [nI_clamp (by omega)]
  repeat rw [ckI_ok v]
  by_cases a1 : row < fr p
  · left; rw [if_pos a1, if_pos a1]; exact ⟨rfl, rfl⟩
  rw [if_neg a1, if_neg a1]
  repeat rw [ckI_ok v]
  by_cases a2 : row ≤ lr p
  · rw [if_pos a2, if_pos a2]
    repeat rw [ckI_ok v]
    rw [fa_lt] at a1
    rw [fa_le] at a2
    have e1 : (row - fr p).toInt = row.toInt - (fr p).toInt := fb_subI (by omega) (by omega)
    have m1 : (sl p).toInt * (row - fr p).toInt ≤ 16 * (row - fr p).toInt := Int.mul_le_mul_of_nonneg_right s2 (by omega)
    have m2 : -16 * (row - fr p).toInt ≤ (sl p).toInt * (row - fr p).toInt := Int.mul_le_mul_of_nonneg_right s1 (by omega)
    have e2 : (sl p * (row - fr p)).toInt = (sl p).toInt * (row - fr p).toInt := fb_mulI (by omega) (by omega)
    generalize hX : sl p * (row - fr p) = X at e2 ⊢
    obtain ⟨r, q1, q2⟩ := dn_of X 8 (Or.inr rfl) (by omega) (by omega)
    have e3 : r = X >>> ((3 : Int32) &&& 31) := by
      rw [fa_eq, pk_shr X ((3 : Int32) &&& 31) 3 (by decide), Int.shiftRight_eq_div_pow, q2]
    have q1' : fX7_down X 8 = some r := q1
    rw [cv q1', e3]
    repeat rw [ckI_ok v]
    by_cases b1 : k - X >>> ((3 : Int32) &&& 31) < fc p
    · left
      rw [if_pos b1]
      refine ⟨rfl, ?_⟩
      unfold fX7_within
      rw [if_pos b1]
      exact ckB_ok (Or.inl rfl)
    · rw [if_neg b1]
      repeat rw [ckI_ok v]
      unfold fX7_within
      rw [if_neg b1]
      by_cases b2 : lc p < k - X >>> ((3 : Int32) &&& 31)
      · left; rw [if_pos b2]; exact ⟨rfl, ckB_ok (Or.inl rfl)⟩
      · right; rw [if_neg b2]; exact ⟨rfl, ckB_ok (Or.inr rfl)⟩
  · left; rw [if_neg a2, if_neg a2]; exact ⟨rfl, rfl⟩
noncomputable def tf (C : Nat → Bool) (ti : Nat → Int32) (gr : Int32) (c : Nat) : Nat → Int32
  | 0 => gr
  | n + 1 => if C n = true then ti (n * 3 + c) else tf C ti gr c n
theorem ta_loop {pa gr : Int32} {fr lr fc lc sl ti : Nat → Int32} (hp : pOK pa fr lr sl) (c : Nat) (hc : c < 3) (row k : Int32) (C : Nat → Bool) (hC : ∀ p : Nat, (p : Int) < pa.toInt → fX3_covers fr lr fc lc sl (nI p) row k = some (if C p = true then 1 else 0)) :
    ∀ (n f : Nat), (n : Int) ≤ pa.toInt → n < f → bX3_tintAt_8 gr fr lr fc lc sl ti f (nI c) row k (nI n + -1) = some (tf C ti gr c n) := by
  obtain ⟨⟨p0, p12⟩, -⟩ := hp
  intro n
  induction n with
  | zero =>
    intro f _ hf
    match f, hf with
    | f + 1, _ => rw [bX3_tintAt_8, if_pos (by decide)]; rfl
  | succ n ih =>
    intro f h1 hf
    match f, hf with
    | f + 1, hf =>
      rw [bX3_tintAt_8, pk_m1, if_neg (nI_pos (by omega))]
      have e := hC n (by omega)
      rw [tf]
      by_cases q : C n = true
      · rw [if_pos q] at e ⊢
        rw [c1 e]
        unfold bX3_tintAt_24
        rw [i3_a, ckI_ok (vin (show n * 3 + c < 36 by omega) (by omega)), nI_clamp (by omega)]
      · rw [if_neg q] at e ⊢
        rw [c0 e]
        exact ih f (by omega) (by omega)
theorem pg_loop {pa gr : Int32} {fr lr fc lc sl ti : Nat → Int32} (hp : pOK pa fr lr sl) (c : Nat) (hc : c < 3) (row k : Int32) (C : Nat → Bool) (hC : ∀ p : Nat, (p : Int) < pa.toInt → fX7_isCovered fr lr fc lc sl (nI p) row k = some (if C p = true then 1 else 0)) :
    ∀ (f i : Nat), (i : Int) ≤ pa.toInt → pa.toInt < i + f → bX7_pageAt_9 pa fr lr fc lc sl ti f (nI c) row k (tf C ti gr c i) (nI i) = some (tf C ti gr c pa.toInt.toNat) := by
  obtain ⟨⟨p0, p12⟩, -⟩ := hp
  intro f
  induction f with
  | zero => intro i h1 h2; omega
  | succ f ih =>
    intro i h1 h2
    rw [bX7_pageAt_9]
    have eI : (nI i).toInt = (i : Int) := nI_toInt (by omega)
    by_cases q : pa ≤ nI i
    · rw [if_pos q]
      rw [fa_le, eI] at q
      rw [show pa.toInt.toNat = i by omega]
    · rw [if_neg q]
      rw [fa_le, eI] at q
      have e := hC i (by omega)
      by_cases q2 : C i = true
      · rw [if_pos q2] at e
        rw [c1 e, i3_b, ckI_ok (vin (show i * 3 + c < 36 by omega) (by omega)), nI_clamp (by omega), nI_1]
        have := ih (i + 1) (by omega) (by omega)
        rw [tf, if_pos q2] at this
        exact this
      · rw [if_neg q2] at e
        rw [c0 e, nI_1]
        have := ih (i + 1) (by omega) (by omega)
        rw [tf, if_neg q2] at this
        exact this
theorem ta_same {pa gr : Int32} {fr lr fc lc sl ti : Nat → Int32} (hp : pOK pa fr lr sl) (c : Nat) (hc : c < 3) (row k : Int32) : Same (fX3_tintAt gr pa fr lr fc lc sl ti (nI c) row k) (fX7_pageAt gr pa fr lr fc lc sl ti (nI c) row k) := by
  have hp2 := hp
  obtain ⟨⟨p0, p12⟩, -⟩ := hp2
  have hX : ∀ p : Nat, (p : Int) < pa.toInt → fX3_covers fr lr fc lc sl (nI p) row k = some (if (decide (fX3_covers fr lr fc lc sl (nI p) row k = some 1)) = true then 1 else 0) := by
    intro p h
    rcases cov_cases (fc := fc) (lc := lc) hp h row k with ⟨e, -⟩ | ⟨e, -⟩
    · rw [e, if_neg (by decide)]
    · rw [e, if_pos (by decide)]
  have hM : ∀ p : Nat, (p : Int) < pa.toInt → fX7_isCovered fr lr fc lc sl (nI p) row k = some (if (decide (fX3_covers fr lr fc lc sl (nI p) row k = some 1)) = true then 1 else 0) := by
    intro p h
    rcases cov_cases (fc := fc) (lc := lc) hp h row k with ⟨e, e2⟩ | ⟨e, e2⟩
    · rw [e, e2, if_neg (by decide)]
    · rw [e, e2, if_pos (by decide)]
  obtain ⟨P, hP, rfl⟩ := of_rg (n := 12) p0 p12 (by omega)
  have eP : (nI P).toInt = (P : Int) := nI_toInt (by omega)
  have h1 := ta_loop (gr := gr) (ti := ti) hp c hc row k _ hX P 300 (by omega) (by omega)
  have h2 := pg_loop (gr := gr) (ti := ti) hp c hc row k _ hM 300 0 (by omega) (by omega)
  refine ⟨_, ?_, h2⟩
  rw [eP]
  show fX3_tintAt gr (nI P) fr lr fc lc sl ti (nI c) row k = some (tf _ ti gr c P)
  rw [← h1, ← Int32.sub_eq_add_neg]
  rfl
/-- light on a cell: at a row and quarter, and so many quarters behind row 0 -/
theorem lt_same {pa gr : Int32} {fr lr fc lc sl ti sp : Nat → Int32} (hp : pOK pa fr lr sl) (c k : Nat) (hc : c < 3) (hk : k < 12) {row q z : Int32} (hd : fX7_down z 4 = some row) (hq : z - (4 : Int32) * row = q) :
    Same (fX3_lightOn gr pa fr lr fc lc sl ti sp (nI c) (nI k) row q) (fX7_lightAt gr pa fr lr fc lc sl ti sp (nI c) (nI k) z) := by
  unfold fX3_lightOn fX7_lightAt
  rw [cv hd, hq]
  refine sm_call (ta_same hp c hc row (nI k)) (fun r1 _ => sm_call (ta_same hp c hc (row + 1) (nI k)) (fun r2 _ => ?_))
  obtain ⟨e1, r, e2⟩ := eM_rounded (u := ((4 : Int32) - q) * r1 + q * r2) (d := 4) (by decide) (by decide)
  rw [e1, cv e2, cv e2]
  have v := vin hk (show 12 < 2 ^ 31 by omega)
  rw [ckI_ok v, ckI_ok v, eM_atLeast]
  exact sm_som _
/-- the steps of the pipe -/
theorem th_loop {pc : Int32} {kd nb : Nat → Int32} (hk : kOK pc kd) : ∀ (n i : Nat) (x : Int32), (i : Int) ≤ pc.toInt → pc.toInt < i + n → Same (bX4_through_4 pc kd nb n x (nI i)) (bX7_pipedOf_4 pc kd nb n x (nI i)) := by
  obtain ⟨⟨k0, k4⟩, kr⟩ := hk
  intro n
  induction n with
  | zero => intro i x h1 h2; omega
  | succ n ih =>
    intro i x h1 h2
    rw [bX4_through_4, bX7_pipedOf_4]
    have eI : (nI i).toInt = (i : Int) := nI_toInt (by omega)
    refine sm_ite Iff.rfl (fun _ => sm_som _) (fun h => ?_)
    rw [fa_le, eI] at h
    have hi : (i : Int) < pc.toInt := by omega
    have v := vin (show i < 4 by omega) (show 4 < 2 ^ 31 by omega)
    rw [nI_clamp (by omega), nI_1]
    repeat rw [ckI_ok v]
    obtain ⟨r1, r2⟩ := kr i hi
    have st : ∀ y, Same (bX4_through_4 pc kd nb n y (nI (i + 1))) (bX7_pipedOf_4 pc kd nb n y (nI (i + 1))) := fun y => ih (i + 1) y (by omega) (by omega)
    unfold fX4_stepped
    by_cases c0' : kd i = 0
    · rw [if_pos c0', if_pos c0']; exact st _
    rw [if_neg c0', if_neg c0']
    by_cases c1' : kd i = 1
    · rw [if_pos c1', if_pos c1', eM_atMost]; exact st _
    rw [if_neg c1', if_neg c1']
    by_cases c2' : kd i = 2
    · rw [if_pos c2', if_pos c2', eM_atMost]
      have e : cl1 (fX2_atMostTop (x + nb i)) (fun r7 => cl1 (fX7_atLeast r7 0) (fun r8 => bX7_pipedOf_4 pc kd nb n r8 (nI (i + 1)))) = bX7_pipedOf_4 pc kd nb n (mn (if 0 < x + nb i then x + nb i else 0)) (nI (i + 1)) := by
        show cl1 (fX7_atLeast (mn (x + nb i)) 0) _ = _
        rw [eM_atLeast]
        show bX7_pipedOf_4 pc kd nb n (if 0 < mn (x + nb i) then mn (x + nb i) else 0) (nI (i + 1)) = _
        congr 1
        generalize x + nb i = y
        unfold mn
        by_cases a : 0 < y
        · rw [if_pos a]
          by_cases b : y < 255
          · rw [if_pos b, if_pos a]
          · rw [if_neg b, if_pos (by decide)]
        · rw [if_neg a]
          have b : y < 255 := by rw [fa_lt] at a ⊢; have a' : ¬ 0 < y.toInt := a; show y.toInt < 255; omega
          rw [if_pos b, if_neg a, if_pos (by decide)]
      rw [e]
      exact st _
    rw [if_neg c2', if_neg c2']
    have c3' : kd i = 3 := by
      rw [fa_eq] at c0' c1' c2' ⊢
      have z0 : ¬ (kd i).toInt = 0 := c0'
      have z1 : ¬ (kd i).toInt = 1 := c1'
      have z2 : ¬ (kd i).toInt = 2 := c2'
      show (kd i).toInt = 3
      omega
    rw [if_pos c3']
    by_cases a : x < nb i
    · rw [if_pos a, if_pos a]; exact st _
    · rw [if_neg a, if_neg a]; exact st _
theorem th_same {pc : Int32} {kd nb : Nat → Int32} (hk : kOK pc kd) (x : Int32) : Same (fX4_through pc kd nb x) (fX7_pipedOf pc kd nb x) := th_loop hk 300 0 x (by have := hk.1.1; omega) (by have := hk.1.2; omega)
set_option maxHeartbeats 1000000 in
theorem st_light (f6_leads : Nat → Int32) (f0_offset : Nat → Int32) (f0_gain : Nat → Int32) (f0_dark : Nat → Int32) (f0_bright : Nat → Int32) (v3_ground : Int32) (v3_patches : Int32) (f3_firstRow : Nat → Int32) (f3_lastRow : Nat → Int32) (f3_firstColumn : Nat → Int32) (f3_lastColumn : Nat → Int32) (f3_slants : Nat → Int32) (f3_tints : Nat → Int32) (f3_specks : Nat → Int32) (v4_count : Int32) (f4_kinds : Nat → Int32) (f4_numbers : Nat → Int32) (v5_on : Int32) (v5_lines : Int32) (v5_reach : Int32) (v5_positions : Int32) (v5_queued : Int32) (v5_position : Int32) (v5_next : Int32) (v5_mode : Int32) (v5_outTicks : Int32) (v5_stops : Int32) (v5_ticked : Int32) (v1_count : Int32) (v1_threshold : Int32) (f1_values : Nat → Int32) (v7_done : Int32) (v7_lastPosition : Int32) (p1 : Int32) (p2 : Int32) (p3 : Int32) (p4 : Int32) (hI : Iv f6_leads f0_offset f0_gain f0_dark f0_bright v3_ground v3_patches f3_firstRow f3_lastRow f3_firstColumn f3_lastColumn f3_slants f3_tints f3_specks v4_count f4_kinds f4_numbers v5_on v5_lines v5_reach v5_positions v5_queued v5_position v5_next v5_mode v5_outTicks v5_stops v5_ticked v1_count v1_threshold f1_values v7_done v7_lastPosition) : ∃ (r : Int32), fX6_light v3_ground v3_patches f3_firstRow f3_lastRow f3_firstColumn f3_lastColumn f3_slants f3_tints f3_specks p1 p2 p3 p4 = some r ∧ fX7_light v3_ground v3_patches f3_firstRow f3_lastRow f3_firstColumn f3_lastColumn f3_slants f3_tints f3_specks p1 p2 p3 p4 = some r := by
  obtain ⟨hc, hp, hl, hk, hs⟩ := hI
  unfold fX6_light fX7_light
  rcases ce_cases p1 p2 with h | ⟨h, c, k, h1, h2, rfl, rfl⟩
  · exact ⟨_, c0 h, c0 h⟩
  rw [c1 h, eM_isCell, c1 h]
  rcases wi_cases p3 (-1000) 1000 with ⟨h, -⟩ | ⟨h, a1, a2⟩
  · exact ⟨_, c0 h, c0 h⟩
  rw [c1 h, eM_within, c1 h]
  rcases wi_cases p4 0 3 with ⟨h, -⟩ | ⟨h, b1, b2⟩
  · exact ⟨_, c0 h, c0 h⟩
  rw [c1 h, eM_within, c1 h]
  have a1' : -1000 ≤ p3.toInt := a1
  have a2' : p3.toInt ≤ 1000 := a2
  have b1' : 0 ≤ p4.toInt := b1
  have b2' : p4.toInt ≤ 3 := b2
  have e1 : ((4 : Int32) * p3).toInt = 4 * p3.toInt := by
    rw [fb_mulI (by show _ ≤ (4 : Int) * _; omega) (by show (4 : Int) * _ < _; omega)]; rfl
  have e2 : ((4 : Int32) * p3 + p4).toInt = 4 * p3.toInt + p4.toInt := by
    rw [fb_addI (by rw [e1]; omega) (by rw [e1]; omega), e1]
  obtain ⟨r, q1, q2⟩ := dn_of ((4 : Int32) * p3 + p4) 4 (Or.inl rfl) (by omega) (by omega)
  have q2' : r.toInt = ((4 : Int32) * p3 + p4).toInt / 4 := q2
  have er : r = p3 := by rw [fa_eq, q2', e2]; omega
  rw [er] at q1
  refine sm_call (lt_same hp c k h1 h2 q1 ?_) (fun r _ => sm_som r)
  rw [fa_eq, fb_subI (by rw [e1, e2]; omega) (by rw [e1, e2]; omega), e1, e2]
  omega
set_option maxHeartbeats 1000000 in
theorem st_piped (f6_leads : Nat → Int32) (f0_offset : Nat → Int32) (f0_gain : Nat → Int32) (f0_dark : Nat → Int32) (f0_bright : Nat → Int32) (v3_ground : Int32) (v3_patches : Int32) (f3_firstRow : Nat → Int32) (f3_lastRow : Nat → Int32) (f3_firstColumn : Nat → Int32) (f3_lastColumn : Nat → Int32) (f3_slants : Nat → Int32) (f3_tints : Nat → Int32) (f3_specks : Nat → Int32) (v4_count : Int32) (f4_kinds : Nat → Int32) (f4_numbers : Nat → Int32) (v5_on : Int32) (v5_lines : Int32) (v5_reach : Int32) (v5_positions : Int32) (v5_queued : Int32) (v5_position : Int32) (v5_next : Int32) (v5_mode : Int32) (v5_outTicks : Int32) (v5_stops : Int32) (v5_ticked : Int32) (v1_count : Int32) (v1_threshold : Int32) (f1_values : Nat → Int32) (v7_done : Int32) (v7_lastPosition : Int32) (p1 : Int32) (hI : Iv f6_leads f0_offset f0_gain f0_dark f0_bright v3_ground v3_patches f3_firstRow f3_lastRow f3_firstColumn f3_lastColumn f3_slants f3_tints f3_specks v4_count f4_kinds f4_numbers v5_on v5_lines v5_reach v5_positions v5_queued v5_position v5_next v5_mode v5_outTicks v5_stops v5_ticked v1_count v1_threshold f1_values v7_done v7_lastPosition) : ∃ (r : Int32), fX6_piped v4_count f4_kinds f4_numbers p1 = some r ∧ fX7_piped v4_count f4_kinds f4_numbers p1 = some r := by
  obtain ⟨hc, hp, hl, hk, hs⟩ := hI
  unfold fX6_piped fX7_piped
  rcases wi_cases p1 0 255 with ⟨h, -⟩ | ⟨h, -, -⟩
  · exact ⟨_, c0 h, c0 h⟩
  rw [c1 h, eM_within, c1 h]
  exact sm_call (th_same hk p1) (fun r _ => sm_som r)

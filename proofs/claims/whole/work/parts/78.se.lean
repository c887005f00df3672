theorem i_swap (a r w : Int32) : a + r - w = a - w + r := by
  rw [Int32.sub_eq_add_neg, Int32.sub_eq_add_neg, Int32.add_assoc, Int32.add_comm r, Int32.add_assoc]
theorem wm_cases {ld : Nat → Int32} {on li re po qu pos nx mo ou co dn la : Int32} (hs : sOK ld on li re po qu pos nx mo ou co dn la) (x : Int32) :
    (fX5_wantsMore on po x = some 0 ∧ fX7_areToBeRead on la x = some 0 ∧ (on = 1 → po.toInt ≤ x.toInt)) ∨ (fX5_wantsMore on po x = some 1 ∧ fX7_areToBeRead on la x = some 1 ∧ on = 1 ∧ x.toInt < po.toInt) := by
  obtain ⟨h1, -, -, -, -, -, h7⟩ := hs
  unfold fX5_wantsMore fX7_areToBeRead
  rcases h1 with rfl | rfl
  · left; rw [if_pos rfl, if_pos rfl]; exact ⟨rfl, rfl, fun z => absurd z (by decide)⟩
  · obtain ⟨⟨l1, l2⟩, -, ⟨e1, e2⟩, -, ep, ea, -⟩ := h7 rfl
    have n1 : ¬ (1 : Int32) = 0 := by decide
    rw [if_neg n1, if_neg n1]
    have ep' : po.toInt = li.toInt + re.toInt := by rw [ep]; exact fb_addI (by omega) (by omega)
    have el : (li - 1).toInt = li.toInt - 1 := by
      rw [fb_subI (by show _ ≤ _ - (1 : Int); omega) (by show _ - (1 : Int) < _; omega)]; rfl
    have ea' : la.toInt = li.toInt - 1 + re.toInt := by rw [ea, fb_addI (by rw [el]; omega) (by rw [el]; omega), el]
    by_cases q : po ≤ x
    · left
      rw [fa_le] at q
      rw [if_pos ((fa_le _ _).mpr q), if_pos (by rw [fa_lt]; omega)]
      exact ⟨rfl, rfl, fun _ => q⟩
    · right
      rw [fa_le] at q
      rw [if_neg (fun z => q ((fa_le _ _).mp z)), if_neg (fun z => q (by rw [fa_lt] at z; omega))]
      exact ⟨rfl, rfl, rfl, by omega⟩
set_option maxHeartbeats 2000000 in
theorem tk_step {ld : Nat → Int32} {on li re po qu pos nx mo ou co dn la : Int32} (st tk : Int32) (hl : lOK ld) (hs : sOK ld on li re po qu pos nx mo ou co dn la) :
    ∃ r qu2 pos2 nx2 mo2 ou2 st2 dn2, fX5_tick on re po qu pos nx mo ou st tk = some (r, qu2, pos2, nx2, mo2, ou2, st2, tk + 1) ∧ fX7_tick ld on dn co la pos mo nx ou st tk = some (dn2, pos2, mo2, nx2, ou2, st2, tk + 1) ∧ sOK ld on li re po qu2 pos2 nx2 mo2 ou2 co dn2 la ∧ dn2 = dn + r := by
  have hs0 := hs
  obtain ⟨h1, h2, h3, h4, h5, h6, h7⟩ := hs
  have ed : dn - co = qu := by rw [h4, Int32.add_comm, Int32.add_sub_cancel]
  have hm : mo = 0 ∨ mo = 1 ∨ mo = 2 ∨ mo = 3 ∨ mo = 4 := by
    obtain ⟨m1, m2⟩ := h5
    rw [fa_eq, fa_eq, fa_eq, fa_eq, fa_eq]
    show mo.toInt = 0 ∨ mo.toInt = 1 ∨ mo.toInt = 2 ∨ mo.toInt = 3 ∨ mo.toInt = 4
    omega
  have n10 : ¬ (1 : Int32) = 0 := by decide
  have n20 : ¬ (2 : Int32) = 0 := by decide
  have n21 : ¬ (2 : Int32) = 1 := by decide
  have n30 : ¬ (3 : Int32) = 0 := by decide
  have n31 : ¬ (3 : Int32) = 1 := by decide
  have n32 : ¬ (3 : Int32) = 2 := by decide
  have n40 : ¬ (4 : Int32) = 0 := by decide
  have n41 : ¬ (4 : Int32) = 1 := by decide
  have n42 : ¬ (4 : Int32) = 2 := by decide
  have n43 : ¬ (4 : Int32) = 3 := by decide
  have a0 : dn = dn + 0 := (Int32.add_zero dn).symm
  unfold fX5_tick fX7_tick
  rcases hm with rfl | rfl | rfl | rfl | rfl
  · -- REST
    rw [if_pos rfl, if_pos rfl, ed]
    rcases wm_cases hs0 nx with ⟨w1, w2, -⟩ | ⟨w1, w2, w3, w4⟩
    · rw [c0 w1, c0 w2]; exact ⟨_, _, _, _, _, _, _, _, rfl, rfl, hs0, a0⟩
    · rw [c1 w1, c1 w2]
      by_cases q : 2 < qu
      · rw [if_pos q, if_pos q]; exact ⟨_, _, _, _, _, _, _, _, rfl, rfl, hs0, a0⟩
      · rw [if_neg q, if_neg q]
        refine ⟨_, _, _, _, _, _, _, _, rfl, rfl, ⟨h1, h2, h3, h4, ⟨by decide, by decide⟩, fun z => absurd z (by decide), fun z => ?_⟩, a0⟩
        obtain ⟨g1, g2, g3, g4, g5, g6, g7, g8, g9, g10⟩ := h7 z
        rw [fa_lt] at q
        have q' : ¬ 2 < qu.toInt := q
        exact ⟨g1, g2, g3, g4, g5, g6, g7, g8, fun _ => by omega, fun z => absurd z (by decide)⟩
  · -- UP
    rw [if_neg n10, if_pos rfl, if_neg n10, if_pos rfl]
    unfold fX5_runUp
    rcases wm_cases hs0 nx with ⟨w1, w2, -⟩ | ⟨w1, w2, w3, w4⟩
    · rw [c0 w1, c0 w2]
      unfold fX5_leave
      rw [c0 w1]
      refine ⟨_, _, _, _, _, _, _, _, rfl, rfl, ⟨h1, h2, h3, h4, ⟨by decide, by decide⟩, fun _ => ⟨by decide, by decide⟩, fun z => ?_⟩, a0⟩
      obtain ⟨g1, g2, g3, g4, g5, g6, g7, g8, g9, g10⟩ := h7 z
      exact ⟨g1, g2, g3, g4, g5, g6, g7, g8, fun z => absurd z (by decide), fun z => absurd z (by decide)⟩
    · rw [c1 w1, c1 w2, if_pos rfl]
      by_cases q : pos + 1 = nx
      · rw [if_pos q, if_pos q]
        refine ⟨_, _, _, _, _, _, _, _, rfl, rfl, ⟨h1, h2, h3, h4, ⟨by decide, by decide⟩, fun z => absurd z (by decide), fun z => ?_⟩, a0⟩
        obtain ⟨g1, g2, g3, g4, g5, g6, g7, g8, g9, g10⟩ := h7 z
        exact ⟨g1, g2, g3, g4, g5, g6, g7, g8, fun _ => g9 (Or.inl rfl), fun _ => q⟩
      · rw [if_neg q, if_neg q]
        refine ⟨_, _, _, _, _, _, _, _, rfl, rfl, ⟨h1, h2, h3, h4, ⟨by decide, by decide⟩, fun z => absurd z (by decide), fun z => ?_⟩, a0⟩
        obtain ⟨g1, g2, g3, g4, g5, g6, g7, g8, g9, g10⟩ := h7 z
        exact ⟨g1, g2, g3, g4, g5, g6, g7, g8, g9, fun z => absurd z (by decide)⟩
  · -- READ
    rw [if_neg n20, if_neg n21, if_pos rfl, if_neg n20, if_neg n21, if_pos rfl]
    unfold fX5_readOne
    rcases wm_cases hs0 nx with ⟨w1, w2, -⟩ | ⟨w1, w2, w3, w4⟩
    · rw [c0 w1, c0 w2]
      unfold fX5_leave
      rw [c0 w1]
      refine ⟨_, _, _, _, _, _, _, _, rfl, rfl, ⟨h1, h2, h3, h4, ⟨by decide, by decide⟩, fun _ => ⟨by decide, by decide⟩, fun z => ?_⟩, a0⟩
      obtain ⟨g1, g2, g3, g4, g5, g6, g7, g8, g9, g10⟩ := h7 z
      exact ⟨g1, g2, g3, g4, g5, g6, g7, g8, fun z => absurd z (by decide), fun z => absurd z (by decide)⟩
    · subst w3
      obtain ⟨g1, g2, g3, g4, g5, g6, g7, g8, g9, g10⟩ := h7 rfl
      have ep : pos = nx := g10 rfl
      have q5 : qu.toInt ≤ 5 := g9 (Or.inr rfl)
      obtain ⟨g3a, g3b⟩ := g3
      obtain ⟨g7a, g7b⟩ := g7
      obtain ⟨g1a, g1b⟩ := g1
      obtain ⟨q0, q6⟩ := h2
      obtain ⟨co0, co40⟩ := h3
      have ep' : po.toInt = li.toInt + re.toInt := by rw [g5]; exact fb_addI (by omega) (by omega)
      have ex1 : (nx + 1).toInt = nx.toInt + 1 := by
        rw [fb_addI (by show _ ≤ _ + (1 : Int); omega) (by show _ + (1 : Int) < _; omega)]; rfl
      have eq1 : (qu + 1).toInt = qu.toInt + 1 := by
        rw [fb_addI (by show _ ≤ _ + (1 : Int); omega) (by show _ + (1 : Int) < _; omega)]; rfl
      have edn : dn.toInt = co.toInt + qu.toInt := by rw [h4]; exact fb_addI (by omega) (by omega)
      have es : (nx - re).toInt = nx.toInt - re.toInt := fb_subI (by omega) (by omega)
      rw [c1 w1, c1 w2, if_neg n21, if_pos rfl]
      unfold fX7_read
      rw [cv (rc_M hl), ← g4, ep, Int32.add_zero, Int32.add_zero, ed]
      by_cases q : nx < re
      · rw [fa_lt] at q
        rw [if_pos ((fa_lt _ _).mpr q), if_pos (show nx - re < 0 by rw [fa_lt, es]; show _ < (0 : Int); omega)]
        rcases wm_cases hs0 (nx + 1) with ⟨v1, v2, v3⟩ | ⟨v1, v2, -, v4⟩
        · have v3' := v3 rfl
          rw [c0 v1, c0 v2]
          unfold fX5_leave
          rw [c0 v1, c0 v2]
          refine ⟨_, _, _, _, _, _, _, _, rfl, rfl, ⟨h1, ⟨q0, q6⟩, ⟨co0, co40⟩, h4, ⟨by decide, by decide⟩, fun _ => ⟨by decide, by decide⟩, fun z => ?_⟩, a0⟩
          refine ⟨⟨g1a, g1b⟩, g2, ⟨g3a, g3b⟩, g4, g5, g6, ⟨by omega, by omega⟩, ?_, fun z => absurd z (by decide), fun z => absurd z (by decide)⟩
          rw [ex1]; rw [if_pos q] at g8; rw [g8]; split <;> omega
        · rw [c1 v1, c1 v2]
          rw [if_pos (show qu < 6 by rw [fa_lt]; show _ < (6 : Int); omega), if_neg (show ¬ qu = 6 by rw [fa_eq]; show ¬ _ = (6 : Int); omega)]
          refine ⟨_, _, _, _, _, _, _, _, rfl, rfl, ⟨h1, ⟨q0, q6⟩, ⟨co0, co40⟩, h4, ⟨by decide, by decide⟩, fun z => absurd z (by decide), fun z => ?_⟩, a0⟩
          refine ⟨⟨g1a, g1b⟩, g2, ⟨g3a, g3b⟩, g4, g5, g6, ⟨by omega, by omega⟩, ?_, fun _ => q5, fun _ => rfl⟩
          rw [ex1]; rw [if_pos q] at g8; rw [g8]; split <;> omega
      · rw [fa_lt] at q
        rw [if_neg (fun z => q ((fa_lt _ _).mp z)), if_neg (show ¬ nx - re < 0 from fun z => by rw [fa_lt, es] at z; have z' : nx.toInt - re.toInt < 0 := z; omega)]
        rw [if_neg q] at g8
        have ed1 : nx - re = dn := by rw [fa_eq, es]; omega
        rw [ed1]
        have edq : dn + 1 - co = qu + 1 := by rw [i_swap, ed]
        rw [edq]
        have h4' : dn + 1 = co + (qu + 1) := by rw [h4, Int32.add_assoc]
        have edn1 : (dn + 1).toInt = dn.toInt + 1 := by
          rw [fb_addI (by show _ ≤ _ + (1 : Int); omega) (by show _ + (1 : Int) < _; omega)]; rfl
        rcases wm_cases hs0 (nx + 1) with ⟨v1, v2, v3⟩ | ⟨v1, v2, -, v4⟩
        · have v3' := v3 rfl
          rw [c0 v1, c0 v2]
          unfold fX5_leave
          rw [c0 v1, c0 v2]
          refine ⟨_, _, _, _, _, _, _, _, rfl, rfl, ⟨h1, ⟨by omega, by omega⟩, ⟨co0, co40⟩, h4', ⟨by decide, by decide⟩, fun _ => ⟨by decide, by decide⟩, fun z => ?_⟩, rfl⟩
          refine ⟨⟨g1a, g1b⟩, g2, ⟨g3a, g3b⟩, g4, g5, g6, ⟨by omega, by omega⟩, ?_, fun z => absurd z (by decide), fun z => absurd z (by decide)⟩
          rw [ex1, edn1, if_neg (by omega)]; omega
        · rw [c1 v1, c1 v2]
          by_cases q6' : qu + 1 < 6
          · rw [fa_lt, eq1] at q6'
            have q6'' : qu.toInt + 1 < 6 := q6'
            rw [if_pos (show qu + 1 < 6 by rw [fa_lt, eq1]; exact q6''), if_neg (show ¬ qu + 1 = 6 by rw [fa_eq, eq1]; show ¬ _ = (6 : Int); omega)]
            refine ⟨_, _, _, _, _, _, _, _, rfl, rfl, ⟨h1, ⟨by omega, by omega⟩, ⟨co0, co40⟩, h4', ⟨by decide, by decide⟩, fun z => absurd z (by decide), fun z => ?_⟩, rfl⟩
            refine ⟨⟨g1a, g1b⟩, g2, ⟨g3a, g3b⟩, g4, g5, g6, ⟨by omega, by omega⟩, ?_, fun _ => by omega, fun _ => rfl⟩
            rw [ex1, edn1, if_neg (by omega)]; omega
          · have q6'' : ¬ qu.toInt + 1 < 6 := fun z => q6' (by rw [fa_lt, eq1]; exact z)
            rw [if_neg q6', if_pos (show qu + 1 = 6 by rw [fa_eq, eq1]; show _ = (6 : Int); omega)]
            unfold fX5_leave
            rw [c1 v1, c1 v2]
            refine ⟨_, _, _, _, _, _, _, _, rfl, rfl, ⟨h1, ⟨by omega, by omega⟩, ⟨co0, co40⟩, h4', ⟨by decide, by decide⟩, fun _ => ⟨by decide, by decide⟩, fun z => ?_⟩, rfl⟩
            refine ⟨⟨g1a, g1b⟩, g2, ⟨g3a, g3b⟩, g4, g5, g6, ⟨by omega, by omega⟩, ?_, fun z => absurd z (by decide), fun z => absurd z (by decide)⟩
            rw [ex1, edn1, if_neg (by omega)]; omega
  · -- OUT
    rw [if_neg n30, if_neg n31, if_neg n32, if_pos rfl, if_neg n30, if_neg n31, if_neg n32, if_neg n31, if_neg n32, if_pos rfl]
    unfold fX5_runOut
    obtain ⟨o1, o2⟩ := h6 rfl
    have eo : (ou + 1).toInt = ou.toInt + 1 := by
      rw [fb_addI (by show _ ≤ _ + (1 : Int); omega) (by show _ + (1 : Int) < _; omega)]; rfl
    by_cases q : ou + 1 < 3
    · rw [fa_lt, eo] at q
      have q' : ou.toInt + 1 < 3 := q
      rw [if_pos (by rw [fa_lt, eo]; exact q'), if_neg (show ¬ ou + 1 = 3 by rw [fa_eq, eo]; show ¬ _ = (3 : Int); omega)]
      refine ⟨_, _, _, _, _, _, _, _, rfl, rfl, ⟨h1, h2, h3, h4, ⟨by decide, by decide⟩, fun _ => ⟨by omega, by omega⟩, fun z => ?_⟩, a0⟩
      obtain ⟨g1, g2, g3, g4, g5, g6, g7, g8, g9, g10⟩ := h7 z
      exact ⟨g1, g2, g3, g4, g5, g6, g7, g8, fun z => absurd z (by decide), fun z => absurd z (by decide)⟩
    · have q' : ¬ ou.toInt + 1 < 3 := fun z => q (by rw [fa_lt, eo]; exact z)
      rw [if_neg q, if_pos (show ou + 1 = 3 by rw [fa_eq, eo]; show _ = (3 : Int); omega)]
      refine ⟨_, _, _, _, _, _, _, _, rfl, rfl, ⟨h1, h2, h3, h4, ⟨by decide, by decide⟩, fun z => absurd z (by decide), fun z => ?_⟩, a0⟩
      obtain ⟨g1, g2, g3, g4, g5, g6, g7, g8, g9, g10⟩ := h7 z
      exact ⟨g1, g2, g3, g4, g5, g6, g7, g8, fun z => absurd z (by decide), fun z => absurd z (by decide)⟩
  · -- BACK
    rw [if_neg n40, if_neg n41, if_neg n42, if_neg n43, if_neg n40, if_neg n41, if_neg n42, if_neg n41, if_neg n42, if_neg n43]
    unfold fX5_goBack
    by_cases q : pos - 1 = nx - 4
    · rw [if_pos q, if_pos q]
      refine ⟨_, _, _, _, _, _, _, _, rfl, rfl, ⟨h1, h2, h3, h4, ⟨by decide, by decide⟩, fun z => absurd z (by decide), fun z => ?_⟩, a0⟩
      obtain ⟨g1, g2, g3, g4, g5, g6, g7, g8, g9, g10⟩ := h7 z
      exact ⟨g1, g2, g3, g4, g5, g6, g7, g8, fun z => absurd z (by decide), fun z => absurd z (by decide)⟩
    · rw [if_neg q, if_neg q]
      refine ⟨_, _, _, _, _, _, _, _, rfl, rfl, ⟨h1, h2, h3, h4, ⟨by decide, by decide⟩, fun z => absurd z (by decide), fun z => ?_⟩, a0⟩
      obtain ⟨g1, g2, g3, g4, g5, g6, g7, g8, g9, g10⟩ := h7 z
      exact ⟨g1, g2, g3, g4, g5, g6, g7, g8, fun z => absurd z (by decide), fun z => absurd z (by decide)⟩
theorem tk_loop {ld : Nat → Int32} (hl : lOK ld) (on li re po co la w : Int32) (N : Nat) (hN : N ≤ 200) : ∀ (n i : Nat) (qu pos nx mo ou st tk x dn : Int32), sOK ld on li re po qu pos nx mo ou co dn la → i ≤ N → N < i + n → x = dn - w →
    ∃ r qu2 pos2 nx2 mo2 ou2 st2 tk2 dn2, bX6_ticks_18 on re po n qu pos nx mo ou st tk (nI N) x (nI i) = some (r, qu2, pos2, nx2, mo2, ou2, st2, tk2) ∧ bX7_ticks_21 ld on co la n dn pos mo nx ou st tk (nI N) w (nI i) = some (r, dn2, pos2, mo2, nx2, ou2, st2, tk2) ∧ sOK ld on li re po qu2 pos2 nx2 mo2 ou2 co dn2 la := by
  intro n
  induction n with
  | zero => intro i qu pos nx mo ou st tk x dn _ h1 h2; omega
  | succ n ih =>
    intro i qu pos nx mo ou st tk x dn hs h1 h2 hx
    rw [bX6_ticks_18, bX7_ticks_21]
    by_cases q : nI N ≤ nI i
    · rw [if_pos q, if_pos q, ← hx]; exact ⟨_, _, _, _, _, _, _, _, _, rfl, rfl, hs⟩
    · rw [if_neg q, if_neg q]
      have hi : i < N := by
        rcases Nat.lt_or_ge i N with z | z
        · exact z
        · exact absurd ((l_le N (by omega) (by omega)).mpr z) q
      obtain ⟨r, qu2, pos2, nx2, mo2, ou2, st2, dn2, e1, e2, hs2, e3⟩ := tk_step st tk hl hs
      rw [e1, e2]
      show ∃ r_1 qu2_1 pos2_1 nx2_1 mo2_1 ou2_1 st2_1 tk2 dn2_1, bX6_ticks_18 on re po n qu2 pos2 nx2 mo2 ou2 st2 (tk + 1) (nI N) (x + r) (nI i + 1) = _ ∧ bX7_ticks_21 ld on co la n dn2 pos2 mo2 nx2 ou2 st2 (tk + 1) (nI N) w (nI i + 1) = _ ∧ _
      rw [nI_1]
      exact ih (i + 1) _ _ _ _ _ _ _ _ _ hs2 (by omega) (by omega) (by rw [e3, i_swap, hx])
set_option maxHeartbeats 1000000 in
theorem st_ticks (f6_leads : Nat → Int32) (f0_offset : Nat → Int32) (f0_gain : Nat → Int32) (f0_dark : Nat → Int32) (f0_bright : Nat → Int32) (v3_ground : Int32) (v3_patches : Int32) (f3_firstRow : Nat → Int32) (f3_lastRow : Nat → Int32) (f3_firstColumn : Nat → Int32) (f3_lastColumn : Nat → Int32) (f3_slants : Nat → Int32) (f3_tints : Nat → Int32) (f3_specks : Nat → Int32) (v4_count : Int32) (f4_kinds : Nat → Int32) (f4_numbers : Nat → Int32) (v5_on : Int32) (v5_lines : Int32) (v5_reach : Int32) (v5_positions : Int32) (v5_queued : Int32) (v5_position : Int32) (v5_next : Int32) (v5_mode : Int32) (v5_outTicks : Int32) (v5_stops : Int32) (v5_ticked : Int32) (v1_count : Int32) (v1_threshold : Int32) (f1_values : Nat → Int32) (v7_done : Int32) (v7_lastPosition : Int32) (p1 : Int32) (hI : Iv f6_leads f0_offset f0_gain f0_dark f0_bright v3_ground v3_patches f3_firstRow f3_lastRow f3_firstColumn f3_lastColumn f3_slants f3_tints f3_specks v4_count f4_kinds f4_numbers v5_on v5_lines v5_reach v5_positions v5_queued v5_position v5_next v5_mode v5_outTicks v5_stops v5_ticked v1_count v1_threshold f1_values v7_done v7_lastPosition) : ∃ (r : Int32) (n_v5_queued : Int32) (n_v5_position : Int32) (n_v5_next : Int32) (n_v5_mode : Int32) (n_v5_outTicks : Int32) (n_v5_stops : Int32) (n_v5_ticked : Int32) (n_v7_done : Int32), fX6_ticks v5_on v5_reach v5_positions v5_queued v5_position v5_next v5_mode v5_outTicks v5_stops v5_ticked p1 = some (r, n_v5_queued, n_v5_position, n_v5_next, n_v5_mode, n_v5_outTicks, n_v5_stops, n_v5_ticked) ∧ fX7_ticks f6_leads v5_on v7_done v1_count v7_lastPosition v5_position v5_mode v5_next v5_outTicks v5_stops v5_ticked p1 = some (r, n_v7_done, n_v5_position, n_v5_mode, n_v5_next, n_v5_outTicks, n_v5_stops, n_v5_ticked) ∧ Iv f6_leads f0_offset f0_gain f0_dark f0_bright v3_ground v3_patches f3_firstRow f3_lastRow f3_firstColumn f3_lastColumn f3_slants f3_tints f3_specks v4_count f4_kinds f4_numbers v5_on v5_lines v5_reach v5_positions n_v5_queued n_v5_position n_v5_next n_v5_mode n_v5_outTicks n_v5_stops n_v5_ticked v1_count v1_threshold f1_values n_v7_done v7_lastPosition := by
  have hI2 := hI
  obtain ⟨hc, hp, hl, hk, hs⟩ := hI
  unfold fX6_ticks fX7_ticks
  rcases wi_cases p1 0 200 with ⟨h, -⟩ | ⟨h, a1, a2⟩
  · exact ⟨_, _, _, _, _, _, _, _, _, c0 h, c0 h, hI2⟩
  rw [c1 h, eM_within, c1 h]
  obtain ⟨N, hN, rfl⟩ := of_rg (n := 200) a1 a2 (by omega)
  obtain ⟨r, qu2, pos2, nx2, mo2, ou2, st2, tk2, dn2, e1, e2, hs2⟩ := tk_loop hl v5_on v5_lines v5_reach v5_positions v1_count v7_lastPosition v7_done N hN 300 0 v5_queued v5_position v5_next v5_mode v5_outTicks v5_stops v5_ticked 0 v7_done hs (by omega) (by omega) (Int32.sub_self _).symm
  exact ⟨r, qu2, pos2, nx2, mo2, ou2, st2, tk2, dn2, e1, e2, hc, hp, hl, hk, hs2⟩

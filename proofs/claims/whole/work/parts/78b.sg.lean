theorem ht_cases (C : Nat) (hC : C ≤ 40) (p : Int32) : (fX1_has (nI C) p = some 0 ∧ fX7_isTaken (nI C) p = some 0) ∨ (fX1_has (nI C) p = some 1 ∧ fX7_isTaken (nI C) p = some 1 ∧ ∃ y : Nat, y < C ∧ p = nI y) := by
  have eP : (nI C - 1).toInt = (C : Int) - 1 := pk_sub_toInt (a := C) (b := 1) (by omega) (by omega)
  have eN : (nI C).toInt = (C : Int) := nI_toInt (by omega)
  unfold fX1_has fX7_isTaken
  rw [eM_within]
  rcases wi_cases p 0 (nI C - 1) with ⟨h, b⟩ | ⟨h, b1, b2⟩
  · have b' : p.toInt < 0 ∨ (nI C - 1).toInt < p.toInt := b
    left
    refine ⟨?_, by rw [cv h, ckB_ok (Or.inl rfl)]⟩
    by_cases q : p < 0
    · rw [if_pos q]
    · rw [if_neg q, if_pos (by rw [fa_le]; rw [fa_lt] at q; have q' : ¬ p.toInt < 0 := q; omega)]
  · have b1' : 0 ≤ p.toInt := b1
    right
    obtain ⟨y, hy, rfl⟩ := of_rg (x := p) (n := 39) (by omega) (by omega) (by omega)
    rw [nI_toInt (by omega)] at b2
    refine ⟨?_, by rw [cv h, ckB_ok (Or.inr rfl)], y, by omega, rfl⟩
    rw [if_neg (nI_pos (by omega)), if_neg (fun z => by have := (l_le C (by omega) (by omega)).mp z; omega)]
theorem dv16 (x : Int32) : rg (x / ((2 : Int32) * 8)) (-134217728) 134217728 := by
  have e : (x / ((2 : Int32) * 8)).toInt = x.toInt.tdiv 16 := by
    rw [show (2 : Int32) * 8 = 16 from by decide]
    exact Jvm.Kit.i32_div (fun h => absurd h.2 (by decide))
  have hr := fb_rng x
  unfold rg
  rw [e]
  rcases Int.lt_or_le x.toInt 0 with h | h
  · have e1 : x.toInt.tdiv 16 = -((-x.toInt) / 16) := by
      rw [show x.toInt = -(-x.toInt) by omega, Int.neg_tdiv, Int.tdiv_eq_ediv_of_nonneg (by omega)]
      omega
    rw [e1]; omega
  · rw [Int.tdiv_eq_ediv_of_nonneg h]; omega
theorem gy_of (f : Nat → Int32) {y k : Nat} (hy : y < 40) (hk : k < 12) : ∃ r, fX1_greyOf f (nI y) (nI k) = some r ∧ fX7_greyOf f (nI y) (nI k) = some r ∧ rg r (-134217728) 134217728 := by
  unfold fX1_greyOf fX7_greyOf
  rw [i36_a, i36_b, show nI (y * 36 + k) + (12 : Int32) = nI (y * 36 + k + 12) from nI_add _ 12, show nI (y * 36 + k) + (24 : Int32) = nI (y * 36 + k + 24) from nI_add _ 24]
  have v0 := vin (show y * 36 + k < 1440 by omega) (by omega)
  have v1 := vin (show y * 36 + k + 12 < 1440 by omega) (by omega)
  have v2 := vin (show y * 36 + k + 24 < 1440 by omega) (by omega)
  rw [ckI_ok v0, ckI_ok v1, ckI_ok v2, ckI_ok v0, ckI_ok v1, ckI_ok v2]
  generalize (2 : Int32) * f (nI (y * 36 + k)).toNatClampNeg + (5 : Int32) * f (nI (y * 36 + k + 12)).toNatClampNeg + f (nI (y * 36 + k + 24)).toNatClampNeg = u
  have e : fX2_rounded u 8 = some (((2 : Int32) * u + 8) / ((2 : Int32) * 8)) := by
    unfold fX2_rounded
    rw [if_pos (by decide), ckZ_ok (by decide)]
  have e2 : fX7_rounded u 8 = some (((2 : Int32) * u + 8) / ((2 : Int32) * 8)) := by
    unfold fX7_rounded
    rw [ckZ_ok (by decide)]
  rw [cv e, cv e2]
  exact ⟨_, rfl, rfl, dv16 _⟩
theorem b_1 : ∀ i, i < 32 → bt 1 i = decide (i = 0) := by decide +kernel
theorem bit_of (x : Int32) {k : Nat} (hk : k < 32) : (x >>> (nI k &&& 31)) &&& 1 = if bt x k = true then 1 else 0 := by
  apply b_ext
  intro i hi
  rw [b_and, b_sshr k hk x hi, b_1 i hi]
  by_cases h : i = 0
  · rw [h, if_pos (by omega), Nat.add_zero]
    cases hb : bt x k
    · rw [if_neg (by decide), b_0]; rfl
    · rw [if_pos rfl, b_1 0 (by omega)]; rfl
  · rw [decide_eq_false h, Bool.and_false]
    cases hb : bt x k
    · rw [if_neg (by decide), b_0]
    · rw [if_pos rfl, b_1 i hi, decide_eq_false h]
theorem b_one (k : Nat) (hk : k < 32) {i : Nat} (hi : i < 32) : bt ((1 : Int32) <<< (nI k &&& 31)) i = decide (i = k) := by
  rw [b_shl k hk 1 hi]
  by_cases h : k ≤ i
  · rw [decide_eq_true h, b_1 _ (by omega), Bool.true_and]
    by_cases e : i = k
    · rw [decide_eq_true e, decide_eq_true (by omega)]
    · rw [decide_eq_false e, decide_eq_false (by omega)]
  · rw [decide_eq_false h, Bool.false_and, decide_eq_false (by omega)]
def hi0 (x : Int32) : Prop := ∀ i, 12 ≤ i → i < 32 → bt x i = false
theorem or_0 (x : Int32) : x ||| 0 = x := b_ext (fun i _ => by rw [b_or, b_0, Bool.or_false])
theorem dk_loop (th : Int32) (f : Nat → Int32) {y : Nat} (hy : y < 40) : ∀ (n k : Nat) (s : Int32), k ≤ 12 → 13 ≤ k + n → hi0 s → ∃ r, bX1_darkSet_4 th f n (nI y) s (nI k) = some r ∧ bX7_darkOf_4 th f n (nI y) s (nI k) = some r ∧ hi0 r := by
  intro n
  induction n with
  | zero => intro k s h1 h2; omega
  | succ n ih =>
    intro k s h1 h2 hs
    rw [bX1_darkSet_4, bX7_darkOf_4]
    by_cases q : (12 : Int32) ≤ nI k
    · rw [if_pos q, if_pos q]; exact ⟨_, rfl, rfl, hs⟩
    · have hk : k < 12 := by
        rcases Nat.lt_or_ge k 12 with z | z
        · exact z
        · exact absurd ((l_le 12 (by omega) (by omega)).mpr z) q
      rw [if_neg q, if_neg q]
      obtain ⟨r, e1, e2, -⟩ := gy_of f hy hk
      rw [cv e1, cv e2, nI_1, or_0]
      by_cases z : th ≤ r
      · rw [if_pos z, if_pos z]; exact ih (k + 1) s (by omega) (by omega) hs
      · rw [if_neg z, if_neg z]
        refine ih (k + 1) _ (by omega) (by omega) (fun i i1 i2 => ?_)
        rw [b_or, hs i i1 i2, b_one k (by omega) i2, decide_eq_false (by omega)]; rfl
theorem dk_of (th : Int32) (f : Nat → Int32) {y : Nat} (hy : y < 40) : ∃ r, fX1_darkSet th f (nI y) = some r ∧ fX7_darkOf th f (nI y) = some r ∧ hi0 r :=
  dk_loop th f hy 300 0 0 (by omega) (by omega) (fun i _ _ => b_0 i)
/-! runs -/
def sR (x : Int32) (k : Nat) : Bool := bt x k && !(decide (1 ≤ k) && bt x (k - 1))
def cnS (x : Int32) : Nat → Nat
  | 0 => 0
  | k + 1 => cnS x k + if sR x k = true then 1 else 0
theorem cn_le (x : Int32) : ∀ k, cnS x k ≤ k := by
  intro k
  induction k with
  | zero => exact Nat.le_refl 0
  | succ k ih => rw [cnS]; split <;> omega
theorem cn_mono (x : Int32) (a : Nat) : ∀ m, cnS x a ≤ cnS x (a + m) := by
  intro m
  induction m with
  | zero => exact Nat.le_refl _
  | succ m ih => show cnS x a ≤ cnS x (a + m + 1); rw [cnS]; omega
theorem cn_le2 (x : Int32) {a b : Nat} (h : a ≤ b) : cnS x a ≤ cnS x b := by
  have := cn_mono x a (b - a)
  rw [show a + (b - a) = b by omega] at this
  exact this
theorem isIn_of (x : Int32) {k : Nat} (hk : k < 32) : fX1_isIn x (nI k) = some (if bt x k = true then 1 else 0) := by
  unfold fX1_isIn
  rw [bit_of x hk]
  cases bt x k
  · rw [if_neg (by decide), if_neg (by decide)]
  · rw [if_pos rfl, if_pos rfl]
theorem sr_of (x : Int32) {k : Nat} (hk : k < 32) : fX1_startsRun x (nI k) = some (if sR x k = true then 1 else 0) := by
  unfold fX1_startsRun sR
  rw [isIn_of x hk]
  cases hb : bt x k
  · rw [if_neg (by decide), c0 rfl, Bool.false_and, if_neg (by decide)]
  · rw [if_pos rfl, c1 rfl]
    by_cases h : k = 0
    · rw [h, if_pos (show nI 0 = 0 from rfl)]; rfl
    · rw [if_neg (nI_ne0 (by omega) (by omega))]
      obtain ⟨j, rfl⟩ : ∃ j, k = j + 1 := ⟨k - 1, by omega⟩
      rw [nI_pred, isIn_of x (by omega), decide_eq_true (by omega), Nat.add_sub_cancel]
      cases bt x j
      · rw [if_neg (by decide), c0 rfl]; rfl
      · rw [if_pos rfl, c1 rfl]; rfl
theorem bg_of (x : Int32) {k : Nat} (hk : k < 32) : ((x &&& ((x <<< ((1 : Int32) &&& 31)) ^^^ (-1))) >>> (nI k &&& 31)) &&& 1 = if sR x k = true then 1 else 0 := by
  rw [bit_of _ hk]
  have e : bt (x &&& ((x <<< ((1 : Int32) &&& 31)) ^^^ (-1))) k = sR x k := by
    unfold sR
    rw [b_and, b_xor, b_m1 k hk, Bool.xor_true, show (1 : Int32) = nI 1 from rfl, b_shl 1 (by omega) x hk]
  rw [e]
theorem sz_loop (x : Int32) : ∀ (n k : Nat), k ≤ 12 → 13 ≤ k + n → bX7_sizeOf_4 n (x &&& ((x <<< ((1 : Int32) &&& 31)) ^^^ (-1))) (nI (cnS x k)) (nI k) = some (nI (cnS x 12)) := by
  intro n
  induction n with
  | zero => intro k h1 h2; omega
  | succ n ih =>
    intro k h1 h2
    rw [bX7_sizeOf_4]
    by_cases q : (12 : Int32) ≤ nI k
    · have hk : k = 12 := by have := (l_le 12 (by omega) (by omega)).mp q; omega
      rw [if_pos q, hk]
    · have hk : k < 12 := by
        rcases Nat.lt_or_ge k 12 with z | z
        · exact z
        · exact absurd ((l_le 12 (by omega) (by omega)).mpr z) q
      rw [if_neg q, bg_of x (by omega), nI_1]
      have := ih (k + 1) (by omega) (by omega)
      rw [cnS] at this
      split
      · rename_i h; rw [if_pos h] at this; rw [nI_1]; exact this
      · rename_i h; rw [if_neg h] at this; rw [Int32.add_zero]; exact this
theorem sz_of (x : Int32) : cl1 (fX7_begins x) (fun r => fX7_sizeOf r) = some (nI (cnS x 12)) := sz_loop x 300 0 (by omega) (by omega)
theorem sz_of2 (x : Int32) : fX7_sizeOf (x &&& ((x <<< ((1 : Int32) &&& 31)) ^^^ (-1))) = some (nI (cnS x 12)) := sz_loop x 300 0 (by omega) (by omega)
/-- the start number j -/
theorem kth (x : Int32) (j : Nat) : ∀ m, j < cnS x m → ∃ f, f < m ∧ sR x f = true ∧ cnS x f = j := by
  intro m
  induction m with
  | zero => intro h; exact absurd h (Nat.not_lt_zero _)
  | succ m ih =>
    intro h
    rcases Nat.lt_or_ge j (cnS x m) with q | q
    · obtain ⟨f, f1, f2, f3⟩ := ih q
      exact ⟨f, by omega, f2, f3⟩
    · rw [cnS] at h
      by_cases s : sR x m = true
      · rw [if_pos s] at h; exact ⟨m, by omega, s, by omega⟩
      · rw [if_neg s] at h; omega
theorem rs_some (x : Int32) (j f : Nat) (hf : f < 12) (hs : sR x f = true) (hj : cnS x f = j) : ∀ (n k : Nat), k ≤ f → 13 ≤ k + n → bX1_runStart_4 n x (nI j) (nI (cnS x k)) (nI k) = some (nI f) := by
  intro n
  induction n with
  | zero => intro k h1 h2; omega
  | succ n ih =>
    intro k h1 h2
    have hcf := cn_le x f
    have hck := cn_le x k
    rw [bX1_runStart_4, if_neg (show ¬ (12 : Int32) ≤ nI k from fun z => by have := (l_le 12 (by omega) (by omega)).mp z; omega), sr_of x (by omega), nI_1, nI_1]
    by_cases e : k = f
    · rw [e, if_pos hs, c1 rfl, hj, if_pos rfl]
    · have hm := cn_le2 x (show k + 1 ≤ f by omega)
      have := ih (k + 1) (by omega) (by omega)
      rw [cnS] at this hm
      by_cases s : sR x k = true
      · rw [if_pos s] at this hm ⊢
        rw [c1 rfl, if_neg (fun z => by have := (nI_eq (a := cnS x k) (b := j) (by omega) (by omega)).mp z; omega)]
        exact this
      · rw [if_neg s] at this ⊢
        rw [c0 rfl]
        exact this
theorem rs_none (x p : Int32) (hp : p.toInt < 0 ∨ (cnS x 12 : Int) - 1 < p.toInt) : ∀ (n k : Nat), k ≤ 12 → 13 ≤ k + n → bX1_runStart_4 n x p (nI (cnS x k)) (nI k) = some (-9) := by
  intro n
  induction n with
  | zero => intro k h1 h2; omega
  | succ n ih =>
    intro k h1 h2
    have hck := cn_le x k
    rw [bX1_runStart_4]
    by_cases q : (12 : Int32) ≤ nI k
    · rw [if_pos q]
    · have hk : k < 12 := by
        rcases Nat.lt_or_ge k 12 with z | z
        · exact z
        · exact absurd ((l_le 12 (by omega) (by omega)).mpr z) q
      rw [if_neg q, sr_of x (by omega), nI_1, nI_1]
      have hm := cn_le2 x (show k + 1 ≤ 12 by omega)
      have := ih (k + 1) (by omega) (by omega)
      rw [cnS] at this hm
      by_cases s : sR x k = true
      · rw [if_pos s] at this hm ⊢
        rw [c1 rfl, if_neg (fun z => by rw [fa_eq, nI_toInt (by omega)] at z; omega)]
        exact this
      · rw [if_neg s] at this ⊢
        rw [c0 rfl]
        exact this
theorem rm_loop (x w : Int32) (j f : Nat) (hf : f < 12) (hs : sR x f = true) (hj : cnS x f = j) : ∀ (n k : Nat), k ≤ f → 13 ≤ k + n → bX7_run_55 n w x (nI k) (nI (j - cnS x k)) = bX7_run_94 w x (nI f) := by
  intro n
  induction n with
  | zero => intro k h1 h2; omega
  | succ n ih =>
    intro k h1 h2
    have hcf := cn_le x f
    have hck := cn_le x k
    have hmk := cn_le2 x h1
    rw [bX7_run_55]
    have eb : fX7_begins x = some (x &&& ((x <<< ((1 : Int32) &&& 31)) ^^^ (-1))) := rfl
    rw [cv eb, cv eb, bg_of x (by omega), nI_1]
    by_cases e : k = f
    · rw [e, hj, Nat.sub_self, if_neg (by decide), if_pos hs, if_neg (by decide)]
    · have hm := cn_le2 x (show k + 1 ≤ f by omega)
      have := ih (k + 1) (by omega) (by omega)
      rw [cnS] at this hm
      by_cases s : sR x k = true
      · rw [if_pos s] at this hm ⊢
        rw [if_pos (show (0 : Int32) < nI (j - cnS x k) from nI_lt (a := 0) (by omega) (by omega))]
        have e2 : nI (j - cnS x k) - 1 = nI (j - (cnS x k + 1)) := by
          rw [show j - cnS x k = (j - (cnS x k + 1)) + 1 by omega, nI_pred]
        rw [e2]
        exact this
      · rw [if_neg s] at this ⊢
        rw [Int32.sub_zero]
        split
        · exact this
        · rw [if_pos rfl]; exact this
theorem rl_loop (x w : Int32) (hx : hi0 x) (f : Nat) (hf : f < 12) : ∀ (n m : Nat), f + m ≤ 12 → 13 ≤ f + m + n → ∃ q : Nat, bX1_runLength_4 n x (nI m) (nI (f + m)) = some (nI q) ∧ bX7_run_97 n w x (nI f) (nI m) = bX7_run_117 w (nI f) (nI q) := by
  intro n
  induction n with
  | zero => intro m h1 h2; omega
  | succ n ih =>
    intro m h1 h2
    rw [bX1_runLength_4, bX7_run_97, nI_add, bit_of x (by omega), isIn_of x (by omega), nI_1, nI_1]
    by_cases q : (12 : Int32) ≤ nI (f + m)
    · have hk : f + m = 12 := by have := (l_le 12 (by omega) (by omega)).mp q; omega
      rw [if_pos q, hk, hx 12 (by omega) (by omega), if_neg (by decide)]
      exact ⟨m, rfl, rfl⟩
    · have hk : f + m < 12 := by
        rcases Nat.lt_or_ge (f + m) 12 with z | z
        · exact z
        · exact absurd ((l_le 12 (by omega) (by omega)).mpr z) q
      rw [if_neg q]
      cases hb : bt x (f + m)
      · rw [if_neg (by decide), c0 rfl, if_neg (by decide)]; exact ⟨m, rfl, rfl⟩
      · rw [if_pos rfl, c1 rfl, if_pos rfl]
        exact ih (m + 1) (by omega) (by omega)
theorem ed_loop (x : Int32) : ∀ (n k : Nat), k ≤ 12 → 13 ≤ k + n → (∀ i, i < k → bt x i = false) → ∃ r, bX1_runStart_4 n x 0 0 (nI k) = some r ∧ bX7_edgeOf_8 n x (nI k) = some r ∧ (r = -9 ∨ ∃ e : Nat, e < 12 ∧ r = nI e) := by
  intro n
  induction n with
  | zero => intro k h1 h2; omega
  | succ n ih =>
    intro k h1 h2 hb
    rw [bX1_runStart_4, bX7_edgeOf_8]
    by_cases q : (12 : Int32) ≤ nI k
    · rw [if_pos q, if_pos q]; exact ⟨_, rfl, rfl, Or.inl rfl⟩
    · have hk : k < 12 := by
        rcases Nat.lt_or_ge k 12 with z | z
        · exact z
        · exact absurd ((l_le 12 (by omega) (by omega)).mpr z) q
      rw [if_neg q, if_neg q, sr_of x (by omega), bit_of x (by omega), nI_1]
      have es : sR x k = bt x k := by
        unfold sR
        by_cases z : 1 ≤ k
        · rw [hb (k - 1) (by omega), Bool.and_false, Bool.not_false, Bool.and_true]
        · rw [decide_eq_false z, Bool.false_and, Bool.not_false, Bool.and_true]
      rw [es]
      cases hbk : bt x k
      · rw [if_neg (by decide), c0 rfl, if_neg (by decide)]
        refine ih (k + 1) (by omega) (by omega) (fun i hi => ?_)
        rcases Nat.lt_or_ge i k with z | z
        · exact hb i z
        · rw [show i = k by omega]; exact hbk
      · rw [if_pos rfl, c1 rfl, if_pos rfl, if_pos rfl]
        exact ⟨_, rfl, rfl, Or.inr ⟨k, hk, rfl⟩⟩
theorem ed_of (th : Int32) (f : Nat → Int32) {y : Nat} (hy : y < 40) : ∃ r, fX1_edgeOf th f (nI y) = some r ∧ fX7_edgeOf th f (nI y) = some r ∧ (r = -9 ∨ ∃ e : Nat, e < 12 ∧ r = nI e) := by
  obtain ⟨s, e1, e2, -⟩ := dk_of th f hy
  obtain ⟨r, r1, r2, r3⟩ := ed_loop s 300 0 (by omega) (by omega) (fun i hi => absurd hi (Nat.not_lt_zero i))
  refine ⟨r, ?_, ?_, r3⟩
  · unfold fX1_edgeOf
    rw [cv e1, cv (show fX1_runStart s 0 = some r from r1)]
  · unfold fX7_edgeOf
    rw [cv e2]; exact r2
set_option maxHeartbeats 1000000 in
theorem st_pixel (f6_leads : Nat → Int32) (f0_offset : Nat → Int32) (f0_gain : Nat → Int32) (f0_dark : Nat → Int32) (f0_bright : Nat → Int32) (v3_ground : Int32) (v3_patches : Int32) (f3_firstRow : Nat → Int32) (f3_lastRow : Nat → Int32) (f3_firstColumn : Nat → Int32) (f3_lastColumn : Nat → Int32) (f3_slants : Nat → Int32) (f3_tints : Nat → Int32) (f3_specks : Nat → Int32) (v4_count : Int32) (f4_kinds : Nat → Int32) (f4_numbers : Nat → Int32) (v5_on : Int32) (v5_lines : Int32) (v5_reach : Int32) (v5_positions : Int32) (v5_queued : Int32) (v5_position : Int32) (v5_next : Int32) (v5_mode : Int32) (v5_outTicks : Int32) (v5_stops : Int32) (v5_ticked : Int32) (v1_count : Int32) (v1_threshold : Int32) (f1_values : Nat → Int32) (v7_done : Int32) (v7_lastPosition : Int32) (p1 : Int32) (p2 : Int32) (p3 : Int32) (hI : Iv f6_leads f0_offset f0_gain f0_dark f0_bright v3_ground v3_patches f3_firstRow f3_lastRow f3_firstColumn f3_lastColumn f3_slants f3_tints f3_specks v4_count f4_kinds f4_numbers v5_on v5_lines v5_reach v5_positions v5_queued v5_position v5_next v5_mode v5_outTicks v5_stops v5_ticked v1_count v1_threshold f1_values v7_done v7_lastPosition) : ∃ (r : Int32), fX6_pixel v1_count f1_values p1 p2 p3 = some r ∧ fX7_pixel v1_count f1_values p1 p2 p3 = some r := by
  obtain ⟨hc, hp, hl, hk, h1, h2, ⟨h3, h3'⟩, h4⟩ := hI
  obtain ⟨C, hC, rfl⟩ := of_rg (n := 40) h3 h3' (by omega)
  unfold fX6_pixel fX7_pixel
  rcases ht_cases C hC p1 with ⟨e1, e2⟩ | ⟨e1, e2, y, hy, rfl⟩
  · exact ⟨_, c0 e1, c0 e2⟩
  rw [c1 e1, c1 e2]
  rcases ce_cases p2 p3 with h | ⟨h, c, k, k1, k2, rfl, rfl⟩
  · exact ⟨_, c0 h, c0 h⟩
  rw [c1 h, eM_isCell, c1 h, cv (show fX0_place (nI c) (nI k) = some (nI (c * 12 + k)) from congrArg some (pl_a c k)), i36_a, Int32.add_assoc, pl_b, i36_b]
  have v := vin (show y * 36 + (c * 12 + k) < 1440 by omega) (by omega)
  exact sm_ckI v v (sm_som _)
set_option maxHeartbeats 1000000 in
theorem st_grey (f6_leads : Nat → Int32) (f0_offset : Nat → Int32) (f0_gain : Nat → Int32) (f0_dark : Nat → Int32) (f0_bright : Nat → Int32) (v3_ground : Int32) (v3_patches : Int32) (f3_firstRow : Nat → Int32) (f3_lastRow : Nat → Int32) (f3_firstColumn : Nat → Int32) (f3_lastColumn : Nat → Int32) (f3_slants : Nat → Int32) (f3_tints : Nat → Int32) (f3_specks : Nat → Int32) (v4_count : Int32) (f4_kinds : Nat → Int32) (f4_numbers : Nat → Int32) (v5_on : Int32) (v5_lines : Int32) (v5_reach : Int32) (v5_positions : Int32) (v5_queued : Int32) (v5_position : Int32) (v5_next : Int32) (v5_mode : Int32) (v5_outTicks : Int32) (v5_stops : Int32) (v5_ticked : Int32) (v1_count : Int32) (v1_threshold : Int32) (f1_values : Nat → Int32) (v7_done : Int32) (v7_lastPosition : Int32) (p1 : Int32) (p2 : Int32) (hI : Iv f6_leads f0_offset f0_gain f0_dark f0_bright v3_ground v3_patches f3_firstRow f3_lastRow f3_firstColumn f3_lastColumn f3_slants f3_tints f3_specks v4_count f4_kinds f4_numbers v5_on v5_lines v5_reach v5_positions v5_queued v5_position v5_next v5_mode v5_outTicks v5_stops v5_ticked v1_count v1_threshold f1_values v7_done v7_lastPosition) : ∃ (r : Int32), fX6_grey v1_count f1_values p1 p2 = some r ∧ fX7_grey v1_count f1_values p1 p2 = some r := by
  obtain ⟨hc, hp, hl, hk, h1, h2, ⟨h3, h3'⟩, h4⟩ := hI
  obtain ⟨C, hC, rfl⟩ := of_rg (n := 40) h3 h3' (by omega)
  unfold fX6_grey fX7_grey
  rcases ht_cases C hC p1 with ⟨e1, e2⟩ | ⟨e1, e2, y, hy, rfl⟩
  · exact ⟨_, c0 e1, c0 e2⟩
  rw [c1 e1, c1 e2]
  rcases cm_cases p2 with ⟨h, -⟩ | ⟨h, k, hk12, rfl⟩
  · exact ⟨_, c0 h, c0 h⟩
  rw [c1 h, eM_isColumn, c1 h]
  obtain ⟨r, r1, r2, -⟩ := gy_of f1_values (show y < 40 by omega) hk12
  rw [cv r1, cv r2]; exact sm_som _
set_option maxHeartbeats 1000000 in
theorem st_dark (f6_leads : Nat → Int32) (f0_offset : Nat → Int32) (f0_gain : Nat → Int32) (f0_dark : Nat → Int32) (f0_bright : Nat → Int32) (v3_ground : Int32) (v3_patches : Int32) (f3_firstRow : Nat → Int32) (f3_lastRow : Nat → Int32) (f3_firstColumn : Nat → Int32) (f3_lastColumn : Nat → Int32) (f3_slants : Nat → Int32) (f3_tints : Nat → Int32) (f3_specks : Nat → Int32) (v4_count : Int32) (f4_kinds : Nat → Int32) (f4_numbers : Nat → Int32) (v5_on : Int32) (v5_lines : Int32) (v5_reach : Int32) (v5_positions : Int32) (v5_queued : Int32) (v5_position : Int32) (v5_next : Int32) (v5_mode : Int32) (v5_outTicks : Int32) (v5_stops : Int32) (v5_ticked : Int32) (v1_count : Int32) (v1_threshold : Int32) (f1_values : Nat → Int32) (v7_done : Int32) (v7_lastPosition : Int32) (p1 : Int32) (hI : Iv f6_leads f0_offset f0_gain f0_dark f0_bright v3_ground v3_patches f3_firstRow f3_lastRow f3_firstColumn f3_lastColumn f3_slants f3_tints f3_specks v4_count f4_kinds f4_numbers v5_on v5_lines v5_reach v5_positions v5_queued v5_position v5_next v5_mode v5_outTicks v5_stops v5_ticked v1_count v1_threshold f1_values v7_done v7_lastPosition) : ∃ (r : Int32), fX6_dark v1_count v1_threshold f1_values p1 = some r ∧ fX7_dark v1_threshold v1_count f1_values p1 = some r := by
  obtain ⟨hc, hp, hl, hk, h1, h2, ⟨h3, h3'⟩, h4⟩ := hI
  obtain ⟨C, hC, rfl⟩ := of_rg (n := 40) h3 h3' (by omega)
  unfold fX6_dark fX7_dark
  rcases ht_cases C hC p1 with ⟨e1, e2⟩ | ⟨e1, e2, y, hy, rfl⟩
  · exact ⟨_, c0 e1, c0 e2⟩
  rw [c1 e1, c1 e2]
  obtain ⟨r, r1, r2, -⟩ := dk_of v1_threshold f1_values (show y < 40 by omega)
  rw [cv r1, cv r2]; exact sm_som _
set_option maxHeartbeats 1000000 in
theorem st_edge (f6_leads : Nat → Int32) (f0_offset : Nat → Int32) (f0_gain : Nat → Int32) (f0_dark : Nat → Int32) (f0_bright : Nat → Int32) (v3_ground : Int32) (v3_patches : Int32) (f3_firstRow : Nat → Int32) (f3_lastRow : Nat → Int32) (f3_firstColumn : Nat → Int32) (f3_lastColumn : Nat → Int32) (f3_slants : Nat → Int32) (f3_tints : Nat → Int32) (f3_specks : Nat → Int32) (v4_count : Int32) (f4_kinds : Nat → Int32) (f4_numbers : Nat → Int32) (v5_on : Int32) (v5_lines : Int32) (v5_reach : Int32) (v5_positions : Int32) (v5_queued : Int32) (v5_position : Int32) (v5_next : Int32) (v5_mode : Int32) (v5_outTicks : Int32) (v5_stops : Int32) (v5_ticked : Int32) (v1_count : Int32) (v1_threshold : Int32) (f1_values : Nat → Int32) (v7_done : Int32) (v7_lastPosition : Int32) (p1 : Int32) (hI : Iv f6_leads f0_offset f0_gain f0_dark f0_bright v3_ground v3_patches f3_firstRow f3_lastRow f3_firstColumn f3_lastColumn f3_slants f3_tints f3_specks v4_count f4_kinds f4_numbers v5_on v5_lines v5_reach v5_positions v5_queued v5_position v5_next v5_mode v5_outTicks v5_stops v5_ticked v1_count v1_threshold f1_values v7_done v7_lastPosition) : ∃ (r : Int32), fX6_edge v1_count v1_threshold f1_values p1 = some r ∧ fX7_edge v1_threshold v1_count f1_values p1 = some r := by
  obtain ⟨hc, hp, hl, hk, h1, h2, ⟨h3, h3'⟩, h4⟩ := hI
  obtain ⟨C, hC, rfl⟩ := of_rg (n := 40) h3 h3' (by omega)
  unfold fX6_edge fX7_edge
  rcases ht_cases C hC p1 with ⟨e1, e2⟩ | ⟨e1, e2, y, hy, rfl⟩
  · exact ⟨_, c0 e1, c0 e2⟩
  rw [c1 e1, c1 e2]
  obtain ⟨r, r1, r2, -⟩ := ed_of v1_threshold f1_values (show y < 40 by omega)
  rw [cv r1, cv r2]; exact sm_som _
set_option maxHeartbeats 1000000 in
theorem st_run (f6_leads : Nat → Int32) (f0_offset : Nat → Int32) (f0_gain : Nat → Int32) (f0_dark : Nat → Int32) (f0_bright : Nat → Int32) (v3_ground : Int32) (v3_patches : Int32) (f3_firstRow : Nat → Int32) (f3_lastRow : Nat → Int32) (f3_firstColumn : Nat → Int32) (f3_lastColumn : Nat → Int32) (f3_slants : Nat → Int32) (f3_tints : Nat → Int32) (f3_specks : Nat → Int32) (v4_count : Int32) (f4_kinds : Nat → Int32) (f4_numbers : Nat → Int32) (v5_on : Int32) (v5_lines : Int32) (v5_reach : Int32) (v5_positions : Int32) (v5_queued : Int32) (v5_position : Int32) (v5_next : Int32) (v5_mode : Int32) (v5_outTicks : Int32) (v5_stops : Int32) (v5_ticked : Int32) (v1_count : Int32) (v1_threshold : Int32) (f1_values : Nat → Int32) (v7_done : Int32) (v7_lastPosition : Int32) (p1 : Int32) (p2 : Int32) (p3 : Int32) (hI : Iv f6_leads f0_offset f0_gain f0_dark f0_bright v3_ground v3_patches f3_firstRow f3_lastRow f3_firstColumn f3_lastColumn f3_slants f3_tints f3_specks v4_count f4_kinds f4_numbers v5_on v5_lines v5_reach v5_positions v5_queued v5_position v5_next v5_mode v5_outTicks v5_stops v5_ticked v1_count v1_threshold f1_values v7_done v7_lastPosition) : ∃ (r : Int32), fX6_run v1_count v1_threshold f1_values p1 p2 p3 = some r ∧ fX7_run v1_threshold v1_count f1_values p1 p2 p3 = some r := by
  obtain ⟨hc, hp, hl, hk, h1, h2, ⟨h3, h3'⟩, h4⟩ := hI
  obtain ⟨C, hC, rfl⟩ := of_rg (n := 40) h3 h3' (by omega)
  unfold fX6_run fX7_run
  rcases ht_cases C hC p1 with ⟨e1, e2⟩ | ⟨e1, e2, y, hy, rfl⟩
  · exact ⟨_, c0 e1, c0 e2⟩
  rw [c1 e1, c1 e2]
  obtain ⟨s, s1, s2, s3⟩ := dk_of v1_threshold f1_values (show y < 40 by omega)
  rw [cv s1, cv s2, cv (show fX7_begins s = some (s &&& ((s <<< ((1 : Int32) &&& 31)) ^^^ (-1))) from rfl), cv (sz_of2 s)]
  have ct := cn_le s 12
  have eT : (nI (cnS s 12) - 1).toInt = (cnS s 12 : Int) - 1 := pk_sub_toInt (a := cnS s 12) (b := 1) (by omega) (by omega)
  rcases wi_cases p2 0 (nI (cnS s 12) - 1) with ⟨h, b⟩ | ⟨h, b1, b2⟩
  · have b' : p2.toInt < 0 ∨ (nI (cnS s 12) - 1).toInt < p2.toInt := b
    rw [eT] at b'
    have e := rs_none s p2 b' 300 0 (by omega) (by omega)
    rw [cv (show fX1_runStart s p2 = some (-9) from e), if_pos rfl, eM_within, c0 h]
    exact sm_som _
  · have b1' : 0 ≤ p2.toInt := b1
    rw [eT] at b2
    obtain ⟨j, hj, rfl⟩ := of_rg (x := p2) (n := 12) (by omega) (by omega) (by omega)
    rw [nI_toInt (by omega)] at b2
    obtain ⟨f, f1, f2, f3⟩ := kth s j 12 (by omega)
    have e := rs_some s j f f1 f2 f3 300 0 (by omega) (by omega)
    rw [cv (show fX1_runStart s (nI j) = some (nI f) from e), if_neg (show ¬ nI f = -9 from fun z => by rw [fa_eq, nI_toInt (by omega)] at z; have z' : (f : Int) = -9 := z; omega), eM_within, c1 h]
    have em := fun w : Int32 => rm_loop s w j f f1 f2 f3 300 0 (by omega) (by omega)
    have el := fun w : Int32 => rl_loop s w s3 f f1 300 0 (by omega) (by omega)
    by_cases w0 : p3 = 0
    · rw [if_pos w0, w0, eM_within, c1 (show fX2_within 0 0 1 = some 1 from by decide)]
      obtain ⟨q, q1, q2⟩ := el 0
      refine ⟨nI f, rfl, ?_⟩
      have := em 0
      rw [show cnS s 0 = 0 from rfl, Nat.sub_zero] at this
      exact (this.trans q2)
    · rw [if_neg w0]
      by_cases w1 : p3 = 1
      · rw [if_pos w1, w1, eM_within, c1 (show fX2_within 1 0 1 = some 1 from by decide)]
        obtain ⟨q, q1, q2⟩ := el 1
        rw [cv (show fX1_runLength s (nI f) = some (nI q) from q1)]
        refine ⟨nI q, rfl, ?_⟩
        have := em 1
        rw [show cnS s 0 = 0 from rfl, Nat.sub_zero] at this
        exact (this.trans q2)
      · rw [if_neg w1]
        rcases wi_cases p3 0 1 with ⟨h, -⟩ | ⟨h, b3, b4⟩
        · rw [eM_within, c0 h]; exact sm_som _
        · exfalso
          have b3' : 0 ≤ p3.toInt := b3
          have b4' : p3.toInt ≤ 1 := b4
          rw [fa_eq] at w0 w1
          have w0' : ¬ p3.toInt = 0 := w0
          have w1' : ¬ p3.toInt = 1 := w1
          omega

/-! cells -/
def Lv (d b : Nat → Int32) (i : Nat) : Prop := 16 ≤ (b i).toInt - (d i).toInt
noncomputable def mn (x : Int32) : Int32 := if x < (255 : Int32) then x else (255 : Int32)
theorem rd_X {o g : Nat → Int32} {i : Nat} (hi : i < 36) (v : Int32) : fX0_readingOf o g (nI i) v = some (mn (o i + v * g i / 64)) := by
  unfold fX0_readingOf
  rw [ckI_ok (vin hi (by omega)), ckI_ok (vin hi (by omega)), nI_clamp (by omega)]
  rfl
theorem rd_M {o g : Nat → Int32} (p v : Int32) : fX7_readingOf o g p v = fX0_readingOf o g p v := by
  unfold fX7_readingOf fX0_readingOf
  rw [eM_atMost]
theorem lv_cases {o g d b : Nat → Int32} (hc : cOK o g d b) {i : Nat} (hi : i < 36) :
    (fX0_isLive d b (nI i) = some 0 ∧ fX7_isLive d b (nI i) = some 0 ∧ ¬ Lv d b i) ∨ (fX0_isLive d b (nI i) = some 1 ∧ fX7_isLive d b (nI i) = some 1 ∧ Lv d b i) := by
  obtain ⟨-, -, ⟨h1, h2⟩, h3, h4⟩ := hc i hi
  unfold fX0_isLive fX7_isLive
  have v := vin hi (show 36 < 2 ^ 31 by omega)
  rw [ckI_ok v, ckI_ok v, ckI_ok v, ckI_ok v, nI_clamp (by omega)]
  have e1 : (b i - d i).toInt = (b i).toInt - (d i).toInt := fb_subI (by omega) (by omega)
  have e2 : (d i + (16 : Int32)).toInt = (d i).toInt + 16 := fb_addI (by show _ ≤ _ + (16 : Int); omega) (by show _ + (16 : Int) < _; omega)
  by_cases h : Lv d b i
  · right
    have h' : 16 ≤ (b i).toInt - (d i).toInt := h
    refine ⟨if_neg ?_, if_neg ?_, h⟩
    · rw [fa_lt, e1]; show ¬ _ < (16 : Int); omega
    · rw [fa_lt, e2]; omega
  · left
    have h' : ¬ 16 ≤ (b i).toInt - (d i).toInt := h
    refine ⟨if_pos ?_, if_pos ?_, h⟩
    · rw [fa_lt, e1]; show _ < (16 : Int); omega
    · rw [fa_lt, e2]; omega
theorem cl_loop {o g d b : Nat → Int32} (hc : cOK o g d b) : ∀ (n i : Nat) (a : Int32), i ≤ 36 → 37 ≤ i + n → Same (bX0_countLive_4 d b n a (nI i)) (bX7_manyLive_4 d b n a (nI i)) := by
  intro n
  induction n with
  | zero => intro i a h1 h2; omega
  | succ n ih =>
    intro i a h1 h2
    rw [bX0_countLive_4, bX7_manyLive_4]
    refine sm_ite Iff.rfl (fun _ => sm_som _) (fun h => ?_)
    have hi : i < 36 := by
      rcases Nat.lt_or_ge i 36 with q | q
      · exact q
      · exact absurd ((l_le 36 (by omega) (by omega)).mpr q) h
    rcases lv_cases hc hi with ⟨e1, e2, -⟩ | ⟨e1, e2, -⟩
    · rw [c0 e1, c0 e2, Int32.add_zero, nI_1]; exact ih (i + 1) a (by omega) (by omega)
    · rw [c1 e1, c1 e2, nI_1]; exact ih (i + 1) _ (by omega) (by omega)
theorem cl_same {o g d b : Nat → Int32} (hc : cOK o g d b) : Same (fX0_countLive d b) (fX7_manyLive d b) := cl_loop hc 300 0 0 (by omega) (by omega)
theorem ev_same {o g d b : Nat → Int32} (hc : cOK o g d b) {i : Nat} (hi : i < 36) (hl : Lv d b i) (x : Int32) : Same (fX0_evenOf d b (nI i) x) (fX7_evenOf d b (nI i) x) := by
  obtain ⟨-, -, ⟨h1, h2⟩, h3, h4⟩ := hc i hi
  have h' : 16 ≤ (b i).toInt - (d i).toInt := hl
  unfold fX0_evenOf fX7_evenOf
  have v := vin hi (show 36 < 2 ^ 31 by omega)
  rw [nI_clamp (by omega)]
  refine sm_ckI v v (sm_ite Iff.rfl (fun _ => sm_ckI v v (sm_ckI v v (sm_ckI v v ?_))) (fun _ => sm_som _))
  have e1 : (b i - d i).toInt = (b i).toInt - (d i).toInt := fb_subI (by omega) (by omega)
  obtain ⟨q1, r, q2⟩ := eM_rounded (u := (255 : Int32) * (x - d i)) (d := b i - d i) (by omega) (by omega)
  rw [q1, q2]
  show Same (cl1 (fX2_atMostTop r) (fun r6 => some r6)) (cl1 (fX7_atMost r 255) (fun r6 => some r6))
  rw [eM_atMost]
  exact sm_som _
theorem toI_mn (x : Int32) : (mn x).toInt = if x.toInt < 255 then x.toInt else 255 := by
  unfold mn
  by_cases h : x < 255
  · rw [if_pos h, if_pos (show x.toInt < 255 from (fa_lt _ _).mp h)]
  · rw [if_neg h, if_neg (fun q : x.toInt < 255 => h ((fa_lt _ _).mpr q))]; rfl
/-- a reading is 0 .. 255 -/
theorem rd_rg {o g : Int32} (ho : rg o 0 63) (hg : rg g 0 127) (v : Int32) (hv : v = 0 ∨ v = 255) : rg (mn (o + v * g / 64)) 0 255 := by
  obtain ⟨a1, a2⟩ := ho
  obtain ⟨b1, b2⟩ := hg
  have hv2 : 0 ≤ v.toInt ∧ v.toInt ≤ 255 := by rcases hv with rfl | rfl <;> decide
  obtain ⟨G, hG, rfl⟩ := of_rg (n := 127) b1 b2 (by omega)
  obtain ⟨V, hV, rfl⟩ := of_rg (n := 255) hv2.1 hv2.2 (by omega)
  have m1 : V * G ≤ 255 * 127 := Nat.mul_le_mul hV hG
  have e : nI V * nI G / 64 = nI (V * G / 64) := by
    rw [pk_mul]; exact pk_div (d := 64) (by omega) (by omega) (by omega)
  rw [e]
  have m2 : V * G / 64 ≤ 600 := by omega
  have e2 : (nI (V * G / 64)).toInt = ((V * G / 64 : Nat) : Int) := nI_toInt (by omega)
  have e3 : (o + nI (V * G / 64)).toInt = o.toInt + ((V * G / 64 : Nat) : Int) := by
    rw [fb_addI (by rw [e2]; omega) (by rw [e2]; omega), e2]
  unfold rg
  rw [toI_mn, e3]
  split <;> omega
theorem up_at {f : Nat → Int32} {k : Nat} {x : Int32} : upd f k x k = x := if_pos rfl
theorem up_ne {f : Nat → Int32} {k j : Nat} {x : Int32} (h : j ≠ k) : upd f k x j = f j := if_neg h
theorem up_same (f : Nat → Int32) (k : Nat) : upd f k (f k) = f := by
  funext j
  by_cases h : j = k
  · rw [h]; exact up_at
  · exact up_ne h
/-- one strip: both go over the cells, and write the same -/
theorem st_loop {o g : Nat → Int32} (w : Int32) (hw : w = 0 ∨ w = 1) : ∀ (n i : Nat) (d b : Nat → Int32), cOK o g d b → i ≤ 36 → 37 ≤ i + n →
    ∃ d2 b2, bX0_readStrip_2 o g n d b w (nI i) = some (d2, b2) ∧ cOK o g d2 b2 ∧ bX7_strip_24 o g n d b w (nI i) = cl1 (fX7_manyLive d2 b2) (fun r2 => some (r2, d2, b2)) := by
  intro n
  induction n with
  | zero => intro i d b _ h1 h2; omega
  | succ n ih =>
    intro i d b hc h1 h2
    rw [bX0_readStrip_2, bX7_strip_24]
    by_cases h : (36 : Int32) ≤ nI i
    · exact ⟨d, b, by rw [if_pos h], hc, by rw [if_pos h]⟩
    · have hi : i < 36 := by
        rcases Nat.lt_or_ge i 36 with q | q
        · exact q
        · exact absurd ((l_le 36 (by omega) (by omega)).mpr q) h
      have v := vin hi (show 36 < 2 ^ 31 by omega)
      rw [if_neg h, if_neg h]
      have hcl : (nI i).toNatClampNeg = i := nI_clamp (by omega)
      rcases hw with rfl | rfl
      · rw [if_pos rfl, if_pos rfl, rd_M, cv (rd_X hi 0), cv (rd_X hi 0), ckI_ok v, ckI_ok v, if_neg (by decide), ckI_ok v, ckI_ok v, hcl, up_same, nI_1]
        refine ih (i + 1) _ _ (fun j hj => ?_) (by omega) (by omega)
        obtain ⟨q1, q2, q3, q4⟩ := hc j hj
        refine ⟨q1, q2, ?_, q4⟩
        by_cases e : j = i
        · rw [e, up_at]; exact rd_rg (hc i hi).1 (hc i hi).2.1 0 (Or.inl rfl)
        · rw [up_ne e]; exact q3
      · rw [if_neg (by decide), if_neg (by decide), rd_M, cv (rd_X hi 255), ckI_ok v, ckI_ok v, ckI_ok v, if_pos rfl, cv (rd_X hi 255), ckI_ok v, hcl, up_same, nI_1]
        refine ih (i + 1) _ _ (fun j hj => ?_) (by omega) (by omega)
        obtain ⟨q1, q2, q3, q4⟩ := hc j hj
        refine ⟨q1, q2, q3, ?_⟩
        by_cases e : j = i
        · rw [e, up_at]; exact rd_rg (hc i hi).1 (hc i hi).2.1 255 (Or.inr rfl)
        · rw [up_ne e]; exact q4

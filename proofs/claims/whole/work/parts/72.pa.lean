/-! two options that hold the same -/
def Same {α : Type} (x y : Option α) : Prop := ∃ r, x = some r ∧ y = some r
theorem sm_som {α : Type} (r : α) : Same (some r) (some r) := ⟨r, rfl, rfl⟩
theorem sm_ite {α : Type} {c c' : Prop} {i : Decidable c} {i' : Decidable c'} {a b a' b' : Option α} (e : c ↔ c') (h1 : c → Same a a') (h2 : ¬ c → Same b b') : Same (@ite _ c i a b) (@ite _ c' i' a' b') := by
  by_cases h : c
  · rw [if_pos h, if_pos (e.mp h)]; exact h1 h
  · rw [if_neg h, if_neg (fun q => h (e.mpr q))]; exact h2 h
theorem sm_call {α β : Type} {x y : Option α} {k k' : α → Option β} (h : Same x y) (hk : ∀ r, x = some r → Same (k r) (k' r)) : Same (cl1 x k) (cl1 y k') := by
  obtain ⟨r, h1, h2⟩ := h
  subst h1
  subst h2
  exact hk r rfl
theorem sm_ckI {α : Type} {i j : Int32} {n m : Nat} {a a' : Option α} (hi : vp_in i n) (hj : vp_in j m) (h : Same a a') : Same (ckI i n a) (ckI j m a') := by
  rw [ckI_ok hi, ckI_ok hj]; exact h
theorem c0 {α : Type} {x : Option Int32} {A B : Int32 → Option α} (h : x = some 0) : cl1 x (fun r => if r = 0 then A r else B r) = A 0 := by
  subst h; show (if (0 : Int32) = 0 then A 0 else B 0) = A 0; exact if_pos rfl
theorem c1 {α : Type} {x : Option Int32} {A B : Int32 → Option α} (h : x = some 1) : cl1 x (fun r => if r = 0 then A r else B r) = B 1 := by
  subst h; show (if (1 : Int32) = 0 then A 1 else B 1) = B 1; exact if_neg (by decide)
theorem cv {α β : Type} {x : Option α} {k : α → Option β} {r : α} (h : x = some r) : cl1 x k = k r := by subst h; rfl
/-! ranges -/
theorem wi_cases (v a b : Int32) : fX2_within v a b = some 0 ∧ (v.toInt < a.toInt ∨ b.toInt < v.toInt) ∨ (fX2_within v a b = some 1 ∧ a.toInt ≤ v.toInt ∧ v.toInt ≤ b.toInt) := by
  unfold fX2_within
  by_cases h : v < a
  · left; rw [if_pos h]; exact ⟨rfl, Or.inl ((fa_lt _ _).mp h)⟩
  · rw [if_neg h]
    by_cases h2 : b < v
    · left; rw [if_pos h2]; exact ⟨rfl, Or.inr ((fa_lt _ _).mp h2)⟩
    · right; rw [if_neg h2]
      rw [fa_lt] at h h2
      exact ⟨rfl, by omega, by omega⟩
theorem of_rg {x : Int32} {n : Nat} (h1 : 0 ≤ x.toInt) (h2 : x.toInt ≤ n) (hn : n < 2 ^ 31) : ∃ i : Nat, i ≤ n ∧ x = nI i := by
  refine ⟨x.toInt.toNat, by omega, ?_⟩
  apply Int32.toInt_inj.mp
  rw [nI_toInt (by omega)]
  omega
theorem co_cases (p : Int32) : fX6_isColour p = some 0 ∨ (fX6_isColour p = some 1 ∧ ∃ c : Nat, c < 3 ∧ p = nI c) := by
  unfold fX6_isColour
  rcases wi_cases p 0 2 with ⟨h, -⟩ | ⟨h, h1, h2⟩
  · left; rw [cv h, ckB_ok (Or.inl rfl)]
  · right
    obtain ⟨c, hc, e⟩ := of_rg (n := 2) h1 h2 (by omega)
    exact ⟨by rw [cv h, ckB_ok (Or.inr rfl)], c, by omega, e⟩
theorem cm_cases (p : Int32) : fX6_isColumn p = some 0 ∧ (p.toInt < 0 ∨ 11 < p.toInt) ∨ (fX6_isColumn p = some 1 ∧ ∃ c : Nat, c < 12 ∧ p = nI c) := by
  unfold fX6_isColumn
  rcases wi_cases p 0 11 with ⟨h, h2⟩ | ⟨h, h1, h2⟩
  · left; exact ⟨by rw [cv h, ckB_ok (Or.inl rfl)], h2⟩
  · right
    obtain ⟨c, hc, e⟩ := of_rg (n := 11) h1 h2 (by omega)
    exact ⟨by rw [cv h, ckB_ok (Or.inr rfl)], c, by omega, e⟩
theorem ce_cases (p q : Int32) : fX6_isCell p q = some 0 ∨ (fX6_isCell p q = some 1 ∧ ∃ c k : Nat, c < 3 ∧ k < 12 ∧ p = nI c ∧ q = nI k) := by
  unfold fX6_isCell
  rcases co_cases p with h | ⟨h, c, hc, rfl⟩
  · left; rw [c0 h]
  · rw [c1 h]
    rcases cm_cases q with ⟨h2, -⟩ | ⟨h2, k, hk, rfl⟩
    · left; rw [c0 h2]
    · right; rw [c1 h2]; exact ⟨rfl, c, k, hc, hk, rfl, rfl⟩
theorem eM_within (v a b : Int32) : fX7_within v a b = fX2_within v a b := rfl
theorem eM_isColour (p : Int32) : fX7_isColour p = fX6_isColour p := rfl
theorem eM_isColumn (p : Int32) : fX7_isColumn p = fX6_isColumn p := rfl
theorem eM_isCell (p q : Int32) : fX7_isCell p q = fX6_isCell p q := rfl
theorem eM_atMost (x : Int32) : fX7_atMost x 255 = fX2_atMostTop x := by
  unfold fX7_atMost fX2_atMostTop
  by_cases h : x ≤ 255
  · rw [if_pos h]
    by_cases h2 : x < 255
    · rw [if_pos h2]
    · rw [if_neg h2]
      have e : x = 255 := by
        rw [fa_le] at h; rw [fa_lt] at h2; rw [fa_eq]; omega
      rw [e]
  · rw [if_neg h, if_neg (fun h2 => h (by rw [fa_lt] at h2; rw [fa_le]; omega))]
theorem eM_atLeast (x : Int32) : fX7_atLeast x 0 = some (if 0 < x then x else 0) := by
  unfold fX7_atLeast
  by_cases h : 0 ≤ x
  · rw [if_pos h]
    by_cases h2 : 0 < x
    · rw [if_pos h2]
    · rw [if_neg h2]
      have e : x = 0 := by
        rw [fa_le] at h; rw [fa_lt] at h2; rw [fa_eq]; omega
      rw [e]
  · rw [if_neg h, if_neg (fun h2 => h (by rw [fa_lt] at h2; rw [fa_le]; omega))]
theorem eM_rounded {u d : Int32} (h : 1 ≤ d.toInt) (h2 : d.toInt < 1000) : fX7_rounded u d = fX2_rounded u d ∧ ∃ r, fX2_rounded u d = some r := by
  unfold fX7_rounded fX2_rounded
  have e : ((2 : Int32) * d).toInt = 2 * d.toInt := by
    rw [fb_mulI (by show _ ≤ 2 * d.toInt; omega) (by show 2 * d.toInt < _; omega)]; rfl
  have hz : ¬ (2 : Int32) * d = 0 := by
    rw [fa_eq, e]; show ¬ 2 * d.toInt = 0; omega
  rw [if_pos (by rw [fa_le]; exact h), ckZ_ok hz]
  exact ⟨rfl, _, rfl⟩
theorem vin {i n : Nat} (h : i < n) (hn : n < 2 ^ 31) : vp_in (nI i) n := vp_in_nI h hn
theorem pl_a (c k : Nat) : nI c * (12 : Int32) + nI k = nI (c * 12 + k) := by
  show nI c * nI 12 + nI k = _
  rw [pk_mul, nI_add]
theorem pl_b (c k : Nat) : (12 : Int32) * nI c + nI k = nI (c * 12 + k) := by
  rw [Int32.mul_comm]; exact pl_a c k
theorem l_le {i : Nat} (k : Nat) (hk : k < 2 ^ 31) (hi : i < 2 ^ 31) : nI k ≤ nI i ↔ k ≤ i := nI_leI hk hi

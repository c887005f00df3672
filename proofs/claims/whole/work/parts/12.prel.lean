/-! small pure words of the printed functions: checks, calls -/
noncomputable def ckI {α : Type} (i : Int32) (n : Nat) (k : Option α) : Option α := if i < 0 ∨ n ≤ i.toNatClampNeg then none else k
noncomputable def ckZ {α : Type} (y : Int32) (k : Option α) : Option α := if y = 0 then none else k
noncomputable def ckL {α : Type} (y : Int64) (k : Option α) : Option α := if y = 0 then none else k
noncomputable def ckB {α : Type} (r : Int32) (k : Option α) : Option α := if r &&& 1 = r then k else none
theorem ckI_sp {α : Type} {i : Int32} {n : Nat} {k : Option α} {R : α} (h : ckI i n k = some R) : vp_in i n ∧ k = some R := by
  unfold ckI at h
  split at h
  · cases h
  · exact ⟨by assumption, h⟩
theorem ckZ_sp {α : Type} {y : Int32} {k : Option α} {R : α} (h : ckZ y k = some R) : ¬ y = 0 ∧ k = some R := by
  unfold ckZ at h
  split at h
  · cases h
  · exact ⟨by assumption, h⟩
theorem ckL_sp {α : Type} {y : Int64} {k : Option α} {R : α} (h : ckL y k = some R) : ¬ y = 0 ∧ k = some R := by
  unfold ckL at h
  split at h
  · cases h
  · exact ⟨by assumption, h⟩
theorem ckB_sp {α : Type} {r : Int32} {k : Option α} {R : α} (h : ckB r k = some R) : narrow .boolean (.int r) = .int r ∧ k = some R := by
  unfold ckB at h
  split at h
  · rename_i q
    exact ⟨by show Value.int (r &&& 1) = .int r; rw [q], h⟩
  · cases h
theorem ckI_ok {α : Type} {i : Int32} {n : Nat} {k : Option α} (h : vp_in i n) : ckI i n k = k := if_neg h
theorem ckZ_ok {α : Type} {y : Int32} {k : Option α} (h : ¬ y = 0) : ckZ y k = k := if_neg h
theorem ckL_ok {α : Type} {y : Int64} {k : Option α} (h : ¬ y = 0) : ckL y k = k := if_neg h
theorem ckB_ok {α : Type} {r : Int32} {k : Option α} (h : r = 0 ∨ r = 1) : ckB r k = k := by
  rcases h with rfl | rfl <;> exact if_pos (by decide)
theorem it_p {α : Type} {c : Prop} {i : Decidable c} {a b : Option α} {R : α} (hc : c) (h : @ite _ c i a b = some R) : a = some R := (if_pos hc).symm.trans h
theorem it_n {α : Type} {c : Prop} {i : Decidable c} {a b : Option α} {R : α} (hc : ¬ c) (h : @ite _ c i a b = some R) : b = some R := (if_neg hc).symm.trans h
noncomputable def cl1 {α0 γ : Type} (x : Option (α0)) (k : α0 → Option γ) : Option γ := match x with | none => none | some x0 => k x0
theorem cl1_sp {α0 γ : Type} {x : Option (α0)} {k : α0 → Option γ} {R : γ} (h : cl1 x k = some R) : ∃ x0, x = some x0 ∧ k x0 = some R := by
  cases x with
  | none => cases h
  | some z => exact ⟨z, rfl, h⟩
theorem cl1_ok {α0 γ : Type} {k : α0 → Option γ} {x0 : α0} : cl1 (some x0) k = k x0 := rfl
noncomputable def cl2 {α0 α1 γ : Type} (x : Option (α0 × α1)) (k : α0 → α1 → Option γ) : Option γ := match x with | none => none | some (x0, x1) => k x0 x1
theorem cl2_sp {α0 α1 γ : Type} {x : Option (α0 × α1)} {k : α0 → α1 → Option γ} {R : γ} (h : cl2 x k = some R) : ∃ x0 x1, x = some (x0, x1) ∧ k x0 x1 = some R := by
  cases x with
  | none => cases h
  | some z => exact ⟨z.1, z.2, rfl, h⟩
theorem cl2_ok {α0 α1 γ : Type} {k : α0 → α1 → Option γ} {x0 : α0} {x1 : α1} : cl2 (some (x0, x1)) k = k x0 x1 := rfl
noncomputable def cl3 {α0 α1 α2 γ : Type} (x : Option (α0 × α1 × α2)) (k : α0 → α1 → α2 → Option γ) : Option γ := match x with | none => none | some (x0, x1, x2) => k x0 x1 x2
theorem cl3_sp {α0 α1 α2 γ : Type} {x : Option (α0 × α1 × α2)} {k : α0 → α1 → α2 → Option γ} {R : γ} (h : cl3 x k = some R) : ∃ x0 x1 x2, x = some (x0, x1, x2) ∧ k x0 x1 x2 = some R := by
  cases x with
  | none => cases h
  | some z => exact ⟨z.1, z.2.1, z.2.2, rfl, h⟩
theorem cl3_ok {α0 α1 α2 γ : Type} {k : α0 → α1 → α2 → Option γ} {x0 : α0} {x1 : α1} {x2 : α2} : cl3 (some (x0, x1, x2)) k = k x0 x1 x2 := rfl
noncomputable def cl4 {α0 α1 α2 α3 γ : Type} (x : Option (α0 × α1 × α2 × α3)) (k : α0 → α1 → α2 → α3 → Option γ) : Option γ := match x with | none => none | some (x0, x1, x2, x3) => k x0 x1 x2 x3
theorem cl4_sp {α0 α1 α2 α3 γ : Type} {x : Option (α0 × α1 × α2 × α3)} {k : α0 → α1 → α2 → α3 → Option γ} {R : γ} (h : cl4 x k = some R) : ∃ x0 x1 x2 x3, x = some (x0, x1, x2, x3) ∧ k x0 x1 x2 x3 = some R := by
  cases x with
  | none => cases h
  | some z => exact ⟨z.1, z.2.1, z.2.2.1, z.2.2.2, rfl, h⟩
theorem cl4_ok {α0 α1 α2 α3 γ : Type} {k : α0 → α1 → α2 → α3 → Option γ} {x0 : α0} {x1 : α1} {x2 : α2} {x3 : α3} : cl4 (some (x0, x1, x2, x3)) k = k x0 x1 x2 x3 := rfl
noncomputable def cl5 {α0 α1 α2 α3 α4 γ : Type} (x : Option (α0 × α1 × α2 × α3 × α4)) (k : α0 → α1 → α2 → α3 → α4 → Option γ) : Option γ := match x with | none => none | some (x0, x1, x2, x3, x4) => k x0 x1 x2 x3 x4
theorem cl5_sp {α0 α1 α2 α3 α4 γ : Type} {x : Option (α0 × α1 × α2 × α3 × α4)} {k : α0 → α1 → α2 → α3 → α4 → Option γ} {R : γ} (h : cl5 x k = some R) : ∃ x0 x1 x2 x3 x4, x = some (x0, x1, x2, x3, x4) ∧ k x0 x1 x2 x3 x4 = some R := by
  cases x with
  | none => cases h
  | some z => exact ⟨z.1, z.2.1, z.2.2.1, z.2.2.2.1, z.2.2.2.2, rfl, h⟩
theorem cl5_ok {α0 α1 α2 α3 α4 γ : Type} {k : α0 → α1 → α2 → α3 → α4 → Option γ} {x0 : α0} {x1 : α1} {x2 : α2} {x3 : α3} {x4 : α4} : cl5 (some (x0, x1, x2, x3, x4)) k = k x0 x1 x2 x3 x4 := rfl
noncomputable def cl6 {α0 α1 α2 α3 α4 α5 γ : Type} (x : Option (α0 × α1 × α2 × α3 × α4 × α5)) (k : α0 → α1 → α2 → α3 → α4 → α5 → Option γ) : Option γ := match x with | none => none | some (x0, x1, x2, x3, x4, x5) => k x0 x1 x2 x3 x4 x5
theorem cl6_sp {α0 α1 α2 α3 α4 α5 γ : Type} {x : Option (α0 × α1 × α2 × α3 × α4 × α5)} {k : α0 → α1 → α2 → α3 → α4 → α5 → Option γ} {R : γ} (h : cl6 x k = some R) : ∃ x0 x1 x2 x3 x4 x5, x = some (x0, x1, x2, x3, x4, x5) ∧ k x0 x1 x2 x3 x4 x5 = some R := by
  cases x with
  | none => cases h
  | some z => exact ⟨z.1, z.2.1, z.2.2.1, z.2.2.2.1, z.2.2.2.2.1, z.2.2.2.2.2, rfl, h⟩
theorem cl6_ok {α0 α1 α2 α3 α4 α5 γ : Type} {k : α0 → α1 → α2 → α3 → α4 → α5 → Option γ} {x0 : α0} {x1 : α1} {x2 : α2} {x3 : α3} {x4 : α4} {x5 : α5} : cl6 (some (x0, x1, x2, x3, x4, x5)) k = k x0 x1 x2 x3 x4 x5 := rfl
noncomputable def cl7 {α0 α1 α2 α3 α4 α5 α6 γ : Type} (x : Option (α0 × α1 × α2 × α3 × α4 × α5 × α6)) (k : α0 → α1 → α2 → α3 → α4 → α5 → α6 → Option γ) : Option γ := match x with | none => none | some (x0, x1, x2, x3, x4, x5, x6) => k x0 x1 x2 x3 x4 x5 x6
theorem cl7_sp {α0 α1 α2 α3 α4 α5 α6 γ : Type} {x : Option (α0 × α1 × α2 × α3 × α4 × α5 × α6)} {k : α0 → α1 → α2 → α3 → α4 → α5 → α6 → Option γ} {R : γ} (h : cl7 x k = some R) : ∃ x0 x1 x2 x3 x4 x5 x6, x = some (x0, x1, x2, x3, x4, x5, x6) ∧ k x0 x1 x2 x3 x4 x5 x6 = some R := by
  cases x with
  | none => cases h
  | some z => exact ⟨z.1, z.2.1, z.2.2.1, z.2.2.2.1, z.2.2.2.2.1, z.2.2.2.2.2.1, z.2.2.2.2.2.2, rfl, h⟩
theorem cl7_ok {α0 α1 α2 α3 α4 α5 α6 γ : Type} {k : α0 → α1 → α2 → α3 → α4 → α5 → α6 → Option γ} {x0 : α0} {x1 : α1} {x2 : α2} {x3 : α3} {x4 : α4} {x5 : α5} {x6 : α6} : cl7 (some (x0, x1, x2, x3, x4, x5, x6)) k = k x0 x1 x2 x3 x4 x5 x6 := rfl
noncomputable def cl8 {α0 α1 α2 α3 α4 α5 α6 α7 γ : Type} (x : Option (α0 × α1 × α2 × α3 × α4 × α5 × α6 × α7)) (k : α0 → α1 → α2 → α3 → α4 → α5 → α6 → α7 → Option γ) : Option γ := match x with | none => none | some (x0, x1, x2, x3, x4, x5, x6, x7) => k x0 x1 x2 x3 x4 x5 x6 x7
theorem cl8_sp {α0 α1 α2 α3 α4 α5 α6 α7 γ : Type} {x : Option (α0 × α1 × α2 × α3 × α4 × α5 × α6 × α7)} {k : α0 → α1 → α2 → α3 → α4 → α5 → α6 → α7 → Option γ} {R : γ} (h : cl8 x k = some R) : ∃ x0 x1 x2 x3 x4 x5 x6 x7, x = some (x0, x1, x2, x3, x4, x5, x6, x7) ∧ k x0 x1 x2 x3 x4 x5 x6 x7 = some R := by
  cases x with
  | none => cases h
  | some z => exact ⟨z.1, z.2.1, z.2.2.1, z.2.2.2.1, z.2.2.2.2.1, z.2.2.2.2.2.1, z.2.2.2.2.2.2.1, z.2.2.2.2.2.2.2, rfl, h⟩
theorem cl8_ok {α0 α1 α2 α3 α4 α5 α6 α7 γ : Type} {k : α0 → α1 → α2 → α3 → α4 → α5 → α6 → α7 → Option γ} {x0 : α0} {x1 : α1} {x2 : α2} {x3 : α3} {x4 : α4} {x5 : α5} {x6 : α6} {x7 : α7} : cl8 (some (x0, x1, x2, x3, x4, x5, x6, x7)) k = k x0 x1 x2 x3 x4 x5 x6 x7 := rfl
noncomputable def cl9 {α0 α1 α2 α3 α4 α5 α6 α7 α8 γ : Type} (x : Option (α0 × α1 × α2 × α3 × α4 × α5 × α6 × α7 × α8)) (k : α0 → α1 → α2 → α3 → α4 → α5 → α6 → α7 → α8 → Option γ) : Option γ := match x with | none => none | some (x0, x1, x2, x3, x4, x5, x6, x7, x8) => k x0 x1 x2 x3 x4 x5 x6 x7 x8
theorem cl9_sp {α0 α1 α2 α3 α4 α5 α6 α7 α8 γ : Type} {x : Option (α0 × α1 × α2 × α3 × α4 × α5 × α6 × α7 × α8)} {k : α0 → α1 → α2 → α3 → α4 → α5 → α6 → α7 → α8 → Option γ} {R : γ} (h : cl9 x k = some R) : ∃ x0 x1 x2 x3 x4 x5 x6 x7 x8, x = some (x0, x1, x2, x3, x4, x5, x6, x7, x8) ∧ k x0 x1 x2 x3 x4 x5 x6 x7 x8 = some R := by
  cases x with
  | none => cases h
  | some z => exact ⟨z.1, z.2.1, z.2.2.1, z.2.2.2.1, z.2.2.2.2.1, z.2.2.2.2.2.1, z.2.2.2.2.2.2.1, z.2.2.2.2.2.2.2.1, z.2.2.2.2.2.2.2.2, rfl, h⟩
theorem cl9_ok {α0 α1 α2 α3 α4 α5 α6 α7 α8 γ : Type} {k : α0 → α1 → α2 → α3 → α4 → α5 → α6 → α7 → α8 → Option γ} {x0 : α0} {x1 : α1} {x2 : α2} {x3 : α3} {x4 : α4} {x5 : α5} {x6 : α6} {x7 : α7} {x8 : α8} : cl9 (some (x0, x1, x2, x3, x4, x5, x6, x7, x8)) k = k x0 x1 x2 x3 x4 x5 x6 x7 x8 := rfl
noncomputable def cl10 {α0 α1 α2 α3 α4 α5 α6 α7 α8 α9 γ : Type} (x : Option (α0 × α1 × α2 × α3 × α4 × α5 × α6 × α7 × α8 × α9)) (k : α0 → α1 → α2 → α3 → α4 → α5 → α6 → α7 → α8 → α9 → Option γ) : Option γ := match x with | none => none | some (x0, x1, x2, x3, x4, x5, x6, x7, x8, x9) => k x0 x1 x2 x3 x4 x5 x6 x7 x8 x9
theorem cl10_sp {α0 α1 α2 α3 α4 α5 α6 α7 α8 α9 γ : Type} {x : Option (α0 × α1 × α2 × α3 × α4 × α5 × α6 × α7 × α8 × α9)} {k : α0 → α1 → α2 → α3 → α4 → α5 → α6 → α7 → α8 → α9 → Option γ} {R : γ} (h : cl10 x k = some R) : ∃ x0 x1 x2 x3 x4 x5 x6 x7 x8 x9, x = some (x0, x1, x2, x3, x4, x5, x6, x7, x8, x9) ∧ k x0 x1 x2 x3 x4 x5 x6 x7 x8 x9 = some R := by
  cases x with
  | none => cases h
  | some z => exact ⟨z.1, z.2.1, z.2.2.1, z.2.2.2.1, z.2.2.2.2.1, z.2.2.2.2.2.1, z.2.2.2.2.2.2.1, z.2.2.2.2.2.2.2.1, z.2.2.2.2.2.2.2.2.1, z.2.2.2.2.2.2.2.2.2, rfl, h⟩
theorem cl10_ok {α0 α1 α2 α3 α4 α5 α6 α7 α8 α9 γ : Type} {k : α0 → α1 → α2 → α3 → α4 → α5 → α6 → α7 → α8 → α9 → Option γ} {x0 : α0} {x1 : α1} {x2 : α2} {x3 : α3} {x4 : α4} {x5 : α5} {x6 : α6} {x7 : α7} {x8 : α8} {x9 : α9} : cl10 (some (x0, x1, x2, x3, x4, x5, x6, x7, x8, x9)) k = k x0 x1 x2 x3 x4 x5 x6 x7 x8 x9 := rfl
noncomputable def cl11 {α0 α1 α2 α3 α4 α5 α6 α7 α8 α9 α10 γ : Type} (x : Option (α0 × α1 × α2 × α3 × α4 × α5 × α6 × α7 × α8 × α9 × α10)) (k : α0 → α1 → α2 → α3 → α4 → α5 → α6 → α7 → α8 → α9 → α10 → Option γ) : Option γ := match x with | none => none | some (x0, x1, x2, x3, x4, x5, x6, x7, x8, x9, x10) => k x0 x1 x2 x3 x4 x5 x6 x7 x8 x9 x10
theorem cl11_sp {α0 α1 α2 α3 α4 α5 α6 α7 α8 α9 α10 γ : Type} {x : Option (α0 × α1 × α2 × α3 × α4 × α5 × α6 × α7 × α8 × α9 × α10)} {k : α0 → α1 → α2 → α3 → α4 → α5 → α6 → α7 → α8 → α9 → α10 → Option γ} {R : γ} (h : cl11 x k = some R) : ∃ x0 x1 x2 x3 x4 x5 x6 x7 x8 x9 x10, x = some (x0, x1, x2, x3, x4, x5, x6, x7, x8, x9, x10) ∧ k x0 x1 x2 x3 x4 x5 x6 x7 x8 x9 x10 = some R := by
  cases x with
  | none => cases h
  | some z => exact ⟨z.1, z.2.1, z.2.2.1, z.2.2.2.1, z.2.2.2.2.1, z.2.2.2.2.2.1, z.2.2.2.2.2.2.1, z.2.2.2.2.2.2.2.1, z.2.2.2.2.2.2.2.2.1, z.2.2.2.2.2.2.2.2.2.1, z.2.2.2.2.2.2.2.2.2.2, rfl, h⟩
theorem cl11_ok {α0 α1 α2 α3 α4 α5 α6 α7 α8 α9 α10 γ : Type} {k : α0 → α1 → α2 → α3 → α4 → α5 → α6 → α7 → α8 → α9 → α10 → Option γ} {x0 : α0} {x1 : α1} {x2 : α2} {x3 : α3} {x4 : α4} {x5 : α5} {x6 : α6} {x7 : α7} {x8 : α8} {x9 : α9} {x10 : α10} : cl11 (some (x0, x1, x2, x3, x4, x5, x6, x7, x8, x9, x10)) k = k x0 x1 x2 x3 x4 x5 x6 x7 x8 x9 x10 := rfl
noncomputable def cl12 {α0 α1 α2 α3 α4 α5 α6 α7 α8 α9 α10 α11 γ : Type} (x : Option (α0 × α1 × α2 × α3 × α4 × α5 × α6 × α7 × α8 × α9 × α10 × α11)) (k : α0 → α1 → α2 → α3 → α4 → α5 → α6 → α7 → α8 → α9 → α10 → α11 → Option γ) : Option γ := match x with | none => none | some (x0, x1, x2, x3, x4, x5, x6, x7, x8, x9, x10, x11) => k x0 x1 x2 x3 x4 x5 x6 x7 x8 x9 x10 x11
theorem cl12_sp {α0 α1 α2 α3 α4 α5 α6 α7 α8 α9 α10 α11 γ : Type} {x : Option (α0 × α1 × α2 × α3 × α4 × α5 × α6 × α7 × α8 × α9 × α10 × α11)} {k : α0 → α1 → α2 → α3 → α4 → α5 → α6 → α7 → α8 → α9 → α10 → α11 → Option γ} {R : γ} (h : cl12 x k = some R) : ∃ x0 x1 x2 x3 x4 x5 x6 x7 x8 x9 x10 x11, x = some (x0, x1, x2, x3, x4, x5, x6, x7, x8, x9, x10, x11) ∧ k x0 x1 x2 x3 x4 x5 x6 x7 x8 x9 x10 x11 = some R := by
  cases x with
  | none => cases h
  | some z => exact ⟨z.1, z.2.1, z.2.2.1, z.2.2.2.1, z.2.2.2.2.1, z.2.2.2.2.2.1, z.2.2.2.2.2.2.1, z.2.2.2.2.2.2.2.1, z.2.2.2.2.2.2.2.2.1, z.2.2.2.2.2.2.2.2.2.1, z.2.2.2.2.2.2.2.2.2.2.1, z.2.2.2.2.2.2.2.2.2.2.2, rfl, h⟩
theorem cl12_ok {α0 α1 α2 α3 α4 α5 α6 α7 α8 α9 α10 α11 γ : Type} {k : α0 → α1 → α2 → α3 → α4 → α5 → α6 → α7 → α8 → α9 → α10 → α11 → Option γ} {x0 : α0} {x1 : α1} {x2 : α2} {x3 : α3} {x4 : α4} {x5 : α5} {x6 : α6} {x7 : α7} {x8 : α8} {x9 : α9} {x10 : α10} {x11 : α11} : cl12 (some (x0, x1, x2, x3, x4, x5, x6, x7, x8, x9, x10, x11)) k = k x0 x1 x2 x3 x4 x5 x6 x7 x8 x9 x10 x11 := rfl
noncomputable def cl13 {α0 α1 α2 α3 α4 α5 α6 α7 α8 α9 α10 α11 α12 γ : Type} (x : Option (α0 × α1 × α2 × α3 × α4 × α5 × α6 × α7 × α8 × α9 × α10 × α11 × α12)) (k : α0 → α1 → α2 → α3 → α4 → α5 → α6 → α7 → α8 → α9 → α10 → α11 → α12 → Option γ) : Option γ := match x with | none => none | some (x0, x1, x2, x3, x4, x5, x6, x7, x8, x9, x10, x11, x12) => k x0 x1 x2 x3 x4 x5 x6 x7 x8 x9 x10 x11 x12
theorem cl13_sp {α0 α1 α2 α3 α4 α5 α6 α7 α8 α9 α10 α11 α12 γ : Type} {x : Option (α0 × α1 × α2 × α3 × α4 × α5 × α6 × α7 × α8 × α9 × α10 × α11 × α12)} {k : α0 → α1 → α2 → α3 → α4 → α5 → α6 → α7 → α8 → α9 → α10 → α11 → α12 → Option γ} {R : γ} (h : cl13 x k = some R) : ∃ x0 x1 x2 x3 x4 x5 x6 x7 x8 x9 x10 x11 x12, x = some (x0, x1, x2, x3, x4, x5, x6, x7, x8, x9, x10, x11, x12) ∧ k x0 x1 x2 x3 x4 x5 x6 x7 x8 x9 x10 x11 x12 = some R := by
  cases x with
  | none => cases h
  | some z => exact ⟨z.1, z.2.1, z.2.2.1, z.2.2.2.1, z.2.2.2.2.1, z.2.2.2.2.2.1, z.2.2.2.2.2.2.1, z.2.2.2.2.2.2.2.1, z.2.2.2.2.2.2.2.2.1, z.2.2.2.2.2.2.2.2.2.1, z.2.2.2.2.2.2.2.2.2.2.1, z.2.2.2.2.2.2.2.2.2.2.2.1, z.2.2.2.2.2.2.2.2.2.2.2.2, rfl, h⟩
theorem cl13_ok {α0 α1 α2 α3 α4 α5 α6 α7 α8 α9 α10 α11 α12 γ : Type} {k : α0 → α1 → α2 → α3 → α4 → α5 → α6 → α7 → α8 → α9 → α10 → α11 → α12 → Option γ} {x0 : α0} {x1 : α1} {x2 : α2} {x3 : α3} {x4 : α4} {x5 : α5} {x6 : α6} {x7 : α7} {x8 : α8} {x9 : α9} {x10 : α10} {x11 : α11} {x12 : α12} : cl13 (some (x0, x1, x2, x3, x4, x5, x6, x7, x8, x9, x10, x11, x12)) k = k x0 x1 x2 x3 x4 x5 x6 x7 x8 x9 x10 x11 x12 := rfl
noncomputable def cl14 {α0 α1 α2 α3 α4 α5 α6 α7 α8 α9 α10 α11 α12 α13 γ : Type} (x : Option (α0 × α1 × α2 × α3 × α4 × α5 × α6 × α7 × α8 × α9 × α10 × α11 × α12 × α13)) (k : α0 → α1 → α2 → α3 → α4 → α5 → α6 → α7 → α8 → α9 → α10 → α11 → α12 → α13 → Option γ) : Option γ := match x with | none => none | some (x0, x1, x2, x3, x4, x5, x6, x7, x8, x9, x10, x11, x12, x13) => k x0 x1 x2 x3 x4 x5 x6 x7 x8 x9 x10 x11 x12 x13
theorem cl14_sp {α0 α1 α2 α3 α4 α5 α6 α7 α8 α9 α10 α11 α12 α13 γ : Type} {x : Option (α0 × α1 × α2 × α3 × α4 × α5 × α6 × α7 × α8 × α9 × α10 × α11 × α12 × α13)} {k : α0 → α1 → α2 → α3 → α4 → α5 → α6 → α7 → α8 → α9 → α10 → α11 → α12 → α13 → Option γ} {R : γ} (h : cl14 x k = some R) : ∃ x0 x1 x2 x3 x4 x5 x6 x7 x8 x9 x10 x11 x12 x13, x = some (x0, x1, x2, x3, x4, x5, x6, x7, x8, x9, x10, x11, x12, x13) ∧ k x0 x1 x2 x3 x4 x5 x6 x7 x8 x9 x10 x11 x12 x13 = some R := by
  cases x with
  | none => cases h
  | some z => exact ⟨z.1, z.2.1, z.2.2.1, z.2.2.2.1, z.2.2.2.2.1, z.2.2.2.2.2.1, z.2.2.2.2.2.2.1, z.2.2.2.2.2.2.2.1, z.2.2.2.2.2.2.2.2.1, z.2.2.2.2.2.2.2.2.2.1, z.2.2.2.2.2.2.2.2.2.2.1, z.2.2.2.2.2.2.2.2.2.2.2.1, z.2.2.2.2.2.2.2.2.2.2.2.2.1, z.2.2.2.2.2.2.2.2.2.2.2.2.2, rfl, h⟩
theorem cl14_ok {α0 α1 α2 α3 α4 α5 α6 α7 α8 α9 α10 α11 α12 α13 γ : Type} {k : α0 → α1 → α2 → α3 → α4 → α5 → α6 → α7 → α8 → α9 → α10 → α11 → α12 → α13 → Option γ} {x0 : α0} {x1 : α1} {x2 : α2} {x3 : α3} {x4 : α4} {x5 : α5} {x6 : α6} {x7 : α7} {x8 : α8} {x9 : α9} {x10 : α10} {x11 : α11} {x12 : α12} {x13 : α13} : cl14 (some (x0, x1, x2, x3, x4, x5, x6, x7, x8, x9, x10, x11, x12, x13)) k = k x0 x1 x2 x3 x4 x5 x6 x7 x8 x9 x10 x11 x12 x13 := rfl
/-! contracts: a method that leaves the heap as it is (ro), a method that writes its own cells (rw) -/
abbrev roP (av : List Value) (D : va_G) (cl : List vw_C) (ws : va_W) (tys : List (ClassId × FieldType)) (H : Heap) : Array Value → State → Prop := va_Pc av (fun U => U.heap = H ∧ va_P D cl ws H ∧ va_K D cl tys U)
abbrev roP0 (av : List Value) (H : Heap) : Array Value → State → Prop := va_Pc av (fun U => U.heap = H)
abbrev roQi (r : Int32) (H : Heap) : Array Value → State → Outcome → State → Prop := va_Qi (S := Unit) (fun r2 _ => r2 = r) (fun _ t => t.heap = H) (fun _ => False)
abbrev roQl (r : Int64) (H : Heap) : Array Value → State → Outcome → State → Prop := va_Ql (S := Unit) (fun r2 _ => r2 = r) (fun _ t => t.heap = H) (fun _ => False)
abbrev rwP (av : List Value) (D : va_G) (cl : List vw_C) (ws : va_W) (tys : List (ClassId × FieldType)) (sz : Nat) : Array Value → State → Prop := va_Pc av (fun U => U.heap.size = sz ∧ va_P D cl ws U.heap ∧ va_K D cl tys U ∧ va_D (fun _ => True) ws)
abbrev rwQi (r : Int32) (D : va_G) (cl : List vw_C) (ws : va_W) (A : Nat → Prop) : Array Value → State → Outcome → State → Prop := va_Qi (S := Unit) (fun r2 _ => r2 = r) (fun _ t => va_P D cl ws t.heap ∧ va_D A ws) A
abbrev rwQv (D : va_G) (cl : List vw_C) (ws : va_W) (A : Nat → Prop) : Array Value → State → Outcome → State → Prop := va_Qv (S := Unit) (fun _ => True) (fun _ t => va_P D cl ws t.heap ∧ va_D A ws) A
theorem ro_fb {av : List Value} {D : va_G} {cl : List vw_C} {ws : va_W} {tys : List (ClassId × FieldType)} {H : Heap} : FrameBlind (roP av D cl ws tys H) := fun a U g mk q => ⟨q.1, q.2.1, q.2.2.1, va_K.moved (u := U) (U := U.calling g mk a) (Vm.Alike.refl U.vm) q.2.2.2⟩
theorem ro_fb0 {av : List Value} {H : Heap} : FrameBlind (roP0 av H) := fun _ _ _ _ q => q
theorem rw_fb {av : List Value} {D : va_G} {cl : List vw_C} {ws : va_W} {tys : List (ClassId × FieldType)} {sz : Nat} : FrameBlind (rwP av D cl ws tys sz) := fun a U g mk q => ⟨q.1, q.2.1, q.2.2.1, va_K.moved (u := U) (U := U.calling g mk a) (Vm.Alike.refl U.vm) q.2.2.2.1, q.2.2.2.2⟩
section RO
variable {p : Program} {l : Launch} {e : Env} {R : Room} {s : State} {m : MethodId} {args : Array Value} {below : List Frame} {meth : Method} {c : Code} {H H0 : Heap} {locs : List Loc} {cells slots pc nL n index maxL : Nat} {Q : State → Prop} {ls : Array Slot} {st0 rest As : List Value} {b : Nat} {cc bytes : ByteArray} {Ts ws : List Cond} {own C : String} {y : MethodName} {rm : Room} {ret : Option FieldType} {D : va_G} {cl : List vw_C} {W0 wc wc' wr : va_W} {tys : List (ClassId × FieldType)} {A0 : Nat → Prop}
theorem ro_V {r : Int32} (S : CallFix p m c cc nL s args Ts own) (hM : Met l y ws rm (roP (.ref b :: As) D cl wc tys H) (roQi r H) 0 0 (fun _ => False)) (cw : CallW R s args own C index y bytes maxL ret ws rm 0 0 n)
    (hrv : ∃ cellB : Cell, H[b]? = some cellB ∧ cellB.vm.isStatics = false ∧ s.vm.findClass C = some cellB.cls) (hP : va_P D cl wc H) (hK : va_K D cl tys s) (hS : va_S A0 H0 H locs)
    (hn : As.length = n) (hsize : ls.size = nL) (hst : st0 = As.reverse ++ .ref b :: rest) (hW : (rest.map fun v => v.category).sum ≤ 8) (hdg : decode cc pc = .ok (.invokevirtual index, 3)) (hc : cells ≤ R.cells) (hs : slots ≤ R.slots)
    (kk : ∀ locs1, va_S A0 H0 H locs1 → W p l e R s m args below meth c H locs1 cells slots Q (F0 m (pc + 3) ls (.int r :: rest))) : W p l e R s m args below meth c H locs cells slots Q (F0 m pc ls st0) := by
  refine va_calli (va_runV (As := As) (rest := rest) S hM cw ⟨ro_fb, hrv, fun U hU hW => ⟨rfl, hU, hP, va_K.moved hW.alike hK⟩⟩ rfl hn hsize hst (lv_room hW) hdg ⟨hc, hs⟩) hS (fun q _ h => h.elim) (fun q h => h.elim) (fun r2 u t H1 locs1 ht hvm hw hB hz1 hk1 hS1 => ?_)
  have e1 : H1 = H := ht.symm.trans hB
  subst hw
  subst e1
  exact kk locs1 hS1
theorem ro_Vl {r : Int64} (S : CallFix p m c cc nL s args Ts own) (hM : Met l y ws rm (roP (.ref b :: As) D cl wc tys H) (roQl r H) 0 0 (fun _ => False)) (cw : CallW R s args own C index y bytes maxL ret ws rm 0 0 n)
    (hrv : ∃ cellB : Cell, H[b]? = some cellB ∧ cellB.vm.isStatics = false ∧ s.vm.findClass C = some cellB.cls) (hP : va_P D cl wc H) (hK : va_K D cl tys s) (hS : va_S A0 H0 H locs)
    (hn : As.length = n) (hsize : ls.size = nL) (hst : st0 = As.reverse ++ .ref b :: rest) (hW : (rest.map fun v => v.category).sum ≤ 8) (hdg : decode cc pc = .ok (.invokevirtual index, 3)) (hc : cells ≤ R.cells) (hs : slots ≤ R.slots)
    (kk : ∀ locs1, va_S A0 H0 H locs1 → W p l e R s m args below meth c H locs1 cells slots Q (F0 m (pc + 3) ls (.long r :: rest))) : W p l e R s m args below meth c H locs cells slots Q (F0 m pc ls st0) := by
  refine va_calll (va_runV (As := As) (rest := rest) S hM cw ⟨ro_fb, hrv, fun U hU hW => ⟨rfl, hU, hP, va_K.moved hW.alike hK⟩⟩ rfl hn hsize hst (lv_room hW) hdg ⟨hc, hs⟩) hS (fun q _ h => h.elim) (fun q h => h.elim) (fun r2 u t H1 locs1 ht hvm hw hB hz1 hk1 hS1 => ?_)
  have e1 : H1 = H := ht.symm.trans hB
  subst hw
  subst e1
  exact kk locs1 hS1
theorem ro_S {r : Int32} (S : CallFix p m c cc nL s args Ts own) (hM : Met l y ws rm (roP0 As H) (roQi r H) 0 0 (fun _ => False)) (cw : CallB R s args own index y bytes maxL ret ws rm 0 0 n ∧ (Cond.static y).before args s = true)
    (hS : va_S A0 H0 H locs) (hn : As.length = n) (hsize : ls.size = nL) (hst : st0 = As.reverse ++ rest) (hW : (rest.map fun v => v.category).sum ≤ 8) (hdg : decode cc pc = .ok (.invokestatic index, 3)) (hc : cells ≤ R.cells) (hs : slots ≤ R.slots)
    (kk : ∀ locs1, va_S A0 H0 H locs1 → W p l e R s m args below meth c H locs1 cells slots Q (F0 m (pc + 3) ls (.int r :: rest))) : W p l e R s m args below meth c H locs cells slots Q (F0 m pc ls st0) := by
  refine va_calli (va_runS (As := As) (rest := rest) S hM cw ⟨ro_fb0, fun U hU hW => ⟨rfl, hU⟩⟩ rfl hn hsize hst (lv_room hW) hdg ⟨hc, hs⟩) hS (fun q _ h => h.elim) (fun q h => h.elim) (fun r2 u t H1 locs1 ht hvm hw hB hz1 hk1 hS1 => ?_)
  have e1 : H1 = H := ht.symm.trans hB
  subst hw
  subst e1
  exact kk locs1 hS1
theorem ro_Sl {r : Int64} (S : CallFix p m c cc nL s args Ts own) (hM : Met l y ws rm (roP0 As H) (roQl r H) 0 0 (fun _ => False)) (cw : CallB R s args own index y bytes maxL ret ws rm 0 0 n ∧ (Cond.static y).before args s = true)
    (hS : va_S A0 H0 H locs) (hn : As.length = n) (hsize : ls.size = nL) (hst : st0 = As.reverse ++ rest) (hW : (rest.map fun v => v.category).sum ≤ 8) (hdg : decode cc pc = .ok (.invokestatic index, 3)) (hc : cells ≤ R.cells) (hs : slots ≤ R.slots)
    (kk : ∀ locs1, va_S A0 H0 H locs1 → W p l e R s m args below meth c H locs1 cells slots Q (F0 m (pc + 3) ls (.long r :: rest))) : W p l e R s m args below meth c H locs cells slots Q (F0 m pc ls st0) := by
  refine va_calll (va_runS (As := As) (rest := rest) S hM cw ⟨ro_fb0, fun U hU hW => ⟨rfl, hU⟩⟩ rfl hn hsize hst (lv_room hW) hdg ⟨hc, hs⟩) hS (fun q _ h => h.elim) (fun q h => h.elim) (fun r2 u t H1 locs1 ht hvm hw hB hz1 hk1 hS1 => ?_)
  have e1 : H1 = H := ht.symm.trans hB
  subst hw
  subst e1
  exact kk locs1 hS1
theorem fm_of_map {W0 wc : va_W} {isC : List Nat} (h : isC.map (fun i => W0[i]?) = wc.map some) : isC.filterMap (fun i => W0[i]?) = wc := by
  have e : isC.filterMap (fun i => W0[i]?) = (isC.map (fun i => W0[i]?)).filterMap id := by rw [List.filterMap_map]; rfl
  rw [e, h, List.filterMap_map]
  simp
theorem rw_V {r : Int32} (S : CallFix p m c cc nL s args Ts own) (hM : Met l y ws rm (rwP (.ref b :: As) D cl wc tys H.size) (rwQi r D cl wc' (va_A wc H.size)) 0 0 (va_A wc H.size)) (cw : CallW R s args own C index y bytes maxL ret ws rm 0 0 n)
    (hrv : ∃ cellB : Cell, H[b]? = some cellB ∧ cellB.vm.isStatics = false ∧ s.vm.findClass C = some cellB.cls) (hK : va_K D cl tys s) (hP : va_P D cl W0 H) (hD : va_D A0 W0) (hS : va_S A0 H0 H locs) (hA : ∀ q, H0.size ≤ q → A0 q)
    (isC isR : List Nat) (hC : isC.map (fun i => W0[i]?) = wc.map some) (hR : isR.map (fun i => W0[i]?) = wr.map some) (hnC : va_nd isC = true) (hnR : va_nd isR = true) (hdis : ∀ i ∈ isR, i ∉ isC)
    (hn : As.length = n) (hsize : ls.size = nL) (hst : st0 = As.reverse ++ .ref b :: rest) (hW : (rest.map fun v => v.category).sum ≤ 8) (hdg : decode cc pc = .ok (.invokevirtual index, 3)) (hc : cells ≤ R.cells) (hs : slots ≤ R.slots)
    (kk : ∀ H1 locs1, va_P D cl (wr ++ wc') H1 → va_D A0 (wr ++ wc') → va_S A0 H0 H1 locs1 → W p l e R s m args below meth c H1 locs1 cells slots Q (F0 m (pc + 3) ls (.int r :: rest))) : W p l e R s m args below meth c H locs cells slots Q (F0 m pc ls st0) := by
  have hPc := hP.sub (ws' := wc) isC (fm_of_map hC)
  have hDc := hD.sub (ws' := wc) isC hnC hC
  have hFc := va_free (wc := wc) hD hS hA isC hC
  refine va_calli (va_runV (As := As) (rest := rest) S hM cw ⟨rw_fb, hrv, fun U hU hW => ⟨rfl, by rw [hU], by rw [hU]; exact hPc, va_K.moved hW.alike hK, hDc.weaken (fun _ _ _ _ => trivial)⟩⟩ rfl hn hsize hst (lv_room hW) hdg ⟨hc, hs⟩) hS (fun q _ h => hFc q h) hFc (fun r2 u t H1 locs1 ht hvm hw hB hz1 hk1 hS1 => ?_)
  obtain ⟨hP1, hD1⟩ := hB
  rw [ht] at hP1
  subst hw
  obtain ⟨hP2, hD2⟩ := va_join (wr := wr) (w1 := wc') hP hD isC isR hC hR hnR hdis hk1 hFc hP1 hD1
  exact kk H1 locs1 hP2 hD2 hS1
theorem rw_Vv (S : CallFix p m c cc nL s args Ts own) (hM : Met l y ws rm (rwP (.ref b :: As) D cl wc tys H.size) (rwQv D cl wc' (va_A wc H.size)) 0 0 (va_A wc H.size)) (cw : CallW R s args own C index y bytes maxL ret ws rm 0 0 n)
    (hrv : ∃ cellB : Cell, H[b]? = some cellB ∧ cellB.vm.isStatics = false ∧ s.vm.findClass C = some cellB.cls) (hK : va_K D cl tys s) (hP : va_P D cl W0 H) (hD : va_D A0 W0) (hS : va_S A0 H0 H locs) (hA : ∀ q, H0.size ≤ q → A0 q)
    (isC isR : List Nat) (hC : isC.map (fun i => W0[i]?) = wc.map some) (hR : isR.map (fun i => W0[i]?) = wr.map some) (hnC : va_nd isC = true) (hnR : va_nd isR = true) (hdis : ∀ i ∈ isR, i ∉ isC)
    (hn : As.length = n) (hsize : ls.size = nL) (hst : st0 = As.reverse ++ .ref b :: rest) (hW : (rest.map fun v => v.category).sum ≤ 8) (hdg : decode cc pc = .ok (.invokevirtual index, 3)) (hc : cells ≤ R.cells) (hs : slots ≤ R.slots)
    (kk : ∀ H1 locs1, va_P D cl (wr ++ wc') H1 → va_D A0 (wr ++ wc') → va_S A0 H0 H1 locs1 → W p l e R s m args below meth c H1 locs1 cells slots Q (F0 m (pc + 3) ls rest)) : W p l e R s m args below meth c H locs cells slots Q (F0 m pc ls st0) := by
  have hPc := hP.sub (ws' := wc) isC (fm_of_map hC)
  have hDc := hD.sub (ws' := wc) isC hnC hC
  have hFc := va_free (wc := wc) hD hS hA isC hC
  refine va_callv (va_runV (As := As) (rest := rest) S hM cw ⟨rw_fb, hrv, fun U hU hW => ⟨rfl, by rw [hU], by rw [hU]; exact hPc, va_K.moved hW.alike hK, hDc.weaken (fun _ _ _ _ => trivial)⟩⟩ rfl hn hsize hst (lv_room hW) hdg ⟨hc, hs⟩) hS (fun q _ h => hFc q h) hFc (fun u t H1 locs1 ht hvm hw hB hz1 hk1 hS1 => ?_)
  obtain ⟨hP1, hD1⟩ := hB
  rw [ht] at hP1
  obtain ⟨hP2, hD2⟩ := va_join (wr := wr) (w1 := wc') hP hD isC isR hC hR hnR hdis hk1 hFc hP1 hD1
  exact kk H1 locs1 hP2 hD2 hS1
end RO

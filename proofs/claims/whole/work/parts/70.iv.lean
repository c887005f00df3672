/-! the invariant between the class's state and the reference's (most of it is shared) -/
def rg (x : Int32) (a b : Int) : Prop := a ≤ x.toInt ∧ x.toInt ≤ b
def cOK (o g d b : Nat → Int32) : Prop := ∀ i, i < 36 → rg (o i) 0 63 ∧ rg (g i) 0 127 ∧ rg (d i) 0 255 ∧ rg (b i) 0 255
def pOK (pa : Int32) (fr lr sl : Nat → Int32) : Prop := rg pa 0 12 ∧ ∀ i : Nat, (i : Int) < pa.toInt → rg (fr i) 0 63 ∧ rg (lr i) 0 63 ∧ rg (sl i) (-16) 16
def lOK (ld : Nat → Int32) : Prop := ∀ i, i < 3 → rg (ld i) 0 15
def kOK (pc : Int32) (kd : Nat → Int32) : Prop := rg pc 0 4 ∧ ∀ i : Nat, (i : Int) < pc.toInt → rg (kd i) 0 3
/-- the greatest REACH -/
noncomputable def rchS (ld : Nat → Int32) : Nat → Int32
  | 0 => 0
  | n + 1 => if rchS ld n < (ld n + 3) / 4 then (ld n + 3) / 4 else rchS ld n
def sOK (ld : Nat → Int32) (on li re po qu pos nx mo ou co dn la : Int32) : Prop :=
  (on = 0 ∨ on = 1) ∧ rg qu 0 6 ∧ rg co 0 40 ∧ dn = co + qu ∧ rg mo 0 4 ∧ (mo = 3 → rg ou 0 2) ∧
  (on = 1 → rg li 1 40 ∧ co.toInt < li.toInt ∧ rg re 0 4 ∧ re = rchS ld 3 ∧ po = li + re ∧ la = li - 1 + re ∧ rg nx 0 po.toInt ∧
    dn.toInt = (if nx.toInt < re.toInt then 0 else nx.toInt - re.toInt) ∧ (mo = 1 ∨ mo = 2 → qu.toInt ≤ 5) ∧ (mo = 2 → pos = nx))
def Iv (f6_leads : Nat → Int32) (f0_offset : Nat → Int32) (f0_gain : Nat → Int32) (f0_dark : Nat → Int32) (f0_bright : Nat → Int32) (v3_ground : Int32) (v3_patches : Int32) (f3_firstRow : Nat → Int32) (f3_lastRow : Nat → Int32) (f3_firstColumn : Nat → Int32) (f3_lastColumn : Nat → Int32) (f3_slants : Nat → Int32) (f3_tints : Nat → Int32) (f3_specks : Nat → Int32) (v4_count : Int32) (f4_kinds : Nat → Int32) (f4_numbers : Nat → Int32) (v5_on : Int32) (v5_lines : Int32) (v5_reach : Int32) (v5_positions : Int32) (v5_queued : Int32) (v5_position : Int32) (v5_next : Int32) (v5_mode : Int32) (v5_outTicks : Int32) (v5_stops : Int32) (v5_ticked : Int32) (v1_count : Int32) (v1_threshold : Int32) (f1_values : Nat → Int32) (v7_done : Int32) (v7_lastPosition : Int32) : Prop :=
  cOK f0_offset f0_gain f0_dark f0_bright ∧ pOK v3_patches f3_firstRow f3_lastRow f3_slants ∧ lOK f6_leads ∧ kOK v4_count f4_kinds ∧
  sOK f6_leads v5_on v5_lines v5_reach v5_positions v5_queued v5_position v5_next v5_mode v5_outTicks v1_count v7_done v7_lastPosition

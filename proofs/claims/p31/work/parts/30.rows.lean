/-! ===== rows: what the reference does to one row of numbers ===== -/
abbrev xRow : Type := Nat → Int32
def upR (R : xRow) (i : Nat) (v : Int32) : xRow := fun j => if j = i then v else R j
theorem upR_s {R : xRow} {i : Nat} {v : Int32} : upR R i v i = v := by simp [upR]
theorem upR_n {R : xRow} {i j : Nat} {v : Int32} (h : j ≠ i) : upR R i v j = R j := by simp [upR, h]
/-- copied: many numbers of F from place s on, into R from place d on -/
def cpR (R : xRow) (d : Nat) (F : xRow) (s many : Nat) : xRow := fun i => if d ≤ i ∧ i < d + many then F (s + (i - d)) else R i
def halve : Nat → Int32 → Int32
  | 0, v => v
  | n + 1, v => if 0 < v then halve n (v / 2) else v
def rLev (R : xRow) (t : Int32) : Int32 := if R 10 = 0 then 0 else halve ((t - R 11) / R 3).toNatClampNeg (R 12)
def rBin (R : xRow) (h : Int32) : Nat → Nat
  | 0 => 0
  | k + 1 => if h < R (16 + k) then rBin R h k else k + 1
def rClose (R : xRow) : xRow :=
  let k := rBin R (R 12) 7
  let R1 := upR R (23 + 3 * k) (R (23 + 3 * k) + 1)
  let R2 := upR R1 (24 + 3 * k) (R1 (24 + 3 * k) + R1 15)
  upR (upR R2 (25 + 3 * k) (R2 (25 + 3 * k) + R2 14)) 13 0
def rInW (R : xRow) : Prop := R 0 - R 11 < R 2
def rGo (R : xRow) (t : Int32) : xRow := if 0 < t ∧ upR R 0 (R 0 + t) 13 = 1 ∧ ¬ upR R 0 (R 0 + t) 0 - upR R 0 (R 0 + t) 11 < upR R 0 (R 0 + t) 2 then rClose (upR R 0 (R 0 + t)) else upR R 0 (R 0 + t)
def rMuch (R : xRow) (v : Int32) : xRow := if R 5 < v then upR (upR R 15 1) 12 (R 5) else upR R 12 v
def rStr (R : xRow) (s : Int32) : Int32 := s * s * (100 - 2 * R 1) / 100
def rOpn (R : xRow) (v : Int32) : xRow := rMuch (upR (upR (upR (upR (upR R 13 1) 14 1) 15 0) 10 1) 11 (R 0)) v
/-- the fate of a drop that falls now on a row that is not merged -/
def rFt (R : xRow) (s : Int32) : Nat := if R 13 = 1 ∧ R 0 - R 11 < R 2 then 1 else if rStr R s < R 4 then 3 else if rStr R s < rLev R (R 0) then 2 else 0
def rFl (R : xRow) (s : Int32) : xRow :=
  if R 13 = 1 ∧ R 0 - R 11 < R 2 then upR (rMuch R (R 12 + rStr R s)) 14 (rMuch R (R 12 + rStr R s) 14 + 1)
  else if rFt R s = 0 then rOpn (if R 13 = 1 then rClose R else R) (rStr R s + rLev R (R 0) / 2) else if R 13 = 1 then rClose R else R
def rTr (R : xRow) (n : Nat) (f : Int32) : xRow := if n = 60 then upR (upR (cpR R 48 R 49 59) 107 f) 47 60 else upR (upR R (48 + n) f) 47 (nI (n + 1))
def rRc (R : xRow) (n : Nat) (s : Int32) : xRow :=
  if n = 40 then upR (upR (upR (upR (cpR R 109 R 111 78) 187 (R 0 - R 189)) 188 s) 108 40) 189 (R 0)
  else upR (upR (upR (upR R (109 + 2 * n) (R 0 - R 189)) (110 + 2 * n) s) 108 (nI (n + 1))) 189 (R 0)
/-- a drop that falls so many ticks later; the row's trace has lf, its record lr entries -/
def rDrF (R : xRow) (t s : Int32) : Nat := rFt (rGo R t) s
def rDrM (R : xRow) (lf lr : Nat) (t s : Int32) : xRow :=
  let R1 := rFl (rGo R t) s
  let f := rDrF R t s
  let R2 := upR R1 (6 + f) (R1 (6 + f) + 1)
  let R3 := upR R2 190 (R2 190 + s * s * s)
  rRc (rTr R3 lf (nI f)) lr s

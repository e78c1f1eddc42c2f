/-! ===== the pure machine: memory, locals, steps ===== -/
/-- ints by cell and place, longs by cell and place, the script's length and ints -/
abbrev mm_M : Type := (Nat → Nat → Int32) × (Nat → Nat → Int64) × Nat × (Nat → Int32)
/-- how many cells there are, and the references by cell and place -/
abbrev mm_T : Type := Nat × (Nat → Nat → Option Nat)
/-- a method: its class's number, name, code, how many locals, what it returns, frames and locals of its room -/
abbrev mm_Y : Type := Nat × MethodName × ByteArray × Nat × Option FieldType × Nat × Nat
abbrev mm_R : Type := Option (Option Value × mm_T × mm_M)
abbrev mm_L : Type := List (Option Value)
def mm_cn (y : mm_Y) : Nat := y.1
def mm_nm (y : mm_Y) : MethodName := y.2.1
def mm_cd (y : mm_Y) : ByteArray := y.2.2.1
def mm_ml (y : mm_Y) : Nat := y.2.2.2.1
def mm_rt (y : mm_Y) : Option FieldType := y.2.2.2.2.1
def mm_rf (y : mm_Y) : Nat := y.2.2.2.2.2.1
def mm_rl (y : mm_Y) : Nat := y.2.2.2.2.2.2
/-- the static arrays and the text constant, cells 1001, 1002, 1004 -/
def mm_x1 (j : Nat) : Int32 := ([7, 15, 31, 19, 19, 3, 3] : List Int32).getD j 0
def mm_x2 (j : Nat) : Int32 := ([1, 1, 2, 6, 24, 120] : List Int32).getD j 0
def mm_x4 (j : Nat) : Int32 := ([75, 83, 86, 66, 84, 79, 68] : List Int32).getD j 0
def mm_i (σ : mm_M) (k j : Nat) : Int32 := if k < 1000 then σ.1 k j else if k = 1000 then σ.2.2.2 j else if k = 1001 then mm_x1 j else if k = 1002 then mm_x2 j else mm_x4 j
def mm_l (σ : mm_M) (k j : Nat) : Int64 := σ.2.1 k j
def mm_sA (σ : mm_M) (k : Nat) (f : Nat → Int32) : mm_M := (fun a => if a = k then f else σ.1 a, σ.2)
def mm_si (σ : mm_M) (k j : Nat) (v : Int32) : mm_M := mm_sA σ k (upd (σ.1 k) j v)
def mm_sl (σ : mm_M) (k j : Nat) (v : Int64) : mm_M := (σ.1, fun a => if a = k then vp_updL (σ.2.1 k) j v else σ.2.1 a, σ.2.2)
/-- int[] to int[], as System.arraycopy does it -/
def mm_cp (σ : mm_M) (k0 k1 sp dp n : Nat) : mm_M := mm_sA σ k1 (va_cpy (σ.1 k0) (σ.1 k1) sp dp n)
def mm_sr (θ : mm_T) (k j : Nat) (v : Option Nat) : mm_T := (θ.1, fun a => if a = k then va_up (θ.2 k) j v else θ.2 a)
/-- a cell more, all of it default -/
def mm_nT (θ : mm_T) : mm_T := (θ.1 + 1, fun a => if a = θ.1 then fun _ => none else θ.2 a)
def mm_nM (θ : mm_T) (σ : mm_M) : mm_M := (fun a => if a = θ.1 then fun _ => 0 else σ.1 a, fun a => if a = θ.1 then fun _ => 0 else σ.2.1 a, σ.2.2)
/-- an array of N rows more -/
def mm_nT2 (θ : mm_T) (N : Nat) : mm_T := (θ.1 + 1 + N, fun a => if a = θ.1 then fun i => if i < N then some (θ.1 + 1 + i) else none else if θ.1 < a ∧ a < θ.1 + 1 + N then fun _ => none else θ.2 a)
def mm_nM2 (θ : mm_T) (σ : mm_M) (N : Nat) : mm_M := (fun a => if θ.1 ≤ a ∧ a < θ.1 + 1 + N then fun _ => 0 else σ.1 a, fun a => if θ.1 ≤ a ∧ a < θ.1 + 1 + N then fun _ => 0 else σ.2.1 a, σ.2.2)
/-- what a cell is: an object of class number c (its fields), 20 int[], 21 boolean[], 23 long[], 24 int[][], 25 Lines[] (its length) -/
def mm_lay : List (Nat × Nat) :=
  [(8, 14), (7, 2), (20, 48),
   (4, 3), (24, 9), (20, 5), (20, 5), (20, 5), (20, 5), (20, 5), (20, 5), (20, 5), (20, 5), (20, 5), (20, 3),
   (4, 3), (24, 9), (20, 5), (20, 5), (20, 5), (20, 5), (20, 5), (20, 5), (20, 5), (20, 5), (20, 5), (20, 3),
   (0, 2), (20, 84), (25, 2),
   (4, 3), (24, 9), (20, 5), (20, 5), (20, 5), (20, 5), (20, 5), (20, 5), (20, 5), (20, 5), (20, 5), (20, 3),
   (4, 3), (24, 9), (20, 5), (20, 5), (20, 5), (20, 5), (20, 5), (20, 5), (20, 5), (20, 5), (20, 5), (20, 3),
   (21, 2), (20, 5),
   (1, 8), (20, 9), (20, 9), (24, 9), (20, 5), (20, 5), (20, 5), (20, 5), (20, 5), (20, 5), (20, 5), (20, 5), (20, 5), (20, 10), (20, 10), (20, 5),
   (6, 5), (20, 5), (20, 9), (20, 9), (6, 5), (20, 5), (20, 9), (20, 9),
   (5, 3), (6, 5), (20, 5), (20, 9), (20, 9), (20, 900), (20, 257),
   (2, 2), (24, 6), (20, 4), (20, 4), (20, 4), (20, 4), (20, 4), (20, 4),
   (3, 3), (20, 3), (1, 8), (20, 9), (20, 9), (24, 9), (20, 5), (20, 5), (20, 5), (20, 5), (20, 5), (20, 5), (20, 5), (20, 5), (20, 5), (20, 10), (20, 10), (20, 5),
   (5, 3), (6, 5), (20, 5), (20, 9), (20, 9), (20, 900), (20, 257),
   (9, 24), (20, 96), (20, 48), (20, 50), (20, 10), (20, 672), (20, 5), (20, 9), (23, 100), (20, 6), (20, 6), (20, 6), (20, 6), (21, 2), (20, 96)]
def mm_kt (k : Nat) : Nat × Nat := if k < 1000 then mm_lay.getD k (99, 0) else if k = 1000 then (30, 0) else if k = 1001 then (31, 7) else if k = 1002 then (31, 6) else if k = 1003 then (32, 0) else if k = 1004 then (33, 7) else (99, 0)
def mm_kd (n k : Nat) : Nat := if k < n ∨ 1000 ≤ k then (mm_kt k).1 else 99
/-- an int[] that may be read; that may be written -/
def mm_ir (n k : Nat) : Bool := mm_kd n k == 20 || mm_kd n k == 30 || mm_kd n k == 31
def mm_iw (n k : Nat) : Bool := mm_kd n k == 20
def mm_al (σ : mm_M) (k : Nat) : Nat := if k = 1000 then σ.2.2.1 else (mm_kt k).2
def mm_in (i : Int32) (n : Nat) : Bool := decide (0 ≤ i.toInt) && decide (i.toInt < (n : Int))
/-- slots of the first n cells -/
def mm_sl0 : Nat → Nat
  | 0 => 0
  | n + 1 => mm_sl0 n + (mm_kt n).2
/-- the kind of a field: 0 int, 1 long, 2 a reference, 3 boolean -/
def mm_ft (c j : Nat) : Nat := (([[0, 2], [0, 0, 2, 2, 2, 2, 2, 2], [0, 2], [2, 2, 2], [0, 2, 2], [2, 2, 2], [0, 3, 2, 2, 2], [0, 2], [2, 2, 2, 2, 2, 2, 2, 2, 2, 2, 2, 2, 2, 1], [0, 2, 0, 2, 0, 2, 2, 0, 0, 0, 2, 2, 2, 0, 3, 2, 0, 2, 2, 2, 2, 1, 2, 2]] : List (List Nat)).getD c []).getD j 0
def mm_lk {α : Type} (t : List ((Nat × Nat) × α)) (c i : Nat) : Option α := (t.find? (fun e => e.1.1 == c && e.1.2 == i)).map (fun e => e.2)
/-- locals -/
def mm_kl : Option Value → Option Value
  | some (.long _) => none
  | some (.double _) => none
  | o => o
def mm_s1 : mm_L → Nat → Value → mm_L
  | [], _, _ => []
  | _ :: t, 0, v => some v :: t
  | a :: t, 1, v => mm_kl a :: mm_s1 t 0 v
  | a :: t, i + 2, v => a :: mm_s1 t (i + 1) v
def mm_s2 : mm_L → Nat → Value → mm_L
  | [], _, _ => []
  | _ :: [], 0, _ => [none]
  | _ :: _ :: t, 0, v => some v :: none :: t
  | a :: t, 1, v => mm_kl a :: mm_s2 t 0 v
  | a :: t, i + 2, v => a :: mm_s2 t (i + 1) v
def mm_ar (vs : List Value) : mm_L := vs.flatMap (fun v => if v.category = 2 then [some v, none] else [some v])
def mm_en (n : Nat) (vs : List Value) : mm_L := mm_ar vs ++ List.replicate (n - (mm_ar vs).length) none
def mm_sw (st : List Value) : Nat := (st.map fun v => v.category).sum
def mm_cI (c : ClassFile.Cond) (x y : Int32) : Bool := match c with
  | .eq => decide (x = y)
  | .ne => !decide (x = y)
  | .lt => decide (x < y)
  | .ge => decide (y ≤ x)
  | .gt => decide (y < x)
  | .le => decide (x ≤ y)
def mm_re (x y : Int32) : Int32 := x - x / y * y
def mm_rL (x y : Int64) : Int64 := x - x / y * y
def mm_us (x y : Int32) : Int32 := (x.toUInt32 >>> (y.toUInt32 &&& Int32.toUInt32 31)).toInt32
def mm_uL (x : Int64) (y : Int32) : Int64 := (x.toUInt64 >>> (y.toInt64.toUInt64 &&& Int64.toUInt64 63)).toInt64

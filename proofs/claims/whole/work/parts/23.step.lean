/-! ===== a step of the pure machine: go on, call, return ===== -/
abbrev mm_A : Type := (Nat × mm_L × List Value × mm_T × mm_M) ⊕ ((mm_Y × mm_L × Nat × List Value) ⊕ Option Value)
def mm_go (pc : Nat) (L : mm_L) (st : List Value) (θ : mm_T) (σ : mm_M) : Option mm_A := some (.inl (pc, L, st, θ, σ))
def mm_ck (c : Bool) (r : Option mm_A) : Option mm_A := if c = true then r else none
def mm_jp (pc : Nat) (off : Int) (L : mm_L) (st : List Value) (θ : mm_T) (σ : mm_M) : Option mm_A := mm_ck (decide (0 ≤ (pc : Int) + off)) (mm_go ((pc : Int) + off).toNat L st θ σ)
def mm_p1 (st : List Value) (k : Int32 → List Value → Option mm_A) : Option mm_A := match st with
  | .int a :: st => k a st
  | _ => none
def mm_p2 (st : List Value) (k : Int32 → Int32 → List Value → Option mm_A) : Option mm_A := match st with
  | .int b :: .int a :: st => k a b st
  | _ => none
def mm_q1 (st : List Value) (k : Int64 → List Value → Option mm_A) : Option mm_A := match st with
  | .long a :: st => k a st
  | _ => none
def mm_q2 (st : List Value) (k : Int64 → Int64 → List Value → Option mm_A) : Option mm_A := match st with
  | .long b :: .long a :: st => k a b st
  | _ => none
def mm_q3 (st : List Value) (k : Int64 → Int32 → List Value → Option mm_A) : Option mm_A := match st with
  | .int b :: .long a :: st => k a b st
  | _ => none
def mm_a1 (st : List Value) (k : Nat → List Value → Option mm_A) : Option mm_A := match st with
  | .ref a :: st => k a st
  | _ => none
/-- an array and a place -/
def mm_a2 (st : List Value) (k : Int32 → Nat → List Value → Option mm_A) : Option mm_A := match st with
  | .int i :: .ref a :: st => k i a st
  | _ => none
/-- an array, a place, a value -/
def mm_a3 (st : List Value) (k : Value → Int32 → Nat → List Value → Option mm_A) : Option mm_A := match st with
  | v :: .int i :: .ref a :: st => k v i a st
  | _ => none
def mm_fv (θ : mm_T) (σ : mm_M) (k j t : Nat) : Value := match t with
  | 1 => .long (mm_l σ k j)
  | 2 => va_rf (θ.2 k j)
  | _ => .int (mm_i σ k j)
def mm_ld (y : mm_Y) (pc : Nat) (L : mm_L) (st : List Value) (θ : mm_T) (σ : mm_M) (i : Nat) (w : Nat) : Option mm_A := match L[i]?, w with
  | some (some (.int x)), 0 => mm_go pc L (.int x :: st) θ σ
  | some (some (.long x)), 1 => mm_go pc L (.long x :: st) θ σ
  | some (some (.ref x)), 2 => mm_go pc L (.ref x :: st) θ σ
  | _, _ => none
/-- a call: the method, its locals, where and with what one goes on -/
def mm_cv (y yc : mm_Y) (pc : Nat) (vs rest : List Value) : Option mm_A :=
  mm_ck (decide (mm_sw rest ≤ 8) && (decide (mm_rf yc + 1 ≤ mm_rf y) && (decide (19 + mm_ml yc + mm_rl yc ≤ mm_rl y) && decide ((mm_ar vs).length ≤ mm_ml yc)))) (some (.inr (.inl (yc, mm_en (mm_ml yc) vs, pc + 3, rest))))
def mm_inv (op : Nat) (y : mm_Y) (θ : mm_T) (pc : Nat) (st : List Value) (idx : Nat) : Option mm_A := match mm_lk (mm_tC (mm_cn y)) (mm_cn y) idx with
  | some (kind, na, yc, _) =>
    if op = 0 then mm_ck ((kind == 0 || kind == 1) && decide ((st.take na).length = na)) (mm_cv y yc pc (st.take na).reverse (st.drop na))
    else match st.drop na with
      | .ref b :: rest => mm_ck ((if op = 1 then kind == 2 && mm_kd θ.1 b == (if mm_cn yc = 11 then 32 else mm_cn yc) else kind == 4 || kind == 5) && decide ((st.take na).length = na)) (mm_cv y yc pc (.ref b :: (st.take na).reverse) rest)
      | _ => none
  | none => none
def mm_oi (y : mm_Y) (pc : Nat) (L : mm_L) (st : List Value) (θ : mm_T) (σ : mm_M) : Option mm_A := match st with
  | .ref _ :: rest => mm_ck (decide (mm_sw rest ≤ 8) && (decide (1 ≤ mm_rf y) && decide (20 ≤ mm_rl y))) (mm_go (pc + 3) L rest θ σ)
  | _ => none
def mm_ac (y : mm_Y) (pc : Nat) (L : mm_L) (st : List Value) (θ : mm_T) (σ : mm_M) : Option mm_A := match st with
  | .int n :: .int dp :: .ref k1 :: .int sp :: .ref k0 :: rest =>
    mm_ck (decide (mm_sw rest ≤ 8) && (decide (1 ≤ mm_rf y) && (decide (26 ≤ mm_rl y) && (θ.1 == 135 && (mm_iw θ.1 k0 && (mm_iw θ.1 k1 && (decide (0 ≤ sp) && (decide (0 ≤ dp) && (decide (0 ≤ n) && (decide (sp.toNatClampNeg + n.toNatClampNeg ≤ mm_al σ k0) && decide (dp.toNatClampNeg + n.toNatClampNeg ≤ mm_al σ k1))))))))))) (mm_go (pc + 3) L rest θ (mm_cp σ k0 k1 sp.toNatClampNeg dp.toNatClampNeg n.toNatClampNeg))
  | _ => none
def mm_mh (w : Nat) (y : mm_Y) (pc : Nat) (L : mm_L) (st : List Value) (θ : mm_T) (σ : mm_M) : Option mm_A := match w, st with
  | 0, .int y2 :: .int x :: rest => mm_ck (decide (mm_sw rest ≤ 8) && (decide (1 ≤ mm_rf y) && decide (21 ≤ mm_rl y))) (mm_go (pc + 3) L (.int (if x < y2 then y2 else x) :: rest) θ σ)
  | 1, .int y2 :: .int x :: rest => mm_ck (decide (mm_sw rest ≤ 8) && (decide (1 ≤ mm_rf y) && decide (21 ≤ mm_rl y))) (mm_go (pc + 3) L (.int (if y2 < x then y2 else x) :: rest) θ σ)
  | 2, .int x :: rest => mm_ck (decide (mm_sw rest ≤ 8) && (decide (1 ≤ mm_rf y) && decide (21 ≤ mm_rl y))) (mm_go (pc + 3) L (.int (if 0 ≤ x then x else 0 - x) :: rest) θ σ)
  | _, _ => none
def mm_pf (y : mm_Y) (pc : Nat) (L : mm_L) (st : List Value) (θ : mm_T) (σ : mm_M) (ci j : Nat) : Option mm_A := match st with
  | v :: .ref k :: st => mm_ck (mm_kd θ.1 k == ci) (match mm_ft ci j, v with
    | 0, .int x => mm_go (pc + 3) L st θ (mm_si σ k j x)
    | 3, .int x => mm_ck (x == 0 || x == 1) (mm_go (pc + 3) L st θ (mm_si σ k j x))
    | 1, .long x => mm_go (pc + 3) L st θ (mm_sl σ k j x)
    | 2, .ref x => mm_ck ((mm_nm y).name == "<init>" && mm_cn y == ci) (mm_go (pc + 3) L st (mm_sr θ k j (some x)) σ)
    | _, _ => none)
  | _ => none
def mm_sp (y : mm_Y) (θ : mm_T) (pc : Nat) (L : mm_L) (st : List Value) (σ : mm_M) (ins : Instr) (len : Nat) : Option mm_A := match ins with
  | .iconst n => mm_ck (len == 1) (mm_go (pc + 1) L (.int (Int32.ofInt n) :: st) θ σ)
  | .bipush n => mm_ck (len == 2) (mm_go (pc + 2) L (.int (Int8.ofInt n).toInt32 :: st) θ σ)
  | .sipush n => mm_ck (len == 3) (mm_go (pc + 3) L (.int (Int16.ofInt n).toInt32 :: st) θ σ)
  | .lconst n => mm_ck (len == 1) (mm_go (pc + 1) L (.long (Int64.ofNat (n : Nat)) :: st) θ σ)
  | .iload_n i => mm_ck (len == 1) (mm_ld y (pc + 1) L st θ σ (i : Nat) 0)
  | .iload i => mm_ck (len == 2) (mm_ld y (pc + 2) L st θ σ i 0)
  | .lload_n i => mm_ck (len == 1) (mm_ld y (pc + 1) L st θ σ (i : Nat) 1)
  | .lload i => mm_ck (len == 2) (mm_ld y (pc + 2) L st θ σ i 1)
  | .aload_n i => mm_ck (len == 1) (mm_ld y (pc + 1) L st θ σ (i : Nat) 2)
  | .aload i => mm_ck (len == 2) (mm_ld y (pc + 2) L st θ σ i 2)
  | .istore_n i => mm_p1 st (fun x st => mm_ck (len == 1 && decide ((i : Nat) < mm_ml y)) (mm_go (pc + 1) (mm_s1 L (i : Nat) (.int x)) st θ σ))
  | .istore i => mm_p1 st (fun x st => mm_ck (len == 2 && decide (i < mm_ml y)) (mm_go (pc + 2) (mm_s1 L i (.int x)) st θ σ))
  | .astore_n i => mm_a1 st (fun x st => mm_ck (len == 1 && decide ((i : Nat) < mm_ml y)) (mm_go (pc + 1) (mm_s1 L (i : Nat) (.ref x)) st θ σ))
  | .astore i => mm_a1 st (fun x st => mm_ck (len == 2 && decide (i < mm_ml y)) (mm_go (pc + 2) (mm_s1 L i (.ref x)) st θ σ))
  | .lstore_n i => mm_q1 st (fun x st => mm_ck (len == 1 && decide ((i : Nat) + 1 < mm_ml y)) (mm_go (pc + 1) (mm_s2 L (i : Nat) (.long x)) st θ σ))
  | .lstore i => mm_q1 st (fun x st => mm_ck (len == 2 && decide (i + 1 < mm_ml y)) (mm_go (pc + 2) (mm_s2 L i (.long x)) st θ σ))
  | .iinc i n => match L[i]? with
    | some (some (.int x)) => mm_ck (len == 3 && decide (i < mm_ml y)) (mm_go (pc + 3) (mm_s1 L i (.int (x + Int32.ofInt n))) st θ σ)
    | _ => none
  | .iadd => mm_p2 st (fun a b st => mm_ck (len == 1) (mm_go (pc + 1) L (.int (a + b) :: st) θ σ))
  | .isub => mm_p2 st (fun a b st => mm_ck (len == 1) (mm_go (pc + 1) L (.int (a - b) :: st) θ σ))
  | .imul => mm_p2 st (fun a b st => mm_ck (len == 1) (mm_go (pc + 1) L (.int (a * b) :: st) θ σ))
  | .iand => mm_p2 st (fun a b st => mm_ck (len == 1) (mm_go (pc + 1) L (.int (a &&& b) :: st) θ σ))
  | .ior => mm_p2 st (fun a b st => mm_ck (len == 1) (mm_go (pc + 1) L (.int (a ||| b) :: st) θ σ))
  | .ixor => mm_p2 st (fun a b st => mm_ck (len == 1) (mm_go (pc + 1) L (.int (a ^^^ b) :: st) θ σ))
  | .idiv => mm_p2 st (fun a b st => mm_ck (len == 1 && !decide (b = 0)) (mm_go (pc + 1) L (.int (a / b) :: st) θ σ))
  | .irem => mm_p2 st (fun a b st => mm_ck (len == 1 && !decide (b = 0)) (mm_go (pc + 1) L (.int (mm_re a b) :: st) θ σ))
  | .ishl => mm_p2 st (fun a b st => mm_ck (len == 1) (mm_go (pc + 1) L (.int (a <<< (b &&& 31)) :: st) θ σ))
  | .ishr => mm_p2 st (fun a b st => mm_ck (len == 1) (mm_go (pc + 1) L (.int (a >>> (b &&& 31)) :: st) θ σ))
  | .iushr => mm_p2 st (fun a b st => mm_ck (len == 1) (mm_go (pc + 1) L (.int (mm_us a b) :: st) θ σ))
  | .ineg => mm_p1 st (fun a st => mm_ck (len == 1) (mm_go (pc + 1) L (.int (-a) :: st) θ σ))
  | .ladd => mm_q2 st (fun a b st => mm_ck (len == 1) (mm_go (pc + 1) L (.long (a + b) :: st) θ σ))
  | .lsub => mm_q2 st (fun a b st => mm_ck (len == 1) (mm_go (pc + 1) L (.long (a - b) :: st) θ σ))
  | .lmul => mm_q2 st (fun a b st => mm_ck (len == 1) (mm_go (pc + 1) L (.long (a * b) :: st) θ σ))
  | .land => mm_q2 st (fun a b st => mm_ck (len == 1) (mm_go (pc + 1) L (.long (a &&& b) :: st) θ σ))
  | .lor => mm_q2 st (fun a b st => mm_ck (len == 1) (mm_go (pc + 1) L (.long (a ||| b) :: st) θ σ))
  | .ldiv => mm_q2 st (fun a b st => mm_ck (len == 1 && !decide (b = 0)) (mm_go (pc + 1) L (.long (a / b) :: st) θ σ))
  | .lrem => mm_q2 st (fun a b st => mm_ck (len == 1 && !decide (b = 0)) (mm_go (pc + 1) L (.long (mm_rL a b) :: st) θ σ))
  | .lshl => mm_q3 st (fun a b st => mm_ck (len == 1) (mm_go (pc + 1) L (.long (a <<< (b.toInt64 &&& 63)) :: st) θ σ))
  | .lushr => mm_q3 st (fun a b st => mm_ck (len == 1) (mm_go (pc + 1) L (.long (mm_uL a b) :: st) θ σ))
  | .lcmp => mm_q2 st (fun a b st => mm_ck (len == 1) (mm_go (pc + 1) L (.int (lg_cmp a b) :: st) θ σ))
  | .i2l => mm_p1 st (fun a st => mm_ck (len == 1) (mm_go (pc + 1) L (.long a.toInt64 :: st) θ σ))
  | .l2i => mm_q1 st (fun a st => mm_ck (len == 1) (mm_go (pc + 1) L (.int a.toInt32 :: st) θ σ))
  | .i2c => mm_p1 st (fun a st => mm_ck (len == 1) (mm_go (pc + 1) L (.int (a.toUInt32 % 65536).toInt32 :: st) θ σ))
  | .i2b => mm_p1 st (fun a st => mm_ck (len == 1) (mm_go (pc + 1) L (.int a.toInt8.toInt32 :: st) θ σ))
  | .dup => match st with
    | v :: st => mm_ck (len == 1 && v.category == 1) (mm_go (pc + 1) L (v :: v :: st) θ σ)
    | _ => none
  | .dup2 => match st with
    | v :: w :: st => mm_ck (len == 1 && (v.category == 1 && w.category == 1)) (mm_go (pc + 1) L (v :: w :: v :: w :: st) θ σ)
    | _ => none
  | .goto off => mm_ck (len == 3) (mm_jp pc off L st θ σ)
  | .ifCond c off => mm_p1 st (fun a st => mm_ck (len == 3 && decide (0 ≤ (pc : Int) + off)) (if mm_cI c a 0 = true then mm_jp pc off L st θ σ else mm_go (pc + 3) L st θ σ))
  | .if_icmp c off => mm_p2 st (fun a b st => mm_ck (len == 3 && decide (0 ≤ (pc : Int) + off)) (if mm_cI c a b = true then mm_jp pc off L st θ σ else mm_go (pc + 3) L st θ σ))
  | .tableswitch d lo hi offs => mm_p1 st (fun x st => if x.toInt < lo ∨ hi < x.toInt then mm_jp pc d L st θ σ else match offs[(x.toInt - lo).toNat]? with
    | some off => mm_jp pc off L st θ σ
    | none => none)
  | .iaload => mm_a2 st (fun i k st => mm_ck (len == 1 && (mm_ir θ.1 k && mm_in i (mm_al σ k))) (mm_go (pc + 1) L (.int (mm_i σ k i.toNatClampNeg) :: st) θ σ))
  | .baload => mm_a2 st (fun i k st => mm_ck (len == 1 && ((mm_kd θ.1 k == 21 || mm_kd θ.1 k == 33) && mm_in i (mm_al σ k))) (mm_go (pc + 1) L (.int (mm_i σ k i.toNatClampNeg) :: st) θ σ))
  | .laload => mm_a2 st (fun i k st => mm_ck (len == 1 && (mm_kd θ.1 k == 23 && mm_in i (mm_al σ k))) (mm_go (pc + 1) L (.long (mm_l σ k i.toNatClampNeg) :: st) θ σ))
  | .aaload => mm_a2 st (fun i k st => mm_ck (len == 1 && ((mm_kd θ.1 k == 24 || mm_kd θ.1 k == 25) && mm_in i (mm_al σ k))) (mm_go (pc + 1) L (va_rf (θ.2 k i.toNatClampNeg) :: st) θ σ))
  | .iastore => mm_a3 st (fun v i k st => match v with
    | .int x => mm_ck (len == 1 && (mm_iw θ.1 k && mm_in i (mm_al σ k))) (mm_go (pc + 1) L st θ (mm_si σ k i.toNatClampNeg x))
    | _ => none)
  | .bastore => mm_a3 st (fun v i k st => match v with
    | .int x => mm_ck (len == 1 && (θ.1 == 135 && ((x == 0 || x == 1) && (mm_kd θ.1 k == 21 && mm_in i (mm_al σ k))))) (mm_go (pc + 1) L st θ (mm_si σ k i.toNatClampNeg x))
    | _ => none)
  | .lastore => mm_a3 st (fun v i k st => match v with
    | .long x => mm_ck (len == 1 && (θ.1 == 135 && (mm_kd θ.1 k == 23 && mm_in i (mm_al σ k)))) (mm_go (pc + 1) L st θ (mm_sl σ k i.toNatClampNeg x))
    | _ => none)
  | .aastore => mm_a3 st (fun v i k st => match v with
    | .ref x => mm_ck (len == 1 && (mm_kd θ.1 k == 25 && (mm_kd θ.1 x == 4 && mm_in i (mm_al σ k)))) (mm_go (pc + 1) L st (mm_sr θ k i.toNatClampNeg (some x)) σ)
    | _ => none)
  | .arraylength => mm_a1 st (fun k st => mm_ck (len == 1 && (mm_ir θ.1 k || mm_kd θ.1 k == 33)) (mm_go (pc + 1) L (.int (Int32.ofNat (mm_al σ k)) :: st) θ σ))
  | .getfield idx => mm_a1 st (fun k st => mm_ck (len == 3) (match mm_lk mm_tF (mm_cn y) idx with
    | some (ci, j, _) => mm_ck (mm_kd θ.1 k == ci) (mm_go (pc + 3) L (mm_fv θ σ k j (mm_ft ci j) :: st) θ σ)
    | none => mm_ck (mm_cn y == 11 && (k == 1003 && (idx == 9 || idx == 15))) (mm_go (pc + 3) L ((if idx = 9 then .ref 1004 else .int 0) :: st) θ σ)))
  | .putfield idx => mm_ck (len == 3) (match mm_lk mm_tF (mm_cn y) idx with
    | some (ci, j, _) => mm_pf y pc L st θ σ ci j
    | none => none)
  | .getstatic idx => mm_ck (len == 3) (if mm_cn y = 4 ∧ idx = 34 then mm_go (pc + 3) L (.ref 1001 :: st) θ σ else if mm_cn y = 8 ∧ idx = 230 then mm_go (pc + 3) L (.ref 1002 :: st) θ σ else if mm_cn y = 11 ∧ idx = 38 then mm_go (pc + 3) L (.int 1 :: st) θ σ else none)
  | .ldc idx => mm_ck (len == 2 && (mm_cn y == 7 && idx == 50)) (mm_go (pc + 2) L (.ref 1003 :: st) θ σ)
  | .ldc_w idx => mm_ck (len == 3) (match mm_lk mm_tI (mm_cn y) idx with
    | some (v, _) => mm_go (pc + 3) L (.int v :: st) θ σ
    | none => none)
  | .ldc2_w idx => mm_ck (len == 3) (match mm_lk mm_tL (mm_cn y) idx with
    | some (v, _) => mm_go (pc + 3) L (.long v :: st) θ σ
    | none => none)
  | .invokestatic idx => mm_ck (len == 3) (match mm_lk mm_tA (mm_cn y) idx with
    | some _ => mm_ac y pc L st θ σ
    | none => match mm_lk mm_tH (mm_cn y) idx with
      | some (w, _) => mm_mh w y pc L st θ σ
      | none => mm_inv 0 y θ pc st idx)
  | .invokevirtual idx => mm_ck (len == 3) (mm_inv 1 y θ pc st idx)
  | .invokespecial idx => mm_ck (len == 3) (match mm_lk mm_tO (mm_cn y) idx with
    | some _ => mm_oi y pc L st θ σ
    | none => mm_inv 2 y θ pc st idx)
  | .new idx => mm_ck (len == 3) (match mm_lk mm_tN (mm_cn y) idx with
    | some (ci, _) => mm_ck (decide (θ.1 < 135) && (mm_kt θ.1).1 == ci) (mm_go (pc + 3) L (.ref θ.1 :: st) (mm_nT θ) (mm_nM θ σ))
    | none => none)
  | .newarray t => mm_p1 st (fun n st => mm_ck (len == 2 && (decide (θ.1 < 135) && (decide (0 ≤ n) && mm_kt θ.1 == (match t with | .int => 20 | .boolean => 21 | .long => 23 | _ => 98, n.toNatClampNeg)))) (mm_go (pc + 2) L (.ref θ.1 :: st) (mm_nT θ) (mm_nM θ σ)))
  | .anewarray idx => mm_p1 st (fun n st => mm_ck (len == 3 && (decide (θ.1 < 135) && (decide (0 ≤ n) && (mm_kt θ.1 == (25, n.toNatClampNeg) && (mm_lk mm_tQ (mm_cn y) idx).isSome)))) (mm_go (pc + 3) L (.ref θ.1 :: st) (mm_nT θ) (mm_nM θ σ)))
  | .multianewarray idx d => mm_p2 st (fun n k st => mm_ck (len == 4 && (d == 2 && (decide (θ.1 + n.toNatClampNeg < 135) && (decide (0 ≤ n) && (decide (0 ≤ k ∧ k ≤ 900) && (mm_kt θ.1 == (24, n.toNatClampNeg) && ((List.range n.toNatClampNeg).all (fun i => mm_kt (θ.1 + 1 + i) == (20, k.toNatClampNeg)) && (mm_lk mm_tM (mm_cn y) idx).isSome))))))) (mm_go (pc + 4) L (.ref θ.1 :: st) (mm_nT2 θ n.toNatClampNeg) (mm_nM2 θ σ n.toNatClampNeg)))
  | .pop => match st with
    | v :: st => mm_ck (len == 1 && v.category == 1) (mm_go (pc + 1) L st θ σ)
    | _ => none
  | .ireturn => match st, mm_rt y with
    | [.int v], some ty => mm_ck (len == 1 && decide (narrow ty (.int v) = .int v)) (some (.inr (.inr (some (.int v)))))
    | _, _ => none
  | .lreturn => match st, mm_rt y with
    | [.long v], some .long => mm_ck (len == 1) (some (.inr (.inr (some (.long v)))))
    | _, _ => none
  | .return_ => match st, mm_rt y with
    | [], none => mm_ck (len == 1) (some (.inr (.inr none)))
    | _, _ => none
  | _ => none
def mm_s (y : mm_Y) (θ : mm_T) (pc : Nat) (L : mm_L) (st : List Value) (σ : mm_M) : Option mm_A := match decode (mm_cd y) pc with
  | .ok (ins, len) => mm_sp y θ pc L st σ ins len
  | .error _ => none

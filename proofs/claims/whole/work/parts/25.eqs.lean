/-! ===== what a run does at each instruction ===== -/
section EE
variable {y : mm_Y} {θ : mm_T} {pc : Nat} {L : mm_L} {st : List Value} {σ : mm_M}
theorem e_iconst {n : Int} {v : Int32} (hv : Int32.ofInt n = v) (hd : decode (mm_cd y) pc = .ok (.iconst n, 1)) : mm_run y θ pc L st σ = mm_run y θ (pc + 1) L (.int v :: st) σ := by (try subst hv); rw [mm_run_eq, mm_s, hd]; rfl
theorem e_bipush {n : Int} {v : Int32} (hv : (Int8.ofInt n).toInt32 = v) (hd : decode (mm_cd y) pc = .ok (.bipush n, 2)) : mm_run y θ pc L st σ = mm_run y θ (pc + 2) L (.int v :: st) σ := by (try subst hv); rw [mm_run_eq, mm_s, hd]; rfl
theorem e_sipush {n : Int} {v : Int32} (hv : (Int16.ofInt n).toInt32 = v) (hd : decode (mm_cd y) pc = .ok (.sipush n, 3)) : mm_run y θ pc L st σ = mm_run y θ (pc + 3) L (.int v :: st) σ := by (try subst hv); rw [mm_run_eq, mm_s, hd]; rfl
theorem e_lconst {n : Fin 2} {v : Int64} (hv : Int64.ofNat (n : Nat) = v) (hd : decode (mm_cd y) pc = .ok (.lconst n, 1)) : mm_run y θ pc L st σ = mm_run y θ (pc + 1) L (.long v :: st) σ := by (try subst hv); rw [mm_run_eq, mm_s, hd]; rfl
theorem e_iload_n {i : Fin 4} {x : Int32} (hd : decode (mm_cd y) pc = .ok (.iload_n i, 1)) (hl : L[(i : Nat)]? = some (some (.int x))) : mm_run y θ pc L st σ = mm_run y θ (pc + 1) L (.int x :: st) σ := by
  rw [mm_run_eq, mm_s, hd]
  show mm_bd mm_run (mm_ck (1 == 1) (mm_ld y (pc + 1) L st θ σ (i : Nat) 0)) y θ L σ = _
  unfold mm_ld; rw [hl]; rfl
theorem e_iload {i : Nat} {x : Int32} (hd : decode (mm_cd y) pc = .ok (.iload i, 2)) (hl : L[(i : Nat)]? = some (some (.int x))) : mm_run y θ pc L st σ = mm_run y θ (pc + 2) L (.int x :: st) σ := by
  rw [mm_run_eq, mm_s, hd]
  show mm_bd mm_run (mm_ck (2 == 2) (mm_ld y (pc + 2) L st θ σ (i : Nat) 0)) y θ L σ = _
  unfold mm_ld; rw [hl]; rfl
theorem e_lload_n {i : Fin 4} {x : Int64} (hd : decode (mm_cd y) pc = .ok (.lload_n i, 1)) (hl : L[(i : Nat)]? = some (some (.long x))) : mm_run y θ pc L st σ = mm_run y θ (pc + 1) L (.long x :: st) σ := by
  rw [mm_run_eq, mm_s, hd]
  show mm_bd mm_run (mm_ck (1 == 1) (mm_ld y (pc + 1) L st θ σ (i : Nat) 1)) y θ L σ = _
  unfold mm_ld; rw [hl]; rfl
theorem e_lload {i : Nat} {x : Int64} (hd : decode (mm_cd y) pc = .ok (.lload i, 2)) (hl : L[(i : Nat)]? = some (some (.long x))) : mm_run y θ pc L st σ = mm_run y θ (pc + 2) L (.long x :: st) σ := by
  rw [mm_run_eq, mm_s, hd]
  show mm_bd mm_run (mm_ck (2 == 2) (mm_ld y (pc + 2) L st θ σ (i : Nat) 1)) y θ L σ = _
  unfold mm_ld; rw [hl]; rfl
theorem e_aload_n {i : Fin 4} {x : Nat} (hd : decode (mm_cd y) pc = .ok (.aload_n i, 1)) (hl : L[(i : Nat)]? = some (some (.ref x))) : mm_run y θ pc L st σ = mm_run y θ (pc + 1) L (.ref x :: st) σ := by
  rw [mm_run_eq, mm_s, hd]
  show mm_bd mm_run (mm_ck (1 == 1) (mm_ld y (pc + 1) L st θ σ (i : Nat) 2)) y θ L σ = _
  unfold mm_ld; rw [hl]; rfl
theorem e_aload {i : Nat} {x : Nat} (hd : decode (mm_cd y) pc = .ok (.aload i, 2)) (hl : L[(i : Nat)]? = some (some (.ref x))) : mm_run y θ pc L st σ = mm_run y θ (pc + 2) L (.ref x :: st) σ := by
  rw [mm_run_eq, mm_s, hd]
  show mm_bd mm_run (mm_ck (2 == 2) (mm_ld y (pc + 2) L st θ σ (i : Nat) 2)) y θ L σ = _
  unfold mm_ld; rw [hl]; rfl
theorem e_istore_n {i : Fin 4} {x : Int32} (hd : decode (mm_cd y) pc = .ok (.istore_n i, 1)) (hl : (i : Nat) < mm_ml y) : mm_run y θ pc L (.int x :: st) σ = mm_run y θ (pc + 1) (mm_s1 L (i : Nat) (.int x)) st σ := by
  rw [mm_run_eq, mm_s, hd]
  show mm_bd mm_run (mm_ck ((1 == 1) && decide ((i : Nat) < mm_ml y)) (mm_go (pc + 1) (mm_s1 L (i : Nat) (.int x)) st θ σ)) y θ L σ = _
  rw [decide_eq_true hl]; rfl
theorem e_istore {i : Nat} {x : Int32} (hd : decode (mm_cd y) pc = .ok (.istore i, 2)) (hl : (i : Nat) < mm_ml y) : mm_run y θ pc L (.int x :: st) σ = mm_run y θ (pc + 2) (mm_s1 L (i : Nat) (.int x)) st σ := by
  rw [mm_run_eq, mm_s, hd]
  show mm_bd mm_run (mm_ck ((2 == 2) && decide ((i : Nat) < mm_ml y)) (mm_go (pc + 2) (mm_s1 L (i : Nat) (.int x)) st θ σ)) y θ L σ = _
  rw [decide_eq_true hl]; rfl
theorem e_astore_n {i : Fin 4} {x : Nat} (hd : decode (mm_cd y) pc = .ok (.astore_n i, 1)) (hl : (i : Nat) < mm_ml y) : mm_run y θ pc L (.ref x :: st) σ = mm_run y θ (pc + 1) (mm_s1 L (i : Nat) (.ref x)) st σ := by
  rw [mm_run_eq, mm_s, hd]
  show mm_bd mm_run (mm_ck ((1 == 1) && decide ((i : Nat) < mm_ml y)) (mm_go (pc + 1) (mm_s1 L (i : Nat) (.ref x)) st θ σ)) y θ L σ = _
  rw [decide_eq_true hl]; rfl
theorem e_astore {i : Nat} {x : Nat} (hd : decode (mm_cd y) pc = .ok (.astore i, 2)) (hl : (i : Nat) < mm_ml y) : mm_run y θ pc L (.ref x :: st) σ = mm_run y θ (pc + 2) (mm_s1 L (i : Nat) (.ref x)) st σ := by
  rw [mm_run_eq, mm_s, hd]
  show mm_bd mm_run (mm_ck ((2 == 2) && decide ((i : Nat) < mm_ml y)) (mm_go (pc + 2) (mm_s1 L (i : Nat) (.ref x)) st θ σ)) y θ L σ = _
  rw [decide_eq_true hl]; rfl
theorem e_lstore_n {i : Fin 4} {x : Int64} (hd : decode (mm_cd y) pc = .ok (.lstore_n i, 1)) (hl : (i : Nat) + 1 < mm_ml y) : mm_run y θ pc L (.long x :: st) σ = mm_run y θ (pc + 1) (mm_s2 L (i : Nat) (.long x)) st σ := by
  rw [mm_run_eq, mm_s, hd]
  show mm_bd mm_run (mm_ck ((1 == 1) && decide ((i : Nat) + 1 < mm_ml y)) (mm_go (pc + 1) (mm_s2 L (i : Nat) (.long x)) st θ σ)) y θ L σ = _
  rw [decide_eq_true hl]; rfl
theorem e_lstore {i : Nat} {x : Int64} (hd : decode (mm_cd y) pc = .ok (.lstore i, 2)) (hl : (i : Nat) + 1 < mm_ml y) : mm_run y θ pc L (.long x :: st) σ = mm_run y θ (pc + 2) (mm_s2 L (i : Nat) (.long x)) st σ := by
  rw [mm_run_eq, mm_s, hd]
  show mm_bd mm_run (mm_ck ((2 == 2) && decide ((i : Nat) + 1 < mm_ml y)) (mm_go (pc + 2) (mm_s2 L (i : Nat) (.long x)) st θ σ)) y θ L σ = _
  rw [decide_eq_true hl]; rfl
theorem e_iinc {i : Nat} {n : Int} {x : Int32} (hd : decode (mm_cd y) pc = .ok (.iinc i n, 3)) (hl : L[i]? = some (some (.int x))) {v : Int32} (hv : Int32.ofInt n = v) (hi : i < mm_ml y) : mm_run y θ pc L st σ = mm_run y θ (pc + 3) (mm_s1 L i (.int (x + v))) st σ := by
  subst hv
  rw [mm_run_eq, mm_s, hd]
  simp only [mm_sp, hl, decide_eq_true hi]; rfl
theorem e_iadd {a b : Int32} (hd : decode (mm_cd y) pc = .ok (.iadd, 1)) : mm_run y θ pc L (.int b :: .int a :: st) σ = mm_run y θ (pc + 1) L (.int (a + b) :: st) σ := by (try subst hv); rw [mm_run_eq, mm_s, hd]; rfl
theorem e_isub {a b : Int32} (hd : decode (mm_cd y) pc = .ok (.isub, 1)) : mm_run y θ pc L (.int b :: .int a :: st) σ = mm_run y θ (pc + 1) L (.int (a - b) :: st) σ := by (try subst hv); rw [mm_run_eq, mm_s, hd]; rfl
theorem e_imul {a b : Int32} (hd : decode (mm_cd y) pc = .ok (.imul, 1)) : mm_run y θ pc L (.int b :: .int a :: st) σ = mm_run y θ (pc + 1) L (.int (a * b) :: st) σ := by (try subst hv); rw [mm_run_eq, mm_s, hd]; rfl
theorem e_iand {a b : Int32} (hd : decode (mm_cd y) pc = .ok (.iand, 1)) : mm_run y θ pc L (.int b :: .int a :: st) σ = mm_run y θ (pc + 1) L (.int (a &&& b) :: st) σ := by (try subst hv); rw [mm_run_eq, mm_s, hd]; rfl
theorem e_ior {a b : Int32} (hd : decode (mm_cd y) pc = .ok (.ior, 1)) : mm_run y θ pc L (.int b :: .int a :: st) σ = mm_run y θ (pc + 1) L (.int (a ||| b) :: st) σ := by (try subst hv); rw [mm_run_eq, mm_s, hd]; rfl
theorem e_ixor {a b : Int32} (hd : decode (mm_cd y) pc = .ok (.ixor, 1)) : mm_run y θ pc L (.int b :: .int a :: st) σ = mm_run y θ (pc + 1) L (.int (a ^^^ b) :: st) σ := by (try subst hv); rw [mm_run_eq, mm_s, hd]; rfl
theorem e_ishl {a b : Int32} (hd : decode (mm_cd y) pc = .ok (.ishl, 1)) : mm_run y θ pc L (.int b :: .int a :: st) σ = mm_run y θ (pc + 1) L (.int (a <<< (b &&& 31)) :: st) σ := by (try subst hv); rw [mm_run_eq, mm_s, hd]; rfl
theorem e_ishr {a b : Int32} (hd : decode (mm_cd y) pc = .ok (.ishr, 1)) : mm_run y θ pc L (.int b :: .int a :: st) σ = mm_run y θ (pc + 1) L (.int (a >>> (b &&& 31)) :: st) σ := by (try subst hv); rw [mm_run_eq, mm_s, hd]; rfl
theorem e_iushr {a b : Int32} (hd : decode (mm_cd y) pc = .ok (.iushr, 1)) : mm_run y θ pc L (.int b :: .int a :: st) σ = mm_run y θ (pc + 1) L (.int (mm_us a b) :: st) σ := by (try subst hv); rw [mm_run_eq, mm_s, hd]; rfl
theorem e_ineg {a : Int32} (hd : decode (mm_cd y) pc = .ok (.ineg, 1)) : mm_run y θ pc L (.int a :: st) σ = mm_run y θ (pc + 1) L (.int (-a) :: st) σ := by (try subst hv); rw [mm_run_eq, mm_s, hd]; rfl
theorem e_i2l {a : Int32} (hd : decode (mm_cd y) pc = .ok (.i2l, 1)) : mm_run y θ pc L (.int a :: st) σ = mm_run y θ (pc + 1) L (.long a.toInt64 :: st) σ := by (try subst hv); rw [mm_run_eq, mm_s, hd]; rfl
theorem e_l2i {a : Int64} (hd : decode (mm_cd y) pc = .ok (.l2i, 1)) : mm_run y θ pc L (.long a :: st) σ = mm_run y θ (pc + 1) L (.int a.toInt32 :: st) σ := by (try subst hv); rw [mm_run_eq, mm_s, hd]; rfl
theorem e_i2c {a : Int32} (hd : decode (mm_cd y) pc = .ok (.i2c, 1)) : mm_run y θ pc L (.int a :: st) σ = mm_run y θ (pc + 1) L (.int (a.toUInt32 % 65536).toInt32 :: st) σ := by (try subst hv); rw [mm_run_eq, mm_s, hd]; rfl
theorem e_i2b {a : Int32} (hd : decode (mm_cd y) pc = .ok (.i2b, 1)) : mm_run y θ pc L (.int a :: st) σ = mm_run y θ (pc + 1) L (.int a.toInt8.toInt32 :: st) σ := by (try subst hv); rw [mm_run_eq, mm_s, hd]; rfl
theorem e_ladd {a b : Int64} (hd : decode (mm_cd y) pc = .ok (.ladd, 1)) : mm_run y θ pc L (.long b :: .long a :: st) σ = mm_run y θ (pc + 1) L (.long (a + b) :: st) σ := by (try subst hv); rw [mm_run_eq, mm_s, hd]; rfl
theorem e_lsub {a b : Int64} (hd : decode (mm_cd y) pc = .ok (.lsub, 1)) : mm_run y θ pc L (.long b :: .long a :: st) σ = mm_run y θ (pc + 1) L (.long (a - b) :: st) σ := by (try subst hv); rw [mm_run_eq, mm_s, hd]; rfl
theorem e_lmul {a b : Int64} (hd : decode (mm_cd y) pc = .ok (.lmul, 1)) : mm_run y θ pc L (.long b :: .long a :: st) σ = mm_run y θ (pc + 1) L (.long (a * b) :: st) σ := by (try subst hv); rw [mm_run_eq, mm_s, hd]; rfl
theorem e_land {a b : Int64} (hd : decode (mm_cd y) pc = .ok (.land, 1)) : mm_run y θ pc L (.long b :: .long a :: st) σ = mm_run y θ (pc + 1) L (.long (a &&& b) :: st) σ := by (try subst hv); rw [mm_run_eq, mm_s, hd]; rfl
theorem e_lor {a b : Int64} (hd : decode (mm_cd y) pc = .ok (.lor, 1)) : mm_run y θ pc L (.long b :: .long a :: st) σ = mm_run y θ (pc + 1) L (.long (a ||| b) :: st) σ := by (try subst hv); rw [mm_run_eq, mm_s, hd]; rfl
theorem e_lcmp {a b : Int64} (hd : decode (mm_cd y) pc = .ok (.lcmp, 1)) : mm_run y θ pc L (.long b :: .long a :: st) σ = mm_run y θ (pc + 1) L (.int (lg_cmp a b) :: st) σ := by (try subst hv); rw [mm_run_eq, mm_s, hd]; rfl
theorem e_lshl {a : Int64} {b : Int32} (hd : decode (mm_cd y) pc = .ok (.lshl, 1)) : mm_run y θ pc L (.int b :: .long a :: st) σ = mm_run y θ (pc + 1) L (.long (a <<< (b.toInt64 &&& 63)) :: st) σ := by (try subst hv); rw [mm_run_eq, mm_s, hd]; rfl
theorem e_lushr {a : Int64} {b : Int32} (hd : decode (mm_cd y) pc = .ok (.lushr, 1)) : mm_run y θ pc L (.int b :: .long a :: st) σ = mm_run y θ (pc + 1) L (.long (mm_uL a b) :: st) σ := by (try subst hv); rw [mm_run_eq, mm_s, hd]; rfl
theorem e_dup_i {a : Int32} (hd : decode (mm_cd y) pc = .ok (.dup, 1)) : mm_run y θ pc L (.int a :: st) σ = mm_run y θ (pc + 1) L (.int a :: .int a :: st) σ := by (try subst hv); rw [mm_run_eq, mm_s, hd]; rfl
theorem e_dup_r {a : Nat} (hd : decode (mm_cd y) pc = .ok (.dup, 1)) : mm_run y θ pc L (.ref a :: st) σ = mm_run y θ (pc + 1) L (.ref a :: .ref a :: st) σ := by (try subst hv); rw [mm_run_eq, mm_s, hd]; rfl
theorem e_dup2 {a : Int32} {b : Nat} (hd : decode (mm_cd y) pc = .ok (.dup2, 1)) : mm_run y θ pc L (.int a :: .ref b :: st) σ = mm_run y θ (pc + 1) L (.int a :: .ref b :: .int a :: .ref b :: st) σ := by (try subst hv); rw [mm_run_eq, mm_s, hd]; rfl
theorem e_pop_i {a : Int32} (hd : decode (mm_cd y) pc = .ok (.pop, 1)) : mm_run y θ pc L (.int a :: st) σ = mm_run y θ (pc + 1) L st σ := by (try subst hv); rw [mm_run_eq, mm_s, hd]; rfl
theorem e_idiv {a b : Int32} (hd : decode (mm_cd y) pc = .ok (.idiv, 1)) : mm_run y θ pc L (.int b :: .int a :: st) σ = mm_gd (!decide (b = 0)) (mm_run y θ (pc + 1) L (.int (a / b) :: st) σ) := by
  rw [mm_run_eq, mm_s, hd]
  cases hc : (!decide (b = 0)) <;> simp [mm_sp, mm_a1, mm_a2, mm_a3, mm_p1, mm_p2, mm_q1, mm_q2, mm_ck, mm_go, mm_gd, mm_bd, hc]
theorem e_irem {a b : Int32} (hd : decode (mm_cd y) pc = .ok (.irem, 1)) : mm_run y θ pc L (.int b :: .int a :: st) σ = mm_gd (!decide (b = 0)) (mm_run y θ (pc + 1) L (.int (mm_re a b) :: st) σ) := by
  rw [mm_run_eq, mm_s, hd]
  cases hc : (!decide (b = 0)) <;> simp [mm_sp, mm_a1, mm_a2, mm_a3, mm_p1, mm_p2, mm_q1, mm_q2, mm_ck, mm_go, mm_gd, mm_bd, hc]
theorem e_ldiv {a b : Int64} (hd : decode (mm_cd y) pc = .ok (.ldiv, 1)) : mm_run y θ pc L (.long b :: .long a :: st) σ = mm_gd (!decide (b = 0)) (mm_run y θ (pc + 1) L (.long (a / b) :: st) σ) := by
  rw [mm_run_eq, mm_s, hd]
  cases hc : (!decide (b = 0)) <;> simp [mm_sp, mm_a1, mm_a2, mm_a3, mm_p1, mm_p2, mm_q1, mm_q2, mm_ck, mm_go, mm_gd, mm_bd, hc]
theorem e_lrem {a b : Int64} (hd : decode (mm_cd y) pc = .ok (.lrem, 1)) : mm_run y θ pc L (.long b :: .long a :: st) σ = mm_gd (!decide (b = 0)) (mm_run y θ (pc + 1) L (.long (mm_rL a b) :: st) σ) := by
  rw [mm_run_eq, mm_s, hd]
  cases hc : (!decide (b = 0)) <;> simp [mm_sp, mm_a1, mm_a2, mm_a3, mm_p1, mm_p2, mm_q1, mm_q2, mm_ck, mm_go, mm_gd, mm_bd, hc]
theorem e_iaload {i : Int32} {k : Nat} (hd : decode (mm_cd y) pc = .ok (.iaload, 1)) : mm_run y θ pc L (.int i :: .ref k :: st) σ = mm_gd (mm_ir θ.1 k && mm_in i (mm_al σ k)) (mm_run y θ (pc + 1) L (.int (mm_i σ k i.toNatClampNeg) :: st) σ) := by
  rw [mm_run_eq, mm_s, hd]
  cases hc : (mm_ir θ.1 k && mm_in i (mm_al σ k)) <;> simp [mm_sp, mm_a1, mm_a2, mm_a3, mm_p1, mm_p2, mm_q1, mm_q2, mm_ck, mm_go, mm_gd, mm_bd, hc]
theorem e_baload {i : Int32} {k : Nat} (hd : decode (mm_cd y) pc = .ok (.baload, 1)) : mm_run y θ pc L (.int i :: .ref k :: st) σ = mm_gd ((mm_kd θ.1 k == 21 || mm_kd θ.1 k == 33) && mm_in i (mm_al σ k)) (mm_run y θ (pc + 1) L (.int (mm_i σ k i.toNatClampNeg) :: st) σ) := by
  rw [mm_run_eq, mm_s, hd]
  cases hc : ((mm_kd θ.1 k == 21 || mm_kd θ.1 k == 33) && mm_in i (mm_al σ k)) <;> simp [mm_sp, mm_a1, mm_a2, mm_a3, mm_p1, mm_p2, mm_q1, mm_q2, mm_ck, mm_go, mm_gd, mm_bd, hc]
theorem e_laload {i : Int32} {k : Nat} (hd : decode (mm_cd y) pc = .ok (.laload, 1)) : mm_run y θ pc L (.int i :: .ref k :: st) σ = mm_gd (mm_kd θ.1 k == 23 && mm_in i (mm_al σ k)) (mm_run y θ (pc + 1) L (.long (mm_l σ k i.toNatClampNeg) :: st) σ) := by
  rw [mm_run_eq, mm_s, hd]
  cases hc : (mm_kd θ.1 k == 23 && mm_in i (mm_al σ k)) <;> simp [mm_sp, mm_a1, mm_a2, mm_a3, mm_p1, mm_p2, mm_q1, mm_q2, mm_ck, mm_go, mm_gd, mm_bd, hc]
theorem e_aaload {i : Int32} {k : Nat} (hd : decode (mm_cd y) pc = .ok (.aaload, 1)) : mm_run y θ pc L (.int i :: .ref k :: st) σ = mm_gd ((mm_kd θ.1 k == 24 || mm_kd θ.1 k == 25) && mm_in i (mm_al σ k)) (mm_run y θ (pc + 1) L (va_rf (θ.2 k i.toNatClampNeg) :: st) σ) := by
  rw [mm_run_eq, mm_s, hd]
  cases hc : ((mm_kd θ.1 k == 24 || mm_kd θ.1 k == 25) && mm_in i (mm_al σ k)) <;> simp [mm_sp, mm_a1, mm_a2, mm_a3, mm_p1, mm_p2, mm_q1, mm_q2, mm_ck, mm_go, mm_gd, mm_bd, hc]
theorem e_iastore {x i : Int32} {k : Nat} (hd : decode (mm_cd y) pc = .ok (.iastore, 1)) : mm_run y θ pc L (.int x :: .int i :: .ref k :: st) σ = mm_gd (mm_iw θ.1 k && mm_in i (mm_al σ k)) (mm_run y θ (pc + 1) L st (mm_si σ k i.toNatClampNeg x)) := by
  rw [mm_run_eq, mm_s, hd]
  cases hc : (mm_iw θ.1 k && mm_in i (mm_al σ k)) <;> simp [mm_sp, mm_a1, mm_a2, mm_a3, mm_p1, mm_p2, mm_q1, mm_q2, mm_ck, mm_go, mm_gd, mm_bd, hc]
theorem e_bastore {x i : Int32} {k : Nat} (hd : decode (mm_cd y) pc = .ok (.bastore, 1)) (hθ : (θ.1 == 135) = true) : mm_run y θ pc L (.int x :: .int i :: .ref k :: st) σ = mm_gd ((x == 0 || x == 1) && (mm_kd θ.1 k == 21 && mm_in i (mm_al σ k))) (mm_run y θ (pc + 1) L st (mm_si σ k i.toNatClampNeg x)) := by
  rw [mm_run_eq, mm_s, hd]
  cases hc : ((x == 0 || x == 1) && (mm_kd θ.1 k == 21 && mm_in i (mm_al σ k))) <;> simp [mm_sp, mm_a1, mm_a2, mm_a3, mm_p1, mm_p2, mm_q1, mm_q2, mm_ck, mm_go, mm_gd, mm_bd, hc, hθ]
theorem e_lastore {x : Int64} {i : Int32} {k : Nat} (hd : decode (mm_cd y) pc = .ok (.lastore, 1)) (hθ : (θ.1 == 135) = true) : mm_run y θ pc L (.long x :: .int i :: .ref k :: st) σ = mm_gd (mm_kd θ.1 k == 23 && mm_in i (mm_al σ k)) (mm_run y θ (pc + 1) L st (mm_sl σ k i.toNatClampNeg x)) := by
  rw [mm_run_eq, mm_s, hd]
  cases hc : (mm_kd θ.1 k == 23 && mm_in i (mm_al σ k)) <;> simp [mm_sp, mm_a1, mm_a2, mm_a3, mm_p1, mm_p2, mm_q1, mm_q2, mm_ck, mm_go, mm_gd, mm_bd, hc, hθ]
theorem e_aastore {x : Nat} {i : Int32} {k : Nat} (hd : decode (mm_cd y) pc = .ok (.aastore, 1)) : mm_run y θ pc L (.ref x :: .int i :: .ref k :: st) σ = mm_gd (mm_kd θ.1 k == 25 && (mm_kd θ.1 x == 4 && mm_in i (mm_al σ k))) (mm_run y (mm_sr θ k i.toNatClampNeg (some x)) (pc + 1) L st σ) := by
  rw [mm_run_eq, mm_s, hd]
  cases hc : (mm_kd θ.1 k == 25 && (mm_kd θ.1 x == 4 && mm_in i (mm_al σ k))) <;> simp [mm_sp, mm_a1, mm_a2, mm_a3, mm_p1, mm_p2, mm_q1, mm_q2, mm_ck, mm_go, mm_gd, mm_bd, hc]
theorem e_alen {k : Nat} (hd : decode (mm_cd y) pc = .ok (.arraylength, 1)) : mm_run y θ pc L (.ref k :: st) σ = mm_gd (mm_ir θ.1 k || mm_kd θ.1 k == 33) (mm_run y θ (pc + 1) L (.int (Int32.ofNat (mm_al σ k)) :: st) σ) := by
  rw [mm_run_eq, mm_s, hd]
  cases hc : (mm_ir θ.1 k || mm_kd θ.1 k == 33) <;> simp [mm_sp, mm_a1, mm_a2, mm_a3, mm_p1, mm_p2, mm_q1, mm_q2, mm_ck, mm_go, mm_gd, mm_bd, hc]
theorem e_gf {idx ci j p k : Nat} (hd : decode (mm_cd y) pc = .ok (.getfield idx, 3)) (hl : mm_lk mm_tF (mm_cn y) idx = some (ci, j, p)) : mm_run y θ pc L (.ref k :: st) σ = mm_gd (mm_kd θ.1 k == ci) (mm_run y θ (pc + 3) L (mm_fv θ σ k j (mm_ft ci j) :: st) σ) := by
  rw [mm_run_eq, mm_s, hd]
  cases hc : (mm_kd θ.1 k == ci) <;> simp [mm_sp, mm_a1, mm_a2, mm_a3, mm_p1, mm_p2, mm_q1, mm_q2, mm_ck, mm_go, mm_gd, mm_bd, hc, hl]
theorem e_pfi {idx ci j p k : Nat} {x : Int32} (hd : decode (mm_cd y) pc = .ok (.putfield idx, 3)) (hl : mm_lk mm_tF (mm_cn y) idx = some (ci, j, p)) (hf : mm_ft ci j = 0) : mm_run y θ pc L (.int x :: .ref k :: st) σ = mm_gd (mm_kd θ.1 k == ci) (mm_run y θ (pc + 3) L st (mm_si σ k j x)) := by
  rw [mm_run_eq, mm_s, hd]
  cases hc : (mm_kd θ.1 k == ci) <;> simp [mm_sp, mm_a1, mm_a2, mm_a3, mm_p1, mm_p2, mm_q1, mm_q2, mm_ck, mm_go, mm_gd, mm_bd, hc, hl, mm_pf, hf]
theorem e_pfz {idx ci j p k : Nat} {x : Int32} (hd : decode (mm_cd y) pc = .ok (.putfield idx, 3)) (hl : mm_lk mm_tF (mm_cn y) idx = some (ci, j, p)) (hf : mm_ft ci j = 3) : mm_run y θ pc L (.int x :: .ref k :: st) σ = mm_gd (mm_kd θ.1 k == ci && (x == 0 || x == 1)) (mm_run y θ (pc + 3) L st (mm_si σ k j x)) := by
  rw [mm_run_eq, mm_s, hd]
  simp only [mm_sp, hl, mm_pf, hf]
  cases (mm_kd θ.1 k == ci) <;> cases (x == 0 || x == 1) <;> rfl
theorem e_pfl {idx ci j p k : Nat} {x : Int64} (hd : decode (mm_cd y) pc = .ok (.putfield idx, 3)) (hl : mm_lk mm_tF (mm_cn y) idx = some (ci, j, p)) (hf : mm_ft ci j = 1) : mm_run y θ pc L (.long x :: .ref k :: st) σ = mm_gd (mm_kd θ.1 k == ci) (mm_run y θ (pc + 3) L st (mm_sl σ k j x)) := by
  rw [mm_run_eq, mm_s, hd]
  cases hc : (mm_kd θ.1 k == ci) <;> simp [mm_sp, mm_a1, mm_a2, mm_a3, mm_p1, mm_p2, mm_q1, mm_q2, mm_ck, mm_go, mm_gd, mm_bd, hc, hl, mm_pf, hf]
theorem e_pfr {idx ci j p k x : Nat} (hd : decode (mm_cd y) pc = .ok (.putfield idx, 3)) (hl : mm_lk mm_tF (mm_cn y) idx = some (ci, j, p)) (hf : mm_ft ci j = 2) (hi : ((mm_nm y).name == "<init>" && mm_cn y == ci) = true) : mm_run y θ pc L (.ref x :: .ref k :: st) σ = mm_gd (mm_kd θ.1 k == ci) (mm_run y (mm_sr θ k j (some x)) (pc + 3) L st σ) := by
  rw [mm_run_eq, mm_s, hd]
  cases hc : (mm_kd θ.1 k == ci) <;> simp [mm_sp, mm_a1, mm_a2, mm_a3, mm_p1, mm_p2, mm_q1, mm_q2, mm_ck, mm_go, mm_gd, mm_bd, hc, hl, mm_pf, hf, hi]
theorem e_strv {k : Nat} (hy : mm_cn y = 11) (hd : decode (mm_cd y) pc = .ok (.getfield 9, 3)) : mm_run y θ pc L (.ref 1003 :: st) σ = mm_run y θ (pc + 3) L (.ref 1004 :: st) σ := by
  rw [mm_run_eq, mm_s, hd]
  have hl : mm_lk mm_tF 11 9 = none := by decide +kernel
  simp [mm_sp, mm_a1, mm_ck, hy, hl, mm_go, mm_bd]
theorem e_strc {k : Nat} (hy : mm_cn y = 11) (hd : decode (mm_cd y) pc = .ok (.getfield 15, 3)) : mm_run y θ pc L (.ref 1003 :: st) σ = mm_run y θ (pc + 3) L (.int 0 :: st) σ := by
  rw [mm_run_eq, mm_s, hd]
  have hl : mm_lk mm_tF 11 15 = none := by decide +kernel
  simp [mm_sp, mm_a1, mm_ck, hy, hl, mm_go, mm_bd]
theorem e_gs1 (hy : mm_cn y = 4) (hd : decode (mm_cd y) pc = .ok (.getstatic 34, 3)) : mm_run y θ pc L st σ = mm_run y θ (pc + 3) L (.ref 1001 :: st) σ := by
  rw [mm_run_eq, mm_s, hd]; simp [mm_sp, mm_ck, hy, mm_go, mm_bd]
theorem e_gs2 (hy : mm_cn y = 8) (hd : decode (mm_cd y) pc = .ok (.getstatic 230, 3)) : mm_run y θ pc L st σ = mm_run y θ (pc + 3) L (.ref 1002 :: st) σ := by
  rw [mm_run_eq, mm_s, hd]; simp [mm_sp, mm_ck, hy, mm_go, mm_bd]
theorem e_gs3 (hy : mm_cn y = 11) (hd : decode (mm_cd y) pc = .ok (.getstatic 38, 3)) : mm_run y θ pc L st σ = mm_run y θ (pc + 3) L (.int 1 :: st) σ := by
  rw [mm_run_eq, mm_s, hd]; simp [mm_sp, mm_ck, hy, mm_go, mm_bd]
theorem e_ldcs (hy : mm_cn y = 7) (hd : decode (mm_cd y) pc = .ok (.ldc 50, 2)) : mm_run y θ pc L st σ = mm_run y θ (pc + 2) L (.ref 1003 :: st) σ := by
  rw [mm_run_eq, mm_s, hd]; simp [mm_sp, mm_ck, hy, mm_go, mm_bd]
theorem e_ldcw {idx p : Nat} {v : Int32} (hd : decode (mm_cd y) pc = .ok (.ldc_w idx, 3)) (hl : mm_lk mm_tI (mm_cn y) idx = some (v, p)) : mm_run y θ pc L st σ = mm_run y θ (pc + 3) L (.int v :: st) σ := by
  rw [mm_run_eq, mm_s, hd]; simp [mm_sp, mm_ck, hl, mm_go, mm_bd]
theorem e_ldc2 {idx p : Nat} {v : Int64} (hd : decode (mm_cd y) pc = .ok (.ldc2_w idx, 3)) (hl : mm_lk mm_tL (mm_cn y) idx = some (v, p)) : mm_run y θ pc L st σ = mm_run y θ (pc + 3) L (.long v :: st) σ := by
  rw [mm_run_eq, mm_s, hd]; simp [mm_sp, mm_ck, hl, mm_go, mm_bd]
theorem e_goto {off : Int} (tgt : Nat) (hd : decode (mm_cd y) pc = .ok (.goto off, 3)) (ht : (pc : Int) + off = (tgt : Int)) : mm_run y θ pc L st σ = mm_run y θ tgt L st σ := by
  rw [mm_run_eq, mm_s, hd]; simp [mm_sp, mm_ck, mm_jp, ht, mm_go, mm_bd]
theorem e_ifc {off : Int} {a : Int32} {c : ClassFile.Cond} (tgt : Nat) (hd : decode (mm_cd y) pc = .ok (.ifCond c off, 3)) (ht : (pc : Int) + off = (tgt : Int)) : mm_run y θ pc L (.int a :: st) σ = if mm_cI c a 0 = true then mm_run y θ tgt L st σ else mm_run y θ (pc + 3) L st σ := by
  rw [mm_run_eq, mm_s, hd]; cases hc : mm_cI c a 0 <;> simp [mm_sp, mm_p1, mm_ck, mm_jp, ht, mm_go, mm_bd, hc]
theorem e_icc {off : Int} {a b : Int32} {c : ClassFile.Cond} (tgt : Nat) (hd : decode (mm_cd y) pc = .ok (.if_icmp c off, 3)) (ht : (pc : Int) + off = (tgt : Int)) : mm_run y θ pc L (.int b :: .int a :: st) σ = if mm_cI c a b = true then mm_run y θ tgt L st σ else mm_run y θ (pc + 3) L st σ := by
  rw [mm_run_eq, mm_s, hd]; cases hc : mm_cI c a b <;> simp [mm_sp, mm_p2, mm_ck, mm_jp, ht, mm_go, mm_bd, hc]
theorem e_if_eq {off : Int} {a : Int32} (tgt : Nat) (hd : decode (mm_cd y) pc = .ok (.ifCond .eq off, 3)) (ht : (pc : Int) + off = (tgt : Int)) : mm_run y θ pc L (.int a :: st) σ = if a = 0 then mm_run y θ tgt L st σ else mm_run y θ (pc + 3) L st σ := by
  rw [e_ifc tgt hd ht]; by_cases hc : a = 0 <;> simp [mm_cI, hc]
theorem e_ic_eq {off : Int} {a b : Int32} (tgt : Nat) (hd : decode (mm_cd y) pc = .ok (.if_icmp .eq off, 3)) (ht : (pc : Int) + off = (tgt : Int)) : mm_run y θ pc L (.int b :: .int a :: st) σ = if a = b then mm_run y θ tgt L st σ else mm_run y θ (pc + 3) L st σ := by
  rw [e_icc tgt hd ht]; by_cases hc : a = b <;> simp [mm_cI, hc]
theorem e_if_ne {off : Int} {a : Int32} (tgt : Nat) (hd : decode (mm_cd y) pc = .ok (.ifCond .ne off, 3)) (ht : (pc : Int) + off = (tgt : Int)) : mm_run y θ pc L (.int a :: st) σ = if a = 0 then mm_run y θ (pc + 3) L st σ else mm_run y θ tgt L st σ := by
  rw [e_ifc tgt hd ht]; by_cases hc : a = 0 <;> simp [mm_cI, hc]
theorem e_ic_ne {off : Int} {a b : Int32} (tgt : Nat) (hd : decode (mm_cd y) pc = .ok (.if_icmp .ne off, 3)) (ht : (pc : Int) + off = (tgt : Int)) : mm_run y θ pc L (.int b :: .int a :: st) σ = if a = b then mm_run y θ (pc + 3) L st σ else mm_run y θ tgt L st σ := by
  rw [e_icc tgt hd ht]; by_cases hc : a = b <;> simp [mm_cI, hc]
theorem e_if_lt {off : Int} {a : Int32} (tgt : Nat) (hd : decode (mm_cd y) pc = .ok (.ifCond .lt off, 3)) (ht : (pc : Int) + off = (tgt : Int)) : mm_run y θ pc L (.int a :: st) σ = if a < 0 then mm_run y θ tgt L st σ else mm_run y θ (pc + 3) L st σ := by
  rw [e_ifc tgt hd ht]; by_cases hc : a < 0 <;> simp [mm_cI, hc]
theorem e_ic_lt {off : Int} {a b : Int32} (tgt : Nat) (hd : decode (mm_cd y) pc = .ok (.if_icmp .lt off, 3)) (ht : (pc : Int) + off = (tgt : Int)) : mm_run y θ pc L (.int b :: .int a :: st) σ = if a < b then mm_run y θ tgt L st σ else mm_run y θ (pc + 3) L st σ := by
  rw [e_icc tgt hd ht]; by_cases hc : a < b <;> simp [mm_cI, hc]
theorem e_if_ge {off : Int} {a : Int32} (tgt : Nat) (hd : decode (mm_cd y) pc = .ok (.ifCond .ge off, 3)) (ht : (pc : Int) + off = (tgt : Int)) : mm_run y θ pc L (.int a :: st) σ = if 0 ≤ a then mm_run y θ tgt L st σ else mm_run y θ (pc + 3) L st σ := by
  rw [e_ifc tgt hd ht]; by_cases hc : 0 ≤ a <;> simp [mm_cI, hc]
theorem e_ic_ge {off : Int} {a b : Int32} (tgt : Nat) (hd : decode (mm_cd y) pc = .ok (.if_icmp .ge off, 3)) (ht : (pc : Int) + off = (tgt : Int)) : mm_run y θ pc L (.int b :: .int a :: st) σ = if b ≤ a then mm_run y θ tgt L st σ else mm_run y θ (pc + 3) L st σ := by
  rw [e_icc tgt hd ht]; by_cases hc : b ≤ a <;> simp [mm_cI, hc]
theorem e_if_gt {off : Int} {a : Int32} (tgt : Nat) (hd : decode (mm_cd y) pc = .ok (.ifCond .gt off, 3)) (ht : (pc : Int) + off = (tgt : Int)) : mm_run y θ pc L (.int a :: st) σ = if 0 < a then mm_run y θ tgt L st σ else mm_run y θ (pc + 3) L st σ := by
  rw [e_ifc tgt hd ht]; by_cases hc : 0 < a <;> simp [mm_cI, hc]
theorem e_ic_gt {off : Int} {a b : Int32} (tgt : Nat) (hd : decode (mm_cd y) pc = .ok (.if_icmp .gt off, 3)) (ht : (pc : Int) + off = (tgt : Int)) : mm_run y θ pc L (.int b :: .int a :: st) σ = if b < a then mm_run y θ tgt L st σ else mm_run y θ (pc + 3) L st σ := by
  rw [e_icc tgt hd ht]; by_cases hc : b < a <;> simp [mm_cI, hc]
theorem e_if_le {off : Int} {a : Int32} (tgt : Nat) (hd : decode (mm_cd y) pc = .ok (.ifCond .le off, 3)) (ht : (pc : Int) + off = (tgt : Int)) : mm_run y θ pc L (.int a :: st) σ = if a ≤ 0 then mm_run y θ tgt L st σ else mm_run y θ (pc + 3) L st σ := by
  rw [e_ifc tgt hd ht]; by_cases hc : a ≤ 0 <;> simp [mm_cI, hc]
theorem e_ic_le {off : Int} {a b : Int32} (tgt : Nat) (hd : decode (mm_cd y) pc = .ok (.if_icmp .le off, 3)) (ht : (pc : Int) + off = (tgt : Int)) : mm_run y θ pc L (.int b :: .int a :: st) σ = if a ≤ b then mm_run y θ tgt L st σ else mm_run y θ (pc + 3) L st σ := by
  rw [e_icc tgt hd ht]; by_cases hc : a ≤ b <;> simp [mm_cI, hc]

theorem e_tsO {d lo hi : Int} {offs : Array Int} {len : Nat} {x : Int32} (tgt : Nat) (hd : decode (mm_cd y) pc = .ok (.tableswitch d lo hi offs, len)) (hx : x.toInt < lo ∨ hi < x.toInt) (ht : (pc : Int) + d = (tgt : Int)) : mm_run y θ pc L (.int x :: st) σ = mm_run y θ tgt L st σ := by
  rw [mm_run_eq, mm_s, hd]; simp only [mm_sp, mm_p1]; rw [if_pos hx]; simp [mm_ck, mm_jp, ht, mm_go, mm_bd]
theorem e_tsI {d lo hi : Int} {offs : Array Int} {len : Nat} {x : Int32} {off : Int} (tgt : Nat) (hd : decode (mm_cd y) pc = .ok (.tableswitch d lo hi offs, len)) (hx : ¬ (x.toInt < lo ∨ hi < x.toInt)) (ho : offs[(x.toInt - lo).toNat]? = some off) (ht : (pc : Int) + off = (tgt : Int)) : mm_run y θ pc L (.int x :: st) σ = mm_run y θ tgt L st σ := by
  rw [mm_run_eq, mm_s, hd]; simp only [mm_sp, mm_p1]; rw [if_neg hx, ho]; simp [mm_ck, mm_jp, ht, mm_go, mm_bd]
theorem e_ri {v : Int32} (hd : decode (mm_cd y) pc = .ok (.ireturn, 1)) (hr : mm_rt y = some .int) : mm_run y θ pc L [.int v] σ = some (some (.int v), θ, σ) := by
  rw [mm_run_eq, mm_s, hd]; simp only [mm_sp]; rw [hr]
  show mm_bd mm_run (mm_ck (1 == 1 && decide (narrow .int (.int v) = .int v)) _) y θ L σ = _
  rw [decide_eq_true (vp_nar_int v)]; rfl
/-- a boolean answer -/
def mm_zr (v : Int32) (θ : mm_T) (σ : mm_M) : mm_R := mm_gd (decide (narrow .boolean (.int v) = .int v)) (some (some (.int v), θ, σ))
theorem mm_zr0 {θ : mm_T} {σ : mm_M} : mm_zr 0 θ σ = some (some (.int 0), θ, σ) := rfl
theorem mm_zr1 {θ : mm_T} {σ : mm_M} : mm_zr 1 θ σ = some (some (.int 1), θ, σ) := rfl
theorem mm_zri {θ : mm_T} {σ : mm_M} {c : Prop} [Decidable c] : mm_zr (if c then 1 else 0) θ σ = some (some (.int (if c then 1 else 0)), θ, σ) := by
  by_cases h : c <;> simp only [h, if_true, if_false] <;> rfl
theorem e_rz {v : Int32} (hd : decode (mm_cd y) pc = .ok (.ireturn, 1)) (hr : mm_rt y = some .boolean) : mm_run y θ pc L [.int v] σ = mm_zr v θ σ := by
  rw [mm_run_eq, mm_s, hd]; simp only [mm_sp]; rw [hr]
  show mm_bd mm_run (mm_ck (1 == 1 && decide (narrow .boolean (.int v) = .int v)) _) y θ L σ = mm_gd (decide (narrow .boolean (.int v) = .int v)) _
  cases decide (narrow .boolean (.int v) = .int v) <;> rfl
theorem e_rl {v : Int64} (hd : decode (mm_cd y) pc = .ok (.lreturn, 1)) (hr : mm_rt y = some .long) : mm_run y θ pc L [.long v] σ = some (some (.long v), θ, σ) := by
  rw [mm_run_eq, mm_s, hd]; simp only [mm_sp]; rw [hr]; rfl
theorem e_rv (hd : decode (mm_cd y) pc = .ok (.return_, 1)) (hr : mm_rt y = none) : mm_run y θ pc L [] σ = some (none, θ, σ) := by
  rw [mm_run_eq, mm_s, hd]; simp only [mm_sp]; rw [hr]; rfl
theorem e_cv {yc : mm_Y} {vs rest : List Value} (h1 : mm_rf yc + 1 ≤ mm_rf y) (h2 : 19 + mm_ml yc + mm_rl yc ≤ mm_rl y) (h3 : (mm_ar vs).length ≤ mm_ml yc) : mm_bd mm_run (mm_cv y yc pc vs rest) y θ L σ = mm_gd (mm_so rest) (mm_kc (mm_ev yc vs θ σ) y (pc + 3) L rest) := by
  unfold mm_cv mm_so
  rw [decide_eq_true h1, decide_eq_true h2, decide_eq_true h3]
  cases decide (mm_sw rest ≤ 8) <;> rfl
theorem e_cS {idx kind na : Nat} {yc : mm_Y} {ps : List Nat} {st0 vs rest : List Value} (hd : decode (mm_cd y) pc = .ok (.invokestatic idx, 3)) (ha : mm_lk mm_tA (mm_cn y) idx = none) (hh : mm_lk mm_tH (mm_cn y) idx = none) (hl : mm_lk (mm_tC (mm_cn y)) (mm_cn y) idx = some (kind, na, yc, ps)) (hk : (kind == 0 || kind == 1) = true) (hn : (st0.take na).length = na) (hv : (st0.take na).reverse = vs) (hr : st0.drop na = rest) (h1 : mm_rf yc + 1 ≤ mm_rf y) (h2 : 19 + mm_ml yc + mm_rl yc ≤ mm_rl y) (h3 : (mm_ar vs).length ≤ mm_ml yc) : mm_run y θ pc L st0 σ = mm_gd (mm_so rest) (mm_kc (mm_ev yc vs θ σ) y (pc + 3) L rest) := by
  rw [← e_cv h1 h2 h3, mm_run_eq, mm_s, hd, ← hv, ← hr]
  simp only [mm_sp, ha, hh, mm_inv, hl, hk, decide_eq_true hn]; rfl
theorem e_cV {idx na : Nat} {yc : mm_Y} {ps : List Nat} {st0 vs rest : List Value} {b : Nat} (hd : decode (mm_cd y) pc = .ok (.invokevirtual idx, 3)) (hl : mm_lk (mm_tC (mm_cn y)) (mm_cn y) idx = some (2, na, yc, ps)) (hn : (st0.take na).length = na) (hv : (st0.take na).reverse = vs) (hr : st0.drop na = .ref b :: rest) (h1 : mm_rf yc + 1 ≤ mm_rf y) (h2 : 19 + mm_ml yc + mm_rl yc ≤ mm_rl y) (h3 : (mm_ar (.ref b :: vs)).length ≤ mm_ml yc) {kd : Nat} (hkd : (if mm_cn yc = 11 then 32 else mm_cn yc) = kd) : mm_run y θ pc L st0 σ = mm_gd (mm_kd θ.1 b == kd) (mm_gd (mm_so rest) (mm_kc (mm_ev yc (.ref b :: vs) θ σ) y (pc + 3) L rest)) := by
  rw [← e_cv h1 h2 h3, mm_run_eq, mm_s, hd, ← hv]
  simp only [mm_sp, mm_inv, hl, hr, decide_eq_true hn, hkd]
  cases mm_kd θ.1 b == kd <;> rfl
theorem e_cI {idx kind na : Nat} {yc : mm_Y} {ps : List Nat} {st0 vs rest : List Value} {b : Nat} (hd : decode (mm_cd y) pc = .ok (.invokespecial idx, 3)) (ha : mm_lk mm_tO (mm_cn y) idx = none) (hl : mm_lk (mm_tC (mm_cn y)) (mm_cn y) idx = some (kind, na, yc, ps)) (hk : (kind == 4 || kind == 5) = true) (hn : (st0.take na).length = na) (hv : (st0.take na).reverse = vs) (hr : st0.drop na = .ref b :: rest) (h1 : mm_rf yc + 1 ≤ mm_rf y) (h2 : 19 + mm_ml yc + mm_rl yc ≤ mm_rl y) (h3 : (mm_ar (.ref b :: vs)).length ≤ mm_ml yc) : mm_run y θ pc L st0 σ = mm_gd (mm_so rest) (mm_kc (mm_ev yc (.ref b :: vs) θ σ) y (pc + 3) L rest) := by
  rw [← e_cv h1 h2 h3, mm_run_eq, mm_s, hd, ← hv]
  simp only [mm_sp, ha, mm_inv, hl, hr, decide_eq_true hn, hk]; rfl
theorem e_cO {idx p b : Nat} (hd : decode (mm_cd y) pc = .ok (.invokespecial idx, 3)) (ha : mm_lk mm_tO (mm_cn y) idx = some p) (h1 : 1 ≤ mm_rf y) (h2 : 20 ≤ mm_rl y) : mm_run y θ pc L (.ref b :: st) σ = mm_gd (mm_so st) (mm_run y θ (pc + 3) L st σ) := by
  rw [mm_run_eq, mm_s, hd]
  simp only [mm_sp, ha, mm_oi, decide_eq_true h1, decide_eq_true h2, mm_so]
  cases decide (mm_sw st ≤ 8) <;> rfl
/-- System.arraycopy may be done -/
def mm_cok (n1 : Nat) (σ : mm_M) (k0 k1 : Nat) (sp dp n : Int32) : Bool := mm_iw n1 k0 && (mm_iw n1 k1 && (decide (0 ≤ sp) && (decide (0 ≤ dp) && (decide (0 ≤ n) && (decide (sp.toNatClampNeg + n.toNatClampNeg ≤ mm_al σ k0) && decide (dp.toNatClampNeg + n.toNatClampNeg ≤ mm_al σ k1))))))
theorem e_cA {idx p k0 k1 : Nat} {sp dp n : Int32} (hd : decode (mm_cd y) pc = .ok (.invokestatic idx, 3)) (ha : mm_lk mm_tA (mm_cn y) idx = some p) (h1 : 1 ≤ mm_rf y) (h2 : 26 ≤ mm_rl y) (hθ : (θ.1 == 135) = true) : mm_run y θ pc L (.int n :: .int dp :: .ref k1 :: .int sp :: .ref k0 :: st) σ = mm_gd (mm_so st) (mm_gd (mm_cok θ.1 σ k0 k1 sp dp n) (mm_run y θ (pc + 3) L st (mm_cp σ k0 k1 sp.toNatClampNeg dp.toNatClampNeg n.toNatClampNeg))) := by
  rw [mm_run_eq, mm_s, hd]
  simp only [mm_sp, ha, mm_ac, decide_eq_true h1, decide_eq_true h2, hθ, mm_so, Bool.true_and]
  show mm_bd mm_run (mm_ck (decide (mm_sw st ≤ 8) && mm_cok θ.1 σ k0 k1 sp dp n) _) y θ L σ = _
  cases decide (mm_sw st ≤ 8) <;> cases mm_cok θ.1 σ k0 k1 sp dp n <;> rfl
theorem e_mmax {idx p : Nat} {a b : Int32} (hd : decode (mm_cd y) pc = .ok (.invokestatic idx, 3)) (ha : mm_lk mm_tA (mm_cn y) idx = none) (hh : mm_lk mm_tH (mm_cn y) idx = some (0, p)) (h1 : 1 ≤ mm_rf y) (h2 : 21 ≤ mm_rl y) : mm_run y θ pc L (.int b :: .int a :: st) σ = mm_gd (mm_so st) (mm_run y θ (pc + 3) L (.int (if a < b then b else a) :: st) σ) := by
  rw [mm_run_eq, mm_s, hd]
  simp only [mm_sp, ha, hh, mm_mh, decide_eq_true h1, decide_eq_true h2, mm_so]
  cases decide (mm_sw st ≤ 8) <;> rfl
theorem e_mmin {idx p : Nat} {a b : Int32} (hd : decode (mm_cd y) pc = .ok (.invokestatic idx, 3)) (ha : mm_lk mm_tA (mm_cn y) idx = none) (hh : mm_lk mm_tH (mm_cn y) idx = some (1, p)) (h1 : 1 ≤ mm_rf y) (h2 : 21 ≤ mm_rl y) : mm_run y θ pc L (.int b :: .int a :: st) σ = mm_gd (mm_so st) (mm_run y θ (pc + 3) L (.int (if b < a then b else a) :: st) σ) := by
  rw [mm_run_eq, mm_s, hd]
  simp only [mm_sp, ha, hh, mm_mh, decide_eq_true h1, decide_eq_true h2, mm_so]
  cases decide (mm_sw st ≤ 8) <;> rfl
theorem e_mabs {idx p : Nat} {a : Int32} (hd : decode (mm_cd y) pc = .ok (.invokestatic idx, 3)) (ha : mm_lk mm_tA (mm_cn y) idx = none) (hh : mm_lk mm_tH (mm_cn y) idx = some (2, p)) (h1 : 1 ≤ mm_rf y) (h2 : 21 ≤ mm_rl y) : mm_run y θ pc L (.int a :: st) σ = mm_gd (mm_so st) (mm_run y θ (pc + 3) L (.int (if 0 ≤ a then a else 0 - a) :: st) σ) := by
  rw [mm_run_eq, mm_s, hd]
  simp only [mm_sp, ha, hh, mm_mh, decide_eq_true h1, decide_eq_true h2, mm_so]
  cases decide (mm_sw st ≤ 8) <;> rfl
theorem e_new {idx ci : Nat} {ps : List Nat} (hd : decode (mm_cd y) pc = .ok (.new idx, 3)) (hl : mm_lk mm_tN (mm_cn y) idx = some (ci, ps)) : mm_run y θ pc L st σ = mm_gd (decide (θ.1 < 135) && (mm_kt θ.1).1 == ci) (mm_run y (mm_nT θ) (pc + 3) L (.ref θ.1 :: st) (mm_nM θ σ)) := by
  rw [mm_run_eq, mm_s, hd]
  simp only [mm_sp, hl]
  cases (decide (θ.1 < 135) && (mm_kt θ.1).1 == ci) <;> rfl
theorem e_newa_int {n : Int32} (hd : decode (mm_cd y) pc = .ok (.newarray .int, 2)) : mm_run y θ pc L (.int n :: st) σ = mm_gd (decide (θ.1 < 135) && (decide (0 ≤ n) && mm_kt θ.1 == (20, n.toNatClampNeg))) (mm_run y (mm_nT θ) (pc + 2) L (.ref θ.1 :: st) (mm_nM θ σ)) := by
  rw [mm_run_eq, mm_s, hd]
  simp only [mm_sp, mm_p1]
  cases (decide (θ.1 < 135) && (decide (0 ≤ n) && mm_kt θ.1 == (20, n.toNatClampNeg))) <;> rfl
theorem e_newa_boolean {n : Int32} (hd : decode (mm_cd y) pc = .ok (.newarray .boolean, 2)) : mm_run y θ pc L (.int n :: st) σ = mm_gd (decide (θ.1 < 135) && (decide (0 ≤ n) && mm_kt θ.1 == (21, n.toNatClampNeg))) (mm_run y (mm_nT θ) (pc + 2) L (.ref θ.1 :: st) (mm_nM θ σ)) := by
  rw [mm_run_eq, mm_s, hd]
  simp only [mm_sp, mm_p1]
  cases (decide (θ.1 < 135) && (decide (0 ≤ n) && mm_kt θ.1 == (21, n.toNatClampNeg))) <;> rfl
theorem e_newa_long {n : Int32} (hd : decode (mm_cd y) pc = .ok (.newarray .long, 2)) : mm_run y θ pc L (.int n :: st) σ = mm_gd (decide (θ.1 < 135) && (decide (0 ≤ n) && mm_kt θ.1 == (23, n.toNatClampNeg))) (mm_run y (mm_nT θ) (pc + 2) L (.ref θ.1 :: st) (mm_nM θ σ)) := by
  rw [mm_run_eq, mm_s, hd]
  simp only [mm_sp, mm_p1]
  cases (decide (θ.1 < 135) && (decide (0 ≤ n) && mm_kt θ.1 == (23, n.toNatClampNeg))) <;> rfl
theorem e_anew {idx p : Nat} {n : Int32} (hd : decode (mm_cd y) pc = .ok (.anewarray idx, 3)) (hl : mm_lk mm_tQ (mm_cn y) idx = some p) : mm_run y θ pc L (.int n :: st) σ = mm_gd (decide (θ.1 < 135) && (decide (0 ≤ n) && mm_kt θ.1 == (25, n.toNatClampNeg))) (mm_run y (mm_nT θ) (pc + 3) L (.ref θ.1 :: st) (mm_nM θ σ)) := by
  rw [mm_run_eq, mm_s, hd]
  simp only [mm_sp, mm_p1, hl, Option.isSome_some, Bool.and_true]
  cases (decide (θ.1 < 135) && (decide (0 ≤ n) && mm_kt θ.1 == (25, n.toNatClampNeg))) <;> rfl
theorem e_mnew {idx p : Nat} {n k : Int32} (hd : decode (mm_cd y) pc = .ok (.multianewarray idx 2, 4)) (hl : mm_lk mm_tM (mm_cn y) idx = some p) : mm_run y θ pc L (.int k :: .int n :: st) σ = mm_gd (decide (θ.1 + n.toNatClampNeg < 135) && (decide (0 ≤ n) && (decide (0 ≤ k ∧ k ≤ 900) && (mm_kt θ.1 == (24, n.toNatClampNeg) && (List.range n.toNatClampNeg).all (fun i => mm_kt (θ.1 + 1 + i) == (20, k.toNatClampNeg)))))) (mm_run y (mm_nT2 θ n.toNatClampNeg) (pc + 4) L (.ref θ.1 :: st) (mm_nM2 θ σ n.toNatClampNeg)) := by
  rw [mm_run_eq, mm_s, hd]
  simp only [mm_sp, mm_p2, hl, Option.isSome_some, Bool.and_true]
  cases (decide (θ.1 + n.toNatClampNeg < 135) && (decide (0 ≤ n) && (decide (0 ≤ k ∧ k ≤ 900) && (mm_kt θ.1 == (24, n.toNatClampNeg) && (List.range n.toNatClampNeg).all (fun i => mm_kt (θ.1 + 1 + i) == (20, k.toNatClampNeg)))))) <;> rfl
end EE

/-! ===== any step; calls; whole runs ===== -/
section ST4
variable {D : va_G} {cA : Nat → ClassId} {B : Nat} {ex : Nat → Nat} {Lx : Nat} {xs : Nat → Int32} {p : Program} {l : Launch} {e : Env} {R : Room} {s : State} {m : MethodId} {args : Array Value} {below : List Frame} {meth : Method} {c : Code} {y : mm_Y} {n0 : Nat} {Q : State → Prop} {θ θ1 θ2 : mm_T} {pc pc' len : Nat} {L L' : mm_L} {st st' : List Value} {σ σ1 σ2 : mm_M} {H : Heap} {locs : List Loc} {cells slots : Nat} {g : JFrame}
theorem ss_step (h : mm_s y θ pc L st σ = some (.inl (pc', L', st', θ1, σ1))) (C : ss_C D cA B ex Lx xs p R s m args meth c y n0) (hn0 : n0 ≤ θ.1) (hcl : θ1.1 - n0 ≤ R.cells) (hsl : mm_sl0 θ1.1 - mm_sl0 n0 ≤ R.slots) (K : ss_J D cA B ex Lx xs p l e R s m args below meth c y n0 Q θ1 pc' L' st' σ1) : ss_J D cA B ex Lx xs p l e R s m args below meth c y n0 Q θ pc L st σ := by
  unfold mm_s at h
  cases hd : decode (mm_cd y) pc with
  | error er => rw [hd] at h; cases h
  | ok q =>
    obtain ⟨ins, len⟩ := q
    rw [hd] at h
    have h : mm_sp y θ pc L st σ ins len = some (.inl (pc', L', st', θ1, σ1)) := h
    cases ins with
    | iconst n => exact st_iconst hd h C hn0 hcl hsl K
    | bipush n => exact st_bipush hd h C hn0 hcl hsl K
    | sipush n => exact st_sipush hd h C hn0 hcl hsl K
    | lconst n => exact st_lconst hd h C hn0 hcl hsl K
    | iload_n i => exact st_iload_n hd h C hn0 hcl hsl K
    | iload i => exact st_iload hd h C hn0 hcl hsl K
    | lload_n i => exact st_lload_n hd h C hn0 hcl hsl K
    | lload i => exact st_lload hd h C hn0 hcl hsl K
    | aload_n i => exact st_aload_n hd h C hn0 hcl hsl K
    | aload i => exact st_aload hd h C hn0 hcl hsl K
    | istore_n i => exact st_istore_n hd h C hn0 hcl hsl K
    | istore i => exact st_istore hd h C hn0 hcl hsl K
    | astore_n i => exact st_astore_n hd h C hn0 hcl hsl K
    | astore i => exact st_astore hd h C hn0 hcl hsl K
    | lstore_n i => exact st_lstore_n hd h C hn0 hcl hsl K
    | lstore i => exact st_lstore hd h C hn0 hcl hsl K
    | iinc i n => exact st_iinc hd h C hn0 hcl hsl K
    | iadd => exact st_iadd hd h C hn0 hcl hsl K
    | isub => exact st_isub hd h C hn0 hcl hsl K
    | imul => exact st_imul hd h C hn0 hcl hsl K
    | iand => exact st_iand hd h C hn0 hcl hsl K
    | ior => exact st_ior hd h C hn0 hcl hsl K
    | ixor => exact st_ixor hd h C hn0 hcl hsl K
    | idiv => exact st_idiv hd h C hn0 hcl hsl K
    | irem => exact st_irem hd h C hn0 hcl hsl K
    | ishl => exact st_ishl hd h C hn0 hcl hsl K
    | ishr => exact st_ishr hd h C hn0 hcl hsl K
    | iushr => exact st_iushr hd h C hn0 hcl hsl K
    | ineg => exact st_ineg hd h C hn0 hcl hsl K
    | ladd => exact st_ladd hd h C hn0 hcl hsl K
    | lsub => exact st_lsub hd h C hn0 hcl hsl K
    | lmul => exact st_lmul hd h C hn0 hcl hsl K
    | land => exact st_land hd h C hn0 hcl hsl K
    | lor => exact st_lor hd h C hn0 hcl hsl K
    | ldiv => exact st_ldiv hd h C hn0 hcl hsl K
    | lrem => exact st_lrem hd h C hn0 hcl hsl K
    | lshl => exact st_lshl hd h C hn0 hcl hsl K
    | lushr => exact st_lushr hd h C hn0 hcl hsl K
    | lcmp => exact st_lcmp hd h C hn0 hcl hsl K
    | i2l => exact st_i2l hd h C hn0 hcl hsl K
    | l2i => exact st_l2i hd h C hn0 hcl hsl K
    | i2c => exact st_i2c hd h C hn0 hcl hsl K
    | i2b => exact st_i2b hd h C hn0 hcl hsl K
    | dup => exact st_dup hd h C hn0 hcl hsl K
    | dup2 => exact st_dup2 hd h C hn0 hcl hsl K
    | pop => exact st_pop hd h C hn0 hcl hsl K
    | goto o => exact st_goto hd h C hn0 hcl hsl K
    | tableswitch a b c d => exact st_tableswitch hd h C hn0 hcl hsl K
    | iaload => exact st_iaload hd h C hn0 hcl hsl K
    | baload => exact st_baload hd h C hn0 hcl hsl K
    | laload => exact st_laload hd h C hn0 hcl hsl K
    | aaload => exact st_aaload hd h C hn0 hcl hsl K
    | iastore => exact st_iastore hd h C hn0 hcl hsl K
    | bastore => exact st_bastore hd h C hn0 hcl hsl K
    | lastore => exact st_lastore hd h C hn0 hcl hsl K
    | aastore => exact st_aastore hd h C hn0 hcl hsl K
    | arraylength => exact st_arraylength hd h C hn0 hcl hsl K
    | getfield i => exact st_getfield hd h C hn0 hcl hsl K
    | putfield i => exact st_putfield hd h C hn0 hcl hsl K
    | getstatic i => exact st_getstatic hd h C hn0 hcl hsl K
    | ldc i => exact st_ldc hd h C hn0 hcl hsl K
    | ldc_w i => exact st_ldc_w hd h C hn0 hcl hsl K
    | ldc2_w i => exact st_ldc2_w hd h C hn0 hcl hsl K
    | invokestatic i => exact st_invokestatic hd h C hn0 hcl hsl K
    | invokevirtual i => exact st_invokevirtual hd h C hn0 hcl hsl K
    | invokespecial i => exact st_invokespecial hd h C hn0 hcl hsl K
    | new i => exact st_new hd h C hn0 hcl hsl K
    | anewarray i => exact st_anewarray hd h C hn0 hcl hsl K
    | multianewarray i d => exact st_multianewarray hd h C hn0 hcl hsl K
    | ifCond cc o =>
      cases cc with
      | eq => exact st_ifCond_eq hd h C hn0 hcl hsl K
      | ne => exact st_ifCond_ne hd h C hn0 hcl hsl K
      | lt => exact st_ifCond_lt hd h C hn0 hcl hsl K
      | ge => exact st_ifCond_ge hd h C hn0 hcl hsl K
      | gt => exact st_ifCond_gt hd h C hn0 hcl hsl K
      | le => exact st_ifCond_le hd h C hn0 hcl hsl K
    | if_icmp cc o =>
      cases cc with
      | eq => exact st_if_icmp_eq hd h C hn0 hcl hsl K
      | ne => exact st_if_icmp_ne hd h C hn0 hcl hsl K
      | lt => exact st_if_icmp_lt hd h C hn0 hcl hsl K
      | ge => exact st_if_icmp_ge hd h C hn0 hcl hsl K
      | gt => exact st_if_icmp_gt hd h C hn0 hcl hsl K
      | le => exact st_if_icmp_le hd h C hn0 hcl hsl K
    | newarray t =>
      cases t with
      | int => exact st_newarray_int hd h C hn0 hcl hsl K
      | boolean => exact st_newarray_boolean hd h C hn0 hcl hsl K
      | long => exact st_newarray_long hd h C hn0 hcl hsl K
      | _ =>
        obtain ⟨n, st2, rfl, h1⟩ := mm_p1_inv h
        obtain ⟨hl, h2⟩ := mm_ck_inv h1
        simp only [Bool.and_eq_true, decide_eq_true_eq] at hl
        have h98 : ∀ k, k < 135 → (mm_kt k).1 ≠ 98 := by decide +kernel
        exact absurd (congrArg Prod.fst (eq_of_beq hl.2.2.2)) (h98 _ hl.2.1)
    | ireturn =>
      have h : (match st, mm_rt y with
        | [.int v], some ty => mm_ck (len == 1 && decide (narrow ty (.int v) = .int v)) (some (.inr (.inr (some (.int v)))))
        | _, _ => none) = some (.inl (pc', L', st', θ1, σ1)) := h
      split at h
      · obtain ⟨-, h⟩ := mm_ck_inv h; cases h
      · cases h
    | lreturn =>
      have h : (match st, mm_rt y with
        | [.long v], some .long => mm_ck (len == 1) (some (.inr (.inr (some (.long v)))))
        | _, _ => none) = some (.inl (pc', L', st', θ1, σ1)) := h
      split at h
      · obtain ⟨-, h⟩ := mm_ck_inv h; cases h
      · cases h
    | return_ =>
      have h : (match st, mm_rt y with
        | [], none => mm_ck (len == 1) (some (.inr (.inr none)))
        | _, _ => none) = some (.inl (pc', L', st', θ1, σ1)) := h
      split at h
      · obtain ⟨-, h⟩ := mm_ck_inv h; cases h
      · cases h
    | _ => cases h

/-- what goes on goes on with as many cells, or more -/
def mm_I (n : Nat) (w : Nat × (Nat → Int32)) (a : Option mm_A) : Prop := ∀ x, a = some x → ∃ z, x = .inl z ∧ n ≤ z.2.2.2.1.1 ∧ z.2.2.2.2.2.2 = w
theorem mm_I_n {n : Nat} {w : Nat × (Nat → Int32)} : mm_I n w none := fun _ h => by cases h
theorem mm_I_go {n : Nat} {w : Nat × (Nat → Int32)} (h : n ≤ θ.1) (h2 : σ.2.2 = w) : mm_I n w (mm_go pc L st θ σ) := fun x hx => ⟨_, (Option.some.inj hx).symm, h, h2⟩
theorem mm_I_ck {n : Nat} {w : Nat × (Nat → Int32)} {b : Bool} {r : Option mm_A} (h : mm_I n w r) : mm_I n w (mm_ck b r) := fun x hx => h x (mm_ck_inv hx).2
theorem mm_I_jp {n : Nat} {w : Nat × (Nat → Int32)} {off : Int} (h : n ≤ θ.1) (h2 : σ.2.2 = w) : mm_I n w (mm_jp pc off L st θ σ) := mm_I_ck (mm_I_go h h2)
theorem mm_I_p1 {n : Nat} {w : Nat × (Nat → Int32)} {k : Int32 → List Value → Option mm_A} (h : ∀ a st, mm_I n w (k a st)) : mm_I n w (mm_p1 st k) := fun x hx => by obtain ⟨a, s2, -, h2⟩ := mm_p1_inv hx; exact h _ _ x h2
theorem mm_I_p2 {n : Nat} {w : Nat × (Nat → Int32)} {k : Int32 → Int32 → List Value → Option mm_A} (h : ∀ a b st, mm_I n w (k a b st)) : mm_I n w (mm_p2 st k) := fun x hx => by obtain ⟨a, b, s2, -, h2⟩ := mm_p2_inv hx; exact h _ _ _ x h2
theorem mm_I_q1 {n : Nat} {w : Nat × (Nat → Int32)} {k : Int64 → List Value → Option mm_A} (h : ∀ a st, mm_I n w (k a st)) : mm_I n w (mm_q1 st k) := fun x hx => by obtain ⟨a, s2, -, h2⟩ := mm_q1_inv hx; exact h _ _ x h2
theorem mm_I_q2 {n : Nat} {w : Nat × (Nat → Int32)} {k : Int64 → Int64 → List Value → Option mm_A} (h : ∀ a b st, mm_I n w (k a b st)) : mm_I n w (mm_q2 st k) := fun x hx => by obtain ⟨a, b, s2, -, h2⟩ := mm_q2_inv hx; exact h _ _ _ x h2
theorem mm_I_q3 {n : Nat} {w : Nat × (Nat → Int32)} {k : Int64 → Int32 → List Value → Option mm_A} (h : ∀ a b st, mm_I n w (k a b st)) : mm_I n w (mm_q3 st k) := fun x hx => by obtain ⟨a, b, s2, -, h2⟩ := mm_q3_inv hx; exact h _ _ _ x h2
theorem mm_I_a1 {n : Nat} {w : Nat × (Nat → Int32)} {k : Nat → List Value → Option mm_A} (h : ∀ a st, mm_I n w (k a st)) : mm_I n w (mm_a1 st k) := fun x hx => by obtain ⟨a, s2, -, h2⟩ := mm_a1_inv hx; exact h _ _ x h2
theorem mm_I_a2 {n : Nat} {w : Nat × (Nat → Int32)} {k : Int32 → Nat → List Value → Option mm_A} (h : ∀ a b st, mm_I n w (k a b st)) : mm_I n w (mm_a2 st k) := fun x hx => by obtain ⟨a, b, s2, -, h2⟩ := mm_a2_inv hx; exact h _ _ _ x h2
theorem mm_I_a3 {n : Nat} {w : Nat × (Nat → Int32)} {k : Value → Int32 → Nat → List Value → Option mm_A} (h : ∀ v a b st, mm_I n w (k v a b st)) : mm_I n w (mm_a3 st k) := fun x hx => by obtain ⟨v, a, b, s2, -, h2⟩ := mm_a3_inv hx; exact h _ _ _ _ x h2
theorem mm_I_ld {i w9 : Nat} : mm_I θ.1 σ.2.2 (mm_ld y pc L st θ σ i w9) := by
  unfold mm_ld
  split
  · exact mm_I_go (Nat.le_refl _) rfl
  · exact mm_I_go (Nat.le_refl _) rfl
  · exact mm_I_go (Nat.le_refl _) rfl
  · exact mm_I_n
theorem mm_I_ac : mm_I θ.1 σ.2.2 (mm_ac y pc L st θ σ) := by
  unfold mm_ac
  split
  · exact mm_I_ck (mm_I_go (Nat.le_refl _) rfl)
  · exact mm_I_n
theorem mm_I_oi : mm_I θ.1 σ.2.2 (mm_oi y pc L st θ σ) := by
  unfold mm_oi
  split
  · exact mm_I_ck (mm_I_go (Nat.le_refl _) rfl)
  · exact mm_I_n
theorem mm_I_mh {w9 : Nat} : mm_I θ.1 σ.2.2 (mm_mh w9 y pc L st θ σ) := by
  unfold mm_mh
  split
  · exact mm_I_ck (mm_I_go (Nat.le_refl _) rfl)
  · exact mm_I_ck (mm_I_go (Nat.le_refl _) rfl)
  · exact mm_I_ck (mm_I_go (Nat.le_refl _) rfl)
  · exact mm_I_n
theorem mm_I_pf {ci j : Nat} : mm_I θ.1 σ.2.2 (mm_pf y pc L st θ σ ci j) := by
  unfold mm_pf
  split
  · refine mm_I_ck ?_
    split
    · exact mm_I_go (Nat.le_refl _) rfl
    · exact mm_I_ck (mm_I_go (Nat.le_refl _) rfl)
    · exact mm_I_go (Nat.le_refl _) rfl
    · exact mm_I_ck (mm_I_go (Nat.le_refl _) rfl)
    · exact mm_I_n
  · exact mm_I_n
theorem mm_I_if {n : Nat} {w : Nat × (Nat → Int32)} {q : Prop} [Decidable q] {a b : Option mm_A} (ha : mm_I n w a) (hb : mm_I n w b) : mm_I n w (if q then a else b) := by
  split
  · exact ha
  · exact hb
/-- a step that isn't a call or a return goes on -/
def mm_other : Instr → Bool
  | .invokestatic _ | .invokevirtual _ | .invokespecial _ | .ireturn | .lreturn | .return_ => false
  | _ => true
theorem mm_I_sp {ins : Instr} (ho : mm_other ins = true) : mm_I θ.1 σ.2.2 (mm_sp y θ pc L st σ ins len) := by
  cases ins
  all_goals first
    | exact absurd (show false = true from ho) Bool.false_ne_true
    | exact mm_I_n
    | exact mm_I_ck (mm_I_go (Nat.le_refl _) rfl)
    | exact mm_I_ck mm_I_ld
    | exact mm_I_ck (mm_I_jp (Nat.le_refl _) rfl)
    | exact mm_I_p1 fun _ _ => mm_I_ck (mm_I_go (Nat.le_refl _) rfl)
    | exact mm_I_p2 fun _ _ _ => mm_I_ck (mm_I_go (Nat.le_refl _) rfl)
    | exact mm_I_q1 fun _ _ => mm_I_ck (mm_I_go (Nat.le_refl _) rfl)
    | exact mm_I_q2 fun _ _ _ => mm_I_ck (mm_I_go (Nat.le_refl _) rfl)
    | exact mm_I_q3 fun _ _ _ => mm_I_ck (mm_I_go (Nat.le_refl _) rfl)
    | exact mm_I_a1 fun _ _ => mm_I_ck (mm_I_go (Nat.le_refl _) rfl)
    | exact mm_I_a2 fun _ _ _ => mm_I_ck (mm_I_go (Nat.le_refl _) rfl)
    | exact mm_I_p1 fun _ _ => mm_I_ck (mm_I_if (mm_I_jp (Nat.le_refl _) rfl) (mm_I_go (Nat.le_refl _) rfl))
    | exact mm_I_p2 fun _ _ _ => mm_I_ck (mm_I_if (mm_I_jp (Nat.le_refl _) rfl) (mm_I_go (Nat.le_refl _) rfl))
    | (refine mm_I_a3 fun v _ _ _ => ?_; cases v <;> first | exact mm_I_n | exact mm_I_ck (mm_I_go (Nat.le_refl _) rfl))
    | (refine mm_I_p1 fun _ _ => mm_I_ck (mm_I_go (Nat.le_succ _) rfl))
    | (refine mm_I_p2 fun _ _ _ => mm_I_ck (mm_I_go (by show θ.1 ≤ θ.1 + 1 + _; omega) rfl))
    | (refine mm_I_p1 fun _ _ => mm_I_if (mm_I_jp (Nat.le_refl _) rfl) ?_; split <;> first | exact mm_I_n | exact mm_I_jp (Nat.le_refl _) rfl)
    | (simp only [mm_sp]; split <;> first | exact mm_I_n | exact mm_I_ck (mm_I_go (Nat.le_refl _) rfl))
    | (refine mm_I_a1 fun _ _ => mm_I_ck ?_; split <;> exact mm_I_ck (mm_I_go (Nat.le_refl _) rfl))
    | (refine mm_I_ck ?_; split <;> first | exact mm_I_n | exact mm_I_pf | exact mm_I_go (Nat.le_refl _) rfl | exact mm_I_ck (mm_I_go (Nat.le_succ _) rfl))
    | (refine mm_I_ck (mm_I_if (mm_I_go (Nat.le_refl _) rfl) (mm_I_if (mm_I_go (Nat.le_refl _) rfl) (mm_I_if (mm_I_go (Nat.le_refl _) rfl) mm_I_n))))
/-- returns -/
def mm_ret (y : mm_Y) (pc : Nat) (st : List Value) (r : Option Value) : Prop :=
  (∃ v ty, decode (mm_cd y) pc = .ok (.ireturn, 1) ∧ st = [.int v] ∧ r = some (.int v) ∧ mm_rt y = some ty ∧ narrow ty (.int v) = .int v) ∨ (∃ v, decode (mm_cd y) pc = .ok (.lreturn, 1) ∧ st = [.long v] ∧ r = some (.long v) ∧ mm_rt y = some .long) ∨ (decode (mm_cd y) pc = .ok (.return_, 1) ∧ st = [] ∧ r = none ∧ mm_rt y = none)
theorem mm_inv_nr {op idx : Nat} {r : Option Value} (h : mm_inv op y θ pc st idx = some (.inr (.inr r))) : False := by
  unfold mm_inv at h
  split at h
  · split at h
    · obtain ⟨-, h⟩ := mm_ck_inv h
      obtain ⟨-, h⟩ := mm_ck_inv h
      cases h
    · split at h
      · obtain ⟨-, h⟩ := mm_ck_inv h
        obtain ⟨-, h⟩ := mm_ck_inv h
        cases h
      · cases h
  · cases h
theorem mm_sp_cls {ins : Instr} : mm_other ins = true ∨ (∃ i, ins = .invokestatic i) ∨ (∃ i, ins = .invokevirtual i) ∨ (∃ i, ins = .invokespecial i) ∨ ins = .ireturn ∨ ins = .lreturn ∨ ins = .return_ := by
  cases ins
  all_goals first
    | exact Or.inl rfl
    | exact Or.inr (Or.inl ⟨_, rfl⟩)
    | exact Or.inr (Or.inr (Or.inl ⟨_, rfl⟩))
    | exact Or.inr (Or.inr (Or.inr (Or.inl ⟨_, rfl⟩)))
    | exact Or.inr (Or.inr (Or.inr (Or.inr (Or.inl rfl))))
    | exact Or.inr (Or.inr (Or.inr (Or.inr (Or.inr (Or.inl rfl)))))
    | exact Or.inr (Or.inr (Or.inr (Or.inr (Or.inr (Or.inr rfl)))))
theorem mm_ret_of {r : Option Value} (h : mm_s y θ pc L st σ = some (.inr (.inr r))) : mm_ret y pc st r := by
  unfold mm_s at h
  cases hd : decode (mm_cd y) pc with
  | error er => rw [hd] at h; cases h
  | ok q =>
    obtain ⟨ins, len⟩ := q
    rw [hd] at h
    have h : mm_sp y θ pc L st σ ins len = some (.inr (.inr r)) := h
    unfold mm_ret
    rw [hd]
    rcases mm_sp_cls (ins := ins) with ho | ⟨i, rfl⟩ | ⟨i, rfl⟩ | ⟨i, rfl⟩ | rfl | rfl | rfl
    · obtain ⟨z, hz, -⟩ := mm_I_sp ho _ h
      cases hz
    · obtain ⟨-, h⟩ := mm_ck_inv h
      split at h
      · obtain ⟨z, hz, -⟩ := mm_I_ac _ h; cases hz
      · split at h
        · obtain ⟨z, hz, -⟩ := mm_I_mh _ h; cases hz
        · exact absurd h mm_inv_nr
    · obtain ⟨-, h⟩ := mm_ck_inv h
      exact absurd h mm_inv_nr
    · obtain ⟨-, h⟩ := mm_ck_inv h
      split at h
      · obtain ⟨z, hz, -⟩ := mm_I_oi _ h; cases hz
      · exact absurd h mm_inv_nr
    · left
      have h : (match st, mm_rt y with
        | [.int v], some ty => mm_ck (len == 1 && decide (narrow ty (.int v) = .int v)) (some (.inr (.inr (some (.int v)))))
        | _, _ => none) = some (.inr (.inr r)) := h
      split at h
      · obtain ⟨h1, h2⟩ := mm_ck_inv h
        rw [Bool.and_eq_true] at h1
        cases h2
        exact ⟨_, _, by rw [eq_of_beq h1.1], rfl, rfl, by assumption, of_decide_eq_true h1.2⟩
      · cases h
    · right; left
      have h : (match st, mm_rt y with
        | [.long v], some .long => mm_ck (len == 1) (some (.inr (.inr (some (.long v)))))
        | _, _ => none) = some (.inr (.inr r)) := h
      split at h
      · obtain ⟨h1, h2⟩ := mm_ck_inv h
        cases h2
        exact ⟨_, by rw [eq_of_beq h1], rfl, rfl, by assumption⟩
      · cases h
    · right; right
      have h : (match st, mm_rt y with
        | [], none => mm_ck (len == 1) (some (.inr (.inr none)))
        | _, _ => none) = some (.inr (.inr r)) := h
      split at h
      · obtain ⟨h1, h2⟩ := mm_ck_inv h
        cases h2
        exact ⟨by rw [eq_of_beq h1], rfl, rfl, by assumption⟩
      · cases h
theorem mm_s_mono {x : Nat × mm_L × List Value × mm_T × mm_M} (h : mm_s y θ pc L st σ = some (.inl x)) : θ.1 ≤ x.2.2.2.1.1 ∧ x.2.2.2.2.2.2 = σ.2.2 := by
  unfold mm_s at h
  cases hd : decode (mm_cd y) pc with
  | error er => rw [hd] at h; cases h
  | ok q =>
    obtain ⟨ins, len⟩ := q
    rw [hd] at h
    have h : mm_sp y θ pc L st σ ins len = some (.inl x) := h
    rcases mm_sp_cls (ins := ins) with ho | ⟨i, rfl⟩ | ⟨i, rfl⟩ | ⟨i, rfl⟩ | rfl | rfl | rfl
    · obtain ⟨z, hz, hq⟩ := mm_I_sp ho _ h
      cases hz
      exact hq
    · obtain ⟨-, h⟩ := mm_ck_inv h
      split at h
      · obtain ⟨z, hz, hq⟩ := mm_I_ac _ h; cases hz; exact hq
      · split at h
        · obtain ⟨z, hz, hq⟩ := mm_I_mh _ h; cases hz; exact hq
        · exact absurd h mm_inv_no
    · obtain ⟨-, h⟩ := mm_ck_inv h
      exact absurd h mm_inv_no
    · obtain ⟨-, h⟩ := mm_ck_inv h
      split at h
      · obtain ⟨z, hz, hq⟩ := mm_I_oi _ h; cases hz; exact hq
      · exact absurd h mm_inv_no
    · have h : (match st, mm_rt y with
        | [.int v], some ty => mm_ck (len == 1 && decide (narrow ty (.int v) = .int v)) (some (.inr (.inr (some (.int v)))))
        | _, _ => none) = some (.inl x) := h
      split at h
      · obtain ⟨-, h⟩ := mm_ck_inv h; cases h
      · cases h
    · have h : (match st, mm_rt y with
        | [.long v], some .long => mm_ck (len == 1) (some (.inr (.inr (some (.long v)))))
        | _, _ => none) = some (.inl x) := h
      split at h
      · obtain ⟨-, h⟩ := mm_ck_inv h; cases h
      · cases h
    · have h : (match st, mm_rt y with
        | [], none => mm_ck (len == 1) (some (.inr (.inr none)))
        | _, _ => none) = some (.inl x) := h
      split at h
      · obtain ⟨-, h⟩ := mm_ck_inv h; cases h
      · cases h
theorem mm_f_mono : ∀ (f : Nat) (y : mm_Y) (θ : mm_T) (pc : Nat) (L : mm_L) (st : List Value) (σ : mm_M) (x : Option Value × mm_T × mm_M), mm_f f y θ pc L st σ = some x → θ.1 ≤ x.2.1.1 ∧ x.2.2.2.2 = σ.2.2
  | 0, _, _, _, _, _, _, _, h => by cases h
  | f + 1, y, θ, pc, L, st, σ, x, h => by
    have h : mm_bd (mm_f f) (mm_s y θ pc L st σ) y θ L σ = some x := h
    match hs : mm_s y θ pc L st σ with
    | none => rw [hs] at h; cases h
    | some (.inl (pc', L', st', θ', σ')) =>
      rw [hs] at h
      have h1 := mm_s_mono hs
      have h2 := mm_f_mono f y θ' pc' L' st' σ' x h
      exact ⟨Nat.le_trans h1.1 h2.1, h2.2.trans h1.2⟩
    | some (.inr (.inl (yc, Lc, pc', st'))) =>
      rw [hs] at h
      have h : mm_kF (mm_f f) (mm_f f yc θ 0 Lc [] σ) y pc' L st' = some x := h
      cases hq : mm_f f yc θ 0 Lc [] σ with
      | none => rw [hq] at h; cases h
      | some q =>
        obtain ⟨v, θ', σ'⟩ := q
        rw [hq] at h
        have h1 := mm_f_mono f yc θ 0 Lc [] σ (v, θ', σ') hq
        have h2 := mm_f_mono f y θ' pc' L _ σ' x h
        exact ⟨Nat.le_trans h1.1 h2.1, h2.2.trans h1.2⟩
    | some (.inr (.inr r)) =>
      rw [hs] at h
      cases h
      exact ⟨Nat.le_refl _, rfl⟩
end ST4

/-! ===== each step of the pure machine is a step of the JVM ===== -/
theorem mm_p1_inv {st : List Value} {k : Int32 → List Value → Option mm_A} {x : mm_A} (h : mm_p1 st k = some x) : ∃ a st2, st = .int a :: st2 ∧ k a st2 = some x := by
  unfold mm_p1 at h
  split at h
  · exact ⟨_, _, rfl, h⟩
  · cases h
theorem mm_p2_inv {st : List Value} {k : Int32 → Int32 → List Value → Option mm_A} {x : mm_A} (h : mm_p2 st k = some x) : ∃ a b st2, st = .int b :: .int a :: st2 ∧ k a b st2 = some x := by
  unfold mm_p2 at h
  split at h
  · exact ⟨_, _, _, rfl, h⟩
  · cases h
theorem mm_q1_inv {st : List Value} {k : Int64 → List Value → Option mm_A} {x : mm_A} (h : mm_q1 st k = some x) : ∃ a st2, st = .long a :: st2 ∧ k a st2 = some x := by
  unfold mm_q1 at h
  split at h
  · exact ⟨_, _, rfl, h⟩
  · cases h
theorem mm_q2_inv {st : List Value} {k : Int64 → Int64 → List Value → Option mm_A} {x : mm_A} (h : mm_q2 st k = some x) : ∃ a b st2, st = .long b :: .long a :: st2 ∧ k a b st2 = some x := by
  unfold mm_q2 at h
  split at h
  · exact ⟨_, _, _, rfl, h⟩
  · cases h
theorem mm_q3_inv {st : List Value} {k : Int64 → Int32 → List Value → Option mm_A} {x : mm_A} (h : mm_q3 st k = some x) : ∃ a b st2, st = .int b :: .long a :: st2 ∧ k a b st2 = some x := by
  unfold mm_q3 at h
  split at h
  · exact ⟨_, _, _, rfl, h⟩
  · cases h
theorem mm_a1_inv {st : List Value} {k : Nat → List Value → Option mm_A} {x : mm_A} (h : mm_a1 st k = some x) : ∃ a st2, st = .ref a :: st2 ∧ k a st2 = some x := by
  unfold mm_a1 at h
  split at h
  · exact ⟨_, _, rfl, h⟩
  · cases h
theorem mm_a2_inv {st : List Value} {k : Int32 → Nat → List Value → Option mm_A} {x : mm_A} (h : mm_a2 st k = some x) : ∃ i a st2, st = .int i :: .ref a :: st2 ∧ k i a st2 = some x := by
  unfold mm_a2 at h
  split at h
  · exact ⟨_, _, _, rfl, h⟩
  · cases h
theorem mm_a3_inv {st : List Value} {k : Value → Int32 → Nat → List Value → Option mm_A} {x : mm_A} (h : mm_a3 st k = some x) : ∃ v i a st2, st = v :: .int i :: .ref a :: st2 ∧ k v i a st2 = some x := by
  unfold mm_a3 at h
  split at h
  · exact ⟨_, _, _, _, rfl, h⟩
  · cases h
theorem mm_ck_inv {c : Bool} {r : Option mm_A} {x : mm_A} (h : mm_ck c r = some x) : c = true ∧ r = some x := by
  unfold mm_ck at h
  split at h
  · exact ⟨by assumption, h⟩
  · cases h
theorem mm_jp_inv {pc : Nat} {off : Int} {L : mm_L} {st : List Value} {θ : mm_T} {σ : mm_M} {x : mm_A} (h : mm_jp pc off L st θ σ = some x) : ∃ tgt : Nat, (pc : Int) + off = (tgt : Int) ∧ x = .inl (tgt, L, st, θ, σ) := by
  obtain ⟨h1, h⟩ := mm_ck_inv h
  refine ⟨((pc : Int) + off).toNat, ?_, ?_⟩
  · rw [Int.toNat_of_nonneg (of_decide_eq_true h1)]
  · exact (Option.some.inj h).symm
theorem mm_ld_inv0 {y : mm_Y} {pc : Nat} {L : mm_L} {st : List Value} {θ : mm_T} {σ : mm_M} {i : Nat} {x : mm_A} (h : mm_ld y pc L st θ σ i 0 = some x) : ∃ v, L[i]? = some (some (.int v)) ∧ x = .inl (pc, L, .int v :: st, θ, σ) := by
  unfold mm_ld at h
  split at h
  · exact ⟨_, by assumption, (Option.some.inj h).symm⟩
  · simp at *
  · simp at *
  · cases h
theorem mm_ld_inv1 {y : mm_Y} {pc : Nat} {L : mm_L} {st : List Value} {θ : mm_T} {σ : mm_M} {i : Nat} {x : mm_A} (h : mm_ld y pc L st θ σ i 1 = some x) : ∃ v, L[i]? = some (some (.long v)) ∧ x = .inl (pc, L, .long v :: st, θ, σ) := by
  unfold mm_ld at h
  split at h
  · simp at *
  · exact ⟨_, by assumption, (Option.some.inj h).symm⟩
  · simp at *
  · cases h
theorem mm_ld_inv2 {y : mm_Y} {pc : Nat} {L : mm_L} {st : List Value} {θ : mm_T} {σ : mm_M} {i : Nat} {x : mm_A} (h : mm_ld y pc L st θ σ i 2 = some x) : ∃ v, L[i]? = some (some (.ref v)) ∧ x = .inl (pc, L, .ref v :: st, θ, σ) := by
  unfold mm_ld at h
  split at h
  · simp at *
  · simp at *
  · exact ⟨_, by assumption, (Option.some.inj h).symm⟩
  · cases h
/-- locals as the kit lists them -/
def ss_as (B : Nat) (ex : Nat → Nat) (L : mm_L) : List (Nat × Value) := (List.range L.length).filterMap (fun i => match L[i]? with
  | some (some v) => some (i, ss_tr B ex v)
  | _ => none)
theorem ss_as_mem {B : Nat} {ex : Nat → Nat} {L : mm_L} {q : Nat × Value} : q ∈ ss_as B ex L ↔ ∃ v, L[q.1]? = some (some v) ∧ q.2 = ss_tr B ex v := by
  unfold ss_as
  rw [List.mem_filterMap]
  constructor
  · rintro ⟨i, -, h⟩
    split at h
    · cases h
      exact ⟨_, by assumption, rfl⟩
    · cases h
  · rintro ⟨v, h1, h2⟩
    refine ⟨q.1, List.mem_range.mpr (List.getElem?_eq_some_iff.mp h1).1, ?_⟩
    rw [h1]
    show some (q.1, ss_tr B ex v) = some q
    rw [← h2]
theorem ss_l_has {B : Nat} {ex : Nat → Nat} {n : Nat} {L : mm_L} {ls : Array Slot} (h : ss_l B ex n L ls) : lv_has ls n (ss_as B ex L) := by
  refine ⟨h.1, h.2.1, fun q hq => ?_⟩
  obtain ⟨v, h1, h2⟩ := ss_as_mem.mp hq
  rw [h2]
  exact h.2.2 _ _ h1
theorem mm_kl_some {o : Option Value} {w : Value} (h : mm_kl o = some w) : o = some w ∧ w.category = 1 := by
  match o, h with
  | some (.int x), h => cases h; exact ⟨rfl, rfl⟩
  | some (.ref x), h => cases h; exact ⟨rfl, rfl⟩
  | some .null, h => cases h; exact ⟨rfl, rfl⟩
  | some (.float x), h => cases h; exact ⟨rfl, rfl⟩
  | some (.retAddr x), h => cases h; exact ⟨rfl, rfl⟩
  | some (.long x), h => cases h
  | some (.double x), h => cases h
  | none, h => cases h
theorem mm_s1_at : ∀ (L : mm_L) (i j : Nat) (v w : Value), (mm_s1 L i v)[j]? = some (some w) → (j = i ∧ w = v) ∨ (j ≠ i ∧ L[j]? = some (some w) ∧ ¬ (j + 1 = i ∧ w.category = 2))
  | [], i, j, v, w, h => by simp [mm_s1] at h
  | a :: t, 0, j, v, w, h => by
    cases j with
    | zero =>
      left
      have h : some (some v) = some (some w) := h
      cases h
      exact ⟨rfl, rfl⟩
    | succ j => right; exact ⟨by omega, h, by omega⟩
  | a :: t, 1, j, v, w, h => by
    cases j with
    | zero =>
      have h : some (mm_kl a) = some (some w) := h
      obtain ⟨h1, h2⟩ := mm_kl_some (Option.some.inj h)
      right
      exact ⟨by omega, congrArg some h1, by omega⟩
    | succ j =>
      have h : (mm_s1 t 0 v)[j]? = some (some w) := h
      rcases mm_s1_at t 0 j v w h with ⟨h1, h2⟩ | ⟨h1, h2, h3⟩
      · left; exact ⟨by omega, h2⟩
      · right; exact ⟨by omega, h2, by omega⟩
  | a :: t, i + 2, j, v, w, h => by
    cases j with
    | zero => right; exact ⟨by omega, h, by omega⟩
    | succ j =>
      have h : (mm_s1 t (i + 1) v)[j]? = some (some w) := h
      rcases mm_s1_at t (i + 1) j v w h with ⟨h1, h2⟩ | ⟨h1, h2, h3⟩
      · left; exact ⟨by omega, h2⟩
      · right; exact ⟨by omega, h2, fun q => h3 ⟨by omega, q.2⟩⟩
theorem mm_s2_at : ∀ (L : mm_L) (i j : Nat) (v w : Value), (mm_s2 L i v)[j]? = some (some w) → (j = i ∧ w = v) ∨ (j ≠ i ∧ j ≠ i + 1 ∧ L[j]? = some (some w) ∧ ¬ (j + 1 = i ∧ w.category = 2))
  | [], i, j, v, w, h => by simp [mm_s2] at h
  | [a], 0, j, v, w, h => by
    cases j with
    | zero => have h : some none = some (some w) := h; cases h
    | succ j => have h : ([] : mm_L)[j]? = some (some w) := h; simp at h
  | a :: b :: t, 0, j, v, w, h => by
    cases j with
    | zero =>
      left
      have h : some (some v) = some (some w) := h
      cases h
      exact ⟨rfl, rfl⟩
    | succ j =>
      cases j with
      | zero => have h : some none = some (some w) := h; cases h
      | succ j => right; exact ⟨by omega, by omega, h, by omega⟩
  | a :: t, 1, j, v, w, h => by
    have hs : mm_s2 (a :: t) 1 v = mm_kl a :: mm_s2 t 0 v := by cases t <;> rfl
    rw [hs] at h
    cases j with
    | zero =>
      have h : some (mm_kl a) = some (some w) := h
      obtain ⟨h1, h2⟩ := mm_kl_some (Option.some.inj h)
      right
      exact ⟨by omega, by omega, congrArg some h1, by omega⟩
    | succ j =>
      have h : (mm_s2 t 0 v)[j]? = some (some w) := h
      rcases mm_s2_at t 0 j v w h with ⟨h1, h2⟩ | ⟨h1, h2, h3, h4⟩
      · left; exact ⟨by omega, h2⟩
      · right; exact ⟨by omega, by omega, h3, by omega⟩
  | a :: t, i + 2, j, v, w, h => by
    have hs : mm_s2 (a :: t) (i + 2) v = a :: mm_s2 t (i + 1) v := by cases t <;> rfl
    rw [hs] at h
    cases j with
    | zero => right; exact ⟨by omega, by omega, h, by omega⟩
    | succ j =>
      have h : (mm_s2 t (i + 1) v)[j]? = some (some w) := h
      rcases mm_s2_at t (i + 1) j v w h with ⟨h1, h2⟩ | ⟨h1, h2, h3, h4⟩
      · left; exact ⟨by omega, h2⟩
      · right; exact ⟨by omega, by omega, h3, fun q => h4 ⟨by omega, q.2⟩⟩
theorem ss_st1 {B : Nat} {ex : Nat → Nat} {n i : Nat} {L : mm_L} {v : Value} {ls' : Array Slot} (h : lv_has ls' n ((i, ss_tr B ex v) :: (ss_as B ex L).filter (fun q => !(q.1 == i) && !(q.1 + 1 == i && q.2.category == 2)))) : ss_l B ex n (mm_s1 L i v) ls' := by
  refine ⟨h.1, h.2.1, fun j w hj => ?_⟩
  rcases mm_s1_at L i j v w hj with ⟨rfl, rfl⟩ | ⟨h1, h2, h3⟩
  · exact h.2.2 (j, ss_tr B ex w) List.mem_cons_self
  · refine h.2.2 (j, ss_tr B ex w) (List.mem_cons_of_mem _ (List.mem_filter.mpr ⟨ss_as_mem.mpr ⟨w, h2, rfl⟩, ?_⟩))
    have a1 : (j == i) = false := by simp [h1]
    have a2 : (j + 1 == i && (ss_tr B ex w).category == 2) = false := by
      rw [ss_cat]
      by_cases q1 : j + 1 = i <;> by_cases q2 : w.category = 2 <;> simp [q1, q2]
      exact h3 ⟨q1, q2⟩
    show (!(j == i) && !(j + 1 == i && (ss_tr B ex w).category == 2)) = true
    rw [a1, a2]
    rfl
theorem ss_st2 {B : Nat} {ex : Nat → Nat} {n i : Nat} {L : mm_L} {v : Value} {ls' : Array Slot} (h : lv_has ls' n ((i, ss_tr B ex v) :: (ss_as B ex L).filter (fun q => !(q.1 == i) && (!(q.1 == i + 1) && !(q.1 + 1 == i && q.2.category == 2))))) : ss_l B ex n (mm_s2 L i v) ls' := by
  refine ⟨h.1, h.2.1, fun j w hj => ?_⟩
  rcases mm_s2_at L i j v w hj with ⟨rfl, rfl⟩ | ⟨h1, h0, h2, h3⟩
  · exact h.2.2 (j, ss_tr B ex w) List.mem_cons_self
  · refine h.2.2 (j, ss_tr B ex w) (List.mem_cons_of_mem _ (List.mem_filter.mpr ⟨ss_as_mem.mpr ⟨w, h2, rfl⟩, ?_⟩))
    have a1 : (j == i) = false := by simp [h1]
    have a0 : (j == i + 1) = false := by simp [h0]
    have a2 : (j + 1 == i && (ss_tr B ex w).category == 2) = false := by
      rw [ss_cat]
      by_cases q1 : j + 1 = i <;> by_cases q2 : w.category = 2 <;> simp [q1, q2]
      exact h3 ⟨q1, q2⟩
    show (!(j == i) && (!(j == i + 1) && !(j + 1 == i && (ss_tr B ex w).category == 2))) = true
    rw [a1, a0, a2]
    rfl
def ss_C (D : va_G) (cA : Nat → ClassId) (B : Nat) (ex : Nat → Nat) (Lx : Nat) (xs : Nat → Int32) (p : Program) (R : Room) (s : State) (m : MethodId) (args : Array Value) (meth : Method) (c : Code) (y : mm_Y) (n0 : Nat) : Prop :=
  (p.tables.exec = Jvm.exec ∧ c.code = mm_cd y ∧ c.maxLocals = mm_ml y ∧ s.vm.findClass (mm_cl (mm_cn y)) = some m.cls ∧ ∀ w ∈ lw_g, w.before args s = true) ∧ (va_K D vwCl (ss_ty cA) s ∧ ss_X B ex Lx xs s) ∧ ((mm_nm y).name = "<init>" → meth.name = "<init>") ∧ (mm_rf y ≤ R.frames ∧ mm_rl y ≤ R.locals) ∧ s.heap.size = B + n0
def ss_J (D : va_G) (cA : Nat → ClassId) (B : Nat) (ex : Nat → Nat) (Lx : Nat) (xs : Nat → Int32) (p : Program) (l : Launch) (e : Env) (R : Room) (s : State) (m : MethodId) (args : Array Value) (below : List Frame) (meth : Method) (c : Code) (y : mm_Y) (n0 : Nat) (Q : State → Prop) (θ : mm_T) (pc : Nat) (L : mm_L) (st : List Value) (σ : mm_M) : Prop :=
  ∀ (H : Heap) (locs : List Loc) (ls : Array Slot), ss_W D cA B ex θ σ H → σ.2.2 = (Lx, xs) → va_S (ss_A B) s.heap H locs → ss_l B ex (mm_ml y) L ls → W p l e R s m args below meth c H locs (θ.1 - n0) (mm_sl0 θ.1 - mm_sl0 n0) Q (F0 m pc ls (st.map (ss_tr B ex)))
section ST
variable {D : va_G} {cA : Nat → ClassId} {B : Nat} {ex : Nat → Nat} {Lx : Nat} {xs : Nat → Int32} {p : Program} {l : Launch} {e : Env} {R : Room} {s : State} {m : MethodId} {args : Array Value} {below : List Frame} {meth : Method} {c : Code} {y : mm_Y} {n0 : Nat} {Q : State → Prop} {θ θ1 : mm_T} {pc pc' len : Nat} {L L' : mm_L} {st st' : List Value} {σ σ1 : mm_M}
theorem st_iadd (hd : decode (mm_cd y) pc = .ok (.iadd, len)) (h : mm_sp y θ pc L st σ (.iadd) len = some (.inl (pc', L', st', θ1, σ1))) (C : ss_C D cA B ex Lx xs p R s m args meth c y n0) (hn0 : n0 ≤ θ.1) (hcl : θ1.1 - n0 ≤ R.cells) (hsl : mm_sl0 θ1.1 - mm_sl0 n0 ≤ R.slots) (K : ss_J D cA B ex Lx xs p l e R s m args below meth c y n0 Q θ1 pc' L' st' σ1) : ss_J D cA B ex Lx xs p l e R s m args below meth c y n0 Q θ pc L st σ := by
  obtain ⟨a, b, st2, rfl, h⟩ := mm_p2_inv h
  obtain ⟨hl, h⟩ := mm_ck_inv h
  obtain rfl := eq_of_beq hl
  cases h
  intro H locs ls hW hx hS hl
  exact lv_iadd C.1.1 C.1.2.1 hd (K H locs ls hW hx hS hl)

theorem st_isub (hd : decode (mm_cd y) pc = .ok (.isub, len)) (h : mm_sp y θ pc L st σ (.isub) len = some (.inl (pc', L', st', θ1, σ1))) (C : ss_C D cA B ex Lx xs p R s m args meth c y n0) (hn0 : n0 ≤ θ.1) (hcl : θ1.1 - n0 ≤ R.cells) (hsl : mm_sl0 θ1.1 - mm_sl0 n0 ≤ R.slots) (K : ss_J D cA B ex Lx xs p l e R s m args below meth c y n0 Q θ1 pc' L' st' σ1) : ss_J D cA B ex Lx xs p l e R s m args below meth c y n0 Q θ pc L st σ := by
  obtain ⟨a, b, st2, rfl, h⟩ := mm_p2_inv h
  obtain ⟨hl, h⟩ := mm_ck_inv h
  obtain rfl := eq_of_beq hl
  cases h
  intro H locs ls hW hx hS hl
  exact lv_isub C.1.1 C.1.2.1 hd (K H locs ls hW hx hS hl)

theorem st_imul (hd : decode (mm_cd y) pc = .ok (.imul, len)) (h : mm_sp y θ pc L st σ (.imul) len = some (.inl (pc', L', st', θ1, σ1))) (C : ss_C D cA B ex Lx xs p R s m args meth c y n0) (hn0 : n0 ≤ θ.1) (hcl : θ1.1 - n0 ≤ R.cells) (hsl : mm_sl0 θ1.1 - mm_sl0 n0 ≤ R.slots) (K : ss_J D cA B ex Lx xs p l e R s m args below meth c y n0 Q θ1 pc' L' st' σ1) : ss_J D cA B ex Lx xs p l e R s m args below meth c y n0 Q θ pc L st σ := by
  obtain ⟨a, b, st2, rfl, h⟩ := mm_p2_inv h
  obtain ⟨hl, h⟩ := mm_ck_inv h
  obtain rfl := eq_of_beq hl
  cases h
  intro H locs ls hW hx hS hl
  exact lv_imul C.1.1 C.1.2.1 hd (K H locs ls hW hx hS hl)

theorem st_iand (hd : decode (mm_cd y) pc = .ok (.iand, len)) (h : mm_sp y θ pc L st σ (.iand) len = some (.inl (pc', L', st', θ1, σ1))) (C : ss_C D cA B ex Lx xs p R s m args meth c y n0) (hn0 : n0 ≤ θ.1) (hcl : θ1.1 - n0 ≤ R.cells) (hsl : mm_sl0 θ1.1 - mm_sl0 n0 ≤ R.slots) (K : ss_J D cA B ex Lx xs p l e R s m args below meth c y n0 Q θ1 pc' L' st' σ1) : ss_J D cA B ex Lx xs p l e R s m args below meth c y n0 Q θ pc L st σ := by
  obtain ⟨a, b, st2, rfl, h⟩ := mm_p2_inv h
  obtain ⟨hl, h⟩ := mm_ck_inv h
  obtain rfl := eq_of_beq hl
  cases h
  intro H locs ls hW hx hS hl
  exact lv_iand C.1.1 C.1.2.1 hd (K H locs ls hW hx hS hl)

theorem st_ior (hd : decode (mm_cd y) pc = .ok (.ior, len)) (h : mm_sp y θ pc L st σ (.ior) len = some (.inl (pc', L', st', θ1, σ1))) (C : ss_C D cA B ex Lx xs p R s m args meth c y n0) (hn0 : n0 ≤ θ.1) (hcl : θ1.1 - n0 ≤ R.cells) (hsl : mm_sl0 θ1.1 - mm_sl0 n0 ≤ R.slots) (K : ss_J D cA B ex Lx xs p l e R s m args below meth c y n0 Q θ1 pc' L' st' σ1) : ss_J D cA B ex Lx xs p l e R s m args below meth c y n0 Q θ pc L st σ := by
  obtain ⟨a, b, st2, rfl, h⟩ := mm_p2_inv h
  obtain ⟨hl, h⟩ := mm_ck_inv h
  obtain rfl := eq_of_beq hl
  cases h
  intro H locs ls hW hx hS hl
  exact lv_ior C.1.1 C.1.2.1 hd (K H locs ls hW hx hS hl)

theorem st_ixor (hd : decode (mm_cd y) pc = .ok (.ixor, len)) (h : mm_sp y θ pc L st σ (.ixor) len = some (.inl (pc', L', st', θ1, σ1))) (C : ss_C D cA B ex Lx xs p R s m args meth c y n0) (hn0 : n0 ≤ θ.1) (hcl : θ1.1 - n0 ≤ R.cells) (hsl : mm_sl0 θ1.1 - mm_sl0 n0 ≤ R.slots) (K : ss_J D cA B ex Lx xs p l e R s m args below meth c y n0 Q θ1 pc' L' st' σ1) : ss_J D cA B ex Lx xs p l e R s m args below meth c y n0 Q θ pc L st σ := by
  obtain ⟨a, b, st2, rfl, h⟩ := mm_p2_inv h
  obtain ⟨hl, h⟩ := mm_ck_inv h
  obtain rfl := eq_of_beq hl
  cases h
  intro H locs ls hW hx hS hl
  exact lv_ixor C.1.1 C.1.2.1 hd (K H locs ls hW hx hS hl)

theorem st_ishl (hd : decode (mm_cd y) pc = .ok (.ishl, len)) (h : mm_sp y θ pc L st σ (.ishl) len = some (.inl (pc', L', st', θ1, σ1))) (C : ss_C D cA B ex Lx xs p R s m args meth c y n0) (hn0 : n0 ≤ θ.1) (hcl : θ1.1 - n0 ≤ R.cells) (hsl : mm_sl0 θ1.1 - mm_sl0 n0 ≤ R.slots) (K : ss_J D cA B ex Lx xs p l e R s m args below meth c y n0 Q θ1 pc' L' st' σ1) : ss_J D cA B ex Lx xs p l e R s m args below meth c y n0 Q θ pc L st σ := by
  obtain ⟨a, b, st2, rfl, h⟩ := mm_p2_inv h
  obtain ⟨hl, h⟩ := mm_ck_inv h
  obtain rfl := eq_of_beq hl
  cases h
  intro H locs ls hW hx hS hl
  exact lv_ishl C.1.1 C.1.2.1 hd (K H locs ls hW hx hS hl)

theorem st_ishr (hd : decode (mm_cd y) pc = .ok (.ishr, len)) (h : mm_sp y θ pc L st σ (.ishr) len = some (.inl (pc', L', st', θ1, σ1))) (C : ss_C D cA B ex Lx xs p R s m args meth c y n0) (hn0 : n0 ≤ θ.1) (hcl : θ1.1 - n0 ≤ R.cells) (hsl : mm_sl0 θ1.1 - mm_sl0 n0 ≤ R.slots) (K : ss_J D cA B ex Lx xs p l e R s m args below meth c y n0 Q θ1 pc' L' st' σ1) : ss_J D cA B ex Lx xs p l e R s m args below meth c y n0 Q θ pc L st σ := by
  obtain ⟨a, b, st2, rfl, h⟩ := mm_p2_inv h
  obtain ⟨hl, h⟩ := mm_ck_inv h
  obtain rfl := eq_of_beq hl
  cases h
  intro H locs ls hW hx hS hl
  exact lv_ishr C.1.1 C.1.2.1 hd (K H locs ls hW hx hS hl)

theorem st_iushr (hd : decode (mm_cd y) pc = .ok (.iushr, len)) (h : mm_sp y θ pc L st σ (.iushr) len = some (.inl (pc', L', st', θ1, σ1))) (C : ss_C D cA B ex Lx xs p R s m args meth c y n0) (hn0 : n0 ≤ θ.1) (hcl : θ1.1 - n0 ≤ R.cells) (hsl : mm_sl0 θ1.1 - mm_sl0 n0 ≤ R.slots) (K : ss_J D cA B ex Lx xs p l e R s m args below meth c y n0 Q θ1 pc' L' st' σ1) : ss_J D cA B ex Lx xs p l e R s m args below meth c y n0 Q θ pc L st σ := by
  obtain ⟨a, b, st2, rfl, h⟩ := mm_p2_inv h
  obtain ⟨hl, h⟩ := mm_ck_inv h
  obtain rfl := eq_of_beq hl
  cases h
  intro H locs ls hW hx hS hl
  exact lv_iushr C.1.1 C.1.2.1 hd rfl (K H locs ls hW hx hS hl)

theorem st_ineg (hd : decode (mm_cd y) pc = .ok (.ineg, len)) (h : mm_sp y θ pc L st σ (.ineg) len = some (.inl (pc', L', st', θ1, σ1))) (C : ss_C D cA B ex Lx xs p R s m args meth c y n0) (hn0 : n0 ≤ θ.1) (hcl : θ1.1 - n0 ≤ R.cells) (hsl : mm_sl0 θ1.1 - mm_sl0 n0 ≤ R.slots) (K : ss_J D cA B ex Lx xs p l e R s m args below meth c y n0 Q θ1 pc' L' st' σ1) : ss_J D cA B ex Lx xs p l e R s m args below meth c y n0 Q θ pc L st σ := by
  obtain ⟨a, st2, rfl, h⟩ := mm_p1_inv h
  obtain ⟨hl, h⟩ := mm_ck_inv h
  obtain rfl := eq_of_beq hl
  cases h
  intro H locs ls hW hx hS hl
  exact lv_ineg C.1.1 C.1.2.1 hd (K H locs ls hW hx hS hl)

theorem st_ladd (hd : decode (mm_cd y) pc = .ok (.ladd, len)) (h : mm_sp y θ pc L st σ (.ladd) len = some (.inl (pc', L', st', θ1, σ1))) (C : ss_C D cA B ex Lx xs p R s m args meth c y n0) (hn0 : n0 ≤ θ.1) (hcl : θ1.1 - n0 ≤ R.cells) (hsl : mm_sl0 θ1.1 - mm_sl0 n0 ≤ R.slots) (K : ss_J D cA B ex Lx xs p l e R s m args below meth c y n0 Q θ1 pc' L' st' σ1) : ss_J D cA B ex Lx xs p l e R s m args below meth c y n0 Q θ pc L st σ := by
  obtain ⟨a, b, st2, rfl, h⟩ := mm_q2_inv h
  obtain ⟨hl, h⟩ := mm_ck_inv h
  obtain rfl := eq_of_beq hl
  cases h
  intro H locs ls hW hx hS hl
  exact lv_ladd C.1.1 C.1.2.1 hd (K H locs ls hW hx hS hl)

theorem st_lsub (hd : decode (mm_cd y) pc = .ok (.lsub, len)) (h : mm_sp y θ pc L st σ (.lsub) len = some (.inl (pc', L', st', θ1, σ1))) (C : ss_C D cA B ex Lx xs p R s m args meth c y n0) (hn0 : n0 ≤ θ.1) (hcl : θ1.1 - n0 ≤ R.cells) (hsl : mm_sl0 θ1.1 - mm_sl0 n0 ≤ R.slots) (K : ss_J D cA B ex Lx xs p l e R s m args below meth c y n0 Q θ1 pc' L' st' σ1) : ss_J D cA B ex Lx xs p l e R s m args below meth c y n0 Q θ pc L st σ := by
  obtain ⟨a, b, st2, rfl, h⟩ := mm_q2_inv h
  obtain ⟨hl, h⟩ := mm_ck_inv h
  obtain rfl := eq_of_beq hl
  cases h
  intro H locs ls hW hx hS hl
  exact lv_lsub C.1.1 C.1.2.1 hd (K H locs ls hW hx hS hl)

theorem st_lmul (hd : decode (mm_cd y) pc = .ok (.lmul, len)) (h : mm_sp y θ pc L st σ (.lmul) len = some (.inl (pc', L', st', θ1, σ1))) (C : ss_C D cA B ex Lx xs p R s m args meth c y n0) (hn0 : n0 ≤ θ.1) (hcl : θ1.1 - n0 ≤ R.cells) (hsl : mm_sl0 θ1.1 - mm_sl0 n0 ≤ R.slots) (K : ss_J D cA B ex Lx xs p l e R s m args below meth c y n0 Q θ1 pc' L' st' σ1) : ss_J D cA B ex Lx xs p l e R s m args below meth c y n0 Q θ pc L st σ := by
  obtain ⟨a, b, st2, rfl, h⟩ := mm_q2_inv h
  obtain ⟨hl, h⟩ := mm_ck_inv h
  obtain rfl := eq_of_beq hl
  cases h
  intro H locs ls hW hx hS hl
  exact lv_lmul C.1.1 C.1.2.1 hd (K H locs ls hW hx hS hl)

theorem st_land (hd : decode (mm_cd y) pc = .ok (.land, len)) (h : mm_sp y θ pc L st σ (.land) len = some (.inl (pc', L', st', θ1, σ1))) (C : ss_C D cA B ex Lx xs p R s m args meth c y n0) (hn0 : n0 ≤ θ.1) (hcl : θ1.1 - n0 ≤ R.cells) (hsl : mm_sl0 θ1.1 - mm_sl0 n0 ≤ R.slots) (K : ss_J D cA B ex Lx xs p l e R s m args below meth c y n0 Q θ1 pc' L' st' σ1) : ss_J D cA B ex Lx xs p l e R s m args below meth c y n0 Q θ pc L st σ := by
  obtain ⟨a, b, st2, rfl, h⟩ := mm_q2_inv h
  obtain ⟨hl, h⟩ := mm_ck_inv h
  obtain rfl := eq_of_beq hl
  cases h
  intro H locs ls hW hx hS hl
  exact lv_land C.1.1 C.1.2.1 hd (K H locs ls hW hx hS hl)

theorem st_lor (hd : decode (mm_cd y) pc = .ok (.lor, len)) (h : mm_sp y θ pc L st σ (.lor) len = some (.inl (pc', L', st', θ1, σ1))) (C : ss_C D cA B ex Lx xs p R s m args meth c y n0) (hn0 : n0 ≤ θ.1) (hcl : θ1.1 - n0 ≤ R.cells) (hsl : mm_sl0 θ1.1 - mm_sl0 n0 ≤ R.slots) (K : ss_J D cA B ex Lx xs p l e R s m args below meth c y n0 Q θ1 pc' L' st' σ1) : ss_J D cA B ex Lx xs p l e R s m args below meth c y n0 Q θ pc L st σ := by
  obtain ⟨a, b, st2, rfl, h⟩ := mm_q2_inv h
  obtain ⟨hl, h⟩ := mm_ck_inv h
  obtain rfl := eq_of_beq hl
  cases h
  intro H locs ls hW hx hS hl
  exact lv_lor C.1.1 C.1.2.1 hd (K H locs ls hW hx hS hl)

theorem st_lcmp (hd : decode (mm_cd y) pc = .ok (.lcmp, len)) (h : mm_sp y θ pc L st σ (.lcmp) len = some (.inl (pc', L', st', θ1, σ1))) (C : ss_C D cA B ex Lx xs p R s m args meth c y n0) (hn0 : n0 ≤ θ.1) (hcl : θ1.1 - n0 ≤ R.cells) (hsl : mm_sl0 θ1.1 - mm_sl0 n0 ≤ R.slots) (K : ss_J D cA B ex Lx xs p l e R s m args below meth c y n0 Q θ1 pc' L' st' σ1) : ss_J D cA B ex Lx xs p l e R s m args below meth c y n0 Q θ pc L st σ := by
  obtain ⟨a, b, st2, rfl, h⟩ := mm_q2_inv h
  obtain ⟨hl, h⟩ := mm_ck_inv h
  obtain rfl := eq_of_beq hl
  cases h
  intro H locs ls hW hx hS hl
  exact W.lcmp C.1.1 C.1.2.1 hd (K H locs ls hW hx hS hl)

theorem st_lshl (hd : decode (mm_cd y) pc = .ok (.lshl, len)) (h : mm_sp y θ pc L st σ (.lshl) len = some (.inl (pc', L', st', θ1, σ1))) (C : ss_C D cA B ex Lx xs p R s m args meth c y n0) (hn0 : n0 ≤ θ.1) (hcl : θ1.1 - n0 ≤ R.cells) (hsl : mm_sl0 θ1.1 - mm_sl0 n0 ≤ R.slots) (K : ss_J D cA B ex Lx xs p l e R s m args below meth c y n0 Q θ1 pc' L' st' σ1) : ss_J D cA B ex Lx xs p l e R s m args below meth c y n0 Q θ pc L st σ := by
  obtain ⟨a, b, st2, rfl, h⟩ := mm_q3_inv h
  obtain ⟨hl, h⟩ := mm_ck_inv h
  obtain rfl := eq_of_beq hl
  cases h
  intro H locs ls hW hx hS hl
  exact lv_lshl C.1.1 C.1.2.1 hd rfl (K H locs ls hW hx hS hl)

theorem st_lushr (hd : decode (mm_cd y) pc = .ok (.lushr, len)) (h : mm_sp y θ pc L st σ (.lushr) len = some (.inl (pc', L', st', θ1, σ1))) (C : ss_C D cA B ex Lx xs p R s m args meth c y n0) (hn0 : n0 ≤ θ.1) (hcl : θ1.1 - n0 ≤ R.cells) (hsl : mm_sl0 θ1.1 - mm_sl0 n0 ≤ R.slots) (K : ss_J D cA B ex Lx xs p l e R s m args below meth c y n0 Q θ1 pc' L' st' σ1) : ss_J D cA B ex Lx xs p l e R s m args below meth c y n0 Q θ pc L st σ := by
  obtain ⟨a, b, st2, rfl, h⟩ := mm_q3_inv h
  obtain ⟨hl, h⟩ := mm_ck_inv h
  obtain rfl := eq_of_beq hl
  cases h
  intro H locs ls hW hx hS hl
  exact lv_lushr C.1.1 C.1.2.1 hd rfl (K H locs ls hW hx hS hl)

theorem st_i2l (hd : decode (mm_cd y) pc = .ok (.i2l, len)) (h : mm_sp y θ pc L st σ (.i2l) len = some (.inl (pc', L', st', θ1, σ1))) (C : ss_C D cA B ex Lx xs p R s m args meth c y n0) (hn0 : n0 ≤ θ.1) (hcl : θ1.1 - n0 ≤ R.cells) (hsl : mm_sl0 θ1.1 - mm_sl0 n0 ≤ R.slots) (K : ss_J D cA B ex Lx xs p l e R s m args below meth c y n0 Q θ1 pc' L' st' σ1) : ss_J D cA B ex Lx xs p l e R s m args below meth c y n0 Q θ pc L st σ := by
  obtain ⟨a, st2, rfl, h⟩ := mm_p1_inv h
  obtain ⟨hl, h⟩ := mm_ck_inv h
  obtain rfl := eq_of_beq hl
  cases h
  intro H locs ls hW hx hS hl
  exact lv_i2l C.1.1 C.1.2.1 hd rfl (K H locs ls hW hx hS hl)

theorem st_l2i (hd : decode (mm_cd y) pc = .ok (.l2i, len)) (h : mm_sp y θ pc L st σ (.l2i) len = some (.inl (pc', L', st', θ1, σ1))) (C : ss_C D cA B ex Lx xs p R s m args meth c y n0) (hn0 : n0 ≤ θ.1) (hcl : θ1.1 - n0 ≤ R.cells) (hsl : mm_sl0 θ1.1 - mm_sl0 n0 ≤ R.slots) (K : ss_J D cA B ex Lx xs p l e R s m args below meth c y n0 Q θ1 pc' L' st' σ1) : ss_J D cA B ex Lx xs p l e R s m args below meth c y n0 Q θ pc L st σ := by
  obtain ⟨a, st2, rfl, h⟩ := mm_q1_inv h
  obtain ⟨hl, h⟩ := mm_ck_inv h
  obtain rfl := eq_of_beq hl
  cases h
  intro H locs ls hW hx hS hl
  exact lv_l2i C.1.1 C.1.2.1 hd rfl (K H locs ls hW hx hS hl)

theorem st_i2c (hd : decode (mm_cd y) pc = .ok (.i2c, len)) (h : mm_sp y θ pc L st σ (.i2c) len = some (.inl (pc', L', st', θ1, σ1))) (C : ss_C D cA B ex Lx xs p R s m args meth c y n0) (hn0 : n0 ≤ θ.1) (hcl : θ1.1 - n0 ≤ R.cells) (hsl : mm_sl0 θ1.1 - mm_sl0 n0 ≤ R.slots) (K : ss_J D cA B ex Lx xs p l e R s m args below meth c y n0 Q θ1 pc' L' st' σ1) : ss_J D cA B ex Lx xs p l e R s m args below meth c y n0 Q θ pc L st σ := by
  obtain ⟨a, st2, rfl, h⟩ := mm_p1_inv h
  obtain ⟨hl, h⟩ := mm_ck_inv h
  obtain rfl := eq_of_beq hl
  cases h
  intro H locs ls hW hx hS hl
  exact lv_i2c C.1.1 C.1.2.1 hd rfl (K H locs ls hW hx hS hl)

theorem st_i2b (hd : decode (mm_cd y) pc = .ok (.i2b, len)) (h : mm_sp y θ pc L st σ (.i2b) len = some (.inl (pc', L', st', θ1, σ1))) (C : ss_C D cA B ex Lx xs p R s m args meth c y n0) (hn0 : n0 ≤ θ.1) (hcl : θ1.1 - n0 ≤ R.cells) (hsl : mm_sl0 θ1.1 - mm_sl0 n0 ≤ R.slots) (K : ss_J D cA B ex Lx xs p l e R s m args below meth c y n0 Q θ1 pc' L' st' σ1) : ss_J D cA B ex Lx xs p l e R s m args below meth c y n0 Q θ pc L st σ := by
  obtain ⟨a, st2, rfl, h⟩ := mm_p1_inv h
  obtain ⟨hl, h⟩ := mm_ck_inv h
  obtain rfl := eq_of_beq hl
  cases h
  intro H locs ls hW hx hS hl
  exact lv_i2b C.1.1 C.1.2.1 hd rfl (K H locs ls hW hx hS hl)

theorem st_idiv (hd : decode (mm_cd y) pc = .ok (.idiv, len)) (h : mm_sp y θ pc L st σ (.idiv) len = some (.inl (pc', L', st', θ1, σ1))) (C : ss_C D cA B ex Lx xs p R s m args meth c y n0) (hn0 : n0 ≤ θ.1) (hcl : θ1.1 - n0 ≤ R.cells) (hsl : mm_sl0 θ1.1 - mm_sl0 n0 ≤ R.slots) (K : ss_J D cA B ex Lx xs p l e R s m args below meth c y n0 Q θ1 pc' L' st' σ1) : ss_J D cA B ex Lx xs p l e R s m args below meth c y n0 Q θ pc L st σ := by
  obtain ⟨a, b, st2, rfl, h1⟩ := mm_p2_inv h
  clear h
  obtain ⟨hl, h2⟩ := mm_ck_inv h1
  clear h1
  rw [Bool.and_eq_true] at hl
  obtain rfl := eq_of_beq hl.1
  have hne : ¬ b = 0 := by have := hl.2; simpa using this
  cases h2
  intro H locs ls hW hx hS hl
  exact lv_idiv C.1.1 C.1.2.1 hd hne (K H locs ls hW hx hS hl)

theorem st_irem (hd : decode (mm_cd y) pc = .ok (.irem, len)) (h : mm_sp y θ pc L st σ (.irem) len = some (.inl (pc', L', st', θ1, σ1))) (C : ss_C D cA B ex Lx xs p R s m args meth c y n0) (hn0 : n0 ≤ θ.1) (hcl : θ1.1 - n0 ≤ R.cells) (hsl : mm_sl0 θ1.1 - mm_sl0 n0 ≤ R.slots) (K : ss_J D cA B ex Lx xs p l e R s m args below meth c y n0 Q θ1 pc' L' st' σ1) : ss_J D cA B ex Lx xs p l e R s m args below meth c y n0 Q θ pc L st σ := by
  obtain ⟨a, b, st2, rfl, h1⟩ := mm_p2_inv h
  clear h
  obtain ⟨hl, h2⟩ := mm_ck_inv h1
  clear h1
  rw [Bool.and_eq_true] at hl
  obtain rfl := eq_of_beq hl.1
  have hne : ¬ b = 0 := by have := hl.2; simpa using this
  cases h2
  intro H locs ls hW hx hS hl
  exact lv_irem C.1.1 C.1.2.1 hd hne (K H locs ls hW hx hS hl)

theorem st_ldiv (hd : decode (mm_cd y) pc = .ok (.ldiv, len)) (h : mm_sp y θ pc L st σ (.ldiv) len = some (.inl (pc', L', st', θ1, σ1))) (C : ss_C D cA B ex Lx xs p R s m args meth c y n0) (hn0 : n0 ≤ θ.1) (hcl : θ1.1 - n0 ≤ R.cells) (hsl : mm_sl0 θ1.1 - mm_sl0 n0 ≤ R.slots) (K : ss_J D cA B ex Lx xs p l e R s m args below meth c y n0 Q θ1 pc' L' st' σ1) : ss_J D cA B ex Lx xs p l e R s m args below meth c y n0 Q θ pc L st σ := by
  obtain ⟨a, b, st2, rfl, h1⟩ := mm_q2_inv h
  clear h
  obtain ⟨hl, h2⟩ := mm_ck_inv h1
  clear h1
  rw [Bool.and_eq_true] at hl
  obtain rfl := eq_of_beq hl.1
  have hne : ¬ b = 0 := by have := hl.2; simpa using this
  cases h2
  intro H locs ls hW hx hS hl
  exact lv_ldiv C.1.1 C.1.2.1 hd hne (K H locs ls hW hx hS hl)

theorem st_lrem (hd : decode (mm_cd y) pc = .ok (.lrem, len)) (h : mm_sp y θ pc L st σ (.lrem) len = some (.inl (pc', L', st', θ1, σ1))) (C : ss_C D cA B ex Lx xs p R s m args meth c y n0) (hn0 : n0 ≤ θ.1) (hcl : θ1.1 - n0 ≤ R.cells) (hsl : mm_sl0 θ1.1 - mm_sl0 n0 ≤ R.slots) (K : ss_J D cA B ex Lx xs p l e R s m args below meth c y n0 Q θ1 pc' L' st' σ1) : ss_J D cA B ex Lx xs p l e R s m args below meth c y n0 Q θ pc L st σ := by
  obtain ⟨a, b, st2, rfl, h1⟩ := mm_q2_inv h
  clear h
  obtain ⟨hl, h2⟩ := mm_ck_inv h1
  clear h1
  rw [Bool.and_eq_true] at hl
  obtain rfl := eq_of_beq hl.1
  have hne : ¬ b = 0 := by have := hl.2; simpa using this
  cases h2
  intro H locs ls hW hx hS hl
  exact lv_lrem C.1.1 C.1.2.1 hd hne (K H locs ls hW hx hS hl)

theorem st_iconst {n : Int} (hd : decode (mm_cd y) pc = .ok (.iconst n, len)) (h : mm_sp y θ pc L st σ (.iconst n) len = some (.inl (pc', L', st', θ1, σ1))) (C : ss_C D cA B ex Lx xs p R s m args meth c y n0) (hn0 : n0 ≤ θ.1) (hcl : θ1.1 - n0 ≤ R.cells) (hsl : mm_sl0 θ1.1 - mm_sl0 n0 ≤ R.slots) (K : ss_J D cA B ex Lx xs p l e R s m args below meth c y n0 Q θ1 pc' L' st' σ1) : ss_J D cA B ex Lx xs p l e R s m args below meth c y n0 Q θ pc L st σ := by
  obtain ⟨hl, h⟩ := mm_ck_inv h
  obtain rfl := eq_of_beq hl
  cases h
  intro H locs ls hW hx hS hl
  exact lv_iconst C.1.1 C.1.2.1 hd rfl (K H locs ls hW hx hS hl)

theorem st_bipush {n : Int} (hd : decode (mm_cd y) pc = .ok (.bipush n, len)) (h : mm_sp y θ pc L st σ (.bipush n) len = some (.inl (pc', L', st', θ1, σ1))) (C : ss_C D cA B ex Lx xs p R s m args meth c y n0) (hn0 : n0 ≤ θ.1) (hcl : θ1.1 - n0 ≤ R.cells) (hsl : mm_sl0 θ1.1 - mm_sl0 n0 ≤ R.slots) (K : ss_J D cA B ex Lx xs p l e R s m args below meth c y n0 Q θ1 pc' L' st' σ1) : ss_J D cA B ex Lx xs p l e R s m args below meth c y n0 Q θ pc L st σ := by
  obtain ⟨hl, h⟩ := mm_ck_inv h
  obtain rfl := eq_of_beq hl
  cases h
  intro H locs ls hW hx hS hl
  exact lv_bipush C.1.1 C.1.2.1 hd rfl (K H locs ls hW hx hS hl)

theorem st_sipush {n : Int} (hd : decode (mm_cd y) pc = .ok (.sipush n, len)) (h : mm_sp y θ pc L st σ (.sipush n) len = some (.inl (pc', L', st', θ1, σ1))) (C : ss_C D cA B ex Lx xs p R s m args meth c y n0) (hn0 : n0 ≤ θ.1) (hcl : θ1.1 - n0 ≤ R.cells) (hsl : mm_sl0 θ1.1 - mm_sl0 n0 ≤ R.slots) (K : ss_J D cA B ex Lx xs p l e R s m args below meth c y n0 Q θ1 pc' L' st' σ1) : ss_J D cA B ex Lx xs p l e R s m args below meth c y n0 Q θ pc L st σ := by
  obtain ⟨hl, h⟩ := mm_ck_inv h
  obtain rfl := eq_of_beq hl
  cases h
  intro H locs ls hW hx hS hl
  exact lv_sipush C.1.1 C.1.2.1 hd rfl (K H locs ls hW hx hS hl)

theorem st_lconst {n : Fin 2} (hd : decode (mm_cd y) pc = .ok (.lconst n, len)) (h : mm_sp y θ pc L st σ (.lconst n) len = some (.inl (pc', L', st', θ1, σ1))) (C : ss_C D cA B ex Lx xs p R s m args meth c y n0) (hn0 : n0 ≤ θ.1) (hcl : θ1.1 - n0 ≤ R.cells) (hsl : mm_sl0 θ1.1 - mm_sl0 n0 ≤ R.slots) (K : ss_J D cA B ex Lx xs p l e R s m args below meth c y n0 Q θ1 pc' L' st' σ1) : ss_J D cA B ex Lx xs p l e R s m args below meth c y n0 Q θ pc L st σ := by
  obtain ⟨hl, h⟩ := mm_ck_inv h
  obtain rfl := eq_of_beq hl
  cases h
  intro H locs ls hW hx hS hl
  exact lv_lconst C.1.1 C.1.2.1 hd rfl (K H locs ls hW hx hS hl)

theorem st_iload_n {i : Fin 4} (hd : decode (mm_cd y) pc = .ok (.iload_n i, len)) (h : mm_sp y θ pc L st σ (.iload_n i) len = some (.inl (pc', L', st', θ1, σ1))) (C : ss_C D cA B ex Lx xs p R s m args meth c y n0) (hn0 : n0 ≤ θ.1) (hcl : θ1.1 - n0 ≤ R.cells) (hsl : mm_sl0 θ1.1 - mm_sl0 n0 ≤ R.slots) (K : ss_J D cA B ex Lx xs p l e R s m args below meth c y n0 Q θ1 pc' L' st' σ1) : ss_J D cA B ex Lx xs p l e R s m args below meth c y n0 Q θ pc L st σ := by
  obtain ⟨hl, h2⟩ := mm_ck_inv h
  clear h
  obtain rfl := eq_of_beq hl
  obtain ⟨v, hv, h3⟩ := mm_ld_inv0 (y := y) h2
  cases h3
  intro H locs ls hW hx hS hl
  exact lv_iload_n C.1.1 C.1.2.1 hd rfl (hl.2.2 _ _ hv) (K H locs ls hW hx hS hl)

theorem st_iload {i : Nat} (hd : decode (mm_cd y) pc = .ok (.iload i, len)) (h : mm_sp y θ pc L st σ (.iload i) len = some (.inl (pc', L', st', θ1, σ1))) (C : ss_C D cA B ex Lx xs p R s m args meth c y n0) (hn0 : n0 ≤ θ.1) (hcl : θ1.1 - n0 ≤ R.cells) (hsl : mm_sl0 θ1.1 - mm_sl0 n0 ≤ R.slots) (K : ss_J D cA B ex Lx xs p l e R s m args below meth c y n0 Q θ1 pc' L' st' σ1) : ss_J D cA B ex Lx xs p l e R s m args below meth c y n0 Q θ pc L st σ := by
  obtain ⟨hl, h2⟩ := mm_ck_inv h
  clear h
  obtain rfl := eq_of_beq hl
  obtain ⟨v, hv, h3⟩ := mm_ld_inv0 (y := y) h2
  cases h3
  intro H locs ls hW hx hS hl
  exact lv_iload C.1.1 C.1.2.1 hd (hl.2.2 _ _ hv) (K H locs ls hW hx hS hl)

theorem st_lload_n {i : Fin 4} (hd : decode (mm_cd y) pc = .ok (.lload_n i, len)) (h : mm_sp y θ pc L st σ (.lload_n i) len = some (.inl (pc', L', st', θ1, σ1))) (C : ss_C D cA B ex Lx xs p R s m args meth c y n0) (hn0 : n0 ≤ θ.1) (hcl : θ1.1 - n0 ≤ R.cells) (hsl : mm_sl0 θ1.1 - mm_sl0 n0 ≤ R.slots) (K : ss_J D cA B ex Lx xs p l e R s m args below meth c y n0 Q θ1 pc' L' st' σ1) : ss_J D cA B ex Lx xs p l e R s m args below meth c y n0 Q θ pc L st σ := by
  obtain ⟨hl, h2⟩ := mm_ck_inv h
  clear h
  obtain rfl := eq_of_beq hl
  obtain ⟨v, hv, h3⟩ := mm_ld_inv1 (y := y) h2
  cases h3
  intro H locs ls hW hx hS hl
  exact lv_lload_n C.1.1 C.1.2.1 hd rfl (hl.2.2 _ _ hv) (K H locs ls hW hx hS hl)

theorem st_lload {i : Nat} (hd : decode (mm_cd y) pc = .ok (.lload i, len)) (h : mm_sp y θ pc L st σ (.lload i) len = some (.inl (pc', L', st', θ1, σ1))) (C : ss_C D cA B ex Lx xs p R s m args meth c y n0) (hn0 : n0 ≤ θ.1) (hcl : θ1.1 - n0 ≤ R.cells) (hsl : mm_sl0 θ1.1 - mm_sl0 n0 ≤ R.slots) (K : ss_J D cA B ex Lx xs p l e R s m args below meth c y n0 Q θ1 pc' L' st' σ1) : ss_J D cA B ex Lx xs p l e R s m args below meth c y n0 Q θ pc L st σ := by
  obtain ⟨hl, h2⟩ := mm_ck_inv h
  clear h
  obtain rfl := eq_of_beq hl
  obtain ⟨v, hv, h3⟩ := mm_ld_inv1 (y := y) h2
  cases h3
  intro H locs ls hW hx hS hl
  exact lv_lload C.1.1 C.1.2.1 hd (hl.2.2 _ _ hv) (K H locs ls hW hx hS hl)

theorem st_aload_n {i : Fin 4} (hd : decode (mm_cd y) pc = .ok (.aload_n i, len)) (h : mm_sp y θ pc L st σ (.aload_n i) len = some (.inl (pc', L', st', θ1, σ1))) (C : ss_C D cA B ex Lx xs p R s m args meth c y n0) (hn0 : n0 ≤ θ.1) (hcl : θ1.1 - n0 ≤ R.cells) (hsl : mm_sl0 θ1.1 - mm_sl0 n0 ≤ R.slots) (K : ss_J D cA B ex Lx xs p l e R s m args below meth c y n0 Q θ1 pc' L' st' σ1) : ss_J D cA B ex Lx xs p l e R s m args below meth c y n0 Q θ pc L st σ := by
  obtain ⟨hl, h2⟩ := mm_ck_inv h
  clear h
  obtain rfl := eq_of_beq hl
  obtain ⟨v, hv, h3⟩ := mm_ld_inv2 (y := y) h2
  cases h3
  intro H locs ls hW hx hS hl
  exact lv_aload_n C.1.1 C.1.2.1 hd rfl (hl.2.2 _ _ hv) (K H locs ls hW hx hS hl)

theorem st_aload {i : Nat} (hd : decode (mm_cd y) pc = .ok (.aload i, len)) (h : mm_sp y θ pc L st σ (.aload i) len = some (.inl (pc', L', st', θ1, σ1))) (C : ss_C D cA B ex Lx xs p R s m args meth c y n0) (hn0 : n0 ≤ θ.1) (hcl : θ1.1 - n0 ≤ R.cells) (hsl : mm_sl0 θ1.1 - mm_sl0 n0 ≤ R.slots) (K : ss_J D cA B ex Lx xs p l e R s m args below meth c y n0 Q θ1 pc' L' st' σ1) : ss_J D cA B ex Lx xs p l e R s m args below meth c y n0 Q θ pc L st σ := by
  obtain ⟨hl, h2⟩ := mm_ck_inv h
  clear h
  obtain rfl := eq_of_beq hl
  obtain ⟨v, hv, h3⟩ := mm_ld_inv2 (y := y) h2
  cases h3
  intro H locs ls hW hx hS hl
  exact lv_aload C.1.1 C.1.2.1 hd (hl.2.2 _ _ hv) (K H locs ls hW hx hS hl)

theorem st_istore_n {i : Fin 4} (hd : decode (mm_cd y) pc = .ok (.istore_n i, len)) (h : mm_sp y θ pc L st σ (.istore_n i) len = some (.inl (pc', L', st', θ1, σ1))) (C : ss_C D cA B ex Lx xs p R s m args meth c y n0) (hn0 : n0 ≤ θ.1) (hcl : θ1.1 - n0 ≤ R.cells) (hsl : mm_sl0 θ1.1 - mm_sl0 n0 ≤ R.slots) (K : ss_J D cA B ex Lx xs p l e R s m args below meth c y n0 Q θ1 pc' L' st' σ1) : ss_J D cA B ex Lx xs p l e R s m args below meth c y n0 Q θ pc L st σ := by
  obtain ⟨x, st2, rfl, h1⟩ := mm_p1_inv h
  clear h
  obtain ⟨hl, h2⟩ := mm_ck_inv h1
  clear h1
  rw [Bool.and_eq_true] at hl
  obtain ⟨hl1, hl2⟩ := hl
  obtain rfl := eq_of_beq hl1
  cases h2
  intro H locs ls hW hx hS hl
  exact lv_istore_n C.1.1 C.1.2.1 hd rfl (ss_l_has hl) (of_decide_eq_true hl2) rfl (fun ls2 hl2 => K H locs ls2 hW hx hS (ss_st1 (v := .int x) hl2))

theorem st_istore {i : Nat} (hd : decode (mm_cd y) pc = .ok (.istore i, len)) (h : mm_sp y θ pc L st σ (.istore i) len = some (.inl (pc', L', st', θ1, σ1))) (C : ss_C D cA B ex Lx xs p R s m args meth c y n0) (hn0 : n0 ≤ θ.1) (hcl : θ1.1 - n0 ≤ R.cells) (hsl : mm_sl0 θ1.1 - mm_sl0 n0 ≤ R.slots) (K : ss_J D cA B ex Lx xs p l e R s m args below meth c y n0 Q θ1 pc' L' st' σ1) : ss_J D cA B ex Lx xs p l e R s m args below meth c y n0 Q θ pc L st σ := by
  obtain ⟨x, st2, rfl, h1⟩ := mm_p1_inv h
  clear h
  obtain ⟨hl, h2⟩ := mm_ck_inv h1
  clear h1
  rw [Bool.and_eq_true] at hl
  obtain ⟨hl1, hl2⟩ := hl
  obtain rfl := eq_of_beq hl1
  cases h2
  intro H locs ls hW hx hS hl
  exact lv_istore C.1.1 C.1.2.1 hd (ss_l_has hl) (of_decide_eq_true hl2) rfl (fun ls2 hl2 => K H locs ls2 hW hx hS (ss_st1 (v := .int x) hl2))

theorem st_astore_n {i : Fin 4} (hd : decode (mm_cd y) pc = .ok (.astore_n i, len)) (h : mm_sp y θ pc L st σ (.astore_n i) len = some (.inl (pc', L', st', θ1, σ1))) (C : ss_C D cA B ex Lx xs p R s m args meth c y n0) (hn0 : n0 ≤ θ.1) (hcl : θ1.1 - n0 ≤ R.cells) (hsl : mm_sl0 θ1.1 - mm_sl0 n0 ≤ R.slots) (K : ss_J D cA B ex Lx xs p l e R s m args below meth c y n0 Q θ1 pc' L' st' σ1) : ss_J D cA B ex Lx xs p l e R s m args below meth c y n0 Q θ pc L st σ := by
  obtain ⟨x, st2, rfl, h1⟩ := mm_a1_inv h
  clear h
  obtain ⟨hl, h2⟩ := mm_ck_inv h1
  clear h1
  rw [Bool.and_eq_true] at hl
  obtain ⟨hl1, hl2⟩ := hl
  obtain rfl := eq_of_beq hl1
  cases h2
  intro H locs ls hW hx hS hl
  exact lv_astore_n C.1.1 C.1.2.1 hd rfl (ss_l_has hl) (of_decide_eq_true hl2) rfl (fun ls2 hl2 => K H locs ls2 hW hx hS (ss_st1 (v := .ref x) hl2))

theorem st_astore {i : Nat} (hd : decode (mm_cd y) pc = .ok (.astore i, len)) (h : mm_sp y θ pc L st σ (.astore i) len = some (.inl (pc', L', st', θ1, σ1))) (C : ss_C D cA B ex Lx xs p R s m args meth c y n0) (hn0 : n0 ≤ θ.1) (hcl : θ1.1 - n0 ≤ R.cells) (hsl : mm_sl0 θ1.1 - mm_sl0 n0 ≤ R.slots) (K : ss_J D cA B ex Lx xs p l e R s m args below meth c y n0 Q θ1 pc' L' st' σ1) : ss_J D cA B ex Lx xs p l e R s m args below meth c y n0 Q θ pc L st σ := by
  obtain ⟨x, st2, rfl, h1⟩ := mm_a1_inv h
  clear h
  obtain ⟨hl, h2⟩ := mm_ck_inv h1
  clear h1
  rw [Bool.and_eq_true] at hl
  obtain ⟨hl1, hl2⟩ := hl
  obtain rfl := eq_of_beq hl1
  cases h2
  intro H locs ls hW hx hS hl
  exact lv_astore C.1.1 C.1.2.1 hd (ss_l_has hl) (of_decide_eq_true hl2) rfl (fun ls2 hl2 => K H locs ls2 hW hx hS (ss_st1 (v := .ref x) hl2))

theorem st_lstore_n {i : Fin 4} (hd : decode (mm_cd y) pc = .ok (.lstore_n i, len)) (h : mm_sp y θ pc L st σ (.lstore_n i) len = some (.inl (pc', L', st', θ1, σ1))) (C : ss_C D cA B ex Lx xs p R s m args meth c y n0) (hn0 : n0 ≤ θ.1) (hcl : θ1.1 - n0 ≤ R.cells) (hsl : mm_sl0 θ1.1 - mm_sl0 n0 ≤ R.slots) (K : ss_J D cA B ex Lx xs p l e R s m args below meth c y n0 Q θ1 pc' L' st' σ1) : ss_J D cA B ex Lx xs p l e R s m args below meth c y n0 Q θ pc L st σ := by
  obtain ⟨x, st2, rfl, h1⟩ := mm_q1_inv h
  clear h
  obtain ⟨hl, h2⟩ := mm_ck_inv h1
  clear h1
  rw [Bool.and_eq_true] at hl
  obtain ⟨hl1, hl2⟩ := hl
  obtain rfl := eq_of_beq hl1
  cases h2
  intro H locs ls hW hx hS hl
  exact lv_lstore_n C.1.1 C.1.2.1 hd rfl (ss_l_has hl) (of_decide_eq_true hl2) rfl (fun ls2 hl2 => K H locs ls2 hW hx hS (ss_st2 (v := .long x) hl2))

theorem st_lstore {i : Nat} (hd : decode (mm_cd y) pc = .ok (.lstore i, len)) (h : mm_sp y θ pc L st σ (.lstore i) len = some (.inl (pc', L', st', θ1, σ1))) (C : ss_C D cA B ex Lx xs p R s m args meth c y n0) (hn0 : n0 ≤ θ.1) (hcl : θ1.1 - n0 ≤ R.cells) (hsl : mm_sl0 θ1.1 - mm_sl0 n0 ≤ R.slots) (K : ss_J D cA B ex Lx xs p l e R s m args below meth c y n0 Q θ1 pc' L' st' σ1) : ss_J D cA B ex Lx xs p l e R s m args below meth c y n0 Q θ pc L st σ := by
  obtain ⟨x, st2, rfl, h1⟩ := mm_q1_inv h
  clear h
  obtain ⟨hl, h2⟩ := mm_ck_inv h1
  clear h1
  rw [Bool.and_eq_true] at hl
  obtain ⟨hl1, hl2⟩ := hl
  obtain rfl := eq_of_beq hl1
  cases h2
  intro H locs ls hW hx hS hl
  exact lv_lstore C.1.1 C.1.2.1 hd (ss_l_has hl) (of_decide_eq_true hl2) rfl (fun ls2 hl2 => K H locs ls2 hW hx hS (ss_st2 (v := .long x) hl2))

theorem st_iinc {i : Nat} {n : Int} (hd : decode (mm_cd y) pc = .ok (.iinc i n, len)) (h : mm_sp y θ pc L st σ (.iinc i n) len = some (.inl (pc', L', st', θ1, σ1))) (C : ss_C D cA B ex Lx xs p R s m args meth c y n0) (hn0 : n0 ≤ θ.1) (hcl : θ1.1 - n0 ≤ R.cells) (hsl : mm_sl0 θ1.1 - mm_sl0 n0 ≤ R.slots) (K : ss_J D cA B ex Lx xs p l e R s m args below meth c y n0 Q θ1 pc' L' st' σ1) : ss_J D cA B ex Lx xs p l e R s m args below meth c y n0 Q θ pc L st σ := by
  have h : (match L[i]? with
    | some (some (.int x)) => mm_ck (len == 3 && decide (i < mm_ml y)) (mm_go (pc + 3) (mm_s1 L i (.int (x + Int32.ofInt n))) st θ σ)
    | _ => none) = some (.inl (pc', L', st', θ1, σ1)) := h
  split at h
  · rename_i x hv
    obtain ⟨hl, h2⟩ := mm_ck_inv h
    clear h
    rw [Bool.and_eq_true] at hl
    obtain ⟨hl1, hl2⟩ := hl
    obtain rfl := eq_of_beq hl1
    cases h2
    intro H locs ls hW hx hS hl
    obtain ⟨k, hk⟩ := List.getElem?_of_mem (ss_as_mem (B := B) (ex := ex) (q := (i, .int x)) |>.mpr ⟨_, hv, rfl⟩)
    exact lv_iinc C.1.1 C.1.2.1 hd (ss_l_has hl) hk rfl (of_decide_eq_true hl2) rfl (fun ls2 hl2 => K H locs ls2 hW hx hS (ss_st1 (v := .int (x + Int32.ofInt n)) hl2))
  · cases h

theorem st_dup (hd : decode (mm_cd y) pc = .ok (.dup, len)) (h : mm_sp y θ pc L st σ (.dup) len = some (.inl (pc', L', st', θ1, σ1))) (C : ss_C D cA B ex Lx xs p R s m args meth c y n0) (hn0 : n0 ≤ θ.1) (hcl : θ1.1 - n0 ≤ R.cells) (hsl : mm_sl0 θ1.1 - mm_sl0 n0 ≤ R.slots) (K : ss_J D cA B ex Lx xs p l e R s m args below meth c y n0 Q θ1 pc' L' st' σ1) : ss_J D cA B ex Lx xs p l e R s m args below meth c y n0 Q θ pc L st σ := by
  have h : (match st with
    | v :: st => mm_ck (len == 1 && v.category == 1) (mm_go (pc + 1) L (v :: v :: st) θ σ)
    | _ => none) = some (.inl (pc', L', st', θ1, σ1)) := h
  split at h
  · obtain ⟨hl, h2⟩ := mm_ck_inv h
    clear h
    rw [Bool.and_eq_true] at hl
    obtain ⟨hl1, hl2⟩ := hl
    obtain rfl := eq_of_beq hl1
    cases h2
    intro H locs ls hW hx hS hl
    exact lv_dup C.1.1 C.1.2.1 hd ((ss_cat _).trans (eq_of_beq hl2)) (K H locs ls hW hx hS hl)
  · cases h

theorem st_pop (hd : decode (mm_cd y) pc = .ok (.pop, len)) (h : mm_sp y θ pc L st σ (.pop) len = some (.inl (pc', L', st', θ1, σ1))) (C : ss_C D cA B ex Lx xs p R s m args meth c y n0) (hn0 : n0 ≤ θ.1) (hcl : θ1.1 - n0 ≤ R.cells) (hsl : mm_sl0 θ1.1 - mm_sl0 n0 ≤ R.slots) (K : ss_J D cA B ex Lx xs p l e R s m args below meth c y n0 Q θ1 pc' L' st' σ1) : ss_J D cA B ex Lx xs p l e R s m args below meth c y n0 Q θ pc L st σ := by
  have h : (match st with
    | v :: st => mm_ck (len == 1 && v.category == 1) (mm_go (pc + 1) L st θ σ)
    | _ => none) = some (.inl (pc', L', st', θ1, σ1)) := h
  split at h
  · obtain ⟨hl, h2⟩ := mm_ck_inv h
    clear h
    rw [Bool.and_eq_true] at hl
    obtain ⟨hl1, hl2⟩ := hl
    obtain rfl := eq_of_beq hl1
    cases h2
    intro H locs ls hW hx hS hl
    exact lv_pop C.1.1 C.1.2.1 hd ((ss_cat _).trans (eq_of_beq hl2)) (K H locs ls hW hx hS hl)
  · cases h

theorem st_dup2 (hd : decode (mm_cd y) pc = .ok (.dup2, len)) (h : mm_sp y θ pc L st σ (.dup2) len = some (.inl (pc', L', st', θ1, σ1))) (C : ss_C D cA B ex Lx xs p R s m args meth c y n0) (hn0 : n0 ≤ θ.1) (hcl : θ1.1 - n0 ≤ R.cells) (hsl : mm_sl0 θ1.1 - mm_sl0 n0 ≤ R.slots) (K : ss_J D cA B ex Lx xs p l e R s m args below meth c y n0 Q θ1 pc' L' st' σ1) : ss_J D cA B ex Lx xs p l e R s m args below meth c y n0 Q θ pc L st σ := by
  have h : (match st with
    | v :: w :: st => mm_ck (len == 1 && (v.category == 1 && w.category == 1)) (mm_go (pc + 1) L (v :: w :: v :: w :: st) θ σ)
    | _ => none) = some (.inl (pc', L', st', θ1, σ1)) := h
  split at h
  · obtain ⟨hl, h2⟩ := mm_ck_inv h
    clear h
    rw [Bool.and_eq_true, Bool.and_eq_true] at hl
    obtain ⟨hl1, hl2, hl3⟩ := hl
    obtain rfl := eq_of_beq hl1
    cases h2
    intro H locs ls hW hx hS hl
    exact lv_dup2_11 C.1.1 C.1.2.1 hd ((ss_cat _).trans (eq_of_beq hl2)) ((ss_cat _).trans (eq_of_beq hl3)) (K H locs ls hW hx hS hl)
  · cases h

theorem st_goto {off : Int} (hd : decode (mm_cd y) pc = .ok (.goto off, len)) (h : mm_sp y θ pc L st σ (.goto off) len = some (.inl (pc', L', st', θ1, σ1))) (C : ss_C D cA B ex Lx xs p R s m args meth c y n0) (hn0 : n0 ≤ θ.1) (hcl : θ1.1 - n0 ≤ R.cells) (hsl : mm_sl0 θ1.1 - mm_sl0 n0 ≤ R.slots) (K : ss_J D cA B ex Lx xs p l e R s m args below meth c y n0 Q θ1 pc' L' st' σ1) : ss_J D cA B ex Lx xs p l e R s m args below meth c y n0 Q θ pc L st σ := by
  obtain ⟨hl, h2⟩ := mm_ck_inv h
  clear h
  obtain rfl := eq_of_beq hl
  obtain ⟨tgt, ht, h3⟩ := mm_jp_inv h2
  cases h3
  intro H locs ls hW hx hS hl
  exact lv_goto C.1.1 C.1.2.1 hd ht (K H locs ls hW hx hS hl)

theorem st_ifCond_eq {off : Int} (hd : decode (mm_cd y) pc = .ok (.ifCond .eq off, len)) (h : mm_sp y θ pc L st σ (.ifCond .eq off) len = some (.inl (pc', L', st', θ1, σ1))) (C : ss_C D cA B ex Lx xs p R s m args meth c y n0) (hn0 : n0 ≤ θ.1) (hcl : θ1.1 - n0 ≤ R.cells) (hsl : mm_sl0 θ1.1 - mm_sl0 n0 ≤ R.slots) (K : ss_J D cA B ex Lx xs p l e R s m args below meth c y n0 Q θ1 pc' L' st' σ1) : ss_J D cA B ex Lx xs p l e R s m args below meth c y n0 Q θ pc L st σ := by
  obtain ⟨a, st2, rfl, h1⟩ := mm_p1_inv h
  clear h
  obtain ⟨hl, h2⟩ := mm_ck_inv h1
  clear h1
  rw [Bool.and_eq_true] at hl
  obtain ⟨hl, hl9⟩ := hl
  obtain rfl := eq_of_beq hl
  obtain ⟨tg9, ht9⟩ : ∃ tgt : Nat, (pc : Int) + off = (tgt : Int) := ⟨((pc : Int) + off).toNat, (Int.toNat_of_nonneg (of_decide_eq_true hl9)).symm⟩
  have hq : mm_cI .eq a 0 = true ↔ a = 0 := by simp [mm_cI]
  by_cases hc : a = 0
  · rw [if_pos (hq.mpr hc)] at h2
    obtain ⟨tgt, ht, h3⟩ := mm_jp_inv h2
    cases h3
    intro H locs ls hW hx hS hl
    exact lv_if_eq C.1.1 C.1.2.1 hd ht (fun _ => K H locs ls hW hx hS hl) (fun q => absurd hc q)
  · rw [if_neg (fun q => hc (hq.mp q))] at h2
    cases h2
    intro H locs ls hW hx hS hl
    exact lv_if_eq C.1.1 C.1.2.1 hd ht9 (fun q => absurd q hc) (fun _ => K H locs ls hW hx hS hl)

theorem st_ifCond_ne {off : Int} (hd : decode (mm_cd y) pc = .ok (.ifCond .ne off, len)) (h : mm_sp y θ pc L st σ (.ifCond .ne off) len = some (.inl (pc', L', st', θ1, σ1))) (C : ss_C D cA B ex Lx xs p R s m args meth c y n0) (hn0 : n0 ≤ θ.1) (hcl : θ1.1 - n0 ≤ R.cells) (hsl : mm_sl0 θ1.1 - mm_sl0 n0 ≤ R.slots) (K : ss_J D cA B ex Lx xs p l e R s m args below meth c y n0 Q θ1 pc' L' st' σ1) : ss_J D cA B ex Lx xs p l e R s m args below meth c y n0 Q θ pc L st σ := by
  obtain ⟨a, st2, rfl, h1⟩ := mm_p1_inv h
  clear h
  obtain ⟨hl, h2⟩ := mm_ck_inv h1
  clear h1
  rw [Bool.and_eq_true] at hl
  obtain ⟨hl, hl9⟩ := hl
  obtain rfl := eq_of_beq hl
  obtain ⟨tg9, ht9⟩ : ∃ tgt : Nat, (pc : Int) + off = (tgt : Int) := ⟨((pc : Int) + off).toNat, (Int.toNat_of_nonneg (of_decide_eq_true hl9)).symm⟩
  have hq : mm_cI .ne a 0 = true ↔ ¬ a = 0 := by simp [mm_cI]
  by_cases hc : ¬ a = 0
  · rw [if_pos (hq.mpr hc)] at h2
    obtain ⟨tgt, ht, h3⟩ := mm_jp_inv h2
    cases h3
    intro H locs ls hW hx hS hl
    exact lv_if_ne C.1.1 C.1.2.1 hd ht (fun _ => K H locs ls hW hx hS hl) (fun q => absurd q hc)
  · rw [if_neg (fun q => hc (hq.mp q))] at h2
    cases h2
    intro H locs ls hW hx hS hl
    exact lv_if_ne C.1.1 C.1.2.1 hd ht9 (fun q => absurd q hc) (fun _ => K H locs ls hW hx hS hl)

theorem st_ifCond_lt {off : Int} (hd : decode (mm_cd y) pc = .ok (.ifCond .lt off, len)) (h : mm_sp y θ pc L st σ (.ifCond .lt off) len = some (.inl (pc', L', st', θ1, σ1))) (C : ss_C D cA B ex Lx xs p R s m args meth c y n0) (hn0 : n0 ≤ θ.1) (hcl : θ1.1 - n0 ≤ R.cells) (hsl : mm_sl0 θ1.1 - mm_sl0 n0 ≤ R.slots) (K : ss_J D cA B ex Lx xs p l e R s m args below meth c y n0 Q θ1 pc' L' st' σ1) : ss_J D cA B ex Lx xs p l e R s m args below meth c y n0 Q θ pc L st σ := by
  obtain ⟨a, st2, rfl, h1⟩ := mm_p1_inv h
  clear h
  obtain ⟨hl, h2⟩ := mm_ck_inv h1
  clear h1
  rw [Bool.and_eq_true] at hl
  obtain ⟨hl, hl9⟩ := hl
  obtain rfl := eq_of_beq hl
  obtain ⟨tg9, ht9⟩ : ∃ tgt : Nat, (pc : Int) + off = (tgt : Int) := ⟨((pc : Int) + off).toNat, (Int.toNat_of_nonneg (of_decide_eq_true hl9)).symm⟩
  have hq : mm_cI .lt a 0 = true ↔ a < 0 := by simp [mm_cI]
  by_cases hc : a < 0
  · rw [if_pos (hq.mpr hc)] at h2
    obtain ⟨tgt, ht, h3⟩ := mm_jp_inv h2
    cases h3
    intro H locs ls hW hx hS hl
    exact lv_if_lt C.1.1 C.1.2.1 hd ht (fun _ => K H locs ls hW hx hS hl) (fun q => absurd hc q)
  · rw [if_neg (fun q => hc (hq.mp q))] at h2
    cases h2
    intro H locs ls hW hx hS hl
    exact lv_if_lt C.1.1 C.1.2.1 hd ht9 (fun q => absurd q hc) (fun _ => K H locs ls hW hx hS hl)

theorem st_ifCond_ge {off : Int} (hd : decode (mm_cd y) pc = .ok (.ifCond .ge off, len)) (h : mm_sp y θ pc L st σ (.ifCond .ge off) len = some (.inl (pc', L', st', θ1, σ1))) (C : ss_C D cA B ex Lx xs p R s m args meth c y n0) (hn0 : n0 ≤ θ.1) (hcl : θ1.1 - n0 ≤ R.cells) (hsl : mm_sl0 θ1.1 - mm_sl0 n0 ≤ R.slots) (K : ss_J D cA B ex Lx xs p l e R s m args below meth c y n0 Q θ1 pc' L' st' σ1) : ss_J D cA B ex Lx xs p l e R s m args below meth c y n0 Q θ pc L st σ := by
  obtain ⟨a, st2, rfl, h1⟩ := mm_p1_inv h
  clear h
  obtain ⟨hl, h2⟩ := mm_ck_inv h1
  clear h1
  rw [Bool.and_eq_true] at hl
  obtain ⟨hl, hl9⟩ := hl
  obtain rfl := eq_of_beq hl
  obtain ⟨tg9, ht9⟩ : ∃ tgt : Nat, (pc : Int) + off = (tgt : Int) := ⟨((pc : Int) + off).toNat, (Int.toNat_of_nonneg (of_decide_eq_true hl9)).symm⟩
  have hq : mm_cI .ge a 0 = true ↔ 0 ≤ a := by simp [mm_cI]
  by_cases hc : 0 ≤ a
  · rw [if_pos (hq.mpr hc)] at h2
    obtain ⟨tgt, ht, h3⟩ := mm_jp_inv h2
    cases h3
    intro H locs ls hW hx hS hl
    exact lv_if_ge C.1.1 C.1.2.1 hd ht (fun _ => K H locs ls hW hx hS hl) (fun q => absurd hc q)
  · rw [if_neg (fun q => hc (hq.mp q))] at h2
    cases h2
    intro H locs ls hW hx hS hl
    exact lv_if_ge C.1.1 C.1.2.1 hd ht9 (fun q => absurd q hc) (fun _ => K H locs ls hW hx hS hl)

theorem st_ifCond_gt {off : Int} (hd : decode (mm_cd y) pc = .ok (.ifCond .gt off, len)) (h : mm_sp y θ pc L st σ (.ifCond .gt off) len = some (.inl (pc', L', st', θ1, σ1))) (C : ss_C D cA B ex Lx xs p R s m args meth c y n0) (hn0 : n0 ≤ θ.1) (hcl : θ1.1 - n0 ≤ R.cells) (hsl : mm_sl0 θ1.1 - mm_sl0 n0 ≤ R.slots) (K : ss_J D cA B ex Lx xs p l e R s m args below meth c y n0 Q θ1 pc' L' st' σ1) : ss_J D cA B ex Lx xs p l e R s m args below meth c y n0 Q θ pc L st σ := by
  obtain ⟨a, st2, rfl, h1⟩ := mm_p1_inv h
  clear h
  obtain ⟨hl, h2⟩ := mm_ck_inv h1
  clear h1
  rw [Bool.and_eq_true] at hl
  obtain ⟨hl, hl9⟩ := hl
  obtain rfl := eq_of_beq hl
  obtain ⟨tg9, ht9⟩ : ∃ tgt : Nat, (pc : Int) + off = (tgt : Int) := ⟨((pc : Int) + off).toNat, (Int.toNat_of_nonneg (of_decide_eq_true hl9)).symm⟩
  have hq : mm_cI .gt a 0 = true ↔ 0 < a := by simp [mm_cI]
  by_cases hc : 0 < a
  · rw [if_pos (hq.mpr hc)] at h2
    obtain ⟨tgt, ht, h3⟩ := mm_jp_inv h2
    cases h3
    intro H locs ls hW hx hS hl
    exact lv_if_gt C.1.1 C.1.2.1 hd ht (fun _ => K H locs ls hW hx hS hl) (fun q => absurd hc q)
  · rw [if_neg (fun q => hc (hq.mp q))] at h2
    cases h2
    intro H locs ls hW hx hS hl
    exact lv_if_gt C.1.1 C.1.2.1 hd ht9 (fun q => absurd q hc) (fun _ => K H locs ls hW hx hS hl)

theorem st_ifCond_le {off : Int} (hd : decode (mm_cd y) pc = .ok (.ifCond .le off, len)) (h : mm_sp y θ pc L st σ (.ifCond .le off) len = some (.inl (pc', L', st', θ1, σ1))) (C : ss_C D cA B ex Lx xs p R s m args meth c y n0) (hn0 : n0 ≤ θ.1) (hcl : θ1.1 - n0 ≤ R.cells) (hsl : mm_sl0 θ1.1 - mm_sl0 n0 ≤ R.slots) (K : ss_J D cA B ex Lx xs p l e R s m args below meth c y n0 Q θ1 pc' L' st' σ1) : ss_J D cA B ex Lx xs p l e R s m args below meth c y n0 Q θ pc L st σ := by
  obtain ⟨a, st2, rfl, h1⟩ := mm_p1_inv h
  clear h
  obtain ⟨hl, h2⟩ := mm_ck_inv h1
  clear h1
  rw [Bool.and_eq_true] at hl
  obtain ⟨hl, hl9⟩ := hl
  obtain rfl := eq_of_beq hl
  obtain ⟨tg9, ht9⟩ : ∃ tgt : Nat, (pc : Int) + off = (tgt : Int) := ⟨((pc : Int) + off).toNat, (Int.toNat_of_nonneg (of_decide_eq_true hl9)).symm⟩
  have hq : mm_cI .le a 0 = true ↔ a ≤ 0 := by simp [mm_cI]
  by_cases hc : a ≤ 0
  · rw [if_pos (hq.mpr hc)] at h2
    obtain ⟨tgt, ht, h3⟩ := mm_jp_inv h2
    cases h3
    intro H locs ls hW hx hS hl
    exact lv_if_le C.1.1 C.1.2.1 hd ht (fun _ => K H locs ls hW hx hS hl) (fun q => absurd hc q)
  · rw [if_neg (fun q => hc (hq.mp q))] at h2
    cases h2
    intro H locs ls hW hx hS hl
    exact lv_if_le C.1.1 C.1.2.1 hd ht9 (fun q => absurd q hc) (fun _ => K H locs ls hW hx hS hl)

theorem st_if_icmp_eq {off : Int} (hd : decode (mm_cd y) pc = .ok (.if_icmp .eq off, len)) (h : mm_sp y θ pc L st σ (.if_icmp .eq off) len = some (.inl (pc', L', st', θ1, σ1))) (C : ss_C D cA B ex Lx xs p R s m args meth c y n0) (hn0 : n0 ≤ θ.1) (hcl : θ1.1 - n0 ≤ R.cells) (hsl : mm_sl0 θ1.1 - mm_sl0 n0 ≤ R.slots) (K : ss_J D cA B ex Lx xs p l e R s m args below meth c y n0 Q θ1 pc' L' st' σ1) : ss_J D cA B ex Lx xs p l e R s m args below meth c y n0 Q θ pc L st σ := by
  obtain ⟨a, b, st2, rfl, h1⟩ := mm_p2_inv h
  clear h
  obtain ⟨hl, h2⟩ := mm_ck_inv h1
  clear h1
  rw [Bool.and_eq_true] at hl
  obtain ⟨hl, hl9⟩ := hl
  obtain rfl := eq_of_beq hl
  obtain ⟨tg9, ht9⟩ : ∃ tgt : Nat, (pc : Int) + off = (tgt : Int) := ⟨((pc : Int) + off).toNat, (Int.toNat_of_nonneg (of_decide_eq_true hl9)).symm⟩
  have hq : mm_cI .eq a b = true ↔ a = b := by simp [mm_cI]
  by_cases hc : a = b
  · rw [if_pos (hq.mpr hc)] at h2
    obtain ⟨tgt, ht, h3⟩ := mm_jp_inv h2
    cases h3
    intro H locs ls hW hx hS hl
    exact lv_icmp_eq C.1.1 C.1.2.1 hd ht (fun _ => K H locs ls hW hx hS hl) (fun q => absurd hc q)
  · rw [if_neg (fun q => hc (hq.mp q))] at h2
    cases h2
    intro H locs ls hW hx hS hl
    exact lv_icmp_eq C.1.1 C.1.2.1 hd ht9 (fun q => absurd q hc) (fun _ => K H locs ls hW hx hS hl)

theorem st_if_icmp_ne {off : Int} (hd : decode (mm_cd y) pc = .ok (.if_icmp .ne off, len)) (h : mm_sp y θ pc L st σ (.if_icmp .ne off) len = some (.inl (pc', L', st', θ1, σ1))) (C : ss_C D cA B ex Lx xs p R s m args meth c y n0) (hn0 : n0 ≤ θ.1) (hcl : θ1.1 - n0 ≤ R.cells) (hsl : mm_sl0 θ1.1 - mm_sl0 n0 ≤ R.slots) (K : ss_J D cA B ex Lx xs p l e R s m args below meth c y n0 Q θ1 pc' L' st' σ1) : ss_J D cA B ex Lx xs p l e R s m args below meth c y n0 Q θ pc L st σ := by
  obtain ⟨a, b, st2, rfl, h1⟩ := mm_p2_inv h
  clear h
  obtain ⟨hl, h2⟩ := mm_ck_inv h1
  clear h1
  rw [Bool.and_eq_true] at hl
  obtain ⟨hl, hl9⟩ := hl
  obtain rfl := eq_of_beq hl
  obtain ⟨tg9, ht9⟩ : ∃ tgt : Nat, (pc : Int) + off = (tgt : Int) := ⟨((pc : Int) + off).toNat, (Int.toNat_of_nonneg (of_decide_eq_true hl9)).symm⟩
  have hq : mm_cI .ne a b = true ↔ ¬ a = b := by simp [mm_cI]
  by_cases hc : ¬ a = b
  · rw [if_pos (hq.mpr hc)] at h2
    obtain ⟨tgt, ht, h3⟩ := mm_jp_inv h2
    cases h3
    intro H locs ls hW hx hS hl
    exact lv_icmp_ne C.1.1 C.1.2.1 hd ht (fun _ => K H locs ls hW hx hS hl) (fun q => absurd q hc)
  · rw [if_neg (fun q => hc (hq.mp q))] at h2
    cases h2
    intro H locs ls hW hx hS hl
    exact lv_icmp_ne C.1.1 C.1.2.1 hd ht9 (fun q => absurd q hc) (fun _ => K H locs ls hW hx hS hl)

theorem st_if_icmp_lt {off : Int} (hd : decode (mm_cd y) pc = .ok (.if_icmp .lt off, len)) (h : mm_sp y θ pc L st σ (.if_icmp .lt off) len = some (.inl (pc', L', st', θ1, σ1))) (C : ss_C D cA B ex Lx xs p R s m args meth c y n0) (hn0 : n0 ≤ θ.1) (hcl : θ1.1 - n0 ≤ R.cells) (hsl : mm_sl0 θ1.1 - mm_sl0 n0 ≤ R.slots) (K : ss_J D cA B ex Lx xs p l e R s m args below meth c y n0 Q θ1 pc' L' st' σ1) : ss_J D cA B ex Lx xs p l e R s m args below meth c y n0 Q θ pc L st σ := by
  obtain ⟨a, b, st2, rfl, h1⟩ := mm_p2_inv h
  clear h
  obtain ⟨hl, h2⟩ := mm_ck_inv h1
  clear h1
  rw [Bool.and_eq_true] at hl
  obtain ⟨hl, hl9⟩ := hl
  obtain rfl := eq_of_beq hl
  obtain ⟨tg9, ht9⟩ : ∃ tgt : Nat, (pc : Int) + off = (tgt : Int) := ⟨((pc : Int) + off).toNat, (Int.toNat_of_nonneg (of_decide_eq_true hl9)).symm⟩
  have hq : mm_cI .lt a b = true ↔ a < b := by simp [mm_cI]
  by_cases hc : a < b
  · rw [if_pos (hq.mpr hc)] at h2
    obtain ⟨tgt, ht, h3⟩ := mm_jp_inv h2
    cases h3
    intro H locs ls hW hx hS hl
    exact lv_icmp_lt C.1.1 C.1.2.1 hd ht (fun _ => K H locs ls hW hx hS hl) (fun q => absurd hc q)
  · rw [if_neg (fun q => hc (hq.mp q))] at h2
    cases h2
    intro H locs ls hW hx hS hl
    exact lv_icmp_lt C.1.1 C.1.2.1 hd ht9 (fun q => absurd q hc) (fun _ => K H locs ls hW hx hS hl)

theorem st_if_icmp_ge {off : Int} (hd : decode (mm_cd y) pc = .ok (.if_icmp .ge off, len)) (h : mm_sp y θ pc L st σ (.if_icmp .ge off) len = some (.inl (pc', L', st', θ1, σ1))) (C : ss_C D cA B ex Lx xs p R s m args meth c y n0) (hn0 : n0 ≤ θ.1) (hcl : θ1.1 - n0 ≤ R.cells) (hsl : mm_sl0 θ1.1 - mm_sl0 n0 ≤ R.slots) (K : ss_J D cA B ex Lx xs p l e R s m args below meth c y n0 Q θ1 pc' L' st' σ1) : ss_J D cA B ex Lx xs p l e R s m args below meth c y n0 Q θ pc L st σ := by
  obtain ⟨a, b, st2, rfl, h1⟩ := mm_p2_inv h
  clear h
  obtain ⟨hl, h2⟩ := mm_ck_inv h1
  clear h1
  rw [Bool.and_eq_true] at hl
  obtain ⟨hl, hl9⟩ := hl
  obtain rfl := eq_of_beq hl
  obtain ⟨tg9, ht9⟩ : ∃ tgt : Nat, (pc : Int) + off = (tgt : Int) := ⟨((pc : Int) + off).toNat, (Int.toNat_of_nonneg (of_decide_eq_true hl9)).symm⟩
  have hq : mm_cI .ge a b = true ↔ b ≤ a := by simp [mm_cI]
  by_cases hc : b ≤ a
  · rw [if_pos (hq.mpr hc)] at h2
    obtain ⟨tgt, ht, h3⟩ := mm_jp_inv h2
    cases h3
    intro H locs ls hW hx hS hl
    exact lv_icmp_ge C.1.1 C.1.2.1 hd ht (fun _ => K H locs ls hW hx hS hl) (fun q => absurd hc q)
  · rw [if_neg (fun q => hc (hq.mp q))] at h2
    cases h2
    intro H locs ls hW hx hS hl
    exact lv_icmp_ge C.1.1 C.1.2.1 hd ht9 (fun q => absurd q hc) (fun _ => K H locs ls hW hx hS hl)

theorem st_if_icmp_gt {off : Int} (hd : decode (mm_cd y) pc = .ok (.if_icmp .gt off, len)) (h : mm_sp y θ pc L st σ (.if_icmp .gt off) len = some (.inl (pc', L', st', θ1, σ1))) (C : ss_C D cA B ex Lx xs p R s m args meth c y n0) (hn0 : n0 ≤ θ.1) (hcl : θ1.1 - n0 ≤ R.cells) (hsl : mm_sl0 θ1.1 - mm_sl0 n0 ≤ R.slots) (K : ss_J D cA B ex Lx xs p l e R s m args below meth c y n0 Q θ1 pc' L' st' σ1) : ss_J D cA B ex Lx xs p l e R s m args below meth c y n0 Q θ pc L st σ := by
  obtain ⟨a, b, st2, rfl, h1⟩ := mm_p2_inv h
  clear h
  obtain ⟨hl, h2⟩ := mm_ck_inv h1
  clear h1
  rw [Bool.and_eq_true] at hl
  obtain ⟨hl, hl9⟩ := hl
  obtain rfl := eq_of_beq hl
  obtain ⟨tg9, ht9⟩ : ∃ tgt : Nat, (pc : Int) + off = (tgt : Int) := ⟨((pc : Int) + off).toNat, (Int.toNat_of_nonneg (of_decide_eq_true hl9)).symm⟩
  have hq : mm_cI .gt a b = true ↔ b < a := by simp [mm_cI]
  by_cases hc : b < a
  · rw [if_pos (hq.mpr hc)] at h2
    obtain ⟨tgt, ht, h3⟩ := mm_jp_inv h2
    cases h3
    intro H locs ls hW hx hS hl
    exact lv_icmp_gt C.1.1 C.1.2.1 hd ht (fun _ => K H locs ls hW hx hS hl) (fun q => absurd hc q)
  · rw [if_neg (fun q => hc (hq.mp q))] at h2
    cases h2
    intro H locs ls hW hx hS hl
    exact lv_icmp_gt C.1.1 C.1.2.1 hd ht9 (fun q => absurd q hc) (fun _ => K H locs ls hW hx hS hl)

theorem st_if_icmp_le {off : Int} (hd : decode (mm_cd y) pc = .ok (.if_icmp .le off, len)) (h : mm_sp y θ pc L st σ (.if_icmp .le off) len = some (.inl (pc', L', st', θ1, σ1))) (C : ss_C D cA B ex Lx xs p R s m args meth c y n0) (hn0 : n0 ≤ θ.1) (hcl : θ1.1 - n0 ≤ R.cells) (hsl : mm_sl0 θ1.1 - mm_sl0 n0 ≤ R.slots) (K : ss_J D cA B ex Lx xs p l e R s m args below meth c y n0 Q θ1 pc' L' st' σ1) : ss_J D cA B ex Lx xs p l e R s m args below meth c y n0 Q θ pc L st σ := by
  obtain ⟨a, b, st2, rfl, h1⟩ := mm_p2_inv h
  clear h
  obtain ⟨hl, h2⟩ := mm_ck_inv h1
  clear h1
  rw [Bool.and_eq_true] at hl
  obtain ⟨hl, hl9⟩ := hl
  obtain rfl := eq_of_beq hl
  obtain ⟨tg9, ht9⟩ : ∃ tgt : Nat, (pc : Int) + off = (tgt : Int) := ⟨((pc : Int) + off).toNat, (Int.toNat_of_nonneg (of_decide_eq_true hl9)).symm⟩
  have hq : mm_cI .le a b = true ↔ a ≤ b := by simp [mm_cI]
  by_cases hc : a ≤ b
  · rw [if_pos (hq.mpr hc)] at h2
    obtain ⟨tgt, ht, h3⟩ := mm_jp_inv h2
    cases h3
    intro H locs ls hW hx hS hl
    exact lv_icmp_le C.1.1 C.1.2.1 hd ht (fun _ => K H locs ls hW hx hS hl) (fun q => absurd hc q)
  · rw [if_neg (fun q => hc (hq.mp q))] at h2
    cases h2
    intro H locs ls hW hx hS hl
    exact lv_icmp_le C.1.1 C.1.2.1 hd ht9 (fun q => absurd q hc) (fun _ => K H locs ls hW hx hS hl)

end ST

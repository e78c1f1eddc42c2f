/-! ===== runs of the pure machine: a function that is equal to its own next step ===== -/
def mm_kF (rec : mm_Y → mm_T → Nat → mm_L → List Value → mm_M → mm_R) (q : mm_R) (y : mm_Y) (pc : Nat) (L : mm_L) (st : List Value) : mm_R := match q with
  | none => none
  | some (v, θ, σ) => rec y θ pc L (v.toList ++ st) σ
def mm_bd (rec : mm_Y → mm_T → Nat → mm_L → List Value → mm_M → mm_R) (a : Option mm_A) (y : mm_Y) (θ : mm_T) (L : mm_L) (σ : mm_M) : mm_R := match a with
  | none => none
  | some (.inl (pc, L', st, θ', σ')) => rec y θ' pc L' st σ'
  | some (.inr (.inl (yc, Lc, pc, st))) => mm_kF rec (rec yc θ 0 Lc [] σ) y pc L st
  | some (.inr (.inr r)) => some (r, θ, σ)
def mm_f : Nat → mm_Y → mm_T → Nat → mm_L → List Value → mm_M → mm_R
  | 0, _, _, _, _, _, _ => none
  | f + 1, y, θ, pc, L, st, σ => mm_bd (mm_f f) (mm_s y θ pc L st σ) y θ L σ
theorem mm_bd_mono {r1 r2 : mm_Y → mm_T → Nat → mm_L → List Value → mm_M → mm_R} (h : ∀ y θ pc L st σ x, r1 y θ pc L st σ = some x → r2 y θ pc L st σ = some x) (a : Option mm_A) (y : mm_Y) (θ : mm_T) (L : mm_L) (σ : mm_M) (x : Option Value × mm_T × mm_M) (hx : mm_bd r1 a y θ L σ = some x) : mm_bd r2 a y θ L σ = some x := by
  match a, hx with
  | some (.inl (pc, L', st, θ', σ')), hx => exact h _ _ _ _ _ _ _ hx
  | some (.inr (.inl (yc, Lc, pc, st))), hx =>
    show mm_kF r2 (r2 yc θ 0 Lc [] σ) y pc L st = some x
    have hx : mm_kF r1 (r1 yc θ 0 Lc [] σ) y pc L st = some x := hx
    cases hq : r1 yc θ 0 Lc [] σ with
    | none => rw [hq] at hx; cases hx
    | some q =>
      rw [hq] at hx
      rw [h _ _ _ _ _ _ _ hq]
      exact h _ _ _ _ _ _ _ hx
  | some (.inr (.inr r)), hx => exact hx
theorem mm_f_succ : ∀ (f : Nat) (y : mm_Y) (θ : mm_T) (pc : Nat) (L : mm_L) (st : List Value) (σ : mm_M) (x : Option Value × mm_T × mm_M), mm_f f y θ pc L st σ = some x → mm_f (f + 1) y θ pc L st σ = some x
  | 0, _, _, _, _, _, _, _, h => by cases h
  | f + 1, y, θ, pc, L, st, σ, x, h => mm_bd_mono (mm_f_succ f) _ _ _ _ _ _ h
theorem mm_f_le {f g : Nat} (hfg : f ≤ g) {y : mm_Y} {θ : mm_T} {pc : Nat} {L : mm_L} {st : List Value} {σ : mm_M} {x : Option Value × mm_T × mm_M} (h : mm_f f y θ pc L st σ = some x) : mm_f g y θ pc L st σ = some x := by
  induction hfg with
  | refl => exact h
  | step _ ih => exact mm_f_succ _ _ _ _ _ _ _ _ ih
noncomputable def mm_run (y : mm_Y) (θ : mm_T) (pc : Nat) (L : mm_L) (st : List Value) (σ : mm_M) : mm_R :=
  @dite _ (∃ x f, mm_f f y θ pc L st σ = some x) (Classical.propDecidable _) (fun h => some (Classical.choose h)) (fun _ => none)
theorem mm_run_of {f : Nat} {y : mm_Y} {θ : mm_T} {pc : Nat} {L : mm_L} {st : List Value} {σ : mm_M} {x : Option Value × mm_T × mm_M} (h : mm_f f y θ pc L st σ = some x) : mm_run y θ pc L st σ = some x := by
  have hE : ∃ x f, mm_f f y θ pc L st σ = some x := ⟨x, f, h⟩
  unfold mm_run
  rw [dif_pos hE]
  obtain ⟨g, hg⟩ := Classical.choose_spec hE
  have h1 := mm_f_le (Nat.le_max_left f g) h
  have h2 := mm_f_le (Nat.le_max_right f g) hg
  rw [h1] at h2
  exact h2.symm
theorem mm_run_to {y : mm_Y} {θ : mm_T} {pc : Nat} {L : mm_L} {st : List Value} {σ : mm_M} {x : Option Value × mm_T × mm_M} (h : mm_run y θ pc L st σ = some x) : ∃ f, mm_f f y θ pc L st σ = some x := by
  unfold mm_run at h
  by_cases hE : ∃ x f, mm_f f y θ pc L st σ = some x
  · rw [dif_pos hE] at h
    cases h
    exact Classical.choose_spec hE
  · rw [dif_neg hE] at h
    cases h
theorem mm_run_eq (y : mm_Y) (θ : mm_T) (pc : Nat) (L : mm_L) (st : List Value) (σ : mm_M) : mm_run y θ pc L st σ = mm_bd mm_run (mm_s y θ pc L st σ) y θ L σ := by
  refine Option.ext fun x => ⟨fun h => ?_, fun h => ?_⟩
  · obtain ⟨f, hf⟩ := mm_run_to h
    cases f with
    | zero => cases hf
    | succ f => exact mm_bd_mono (fun _ _ _ _ _ _ _ h => mm_run_of h) _ _ _ _ _ _ hf
  · have key : ∃ f, mm_bd (mm_f f) (mm_s y θ pc L st σ) y θ L σ = some x := by
      match hs : mm_s y θ pc L st σ, h with
      | some (.inl (pc, L', st, θ', σ')), h => exact mm_run_to h
      | some (.inr (.inl (yc, Lc, pc, st))), h =>
        have h : mm_kF mm_run (mm_run yc θ 0 Lc [] σ) y pc L st = some x := h
        cases hq : mm_run yc θ 0 Lc [] σ with
        | none => rw [hq] at h; cases h
        | some q =>
          rw [hq] at h
          obtain ⟨f1, h1⟩ := mm_run_to hq
          obtain ⟨f2, h2⟩ := mm_run_to h
          refine ⟨max f1 f2, ?_⟩
          show mm_kF (mm_f (max f1 f2)) (mm_f (max f1 f2) yc θ 0 Lc [] σ) y pc L st = some x
          rw [mm_f_le (Nat.le_max_left f1 f2) h1]
          exact mm_f_le (Nat.le_max_right f1 f2) h2
      | some (.inr (.inr r)), h => exact ⟨0, h⟩
    obtain ⟨f, hf⟩ := key
    exact mm_run_of (f := f + 1) hf
/-- behind a call -/
noncomputable def mm_kc (q : mm_R) (y : mm_Y) (pc : Nat) (L : mm_L) (st : List Value) : mm_R := mm_kF mm_run q y pc L st
theorem mm_kc_v {v : Value} {θ : mm_T} {σ : mm_M} {y : mm_Y} {pc : Nat} {L : mm_L} {st : List Value} : mm_kc (some (some v, θ, σ)) y pc L st = mm_run y θ pc L (v :: st) σ := rfl
theorem mm_kc_n {θ : mm_T} {σ : mm_M} {y : mm_Y} {pc : Nat} {L : mm_L} {st : List Value} : mm_kc (some (none, θ, σ)) y pc L st = mm_run y θ pc L st σ := rfl
/-- a method, from its entry -/
noncomputable def mm_ev (y : mm_Y) (vs : List Value) (θ : mm_T) (σ : mm_M) : mm_R := mm_run y θ 0 (mm_en (mm_ml y) vs) [] σ
def mm_gd (c : Bool) (r : mm_R) : mm_R := if c = true then r else none
theorem mm_gd_t (r : mm_R) : mm_gd true r = r := rfl
def mm_so (st : List Value) : Bool := decide (mm_sw st ≤ 8)

/-! ===== fields, new cells, arraycopy, Math, Object's constructor ===== -/
section ST3
variable {D : va_G} {cA : Nat → ClassId} {B : Nat} {ex : Nat → Nat} {Lx : Nat} {xs : Nat → Int32} {p : Program} {l : Launch} {e : Env} {R : Room} {s : State} {m : MethodId} {args : Array Value} {below : List Frame} {meth : Method} {c : Code} {y : mm_Y} {n0 : Nat} {Q : State → Prop} {θ θ1 : mm_T} {pc pc' len : Nat} {L L' : mm_L} {st st' : List Value} {σ σ1 : mm_M} {H : Heap} {locs : List Loc} {cells slots : Nat} {g : JFrame}
theorem ss_Wsz (k : H.size ≤ s.heap.size + cells → W p l e R s m args below meth c H locs cells slots Q g) : W p l e R s m args below meth c H locs cells slots Q g := fun T hT X => k (by have h := X.same.2.2.1; have h : T.heap.size ≤ s.heap.size + cells := h; rw [hT] at h; exact h) T hT X
theorem ss_size (hW : ss_W D cA B ex θ σ H) (hS : va_S (ss_A B) s.heap H locs) (hs : s.heap.size = B + n0) (hn0 : n0 ≤ θ.1) (h : H.size ≤ s.heap.size + (θ.1 - n0)) : H.size = B + θ.1 := by
  have h1 : B + θ.1 ≤ H.size := by
    by_cases hz : θ.1 = 0
    · have := hS.1; omega
    · have h2 := (hW.2 (θ.1 - 1) _ (ss_ws_at (by omega))).lt
      have h2 : B + (θ.1 - 1) < H.size := h2
      omega
  omega
theorem mm_sl0_le : ∀ {a b : Nat}, a ≤ b → mm_sl0 a ≤ mm_sl0 b := by
  intro a b h
  induction h with
  | refl => exact Nat.le_refl _
  | step _ ih => exact Nat.le_trans ih (Nat.le_add_right _ _)
theorem ss_W_grow {θ' : mm_T} {σ' : mm_M} {H' : Heap} (k : Nat) (hW : ss_W D cA B ex θ σ H) (hn : θ'.1 = θ.1 + k) (hn2 : θ'.1 ≤ 135) (hsz : H.size = B + θ.1) (o1 : ∀ q, q < H.size → H'[q]? = H[q]?) (hold : ∀ a, a < θ.1 → ss_ce cA B ex θ' σ' a = ss_ce cA B ex θ σ a) (hnew : ∀ i, i < k → va_at D vwCl (B + (θ.1 + i), ss_ce cA B ex θ' σ' (θ.1 + i)) H') : ss_W D cA B ex θ' σ' H' := by
  refine ⟨hn2, fun a q ha => ?_⟩
  obtain ⟨h1, rfl⟩ := ss_ws_fst ha
  by_cases h2 : a < θ.1
  · have h3 := hW.2 a _ (ss_ws_at h2)
    rw [hold a h2]
    exact h3.kept (o1 _ h3.lt)
  · have h3 := hnew (a - θ.1) (by omega)
    rw [show θ.1 + (a - θ.1) = a by omega] at h3
    exact h3
theorem ss_S_grow {H' : Heap} (hS : va_S (ss_A B) s.heap H locs) (hz : H.size ≤ H'.size) (o1 : ∀ q, q < H.size → H'[q]? = H[q]?) : va_S (ss_A B) s.heap H' locs :=
  ⟨Nat.le_trans hS.1 hz, fun q h1 h2 => (o1 q (Nat.lt_of_lt_of_le h1 hS.1)).trans (hS.2.1 q h1 h2), hS.2.2⟩
theorem ss_map_set {N j : Nat} {f f' : Nat → Value} {v : Value} (hj : f' j = v) (hi : ∀ i, i ≠ j → f' i = f i) : ((List.range N).map f).set j v = (List.range N).map f' := by
  apply List.ext_getElem?
  intro i
  by_cases h : i < N
  · rw [List.getElem?_map, List.getElem?_range h]
    by_cases q : j = i
    · subst q
      rw [List.getElem?_set_self (by rw [List.length_map, List.length_range]; exact h)]
      show some v = some (f' j)
      rw [hj]
    · rw [List.getElem?_set_ne q, List.getElem?_map, List.getElem?_range h]
      show some (f i) = some (f' i)
      rw [hi i (Ne.symm q)]
  · rw [List.getElem?_eq_none (by rw [List.length_set, List.length_map, List.length_range]; omega), List.getElem?_eq_none (by rw [List.length_map, List.length_range]; omega)]
theorem ss_cl_lt {ci : Nat} {q : vw_C} (h : vwCl[ci]? = some q) : ci < 10 := (List.getElem?_eq_some_iff.mp h).1
/-- a field's cell, its class, its place -/
theorem ss_obj {ci : Nat} {q : vw_C} {k : Nat} (hc : vwCl[ci]? = some q) (hk : mm_kd θ.1 k = ci) : k < θ.1 ∧ k < 1000 ∧ (mm_kt k).2 = q.2.2 ∧ ss_ce cA B ex θ σ k = .inr (ci, (List.range q.2.2).map (fun j => ss_fv B ex θ σ k j (mm_ft ci j))) := by
  have h10 := ss_cl_lt hc
  obtain ⟨k1, k2, k3⟩ := ss_kd hk (by omega)
  have k4 := ss_lay k (ss_kt_lay (by omega)) (by omega)
  rw [k3, hc] at k4
  have k5 : q.2.2 = (mm_kt k).2 := Option.some.inj k4
  refine ⟨k1, k2, k5.symm, ?_⟩
  rw [ss_ceO (by omega), k3, k5]
theorem ss_refty {t : FieldType} (h : t.isReference = true) (a : Nat) : narrow t (.ref a) = .ref a ∧ fits t (.ref a) = true ∧ defaultValue t = .null := by
  cases t <;> first | exact ⟨rfl, rfl, rfl⟩ | cases h
theorem st_getfield {idx : Nat} (hd : decode (mm_cd y) pc = .ok (.getfield idx, len)) (h : mm_sp y θ pc L st σ (.getfield idx) len = some (.inl (pc', L', st', θ1, σ1))) (C : ss_C D cA B ex Lx xs p R s m args meth c y n0) (hn0 : n0 ≤ θ.1) (hcl : θ1.1 - n0 ≤ R.cells) (hsl : mm_sl0 θ1.1 - mm_sl0 n0 ≤ R.slots) (K : ss_J D cA B ex Lx xs p l e R s m args below meth c y n0 Q θ1 pc' L' st' σ1) : ss_J D cA B ex Lx xs p l e R s m args below meth c y n0 Q θ pc L st σ := by
  obtain ⟨k, st2, rfl, h1⟩ := mm_a1_inv h
  clear h
  obtain ⟨hl, h2⟩ := mm_ck_inv h1
  clear h1
  obtain rfl := eq_of_beq hl
  cases hk : mm_lk mm_tF (mm_cn y) idx with
  | some r =>
    obtain ⟨ci, j, pos⟩ := r
    rw [hk] at h2
    obtain ⟨hkd, h3⟩ := mm_ck_inv h2
    clear h2
    cases h3
    intro H locs ls hW hx hS hl
    have K := K H locs ls hW hx hS hl
    have hF := List.all_eq_true.mp ss_tF _ (mm_lk_mem hk)
    unfold ss_okF at hF
    cases hc : vwCl[ci]? with
    | none => simp only [hc] at hF; cases hF
    | some q =>
      simp only [hc, Bool.and_eq_true, decide_eq_true_eq] at hF
      obtain ⟨ty, hcb⟩ := ss_cls hc
      obtain ⟨k1, k2, k3, k4⟩ := ss_obj (cA := cA) (B := B) (ex := ex) (σ := σ) hc (eq_of_beq hkd)
      have K : W p l e R s m args below meth c H locs (θ.1 - n0) (mm_sl0 θ.1 - mm_sl0 n0) Q (F0 m (pc + 3) ls (ss_tr B ex (mm_fv θ σ k j (mm_ft ci j)) :: st2.map (ss_tr B ex))) := K
      rw [ss_tr_fv k2] at K
      show W p l e R s m args below meth c H locs _ _ Q (F0 m pc ls (.ref (ss_ad B ex k) :: st2.map (ss_tr B ex)))
      rw [ss_ad_lt k2]
      exact va_get (ci := ci) (C := q.1) (T := q.2.1) (N := q.2.2) C.1.1 C.1.2.1 C.1.2.2.2.2 hcb.1 C.1.2.2.2.1 C.2.1.1 hW.2 k (ss_get k1 k4) hc j hF.1 (C.1.2.2.2.2 _ (lw_at hF.2 rfl)) (fun _ q => q) (by rw [List.getElem?_map, List.getElem?_range hF.1]; rfl) hd K
  | none =>
    rw [hk] at h2
    obtain ⟨hl, h3⟩ := mm_ck_inv h2
    clear h2
    rw [Bool.and_eq_true, Bool.and_eq_true, Bool.or_eq_true] at hl
    obtain ⟨c1, c2, c3⟩ := hl
    obtain rfl := eq_of_beq c2
    have hown := C.1.2.2.2.1
    rw [eq_of_beq c1] at hown
    have hX := C.2.1.2
    rcases c3 with c3 | c3
    · obtain rfl := eq_of_beq c3
      cases h3
      intro H locs ls hW hx hS hl
      exact vk_getf C.1.1 C.1.2.1 (own := "java/lang/String") (ref := "java/lang/String") hX.2.2.2.2.2.2.1 hS hown (C.1.2.2.2.2 _ ss_w1.2.2.2.2.2.2.2.2.2.2.1) (fun _ q => q) hd (K H locs ls hW hx hS hl)
    · obtain rfl := eq_of_beq c3
      cases h3
      intro H locs ls hW hx hS hl
      exact vk_getf C.1.1 C.1.2.1 (own := "java/lang/String") (ref := "java/lang/String") hX.2.2.2.2.2.2.2.1 hS hown (C.1.2.2.2.2 _ ss_w1.2.2.2.2.2.2.2.2.2.2.2) (fun _ q => q) hd (K H locs ls hW hx hS hl)

theorem st_putfield {idx : Nat} (hd : decode (mm_cd y) pc = .ok (.putfield idx, len)) (h : mm_sp y θ pc L st σ (.putfield idx) len = some (.inl (pc', L', st', θ1, σ1))) (C : ss_C D cA B ex Lx xs p R s m args meth c y n0) (hn0 : n0 ≤ θ.1) (hcl : θ1.1 - n0 ≤ R.cells) (hsl : mm_sl0 θ1.1 - mm_sl0 n0 ≤ R.slots) (K : ss_J D cA B ex Lx xs p l e R s m args below meth c y n0 Q θ1 pc' L' st' σ1) : ss_J D cA B ex Lx xs p l e R s m args below meth c y n0 Q θ pc L st σ := by
  obtain ⟨hl, h2⟩ := mm_ck_inv h
  clear h
  obtain rfl := eq_of_beq hl
  cases hk : mm_lk mm_tF (mm_cn y) idx with
  | none => rw [hk] at h2; cases h2
  | some r =>
    obtain ⟨ci, j, pos⟩ := r
    rw [hk] at h2
    have hF := List.all_eq_true.mp ss_tF _ (mm_lk_mem hk)
    unfold ss_okF at hF
    cases hc : vwCl[ci]? with
    | none => simp only [hc] at hF; cases hF
    | some q =>
      simp only [hc, Bool.and_eq_true, decide_eq_true_eq] at hF
      obtain ⟨ty, hcb⟩ := ss_cls hc
      have hfk := hcb.2.2.2.1 j hF.1
      match st, h2 with
      | v :: .ref k :: st2, h2 =>
        obtain ⟨hkd, h3⟩ := mm_ck_inv h2
        clear h2
        obtain ⟨k1, k2, k3, k4⟩ := ss_obj (cA := cA) (B := B) (ex := ex) (σ := σ) hc (eq_of_beq hkd)
        have hfk1 := hfk.1
        unfold ss_fk at hfk1
        have hlen : ((List.range q.2.2).map (fun j => ss_fv B ex θ σ k j (mm_ft ci j))).length = q.2.2 := by rw [List.length_map, List.length_range]
        have hlink := C.1.2.2.2.2 _ (lw_at hF.2 rfl)
        cases hft : mm_ft ci j with
        | zero =>
          simp only [hft, Bool.and_eq_true, decide_eq_true_eq, Bool.not_eq_true'] at hfk1
          rw [hft] at h3
          match v, h3 with
          | .int x, h3 =>
            cases h3
            intro H locs ls hW hx hS hl
            show W p l e R s m args below meth c H locs _ _ Q (F0 m pc ls (.int x :: .ref (ss_ad B ex k) :: st'.map (ss_tr B ex)))
            rw [ss_ad_lt k2]
            refine va_put (ci := ci) (C := q.1) (T := q.2.1) (N := q.2.2) (ty := .int) C.1.1 C.1.2.1 C.1.2.2.2.2 hcb.1 ty hcb.2.1 hcb.2.2.1 C.1.2.2.2.1 C.2.1.1 hW.2 ss_D hS k (ss_get k1 k4) hc j hF.1 hlink (fun _ q => q) hfk1.2 (by rw [hcb.2.1 j hF.1, hfk1.1]) (vp_nar_int x) rfl (by rw [hlen]; exact hF.1) hd (fun H1 locs1 hP1 _ hS1 => ?_)
            rw [ss_ws_set (θ' := θ) (σ' := mm_si σ k j x) k1 rfl (by
              have k5 := ss_obj (cA := cA) (B := B) (ex := ex) (σ := mm_si σ k j x) hc (eq_of_beq hkd)
              rw [k5.2.2.2]
              rw [ss_map_set (f' := fun i => ss_fv B ex θ (mm_si σ k j x) k i (mm_ft ci i))]
              · show ss_fv B ex θ (mm_si σ k j x) k j (mm_ft ci j) = .int x
                rw [hft]
                show Value.int ((mm_si σ k j x).1 k j) = _
                rw [ss_si_row]
                simp [upd]
              · intro i hi
                have e1 : (mm_si σ k j x).1 k i = σ.1 k i := by rw [ss_si_row]; simp [upd, hi]
                unfold ss_fv
                rw [e1]
                rfl) (fun a ha => ss_ce_sA ha)] at hP1
            exact K H1 locs1 ls ⟨hW.1, hP1⟩ hx hS1 hl
        | succ n1 =>
          cases n1 with
          | zero =>
            simp only [hft, Bool.and_eq_true, decide_eq_true_eq, Bool.not_eq_true'] at hfk1
            rw [hft] at h3
            match v, h3 with
            | .long x, h3 =>
              cases h3
              intro H locs ls hW hx hS hl
              show W p l e R s m args below meth c H locs _ _ Q (F0 m pc ls (.long x :: .ref (ss_ad B ex k) :: st'.map (ss_tr B ex)))
              rw [ss_ad_lt k2]
              refine va_put (ci := ci) (C := q.1) (T := q.2.1) (N := q.2.2) (ty := .long) C.1.1 C.1.2.1 C.1.2.2.2.2 hcb.1 ty hcb.2.1 hcb.2.2.1 C.1.2.2.2.1 C.2.1.1 hW.2 ss_D hS k (ss_get k1 k4) hc j hF.1 hlink (fun _ q => q) hfk1.2 (by rw [hcb.2.1 j hF.1, hfk1.1]) rfl rfl (by rw [hlen]; exact hF.1) hd (fun H1 locs1 hP1 _ hS1 => ?_)
              rw [ss_ws_set (θ' := θ) (σ' := mm_sl σ k j x) k1 rfl (by
                have k5 := ss_obj (cA := cA) (B := B) (ex := ex) (σ := mm_sl σ k j x) hc (eq_of_beq hkd)
                rw [k5.2.2.2]
                rw [ss_map_set (f' := fun i => ss_fv B ex θ (mm_sl σ k j x) k i (mm_ft ci i))]
                · show ss_fv B ex θ (mm_sl σ k j x) k j (mm_ft ci j) = .long x
                  rw [hft]
                  show Value.long ((mm_sl σ k j x).2.1 k j) = _
                  rw [ss_sl_row]
                  simp [vp_updL]
                · intro i hi
                  have e1 : (mm_sl σ k j x).2.1 k i = σ.2.1 k i := by rw [ss_sl_row]; simp [vp_updL, hi]
                  unfold ss_fv
                  rw [e1]
                  rfl) (fun a ha => ss_ce_sl ha)] at hP1
              exact K H1 locs1 ls ⟨hW.1, hP1⟩ hx hS1 hl
          | succ n2 =>
            cases n2 with
            | zero =>
              simp only [hft, Bool.and_eq_true] at hfk1
              rw [hft] at h3
              match v, h3 with
              | .ref x, h3 =>
                obtain ⟨hin, h4⟩ := mm_ck_inv h3
                clear h3
                rw [Bool.and_eq_true] at hin
                cases h4
                have hnm := C.2.2.1 (eq_of_beq hin.1)
                have hdecl : (q.2.1 j).1 = mm_cl (mm_cn y) := by rw [hfk.2, eq_of_beq hin.2]
                intro H locs ls hW hx hS hl
                show W p l e R s m args below meth c H locs _ _ Q (F0 m pc ls (.ref (ss_ad B ex x) :: .ref (ss_ad B ex k) :: st'.map (ss_tr B ex)))
                rw [ss_ad_lt k2]
                obtain ⟨t1, t2, -⟩ := ss_refty hfk1.1 (ss_ad B ex x)
                refine va_putF (ci := ci) (C := q.1) (T := q.2.1) (N := q.2.2) (ty := ty j) C.1.1 C.1.2.1 C.1.2.2.2.2 hcb.1 ty hcb.2.1 hcb.2.2.1 C.1.2.2.2.1 C.2.1.1 hW.2 ss_D hS k (ss_get k1 k4) hc j hF.1 hlink (fun _ q => q) hfk1.2 hnm hdecl (hcb.2.1 j hF.1) t1 t2 (by rw [hlen]; exact hF.1) hd (fun H1 locs1 hP1 _ hS1 => ?_)
                rw [ss_ws_set (θ' := mm_sr θ k j (some x)) (σ' := σ) k1 rfl (by
                  have k5 := ss_obj (cA := cA) (B := B) (ex := ex) (θ := mm_sr θ k j (some x)) (σ := σ) hc (eq_of_beq hkd)
                  rw [k5.2.2.2]
                  rw [ss_map_set (f' := fun i => ss_fv B ex (mm_sr θ k j (some x)) σ k i (mm_ft ci i))]
                  · show ss_fv B ex (mm_sr θ k j (some x)) σ k j (mm_ft ci j) = .ref (ss_ad B ex x)
                    rw [hft]
                    show va_rf (((mm_sr θ k j (some x)).2 k j).map (ss_ad B ex)) = _
                    rw [ss_sr_row]
                    simp [va_up, va_rf]
                  · intro i hi
                    have e1 : (mm_sr θ k j (some x)).2 k i = θ.2 k i := by rw [ss_sr_row]; simp [va_up, hi]
                    unfold ss_fv
                    rw [e1]) (fun a ha => ss_ce_sr ha)] at hP1
                exact K H1 locs1 ls ⟨hW.1, hP1⟩ hx hS1 hl
            | succ n3 =>
              cases n3 with
              | zero =>
                simp only [hft, Bool.and_eq_true, decide_eq_true_eq, Bool.not_eq_true'] at hfk1
                rw [hft] at h3
                match v, h3 with
                | .int x, h3 =>
                  obtain ⟨hin, h4⟩ := mm_ck_inv h3
                  clear h3
                  cases h4
                  have hn : narrow .boolean (.int x) = .int x ∧ fits .boolean (.int x) = true := by
                    rw [Bool.or_eq_true] at hin
                    rcases hin with q | q <;> (rw [eq_of_beq q]; exact ⟨rfl, rfl⟩)
                  intro H locs ls hW hx hS hl
                  show W p l e R s m args below meth c H locs _ _ Q (F0 m pc ls (.int x :: .ref (ss_ad B ex k) :: st'.map (ss_tr B ex)))
                  rw [ss_ad_lt k2]
                  refine va_put (ci := ci) (C := q.1) (T := q.2.1) (N := q.2.2) (ty := .boolean) C.1.1 C.1.2.1 C.1.2.2.2.2 hcb.1 ty hcb.2.1 hcb.2.2.1 C.1.2.2.2.1 C.2.1.1 hW.2 ss_D hS k (ss_get k1 k4) hc j hF.1 hlink (fun _ q => q) hfk1.2 (by rw [hcb.2.1 j hF.1, hfk1.1]) hn.1 hn.2 (by rw [hlen]; exact hF.1) hd (fun H1 locs1 hP1 _ hS1 => ?_)
                  rw [ss_ws_set (θ' := θ) (σ' := mm_si σ k j x) k1 rfl (by
                    have k5 := ss_obj (cA := cA) (B := B) (ex := ex) (σ := mm_si σ k j x) hc (eq_of_beq hkd)
                    rw [k5.2.2.2]
                    rw [ss_map_set (f' := fun i => ss_fv B ex θ (mm_si σ k j x) k i (mm_ft ci i))]
                    · show ss_fv B ex θ (mm_si σ k j x) k j (mm_ft ci j) = .int x
                      rw [hft]
                      show Value.int ((mm_si σ k j x).1 k j) = _
                      rw [ss_si_row]
                      simp [upd]
                    · intro i hi
                      have e1 : (mm_si σ k j x).1 k i = σ.1 k i := by rw [ss_si_row]; simp [upd, hi]
                      unfold ss_fv
                      rw [e1]
                      rfl) (fun a ha => ss_ce_sA ha)] at hP1
                  exact K H1 locs1 ls ⟨hW.1, hP1⟩ hx hS1 hl
              | succ n4 =>
                simp only [hft] at hfk1
                cases hfk1

theorem ss_new_i {a : Nat} (h : a ≠ θ.1) : ss_ce cA B ex (mm_nT θ) (mm_nM θ σ) a = ss_ce cA B ex θ σ a := by
  unfold ss_ce ss_fv mm_nT mm_nM
  simp only [if_neg h]
theorem ss_new_f {j t : Nat} : ss_fv B ex (mm_nT θ) (mm_nM θ σ) θ.1 j t = (match t with | 1 => .long 0 | 2 => .null | _ => .int 0) := by
  unfold ss_fv mm_nT mm_nM
  simp only [if_true]
  match t with
  | 0 => rfl
  | 1 => rfl
  | 2 => rfl
  | t + 3 => rfl
theorem ss_room1 {k : Nat} (hn0 : n0 ≤ θ.1) : θ.1 + k - n0 = θ.1 - n0 + k := by omega
theorem ss_room2 {k : Nat} (hn0 : n0 ≤ θ.1) : mm_sl0 θ.1 + k - mm_sl0 n0 = mm_sl0 θ.1 - mm_sl0 n0 + k := by
  have := mm_sl0_le hn0
  omega
theorem ss_nneg {n : Int32} (h : 0 ≤ n) : ¬ n < 0 := Int32.not_lt.mpr h
theorem st_new {idx : Nat} (hd : decode (mm_cd y) pc = .ok (.new idx, len)) (h : mm_sp y θ pc L st σ (.new idx) len = some (.inl (pc', L', st', θ1, σ1))) (C : ss_C D cA B ex Lx xs p R s m args meth c y n0) (hn0 : n0 ≤ θ.1) (hcl : θ1.1 - n0 ≤ R.cells) (hsl : mm_sl0 θ1.1 - mm_sl0 n0 ≤ R.slots) (K : ss_J D cA B ex Lx xs p l e R s m args below meth c y n0 Q θ1 pc' L' st' σ1) : ss_J D cA B ex Lx xs p l e R s m args below meth c y n0 Q θ pc L st σ := by
  obtain ⟨hl, h2⟩ := mm_ck_inv h
  clear h
  obtain rfl := eq_of_beq hl
  cases hk : mm_lk mm_tN (mm_cn y) idx with
  | none => rw [hk] at h2; cases h2
  | some r =>
    obtain ⟨ci, ps⟩ := r
    rw [hk] at h2
    obtain ⟨hin, h3⟩ := mm_ck_inv h2
    clear h2
    rw [Bool.and_eq_true] at hin
    obtain ⟨hn, hkt⟩ := hin
    have hn := of_decide_eq_true hn
    have hkt := eq_of_beq hkt
    cases h3
    have hN := List.all_eq_true.mp ss_tN _ (mm_lk_mem hk)
    cases hc : vwCl[ci]? with
    | none => simp only [hc] at hN; cases hN
    | some q =>
      simp only [hc, decide_eq_true_eq] at hN
      obtain ⟨ty, hcb⟩ := ss_cls hc
      have h10 := ss_cl_lt hc
      have k4 := ss_lay θ.1 hn (by omega)
      rw [hkt, hc] at k4
      have k5 : q.2.2 = (mm_kt θ.1).2 := Option.some.inj k4
      have hw : ∀ w ∈ ([.classLink (mm_cl (mm_cn y)) idx q.1, .instantiable q.1 q.2.2, .initialized q.1] : List Cond), w ∈ lw_g := by
        intro w hw
        have h1 : some w ∈ ps.map (fun p => lw_tbl[p]?) := by rw [hN]; exact List.mem_map.mpr ⟨w, hw, rfl⟩
        obtain ⟨pp, -, h2⟩ := List.mem_map.mp h1
        refine lw_at h2 ?_
        simp only [List.mem_cons, List.not_mem_nil, or_false] at hw
        rcases hw with rfl | rfl | rfl <;> rfl
      intro H locs ls hW hx hS hl
      refine ss_Wsz (fun hsz => ?_)
      have hsz := ss_size hW hS C.2.2.2.2 hn0 hsz
      have hKn := C.2.1.1.1 ci _ hc
      have hcl : θ.1 + 1 - n0 ≤ R.cells := hcl
      rw [ss_room1 hn0] at hcl
      have hsl : mm_sl0 θ.1 + (mm_kt θ.1).2 - mm_sl0 n0 ≤ R.slots := hsl
      rw [← k5, ss_room2 hn0] at hsl
      refine W.newcK C.1.1 C.1.2.1 C.1.2.2.2.1 (C.1.2.2.2.2 _ (hw _ List.mem_cons_self)) (C.1.2.2.2.2 _ (hw _ (List.mem_cons_of_mem _ List.mem_cons_self))) (C.1.2.2.2.2 _ (hw _ (List.mem_cons_of_mem _ (List.mem_cons_of_mem _ List.mem_cons_self)))) rfl hd hcl hsl hKn.2.1 hsz fun H1 kC hkC e1 z1 o1 => ?_
      have o1 : ∀ q, q < H.size → H1[q]? = H[q]? := fun q hq => o1 q (by rw [← hsz]; exact hq)
      have hW1 : ss_W D cA B ex (mm_nT θ) (mm_nM θ σ) H1 := ss_W_grow 1 hW rfl (by show θ.1 + 1 ≤ 135; omega) hsz o1 (fun a ha => ss_new_i (by omega)) (fun i hi => by
        obtain rfl : i = 0 := by omega
        rw [Nat.add_zero, ss_ceO (by omega)]
        show va_at D vwCl (B + θ.1, .inr ((mm_kt θ.1).1, _)) H1
        rw [hkt, ← k5]
        refine ⟨_, hc, (u_born ty C.1.2.2.2.2 hcb.1 hKn hkC e1 hcb.2.1).to (fun j hj => ?_)⟩
        have hfk1 := (hcb.2.2.2.1 j hj).1
        unfold ss_fk at hfk1
        have e2 : vp_V ((List.range q.2.2).map (fun j => ss_fv B ex (mm_nT θ) (mm_nM θ σ) θ.1 j (mm_ft ci j))) j = ss_fv B ex (mm_nT θ) (mm_nM θ σ) θ.1 j (mm_ft ci j) := by
          unfold vp_V
          rw [List.getD_eq_getElem?_getD, List.getElem?_map, List.getElem?_range hj]
          rfl
        show defaultValue (ty j) = vp_V ((List.range q.2.2).map (fun j => ss_fv B ex (mm_nT θ) (mm_nM θ σ) θ.1 j (mm_ft ci j))) j
        rw [e2, ss_new_f]
        split at hfk1
        · rename_i q9; rw [q9]; simp only [Bool.and_eq_true, decide_eq_true_eq] at hfk1; rw [hfk1.1]; rfl
        · rename_i q9; rw [q9]; simp only [Bool.and_eq_true, decide_eq_true_eq] at hfk1; rw [hfk1.1]; rfl
        · rename_i q9; rw [q9]; simp only [Bool.and_eq_true, decide_eq_true_eq] at hfk1; rw [hfk1.1]; rfl
        · rename_i q9; rw [q9]; simp only [Bool.and_eq_true] at hfk1; exact (ss_refty hfk1.1 0).2.2
        · cases hfk1)
      have K := K H1 locs ls hW1 hx (ss_S_grow hS (by rw [z1, ← hsz]; omega) o1) hl
      have K : W p l e R s m args below meth c H1 locs (θ.1 + 1 - n0) (mm_sl0 θ.1 + (mm_kt θ.1).2 - mm_sl0 n0) Q (F0 m (pc + 3) ls (.ref (ss_ad B ex θ.1) :: st.map (ss_tr B ex))) := K
      rw [ss_room1 hn0, ← k5, ss_room2 hn0, ss_ad_lt (by omega)] at K
      exact K

theorem ss_outer (c : ClassId) (N h0 : Nat) : Jvm.Free.Multi.outerC c N h0 N = arrV c N (fun j => va_rf (if j < N then some (h0 + 1 + j) else none)) := by
  have key : ∀ i : Nat, Jvm.Free.Multi.outerC c N h0 i = arrV c N (fun j => va_rf (if j < i then some (h0 + 1 + j) else none)) := by
    intro i
    induction i with
    | zero =>
      show ({ cls := c, slots := Array.replicate N .null, vm := .none } : Cell) = _
      rw [arrV_new]
      refine congrArg (arrV c N) (funext fun j => ?_)
      rw [if_neg (Nat.not_lt_zero j)]
      rfl
    | succ i ih =>
      show (Jvm.Free.Multi.outerC c N h0 i).setSlot i (.ref (h0 + 1 + i)) = _
      rw [ih, arrV_store]
      refine congrArg (arrV c N) (funext fun j => ?_)
      unfold updV
      by_cases e : j = i
      · subst e
        rw [if_pos rfl, if_pos (by omega)]
        rfl
      · rw [if_neg e]
        show va_rf (if j < i then some (h0 + 1 + j) else none) = _
        by_cases h : j < i
        · rw [if_pos h, if_pos (by omega)]
        · rw [if_neg h, if_neg (by omega)]
  exact key N
theorem ss_len : ∀ k, k < 135 → (mm_kt k).2 ≤ 900 := by decide +kernel
theorem st_newarray_int (hd : decode (mm_cd y) pc = .ok (.newarray .int, len)) (h : mm_sp y θ pc L st σ (.newarray .int) len = some (.inl (pc', L', st', θ1, σ1))) (C : ss_C D cA B ex Lx xs p R s m args meth c y n0) (hn0 : n0 ≤ θ.1) (hcl : θ1.1 - n0 ≤ R.cells) (hsl : mm_sl0 θ1.1 - mm_sl0 n0 ≤ R.slots) (K : ss_J D cA B ex Lx xs p l e R s m args below meth c y n0 Q θ1 pc' L' st' σ1) : ss_J D cA B ex Lx xs p l e R s m args below meth c y n0 Q θ pc L st σ := by
  obtain ⟨n, st2, rfl, h1⟩ := mm_p1_inv h
  clear h
  obtain ⟨hl, h2⟩ := mm_ck_inv h1
  clear h1
  rw [Bool.and_eq_true, Bool.and_eq_true, Bool.and_eq_true] at hl
  obtain ⟨hl1, hn, hnn, hkt⟩ := hl
  obtain rfl := eq_of_beq hl1
  have hn := of_decide_eq_true hn
  have hnn := of_decide_eq_true hnn
  have hkt := eq_of_beq hkt
  have hk1 : (mm_kt θ.1).1 = 20 := by rw [hkt]
  have hk2 : (mm_kt θ.1).2 = n.toNatClampNeg := by rw [hkt]
  have hk3 : n.toNatClampNeg ≤ 900 := by rw [← hk2]; exact ss_len _ hn
  cases h2
  intro H locs ls hW hx hS hl
  refine ss_Wsz (fun hsz => ?_)
  have hsz := ss_size hW hS C.2.2.2.2 hn0 hsz
  have hcl : θ.1 + 1 - n0 ≤ R.cells := hcl
  rw [ss_room1 hn0] at hcl
  have hsl : mm_sl0 θ.1 + (mm_kt θ.1).2 - mm_sl0 n0 ≤ R.slots := hsl
  rw [hk2, ss_room2 hn0] at hsl
  refine va_newaK (atype := .int) C.1.1 C.1.2.1 (C.1.2.2.2.2 _ ss_w1.2.2.2.2.2.1) rfl hd rfl (ss_nneg hnn) rfl (by show _ * 4 ≤ _; omega) hcl hsl hsz fun H1 cA1 e1 z1 o1 hAr hNm => ?_
  have o1 : ∀ q, q < H.size → H1[q]? = H[q]? := fun q hq => o1 q (by rw [← hsz]; exact hq)
  have hcA : cA1 = cA 0 := Option.some.inj (hNm.symm.trans (C.2.1.1.2 0 _ rfl).2)
  subst hcA
  have hW1 : ss_W D cA B ex (mm_nT θ) (mm_nM θ σ) H1 := ss_W_grow 1 hW rfl (by show θ.1 + 1 ≤ 135; omega) hsz o1 (fun a ha => ss_new_i (by omega)) (fun i hi => by
    obtain rfl : i = 0 := by omega
    rw [Nat.add_zero, ss_ce20 hk1, hk2]
    show H1[B + θ.1]? = some (vp_cell _ _)
    rw [e1, vp_cell_i]
    congr 2
    funext j
    unfold mm_nM
    simp only [if_true]
    rfl)
  have K := K H1 locs ls hW1 hx (ss_S_grow hS (by rw [z1, ← hsz]; omega) o1) hl
  have K : W p l e R s m args below meth c H1 locs (θ.1 + 1 - n0) (mm_sl0 θ.1 + (mm_kt θ.1).2 - mm_sl0 n0) Q (F0 m (pc + 2) ls (.ref (ss_ad B ex θ.1) :: st2.map (ss_tr B ex))) := K
  rw [ss_room1 hn0, hk2, ss_room2 hn0, ss_ad_lt (by omega)] at K
  exact K

theorem st_newarray_boolean (hd : decode (mm_cd y) pc = .ok (.newarray .boolean, len)) (h : mm_sp y θ pc L st σ (.newarray .boolean) len = some (.inl (pc', L', st', θ1, σ1))) (C : ss_C D cA B ex Lx xs p R s m args meth c y n0) (hn0 : n0 ≤ θ.1) (hcl : θ1.1 - n0 ≤ R.cells) (hsl : mm_sl0 θ1.1 - mm_sl0 n0 ≤ R.slots) (K : ss_J D cA B ex Lx xs p l e R s m args below meth c y n0 Q θ1 pc' L' st' σ1) : ss_J D cA B ex Lx xs p l e R s m args below meth c y n0 Q θ pc L st σ := by
  obtain ⟨n, st2, rfl, h1⟩ := mm_p1_inv h
  clear h
  obtain ⟨hl, h2⟩ := mm_ck_inv h1
  clear h1
  rw [Bool.and_eq_true, Bool.and_eq_true, Bool.and_eq_true] at hl
  obtain ⟨hl1, hn, hnn, hkt⟩ := hl
  obtain rfl := eq_of_beq hl1
  have hn := of_decide_eq_true hn
  have hnn := of_decide_eq_true hnn
  have hkt := eq_of_beq hkt
  have hk1 : (mm_kt θ.1).1 = 21 := by rw [hkt]
  have hk2 : (mm_kt θ.1).2 = n.toNatClampNeg := by rw [hkt]
  have hk3 : n.toNatClampNeg ≤ 900 := by rw [← hk2]; exact ss_len _ hn
  cases h2
  intro H locs ls hW hx hS hl
  refine ss_Wsz (fun hsz => ?_)
  have hsz := ss_size hW hS C.2.2.2.2 hn0 hsz
  have hcl : θ.1 + 1 - n0 ≤ R.cells := hcl
  rw [ss_room1 hn0] at hcl
  have hsl : mm_sl0 θ.1 + (mm_kt θ.1).2 - mm_sl0 n0 ≤ R.slots := hsl
  rw [hk2, ss_room2 hn0] at hsl
  refine va_newaK (atype := .boolean) C.1.1 C.1.2.1 (C.1.2.2.2.2 _ ss_w1.2.2.2.2.2.2.1) rfl hd rfl (ss_nneg hnn) rfl (by show _ * 1 ≤ _; omega) hcl hsl hsz fun H1 cA1 e1 z1 o1 hAr hNm => ?_
  have o1 : ∀ q, q < H.size → H1[q]? = H[q]? := fun q hq => o1 q (by rw [← hsz]; exact hq)
  have hcA : cA1 = cA 1 := Option.some.inj (hNm.symm.trans (C.2.1.1.2 1 _ rfl).2)
  subst hcA
  have hW1 : ss_W D cA B ex (mm_nT θ) (mm_nM θ σ) H1 := ss_W_grow 1 hW rfl (by show θ.1 + 1 ≤ 135; omega) hsz o1 (fun a ha => ss_new_i (by omega)) (fun i hi => by
    obtain rfl : i = 0 := by omega
    rw [Nat.add_zero, ss_ce21 hk1, hk2]
    show H1[B + θ.1]? = some (vp_cell _ _)
    rw [e1, vp_cell_i]
    congr 2
    funext j
    unfold mm_nM
    simp only [if_true]
    rfl)
  have K := K H1 locs ls hW1 hx (ss_S_grow hS (by rw [z1, ← hsz]; omega) o1) hl
  have K : W p l e R s m args below meth c H1 locs (θ.1 + 1 - n0) (mm_sl0 θ.1 + (mm_kt θ.1).2 - mm_sl0 n0) Q (F0 m (pc + 2) ls (.ref (ss_ad B ex θ.1) :: st2.map (ss_tr B ex))) := K
  rw [ss_room1 hn0, hk2, ss_room2 hn0, ss_ad_lt (by omega)] at K
  exact K

theorem st_newarray_long (hd : decode (mm_cd y) pc = .ok (.newarray .long, len)) (h : mm_sp y θ pc L st σ (.newarray .long) len = some (.inl (pc', L', st', θ1, σ1))) (C : ss_C D cA B ex Lx xs p R s m args meth c y n0) (hn0 : n0 ≤ θ.1) (hcl : θ1.1 - n0 ≤ R.cells) (hsl : mm_sl0 θ1.1 - mm_sl0 n0 ≤ R.slots) (K : ss_J D cA B ex Lx xs p l e R s m args below meth c y n0 Q θ1 pc' L' st' σ1) : ss_J D cA B ex Lx xs p l e R s m args below meth c y n0 Q θ pc L st σ := by
  obtain ⟨n, st2, rfl, h1⟩ := mm_p1_inv h
  clear h
  obtain ⟨hl, h2⟩ := mm_ck_inv h1
  clear h1
  rw [Bool.and_eq_true, Bool.and_eq_true, Bool.and_eq_true] at hl
  obtain ⟨hl1, hn, hnn, hkt⟩ := hl
  obtain rfl := eq_of_beq hl1
  have hn := of_decide_eq_true hn
  have hnn := of_decide_eq_true hnn
  have hkt := eq_of_beq hkt
  have hk1 : (mm_kt θ.1).1 = 23 := by rw [hkt]
  have hk2 : (mm_kt θ.1).2 = n.toNatClampNeg := by rw [hkt]
  have hk3 : n.toNatClampNeg ≤ 900 := by rw [← hk2]; exact ss_len _ hn
  cases h2
  intro H locs ls hW hx hS hl
  refine ss_Wsz (fun hsz => ?_)
  have hsz := ss_size hW hS C.2.2.2.2 hn0 hsz
  have hcl : θ.1 + 1 - n0 ≤ R.cells := hcl
  rw [ss_room1 hn0] at hcl
  have hsl : mm_sl0 θ.1 + (mm_kt θ.1).2 - mm_sl0 n0 ≤ R.slots := hsl
  rw [hk2, ss_room2 hn0] at hsl
  refine va_newaK (atype := .long) C.1.1 C.1.2.1 (C.1.2.2.2.2 _ ss_w1.2.2.2.2.2.2.2.1) rfl hd rfl (ss_nneg hnn) rfl (by show _ * 8 ≤ _; omega) hcl hsl hsz fun H1 cA1 e1 z1 o1 hAr hNm => ?_
  have o1 : ∀ q, q < H.size → H1[q]? = H[q]? := fun q hq => o1 q (by rw [← hsz]; exact hq)
  have hcA : cA1 = cA 2 := Option.some.inj (hNm.symm.trans (C.2.1.1.2 2 _ rfl).2)
  subst hcA
  have hW1 : ss_W D cA B ex (mm_nT θ) (mm_nM θ σ) H1 := ss_W_grow 1 hW rfl (by show θ.1 + 1 ≤ 135; omega) hsz o1 (fun a ha => ss_new_i (by omega)) (fun i hi => by
    obtain rfl : i = 0 := by omega
    rw [Nat.add_zero, ss_ce23 hk1, hk2]
    show H1[B + θ.1]? = some (vp_cell _ _)
    rw [e1, vp_cell_l]
    congr 2
    funext j
    unfold mm_nM
    simp only [if_true]
    rfl)
  have K := K H1 locs ls hW1 hx (ss_S_grow hS (by rw [z1, ← hsz]; omega) o1) hl
  have K : W p l e R s m args below meth c H1 locs (θ.1 + 1 - n0) (mm_sl0 θ.1 + (mm_kt θ.1).2 - mm_sl0 n0) Q (F0 m (pc + 2) ls (.ref (ss_ad B ex θ.1) :: st2.map (ss_tr B ex))) := K
  rw [ss_room1 hn0, hk2, ss_room2 hn0, ss_ad_lt (by omega)] at K
  exact K

theorem st_anewarray {idx : Nat} (hd : decode (mm_cd y) pc = .ok (.anewarray idx, len)) (h : mm_sp y θ pc L st σ (.anewarray idx) len = some (.inl (pc', L', st', θ1, σ1))) (C : ss_C D cA B ex Lx xs p R s m args meth c y n0) (hn0 : n0 ≤ θ.1) (hcl : θ1.1 - n0 ≤ R.cells) (hsl : mm_sl0 θ1.1 - mm_sl0 n0 ≤ R.slots) (K : ss_J D cA B ex Lx xs p l e R s m args below meth c y n0 Q θ1 pc' L' st' σ1) : ss_J D cA B ex Lx xs p l e R s m args below meth c y n0 Q θ pc L st σ := by
  obtain ⟨n, st2, rfl, h1⟩ := mm_p1_inv h
  clear h
  obtain ⟨hl, h2⟩ := mm_ck_inv h1
  clear h1
  rw [Bool.and_eq_true, Bool.and_eq_true, Bool.and_eq_true, Bool.and_eq_true] at hl
  obtain ⟨hl1, hn, hnn, hkt, hq⟩ := hl
  obtain rfl := eq_of_beq hl1
  have hn := of_decide_eq_true hn
  have hnn := of_decide_eq_true hnn
  have hkt := eq_of_beq hkt
  have hk1 : (mm_kt θ.1).1 = 25 := by rw [hkt]
  have hk2 : (mm_kt θ.1).2 = n.toNatClampNeg := by rw [hkt]
  have hk3 : n.toNatClampNeg ≤ 900 := by rw [← hk2]; exact ss_len _ hn
  cases h2
  intro H locs ls hW hx hS hl
  refine ss_Wsz (fun hsz => ?_)
  have hsz := ss_size hW hS C.2.2.2.2 hn0 hsz
  have hcl : θ.1 + 1 - n0 ≤ R.cells := hcl
  rw [ss_room1 hn0] at hcl
  have hsl : mm_sl0 θ.1 + (mm_kt θ.1).2 - mm_sl0 n0 ≤ R.slots := hsl
  rw [hk2, ss_room2 hn0] at hsl
  obtain ⟨pos, hq⟩ := Option.isSome_iff_exists.mp hq
  have hw := of_decide_eq_true (List.all_eq_true.mp ss_tQ _ (mm_lk_mem hq))
  refine W.anew C.1.1 C.1.2.1 C.1.2.2.2.1 (C.1.2.2.2.2 _ (lw_at hw rfl)) (va_AO.use C.2.1.2.2.2.2.2.2.2.2.2.2.2) rfl hd rfl (ss_nneg hnn) (by omega) hcl hsl fun cA1 kA comp f1 f2 f3 f4 => ?_
  generalize hH1 : H.push ({ cls := cA1, slots := Array.replicate n.toNatClampNeg .null, vm := .none } : Cell) = H1
  have z1 : H1.size = H.size + 1 := by rw [← hH1, Array.size_push]
  have e1 : H1[B + θ.1]? = some (arrV cA1 n.toNatClampNeg (fun _ => .null)) := by rw [← hsz, ← hH1, Array.getElem?_push_size, ← arrV_new]
  have o1 : ∀ q : Nat, q < H.size → H1[q]? = H[q]? := fun q hq => by rw [← hH1, Array.getElem?_push, if_neg (Nat.ne_of_lt hq)]
  have hcA : cA1 = cA 4 := by
    obtain ⟨kA2, comp2, -, -, -, f5⟩ := (C.2.1.1.2 4 _ rfl).2
    exact Option.some.inj (f1.symm.trans f5)
  subst hcA
  have hW1 : ss_W D cA B ex (mm_nT θ) (mm_nM θ σ) H1 := ss_W_grow 1 hW rfl (by show θ.1 + 1 ≤ 135; omega) hsz o1 (fun a ha => ss_new_i (by omega)) (fun i hi => by
    obtain rfl : i = 0 := by omega
    rw [Nat.add_zero, ss_ce25 hk1, hk2]
    show H1[B + θ.1]? = some (vp_cell _ _)
    rw [e1, vp_cell_q]
    congr 2
    funext j
    unfold mm_nT
    simp only [if_true]
    rfl)
  have K := K H1 locs ls hW1 hx (ss_S_grow hS (by omega) o1) hl
  have K : W p l e R s m args below meth c H1 locs (θ.1 + 1 - n0) (mm_sl0 θ.1 + (mm_kt θ.1).2 - mm_sl0 n0) Q (F0 m (pc + 3) ls (.ref (ss_ad B ex θ.1) :: st2.map (ss_tr B ex))) := K
  rw [ss_room1 hn0, hk2, ss_room2 hn0, ss_ad_lt (by omega)] at K
  rw [← hsz] at K
  exact K

theorem st_multianewarray {idx dm : Nat} (hd : decode (mm_cd y) pc = .ok (.multianewarray idx dm, len)) (h : mm_sp y θ pc L st σ (.multianewarray idx dm) len = some (.inl (pc', L', st', θ1, σ1))) (C : ss_C D cA B ex Lx xs p R s m args meth c y n0) (hn0 : n0 ≤ θ.1) (hcl : θ1.1 - n0 ≤ R.cells) (hsl : mm_sl0 θ1.1 - mm_sl0 n0 ≤ R.slots) (K : ss_J D cA B ex Lx xs p l e R s m args below meth c y n0 Q θ1 pc' L' st' σ1) : ss_J D cA B ex Lx xs p l e R s m args below meth c y n0 Q θ pc L st σ := by
  obtain ⟨n, k, st2, rfl, h1⟩ := mm_p2_inv h
  clear h
  obtain ⟨hl, h2⟩ := mm_ck_inv h1
  clear h1
  rw [Bool.and_eq_true, Bool.and_eq_true, Bool.and_eq_true, Bool.and_eq_true, Bool.and_eq_true, Bool.and_eq_true, Bool.and_eq_true] at hl
  obtain ⟨hl1, hdm, hn, hnn, hkk, hkt, hall, hq⟩ := hl
  obtain rfl := eq_of_beq hl1
  obtain rfl := eq_of_beq hdm
  have hn := of_decide_eq_true hn
  have hnn := of_decide_eq_true hnn
  obtain ⟨hkk, hk9⟩ := of_decide_eq_true hkk
  have hkt := eq_of_beq hkt
  obtain ⟨pos, hq⟩ := Option.isSome_iff_exists.mp hq
  have hw := of_decide_eq_true (List.all_eq_true.mp ss_tM _ (mm_lk_mem hq))
  have hrow : ∀ i, i < n.toNatClampNeg → mm_kt (θ.1 + 1 + i) = (20, k.toNatClampNeg) := fun i hi => eq_of_beq (List.all_eq_true.mp hall i (List.mem_range.mpr hi))
  generalize hN : n.toNatClampNeg = N at *
  generalize hM : k.toNatClampNeg = M at *
  have hN9 : N ≤ 900 := by have := ss_len θ.1 (by omega); rw [hkt] at this; exact this
  have hM9 : N = 0 ∨ M ≤ 900 := by
    rcases Nat.eq_zero_or_pos N with q | q
    · exact Or.inl q
    · right
      have := ss_len (θ.1 + 1 + 0) (by omega)
      rw [hrow 0 q] at this
      exact this
  cases h2
  have hsum : ∀ i, i ≤ N → mm_sl0 (θ.1 + 1 + i) = mm_sl0 θ.1 + N + i * M := by
    intro i
    induction i with
    | zero => intro _; show mm_sl0 θ.1 + (mm_kt θ.1).2 = _; rw [hkt]; simp
    | succ i ih =>
      intro hi
      show mm_sl0 (θ.1 + 1 + i) + (mm_kt (θ.1 + 1 + i)).2 = _
      rw [ih (by omega), hrow i (by omega), Nat.succ_mul]
      omega
  intro H locs ls hW hx hS hl
  refine ss_Wsz (fun hsz => ?_)
  have hsz := ss_size hW hS C.2.2.2.2 hn0 hsz
  have hcl : θ.1 + 1 + N - n0 ≤ R.cells := hcl
  have hsl : mm_sl0 (θ.1 + 1 + N) - mm_sl0 n0 ≤ R.slots := hsl
  rw [hsum N (Nat.le_refl N)] at hsl
  have hle := mm_sl0_le hn0
  intro T hT X
  have hMb : M * 4 ≤ 536870912 ∧ M ≤ 536870912 := by
    have h1 := Int32.le_iff_toInt_le.mp hk9
    have h2 : (900 : Int32).toInt = 900 := by decide
    have h3 : M = k.toInt.toNat := hM.symm
    omega
  obtain ⟨vm₁, cA1, comp, -, fA, fC, hO, -, X', step⟩ := X.multianewarray2F (ty := .int) C.1.1 C.1.2.2.2.1 (C.1.2.2.2.2 _ (lw_at hw rfl)) C.2.1.2.2.2.2.2.2.2.2.2.2.1 (C.1.2.2.2.2 _ ss_w1.2.2.2.2.2.1) (g := F0 m pc ls (.int k :: .int n :: st2.map (ss_tr B ex))) rfl (by rw [C.1.2.1]; exact hd) rfl (ss_nneg hnn) (ss_nneg hkk) (by rw [hN]; omega) (by rw [hM]; exact hMb.1) (by rw [hM]; exact hMb.2) rfl rfl (by rw [hN]; omega) (by rw [hN, hM]; omega)
  rw [hN, hM] at X' step
  have hcA : cA1 = cA 3 := Option.some.inj (fA.symm.trans (C.2.1.1.2 3 _ rfl).2)
  have hcB : comp = cA 0 := Option.some.inj (fC.symm.trans (C.2.1.1.2 0 _ rfl).2)
  subst hcA
  subst hcB
  generalize hF : Jvm.Free.Multi.fill (T.setVm vm₁) (cA 3) (cA 0) N M (defaultValue .int) N = F at X' step
  have hTh : (T.setVm vm₁).heap = H := hT
  obtain ⟨f1, f2, -, -⟩ := Jvm.Free.Multi.fill_facts (T.setVm vm₁) (cA 3) (cA 0) N M (defaultValue .int) N
  rw [hF, hTh] at f1 f2
  have o1 : ∀ x : Nat, x < H.size → F.heap[x]? = H[x]? := fun x hx => by
    have := Jvm.Free.Multi.fill_old (T.setVm vm₁) (cA 3) (cA 0) N M (defaultValue .int) (a := x) (by rw [hTh]; exact hx) N
    rw [hF, hTh] at this
    exact this
  have hin : ∀ j : Nat, j < N → F.heap[H.size + 1 + j]? = some (Jvm.Free.Multi.innerC (cA 0) M (defaultValue .int)) := fun j hj => by
    have := Jvm.Free.Multi.fill_inner (T.setVm vm₁) (cA 3) (cA 0) N M (defaultValue .int) N j hj
    rw [hF, hTh] at this
    exact this
  have hW1 : ss_W D cA B ex (mm_nT2 θ N) (mm_nM2 θ σ N) F.heap := by
    refine ss_W_grow (1 + N) hW (by show θ.1 + 1 + N = _; omega) (by show θ.1 + 1 + N ≤ 135; omega) hsz o1 (fun a ha => ?_) (fun i hi => ?_)
    · unfold ss_ce ss_fv mm_nT2 mm_nM2
      simp only [if_neg (show ¬ a = θ.1 by omega), if_neg (show ¬ (θ.1 < a ∧ a < θ.1 + 1 + N) by omega), if_neg (show ¬ (θ.1 ≤ a ∧ a < θ.1 + 1 + N) by omega)]
    · rcases Nat.eq_zero_or_pos i with rfl | hi0
      · rw [Nat.add_zero, ss_ce24 (by rw [hkt]), hkt]
        show F.heap[B + θ.1]? = some (vp_cell _ _)
        rw [← hsz, f2, vp_cell_q, ss_outer]
        congr 2
        funext j
        unfold mm_nT2
        simp only [if_true]
        by_cases hj : j < N
        · simp only [if_pos hj]
          show va_rf (some (H.size + 1 + j)) = va_rf (some (ss_ad B ex (θ.1 + 1 + j)))
          rw [ss_ad_lt (by omega), hsz]
          congr 2
          omega
        · simp only [if_neg hj]
          rfl
      · have h1 := hrow (i - 1) (by omega)
        rw [show θ.1 + 1 + (i - 1) = θ.1 + i by omega] at h1
        rw [ss_ce20 (by rw [h1]), h1]
        show F.heap[B + (θ.1 + i)]? = some (vp_cell _ _)
        have h2 := hin (i - 1) (by omega)
        rw [hsz, show B + θ.1 + 1 + (i - 1) = B + (θ.1 + i) by omega] at h2
        rw [h2, vp_cell_i]
        show some (({ cls := cA 0, slots := Array.replicate M (defaultValue .int), vm := .none } : Cell)) = _
        rw [arrV_new]
        congr 2
        funext j
        unfold mm_nM2
        simp only [if_pos (show θ.1 ≤ θ.1 + i ∧ θ.1 + i < θ.1 + 1 + N by omega)]
        rfl
  have K := K F.heap locs ls hW1 hx (ss_S_grow hS (by rw [f1]; omega) o1) hl
  have K : W p l e R s m args below meth c F.heap locs (θ.1 + 1 + N - n0) (mm_sl0 (θ.1 + 1 + N) - mm_sl0 n0) Q (F0 m (pc + 4) ls (.ref (ss_ad B ex θ.1) :: st2.map (ss_tr B ex))) := K
  rw [hsum N (Nat.le_refl N), ss_ad_lt (by omega), ← hsz, show θ.1 + 1 + N - n0 = θ.1 - n0 + 1 + N by omega, show mm_sl0 θ.1 + N + N * M - mm_sl0 n0 = mm_sl0 θ.1 - mm_sl0 n0 + N + N * M by omega] at K
  obtain ⟨t, a1, b1⟩ := K F rfl X'
  refine ⟨t, step t ?_, b1⟩
  rw [show T.heap.size = H.size by rw [hT]]
  exact a1

theorem ss_sw8 {st : List Value} (h : mm_sw st ≤ 8) : ((st.map (ss_tr B ex)).map fun v => v.category).sum ≤ 8 := by rw [ss_sw]; exact h
theorem ss_mls (C : ss_C D cA B ex Lx xs p R s m args meth c y n0) {ls : Array Slot} (hl : ss_l B ex (mm_ml y) L ls) : c.maxLocals = ls.size := by rw [C.1.2.2.1, hl.1]
theorem st_ac {idx pos : Nat} (hd : decode (mm_cd y) pc = .ok (.invokestatic idx, 3)) (hk : mm_lk mm_tA (mm_cn y) idx = some pos) (h : mm_ac y pc L st θ σ = some (.inl (pc', L', st', θ1, σ1))) (C : ss_C D cA B ex Lx xs p R s m args meth c y n0) (K : ss_J D cA B ex Lx xs p l e R s m args below meth c y n0 Q θ1 pc' L' st' σ1) : ss_J D cA B ex Lx xs p l e R s m args below meth c y n0 Q θ pc L st σ := by
  have hw := of_decide_eq_true (List.all_eq_true.mp ss_tA _ (mm_lk_mem hk))
  unfold mm_ac at h
  split at h
  · rename_i n dp k1 sp k0 rest
    obtain ⟨hl, h2⟩ := mm_ck_inv h
    clear h
    simp only [Bool.and_eq_true, decide_eq_true_eq] at hl
    obtain ⟨g1, g2, g3, -, g5, g6, g7, g8, g9, g10, g11⟩ := hl
    cases h2
    obtain ⟨a1, a2, a3⟩ := ss_kd (eq_of_beq g5) (by decide)
    obtain ⟨b1, b2, b3⟩ := ss_kd (eq_of_beq g6) (by decide)
    rw [ss_al a2] at g10
    rw [ss_al b2] at g11
    intro H locs ls hW hx hS hl
    have hsw := ss_sw8 (B := B) (ex := ex) g1
    show W p l e R s m args below meth c H locs _ _ Q (F0 m pc ls (.int n :: .int dp :: .ref (ss_ad B ex k1) :: .int sp :: .ref (ss_ad B ex k0) :: st'.map (ss_tr B ex)))
    rw [ss_ad_lt a2, ss_ad_lt b2]
    have hrl := C.2.2.2.1
    refine va_copyi (ty := .int) C.1.1 C.1.2.1 (ss_mls C hl) C.1.2.2.2.1 (C.1.2.2.2.2 _ (lw_at hw rfl)) (C.1.2.2.2.2 _ ss_w1.2.2.1) (C.1.2.2.2.2 _ ss_w1.2.2.2.1) (C.1.2.2.2.2 _ ss_w1.2.2.2.2.1) C.2.1.1 hW.2 ss_D hS k0 k1 0 0 (ss_get a1 (ss_ce20 a3)) (ss_get b1 (ss_ce20 b3)) rfl rfl rfl (ss_nneg g7) (ss_nneg g8) (ss_nneg g9) g10 g11 (fun _ _ => rfl) (by omega) (by show _ + (7 + 11) ≤ _; omega) hd (fun H1 locs1 hP1 _ hS1 => ?_)
    rw [ss_ws_set (θ' := θ) (σ' := mm_cp σ k0 k1 sp.toNatClampNeg dp.toNatClampNeg n.toNatClampNeg) b1 rfl (by rw [ss_ce20 b3]; unfold mm_cp; rw [ss_sA_row]) (fun a ha => ss_ce_sA ha)] at hP1
    exact K H1 locs1 ls ⟨hW.1, hP1⟩ hx hS1 hl
  · cases h
set_option maxRecDepth 100000 in
theorem ss_wc : Cond.code Lib.Math.max.name Lib.Math.max.code 2 (some .int) ∈ lw_g ∧ Cond.code Lib.Math.min.name Lib.Math.min.code 2 (some .int) ∈ lw_g ∧ Cond.code Lib.Math.abs.name Lib.Math.abs.code 1 (some .int) ∈ lw_g :=
  ⟨lw_at (p := 356) rfl rfl, lw_at (p := 359) rfl rfl, lw_at (p := 706) rfl rfl⟩
theorem st_mh {idx pos w : Nat} (hd : decode (mm_cd y) pc = .ok (.invokestatic idx, 3)) (hk : mm_lk mm_tH (mm_cn y) idx = some (w, pos)) (h : mm_mh w y pc L st θ σ = some (.inl (pc', L', st', θ1, σ1))) (C : ss_C D cA B ex Lx xs p R s m args meth c y n0) (hn0 : n0 ≤ θ.1) (hcl : θ1.1 - n0 ≤ R.cells) (hsl : mm_sl0 θ1.1 - mm_sl0 n0 ≤ R.slots) (K : ss_J D cA B ex Lx xs p l e R s m args below meth c y n0 Q θ1 pc' L' st' σ1) : ss_J D cA B ex Lx xs p l e R s m args below meth c y n0 Q θ pc L st σ := by
  have hw := of_decide_eq_true (List.all_eq_true.mp ss_tH _ (mm_lk_mem hk))
  have hrl := C.2.2.2.1
  unfold mm_mh at h
  split at h
  · obtain ⟨hl, h2⟩ := mm_ck_inv h
    clear h
    simp only [Bool.and_eq_true, decide_eq_true_eq] at hl
    cases h2
    intro H locs ls hW hx hS hl9
    have hsw := ss_sw8 (B := B) (ex := ex) hl.1
    exact va_mmax C.1.1 C.1.2.1 (ss_mls C hl9) C.1.2.2.2.1 (C.1.2.2.2.2 _ (lw_at hw rfl)) (C.1.2.2.2.2 _ ss_w3.1) (C.1.2.2.2.2 _ ss_w3.2.2.2) (C.1.2.2.2.2 _ ss_wc.1) (by omega) (by omega) hcl hsl hd (K H locs ls hW hx hS hl9)
  · obtain ⟨hl, h2⟩ := mm_ck_inv h
    clear h
    simp only [Bool.and_eq_true, decide_eq_true_eq] at hl
    cases h2
    intro H locs ls hW hx hS hl9
    have hsw := ss_sw8 (B := B) (ex := ex) hl.1
    exact va_mmin C.1.1 C.1.2.1 (ss_mls C hl9) C.1.2.2.2.1 (C.1.2.2.2.2 _ (lw_at hw rfl)) (C.1.2.2.2.2 _ ss_w3.2.1) (C.1.2.2.2.2 _ ss_w3.2.2.2) (C.1.2.2.2.2 _ ss_wc.2.1) (by omega) (by omega) hcl hsl hd (K H locs ls hW hx hS hl9)
  · obtain ⟨hl, h2⟩ := mm_ck_inv h
    clear h
    simp only [Bool.and_eq_true, decide_eq_true_eq] at hl
    cases h2
    intro H locs ls hW hx hS hl9
    have hsw := ss_sw8 (B := B) (ex := ex) hl.1
    exact va_mabs C.1.1 C.1.2.1 (ss_mls C hl9) C.1.2.2.2.1 (C.1.2.2.2.2 _ (lw_at hw rfl)) (C.1.2.2.2.2 _ ss_w3.2.2.1) (C.1.2.2.2.2 _ ss_w3.2.2.2) (C.1.2.2.2.2 _ ss_wc.2.2) (by omega) (by omega) hcl hsl hd (K H locs ls hW hx hS hl9)
  · cases h
theorem st_oi {idx pos : Nat} (hd : decode (mm_cd y) pc = .ok (.invokespecial idx, 3)) (hk : mm_lk mm_tO (mm_cn y) idx = some pos) (h : mm_oi y pc L st θ σ = some (.inl (pc', L', st', θ1, σ1))) (C : ss_C D cA B ex Lx xs p R s m args meth c y n0) (K : ss_J D cA B ex Lx xs p l e R s m args below meth c y n0 Q θ1 pc' L' st' σ1) : ss_J D cA B ex Lx xs p l e R s m args below meth c y n0 Q θ pc L st σ := by
  have hw := of_decide_eq_true (List.all_eq_true.mp ss_tO _ (mm_lk_mem hk))
  have hrl := C.2.2.2.1
  unfold mm_oi at h
  split at h
  · obtain ⟨hl, h2⟩ := mm_ck_inv h
    clear h
    simp only [Bool.and_eq_true, decide_eq_true_eq] at hl
    cases h2
    intro H locs ls hW hx hS hl9
    have hsw := ss_sw8 (B := B) (ex := ex) hl.1
    exact W.objInit C.1.1 C.1.2.1 C.1.2.2.2.1 (C.1.2.2.2.2 _ (lw_at hw rfl)) (C.1.2.2.2.2 _ ss_w1.1) (C.1.2.2.2.2 _ ss_w1.2.1) rfl (ss_mls C hl9).symm rfl hd (by omega) (by show 2 * 0 + _ + 12 ≤ _; omega) (K H locs ls hW hx hS hl9)
  · cases h
theorem mm_inv_no {op idx : Nat} {x : Nat × mm_L × List Value × mm_T × mm_M} (h : mm_inv op y θ pc st idx = some (.inl x)) : False := by
  unfold mm_inv at h
  split at h
  · split at h
    · obtain ⟨-, h⟩ := mm_ck_inv h
      obtain ⟨-, h⟩ := mm_ck_inv h
      cases h
    · split at h
      · obtain ⟨-, h⟩ := mm_ck_inv h
        obtain ⟨-, h⟩ := mm_ck_inv h
        cases h
      · cases h
  · cases h
theorem st_invokestatic {idx : Nat} (hd : decode (mm_cd y) pc = .ok (.invokestatic idx, len)) (h : mm_sp y θ pc L st σ (.invokestatic idx) len = some (.inl (pc', L', st', θ1, σ1))) (C : ss_C D cA B ex Lx xs p R s m args meth c y n0) (hn0 : n0 ≤ θ.1) (hcl : θ1.1 - n0 ≤ R.cells) (hsl : mm_sl0 θ1.1 - mm_sl0 n0 ≤ R.slots) (K : ss_J D cA B ex Lx xs p l e R s m args below meth c y n0 Q θ1 pc' L' st' σ1) : ss_J D cA B ex Lx xs p l e R s m args below meth c y n0 Q θ pc L st σ := by
  obtain ⟨hl, h2⟩ := mm_ck_inv h
  clear h
  obtain rfl := eq_of_beq hl
  cases hk : mm_lk mm_tA (mm_cn y) idx with
  | some pos => rw [hk] at h2; exact st_ac hd hk h2 C K
  | none =>
    rw [hk] at h2
    cases hh : mm_lk mm_tH (mm_cn y) idx with
    | some r => obtain ⟨w, pos⟩ := r; simp only [hh] at h2; exact st_mh hd hh h2 C hn0 hcl hsl K
    | none => simp only [hh] at h2; exact absurd h2 mm_inv_no

theorem st_invokespecial {idx : Nat} (hd : decode (mm_cd y) pc = .ok (.invokespecial idx, len)) (h : mm_sp y θ pc L st σ (.invokespecial idx) len = some (.inl (pc', L', st', θ1, σ1))) (C : ss_C D cA B ex Lx xs p R s m args meth c y n0) (hn0 : n0 ≤ θ.1) (hcl : θ1.1 - n0 ≤ R.cells) (hsl : mm_sl0 θ1.1 - mm_sl0 n0 ≤ R.slots) (K : ss_J D cA B ex Lx xs p l e R s m args below meth c y n0 Q θ1 pc' L' st' σ1) : ss_J D cA B ex Lx xs p l e R s m args below meth c y n0 Q θ pc L st σ := by
  obtain ⟨hl, h2⟩ := mm_ck_inv h
  clear h
  obtain rfl := eq_of_beq hl
  cases hk : mm_lk mm_tO (mm_cn y) idx with
  | some pos => rw [hk] at h2; exact st_oi hd hk h2 C K
  | none => rw [hk] at h2; exact absurd h2 mm_inv_no

theorem st_invokevirtual {idx : Nat} (hd : decode (mm_cd y) pc = .ok (.invokevirtual idx, len)) (h : mm_sp y θ pc L st σ (.invokevirtual idx) len = some (.inl (pc', L', st', θ1, σ1))) (C : ss_C D cA B ex Lx xs p R s m args meth c y n0) (hn0 : n0 ≤ θ.1) (hcl : θ1.1 - n0 ≤ R.cells) (hsl : mm_sl0 θ1.1 - mm_sl0 n0 ≤ R.slots) (K : ss_J D cA B ex Lx xs p l e R s m args below meth c y n0 Q θ1 pc' L' st' σ1) : ss_J D cA B ex Lx xs p l e R s m args below meth c y n0 Q θ pc L st σ := by
  obtain ⟨hl, h2⟩ := mm_ck_inv h
  exact absurd h2 mm_inv_no

end ST3

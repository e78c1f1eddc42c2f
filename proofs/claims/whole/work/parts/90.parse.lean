/-! ===== the text, read: pure; the class ===== -/
def pu_ (P : pp_) (p v : Nat) : pp_ := (P.1, fun i q => if i = P.1 ∧ q = p then v else P.2 i q)
def pa_ (L : Nat → Nat) (s : Nat) : Nat → Nat → pp_ → Nat → Nat → Option Nat × pp_
  | 0, _, P, p, far => (if p = 0 ∧ far ≤ P.1 then none else some s, P)
  | d + 1, place, P, p, far =>
    if p = 0 then (match kd_ (L place) with
      | none => (some place, P)
      | some k => if P.1 = 9 then (some place, P) else pa_ L s d (place + 1) (pu_ P 0 k) 1 far)
    else (match pv_ (P.2 P.1 0) p P.1 (L place) with
      | none => (some place, P)
      | some v => pa_ L s d (place + 1) (if nb_ (P.2 P.1 0) p = 0 then (P.1 + 1, (pu_ P p v).2) else pu_ P p v) (nb_ (P.2 P.1 0) p) (if p = 4 ∧ v ≠ 99 then max far v else far))
/-- parts of a line below p -/
def ps_ (l : Nat → Nat) (p : Nat) : Prop := (1 < p → l 1 ≤ 4) ∧ (2 < p → (l 0 = 0 → l 2 ≤ 9) ∧ (l 0 = 1 ∨ l 0 = 2 → l 2 ≤ 4)) ∧ (3 < p → (l 0 = 1 ∨ l 0 = 2 → l 3 ≤ 4))
def pl2_ (far i : Nat) (l : Nat → Nat) : Prop := wl_ 9 i l ∧ (2 ≤ l 0 → l 0 ≤ 4 → l 4 ≠ 99 → l 4 ≤ far)
def pc2_ (P : pp_) (p : Nat) : Prop := P.1 < 9 ∧ P.2 P.1 0 < 7 ∧ hp_ (P.2 P.1 0) p = true ∧ ps_ (P.2 P.1) p
/-- the lines so far are lines; the one that is begun, too, as far as it goes -/
def pw_ (P : pp_) (p far : Nat) : Prop := P.1 ≤ 9 ∧ far ≤ 9 ∧ p < 5 ∧ (∀ i, i < P.1 → pl2_ far i (P.2 i)) ∧ (p ≠ 0 → pc2_ P p)
theorem kd_lt {c k : Nat} (h : kd_ c = some k) : k < 7 := by
  unfold kd_ at h
  repeat' split at h
  all_goals first | (cases h; omega) | cases h
theorem nb_hp : ∀ k, k < 7 → ∀ p, p < 5 → (1 ≤ p ∧ nb_ k p ≠ 0) → (hp_ k (nb_ k p) = true ∧ p < nb_ k p ∧ nb_ k p < 5) := by decide
theorem nb_no : ∀ k, k < 7 → ∀ p, p < 5 → ∀ q, q < 5 → (1 ≤ p ∧ p < q ∧ (nb_ k p = 0 ∨ q < nb_ k p)) → hp_ k q = false := by decide
theorem pv_4 {k n c v : Nat} (h : pv_ k 4 n c = some v) : v = 99 ∨ (n < v ∧ v ≤ 9) := by
  unfold pv_ at h
  rw [if_pos rfl] at h
  split at h
  · cases h; exact Or.inl rfl
  · split at h
    · cases h; exact Or.inr (by omega)
    · cases h
theorem pv_2 {n c v : Nat} (h : pv_ 0 2 n c = some v) : v ≤ 9 := by
  unfold pv_ at h
  rw [if_neg (by omega), if_pos ⟨rfl, rfl⟩] at h
  split at h
  · cases h; omega
  · cases h
theorem pv_x {k p n c v : Nat} (h : pv_ k p n c = some v) (hp : p ≠ 4) (h2 : ¬ (p = 2 ∧ k = 0)) : v ≤ 4 := by
  unfold pv_ at h
  rw [if_neg hp, if_neg h2] at h
  split at h
  · cases h; omega
  · cases h
theorem ps_set {l : Nat → Nat} {p n c v : Nat} (h : ps_ l p) (h1 : 1 ≤ p) (hv : pv_ (l 0) p n c = some v) : ps_ (fun q => if q = p then v else l q) (p + 1) := by
  have e0 : (fun q => if q = p then v else l q) 0 = l 0 := if_neg (by omega)
  obtain ⟨a, b, d⟩ := h
  refine ⟨fun hp => ?_, fun hp => ?_, fun hp => ?_⟩
  · show (if 1 = p then v else l 1) ≤ 4
    by_cases he : 1 = p
    · rw [if_pos he]; exact pv_x hv (by omega) (by omega)
    · rw [if_neg he]; exact a (by omega)
  · rw [e0]
    show (_ → (if 2 = p then v else l 2) ≤ 9) ∧ (_ → (if 2 = p then v else l 2) ≤ 4)
    by_cases he : 2 = p
    · rw [if_pos he]
      subst he
      exact ⟨fun h0 => by rw [h0] at hv; exact pv_2 hv, fun h0 => pv_x hv (by omega) (by omega)⟩
    · rw [if_neg he]; exact b (by omega)
  · rw [e0]
    show (_ → (if 3 = p then v else l 3) ≤ 4)
    by_cases he : 3 = p
    · rw [if_pos he]; exact fun _ => pv_x hv (by omega) (by omega)
    · rw [if_neg he]; exact d (by omega)
theorem ps_skip {l : Nat → Nat} {p q : Nat} (h : ps_ l (p + 1)) (h1 : 1 ≤ p) (hk : l 0 < 7) (hno : ∀ r, r < 5 → p < r → r < q → hp_ (l 0) r = false) : ps_ l q := by
  obtain ⟨a, b, d⟩ := h
  refine ⟨fun _ => a (by omega), fun hq => ?_, fun hq => ?_⟩
  · by_cases hp : 2 ≤ p
    · exact b (by omega)
    · have := hno 2 (by omega) (by omega) (by omega)
      rw [hp_2 _ hk] at this
      unfold h3_ at this
      simp at this
      exact ⟨fun h0 => by omega, fun h0 => by omega⟩
  · by_cases hp : 3 ≤ p
    · exact d (by omega)
    · have := hno 3 (by omega) (by omega) (by omega)
      rw [hp_3 _ hk] at this
      unfold h3_ at this
      simp at this
      exact fun h0 => by omega
theorem pu_lo {P : pp_} {p v i : Nat} (hi : i < P.1) : (pu_ P p v).2 i = P.2 i := by
  funext q; show (if i = P.1 ∧ q = p then v else P.2 i q) = _; rw [if_neg (by omega)]
theorem pu_at {P : pp_} {p v : Nat} : (pu_ P p v).2 P.1 = fun q => if q = p then v else P.2 P.1 q := by
  funext q
  show (if P.1 = P.1 ∧ q = p then v else P.2 P.1 q) = _
  by_cases h : q = p
  · rw [if_pos ⟨rfl, h⟩, if_pos h]
  · rw [if_neg (fun hh => h hh.2), if_neg h]
theorem pw_k {P : pp_} {far k : Nat} (h : pw_ P 0 far) (hn : P.1 ≠ 9) (hk : k < 7) : pw_ (pu_ P 0 k) 1 far := by
  obtain ⟨h1, h2, h3, h4, h5⟩ := h
  clear h5
  have hcur : (pu_ P 0 k).2 P.1 0 = k := by rw [pu_at]; rfl
  refine ⟨h1, h2, by omega, fun i hi => ?_, fun _ => ?_⟩
  · have hi' : i < P.1 := hi
    rw [pu_lo hi']; exact h4 i hi'
  · refine ⟨by show P.1 < 9; omega, ?_, ?_, fun h => by omega, fun h => by omega, fun h => by omega⟩
    · show (pu_ P 0 k).2 P.1 0 < 7; rw [hcur]; exact hk
    · show hp_ ((pu_ P 0 k).2 P.1 0) 1 = true; rw [hcur]; exact hp_1 k hk
theorem pl2_up {far far' i : Nat} {l : Nat → Nat} (h : pl2_ far i l) (hf : far ≤ far') : pl2_ far' i l := ⟨h.1, fun a b c => Nat.le_trans (h.2 a b c) hf⟩
/-- a line is whole -/
theorem pl2_new {l : Nat → Nat} {n p v far : Nat} (hk : l 0 < 7) (h1 : 1 ≤ p) (hp5 : p < 5) (hs : ps_ l (p + 1)) (hq : nb_ (l 0) p = 0) (hv : l p = v) (hv4 : p = 4 → v = 99 ∨ (n < v ∧ v ≤ 9)) : pl2_ (if p = 4 ∧ v ≠ 99 then max far v else far) n l := by
  have hno : ∀ r, r < 5 → p < r → hp_ (l 0) r = false := fun r hr hpr => nb_no (l 0) hk p hp5 r hr ⟨h1, hpr, Or.inl hq⟩
  have s5 : ps_ l 5 := ps_skip hs h1 hk (fun r hr hpr _ => hno r hr hpr)
  have c4 : hw_ (l 0) = true → p = 4 := fun hw => by
    apply Classical.byContradiction; intro hh
    have := hno 4 (by omega) (by omega)
    rw [hp_4 _ hk, hw] at this; cases this
  have hwo : 2 ≤ l 0 → l 0 ≤ 4 → p = 4 := fun a b => c4 (by unfold hw_; rw [decide_eq_true a, decide_eq_true b]; rfl)
  refine ⟨⟨by omega, s5.1 (by omega), (s5.2.1 (by omega)).1, fun h => ⟨(s5.2.1 (by omega)).2 h, s5.2.2 (by omega) h⟩, fun a b => ?_⟩, fun a b c => ?_⟩
  · have hp4 := hwo a b
    have hl4 : l 4 = v := by have := hv; rw [hp4] at this; exact this
    rw [hl4]; exact hv4 hp4
  · have hp4 := hwo a b
    have hl4 : l 4 = v := by have := hv; rw [hp4] at this; exact this
    rw [hl4] at c ⊢
    rw [if_pos ⟨hp4, c⟩]
    exact Nat.le_max_right _ _
theorem pw_v {P : pp_} {p far v c : Nat} (h : pw_ P p far) (hp : p ≠ 0) (hv : pv_ (P.2 P.1 0) p P.1 c = some v) : pw_ (if nb_ (P.2 P.1 0) p = 0 then (P.1 + 1, (pu_ P p v).2) else pu_ P p v) (nb_ (P.2 P.1 0) p) (if p = 4 ∧ v ≠ 99 then max far v else far) := by
  obtain ⟨h1, h2, h3, h4, h5⟩ := h
  obtain ⟨g1, g2, g3, g4⟩ := h5 hp
  clear h5
  have hp1 : 1 ≤ p := by omega
  have hfar : far ≤ (if p = 4 ∧ v ≠ 99 then max far v else far) ∧ (if p = 4 ∧ v ≠ 99 then max far v else far) ≤ 9 := by
    split
    · rename_i hh
      have := hh.1
      subst this
      have := pv_4 hv
      omega
    · omega
  have e0 : (pu_ P p v).2 P.1 0 = P.2 P.1 0 := by rw [pu_at]; exact if_neg (by omega)
  have hs : ps_ ((pu_ P p v).2 P.1) (p + 1) := by rw [pu_at]; exact ps_set g4 hp1 hv
  by_cases hq0 : nb_ (P.2 P.1 0) p = 0
  · rw [if_pos hq0, hq0]
    refine ⟨by show P.1 + 1 ≤ 9; omega, hfar.2, by omega, fun i hi => ?_, fun h => absurd rfl h⟩
    have hi : i < P.1 + 1 := hi
    show pl2_ _ i ((pu_ P p v).2 i)
    by_cases hin : i = P.1
    · rw [hin]
      exact pl2_new (by rw [e0]; exact g2) hp1 h3 hs (by rw [e0]; exact hq0) (by rw [pu_at]; exact if_pos rfl) (fun h4 => by subst h4; exact pv_4 hv)
    · rw [pu_lo (by omega)]
      exact pl2_up (h4 i (by omega)) hfar.1
  · rw [if_neg hq0]
    obtain ⟨b1, b2', b3⟩ := nb_hp (P.2 P.1 0) g2 p h3 ⟨hp1, hq0⟩
    refine ⟨h1, hfar.2, b3, fun i hi => ?_, fun _ => ⟨g1, ?_, ?_, ?_⟩⟩
    · have hi : i < P.1 := hi
      rw [pu_lo hi]
      exact pl2_up (h4 i hi) hfar.1
    · show (pu_ P p v).2 P.1 0 < 7; rw [e0]; exact g2
    · show hp_ ((pu_ P p v).2 P.1 0) _ = true; rw [e0]; exact b1
    · show ps_ ((pu_ P p v).2 P.1) _
      exact ps_skip hs hp1 (by rw [e0]; exact g2) (fun r hr hpr hrq => by rw [e0]; exact nb_no (P.2 P.1 0) g2 p h3 r hr ⟨hp1, hpr, Or.inr hrq⟩)
/-- a text that has no fault tells a program -/
theorem pa_wf {L : Nat → Nat} {s : Nat} : ∀ (d place : Nat) (P : pp_) (p far : Nat), pw_ P p far → (pa_ L s d place P p far).1 = none → wf_ (pa_ L s d place P p far).2
  | 0, place, P, p, far, h, hn => by
    unfold pa_ at hn ⊢
    simp only at hn ⊢
    split at hn
    · rename_i hh
      obtain ⟨h1, h2, h3, h4, h5⟩ := h
      refine ⟨h1, fun i hi => ?_⟩
      obtain ⟨⟨a0, a1, a2, a3, a4⟩, b⟩ := h4 i hi
      refine ⟨a0, a1, a2, a3, fun x y => ?_⟩
      rcases a4 x y with h | h
      · exact Or.inl h
      · by_cases h99 : P.2 i 4 = 99
        · exact Or.inl h99
        · exact Or.inr ⟨h.1, Nat.le_trans (b x y h99) hh.2⟩
    · cases hn
  | d + 1, place, P, p, far, h, hn => by
    unfold pa_ at hn ⊢
    by_cases hp : p = 0
    · subst hp
      simp only [if_true] at hn ⊢
      cases hk : kd_ (L place) with
      | none => rw [hk] at hn; cases hn
      | some k =>
        rw [hk] at hn
        simp only at hn ⊢
        by_cases h9 : P.1 = 9
        · rw [if_pos h9] at hn; cases hn
        · rw [if_neg h9] at hn ⊢
          exact pa_wf d _ _ _ _ (pw_k h h9 (kd_lt hk)) hn
    · simp only [hp, if_false] at hn ⊢
      cases hv : pv_ (P.2 P.1 0) p P.1 (L place) with
      | none => rw [hv] at hn; cases hn
      | some v =>
        rw [hv] at hn
        simp only at hn ⊢
        exact pa_wf d _ _ _ _ (pw_v h hp hv) hn
/-! the class reads -/
theorem s_add {σ : mm_M} {s : Nat} {c : Int32} (hs : σ.1 1 0 = nI s) (h : s ≤ 48) : mm_ev mX7_add [.ref 1, .int c] mm_H σ = some (some (.int (nI (b2 (decide (s < 48))))), mm_H, if s < 48 then mm_si (mm_si σ 2 s c) 1 0 (nI (s + 1)) else σ) := by
  by_cases hlt : s < 48
  · have g : ¬ 48 ≤ s := by omega
    rw [if_pos hlt, decide_eq_true hlt]
    simp (disch := omega) only [vX7_add, rX7_add_0, rX7_add_1, rX7_add_4, rX7_add_6, rX7_add_9, rX7_add_10, rX7_add_11, rX7_add_12, rX7_add_15, rX7_add_16, rX7_add_19, rX7_add_20, rX7_add_21, rX7_add_22, rX7_add_23, rX7_add_26, rX7_add_27, rX7_add_28, rX7_add_31, rX7_add_32, mm_gd_t, mm_kc_v, mm_kc_n, mm_rfs, kl_n, kl_i, kl_r, kl_l, so_0, so_1, so_2, so_3, so_4, beq_self_eq_true, Bool.true_and, Bool.and_true, Bool.or_true, Bool.true_or, Bool.false_or, Bool.or_false, if_true, if_false, ↓reduceIte, decide_true, decide_false, Bool.not_false, Bool.not_true, not_true_eq_false, not_false_eq_true, eq_self, Nat.not_lt_zero, Bool.true_eq_false, Bool.false_eq_true, Nat.reduceAdd, Nat.reduceMul, Nat.reduceSub, Nat.reduceEqDiff, Nat.reduceLeDiff, Nat.reduceLT, Nat.reduceDiv, Nat.reduceMod, zb_0, zb_1, zb_b, on_nI, ml_l, rl_sl1, rl_sl2, rl_eq, rl_nj, rl_nk, qL_0, qL_1, qL_11, qL_10000, nI_lL, lN_add, lN_mul, Nat.zero_add, Nat.add_zero, mm_zr0n, mm_zr1n, mm_zrb, b2_0, b2_1, pk_mul, tn_nI, in_nI, mi_lt, rd_eq, rd_nj, rd_nk, rs_eq, rs_nk, rl_si, rl_sA, nI_add, nI_eqI, nI_leI2, nI_ltI2, ql_0, ql_1, ql_2, ql_3, ql_4, ql_5, ql_6, ql_7, ql_8, ql_9, ql_10, ql_11, ql_12, ql_13, ql_14, ql_15, ql_16, ql_17, ql_18, ql_19, ql_20, ql_24, ql_25, ql_26, ql_27, ql_31, ql_32, ql_33, ql_36, ql_45, ql_46, ql_47, ql_48, ql_49, ql_50, ql_57, ql_63, ql_64, ql_65, ql_66, ql_67, ql_68, ql_69, ql_70, ql_71, ql_72, ql_73, ql_74, ql_75, ql_76, ql_77, ql_78, ql_79, ql_80, ql_81, ql_82, ql_83, ql_84, ql_85, ql_86, ql_87, ql_93, ql_96, ql_97, ql_100, ql_101, ql_120, ql_255, ql_256, ql_257, ql_511, ql_672, ql_900, ql_1000, ql_65536, rho_1_1, kd_1, kd_2, ir_2, iw_2, al_2, hs, hlt, g, b2_t]
  · have g : 48 ≤ s := by omega
    rw [if_neg hlt, decide_eq_false hlt]
    simp (disch := omega) only [vX7_add, rX7_add_0, rX7_add_1, rX7_add_4, rX7_add_6, rX7_add_9, rX7_add_10, rX7_add_11, rX7_add_12, rX7_add_15, rX7_add_16, rX7_add_19, rX7_add_20, rX7_add_21, rX7_add_22, rX7_add_23, rX7_add_26, rX7_add_27, rX7_add_28, rX7_add_31, rX7_add_32, mm_gd_t, mm_kc_v, mm_kc_n, mm_rfs, kl_n, kl_i, kl_r, kl_l, so_0, so_1, so_2, so_3, so_4, beq_self_eq_true, Bool.true_and, Bool.and_true, Bool.or_true, Bool.true_or, Bool.false_or, Bool.or_false, if_true, if_false, ↓reduceIte, decide_true, decide_false, Bool.not_false, Bool.not_true, not_true_eq_false, not_false_eq_true, eq_self, Nat.not_lt_zero, Bool.true_eq_false, Bool.false_eq_true, Nat.reduceAdd, Nat.reduceMul, Nat.reduceSub, Nat.reduceEqDiff, Nat.reduceLeDiff, Nat.reduceLT, Nat.reduceDiv, Nat.reduceMod, zb_0, zb_1, zb_b, on_nI, ml_l, rl_sl1, rl_sl2, rl_eq, rl_nj, rl_nk, qL_0, qL_1, qL_11, qL_10000, nI_lL, lN_add, lN_mul, Nat.zero_add, Nat.add_zero, mm_zr0n, mm_zr1n, mm_zrb, b2_0, b2_1, pk_mul, tn_nI, in_nI, mi_lt, rd_eq, rd_nj, rd_nk, rs_eq, rs_nk, rl_si, rl_sA, nI_add, nI_eqI, nI_leI2, nI_ltI2, ql_0, ql_1, ql_2, ql_3, ql_4, ql_5, ql_6, ql_7, ql_8, ql_9, ql_10, ql_11, ql_12, ql_13, ql_14, ql_15, ql_16, ql_17, ql_18, ql_19, ql_20, ql_24, ql_25, ql_26, ql_27, ql_31, ql_32, ql_33, ql_36, ql_45, ql_46, ql_47, ql_48, ql_49, ql_50, ql_57, ql_63, ql_64, ql_65, ql_66, ql_67, ql_68, ql_69, ql_70, ql_71, ql_72, ql_73, ql_74, ql_75, ql_76, ql_77, ql_78, ql_79, ql_80, ql_81, ql_82, ql_83, ql_84, ql_85, ql_86, ql_87, ql_93, ql_96, ql_97, ql_100, ql_101, ql_120, ql_255, ql_256, ql_257, ql_511, ql_672, ql_900, ql_1000, ql_65536, rho_1_1, kd_1, kd_2, ir_2, iw_2, al_2, hs, hlt, g, b2_f]
/-- the draft holds the lines so far, and the begun one below part p -/
def dr2_ (σ : mm_M) (P : pp_) (p : Nat) : Prop := σ.1 3 0 = nI P.1 ∧ (∀ i, i < P.1 → ∀ q, q < 5 → σ.1 (5 + i) q = cv_ (P.2 i 0) q (P.2 i q)) ∧ (p ≠ 0 → ∀ q, q < 5 → σ.1 (5 + P.1) q = if q < p then cv_ (P.2 P.1 0) q (P.2 P.1 q) else -nI 9)
theorem kI_none {c : Nat} (h : kd_ c = none) : kI_ c = -nI 1 := by unfold kI_; rw [h]
theorem kI_some {c k : Nat} (h : kd_ c = some k) : kI_ c = nI k := by unfold kI_; rw [h]
theorem cv_0 {k v : Nat} (hk : k < 7) : cv_ k 0 v = nI v := by unfold cv_; rw [hp_0 k hk]; simp
theorem s_begin {σ : mm_M} {n c : Nat} (hn : n ≤ 9) (hc : c < 256) (h3 : σ.1 3 0 = nI n) :
    match kd_ c with
    | none => mm_ev mX7_begin [.ref 3, .int (nI c)] mm_H σ = some (some (.int (nI 0)), mm_H, σ)
    | some k => if n = 9 then mm_ev mX7_begin [.ref 3, .int (nI c)] mm_H σ = some (some (.int (nI 0)), mm_H, σ) else ∃ σ', mm_ev mX7_begin [.ref 3, .int (nI c)] mm_H σ = some (some (.int (nI 1)), mm_H, σ') ∧ fr_ (5 + n) (6 + n) σ σ' ∧ ∀ q, q < 5 → σ'.1 (5 + n) q = if q = 0 then nI k else -nI 9 := by
  have eI := s_indexOf (σ := σ) hc
  have hch := ch_nI (c := c) (by omega)
  cases hk : kd_ c with
  | none =>
    rw [kI_none hk] at eI
    simp only
    simp (disch := omega) only [vX7_begin, rX7_begin_0, rX7_begin_2, rX7_begin_3, rX7_begin_4, rX7_begin_7, rX7_begin_8, rX7_begin_9, rX7_begin_12, rX7_begin_13, rX7_begin_16, rX7_begin_18, rX7_begin_21, rX7_begin_22, rX7_begin_23, rX7_begin_24, rX7_begin_27, rX7_begin_28, rX7_begin_31, rX7_begin_32, rX7_begin_34, rX7_begin_37, rX7_begin_38, rX7_begin_41, rX7_begin_42, rX7_begin_45, rX7_begin_46, rX7_begin_47, rX7_begin_48, rX7_begin_49, rX7_begin_50, mm_gd_t, mm_kc_v, mm_kc_n, mm_rfs, kl_n, kl_i, kl_r, kl_l, so_0, so_1, so_2, so_3, so_4, beq_self_eq_true, Bool.true_and, Bool.and_true, Bool.or_true, Bool.true_or, Bool.false_or, Bool.or_false, if_true, if_false, ↓reduceIte, decide_true, decide_false, Bool.not_false, Bool.not_true, not_true_eq_false, not_false_eq_true, eq_self, Nat.not_lt_zero, Bool.true_eq_false, Bool.false_eq_true, Nat.reduceAdd, Nat.reduceMul, Nat.reduceSub, Nat.reduceEqDiff, Nat.reduceLeDiff, Nat.reduceLT, Nat.reduceDiv, Nat.reduceMod, zb_0, zb_1, zb_b, on_nI, ml_l, rl_sl1, rl_sl2, rl_eq, rl_nj, rl_nk, qL_0, qL_1, qL_11, qL_10000, nI_lL, lN_add, lN_mul, Nat.zero_add, Nat.add_zero, mm_zr0n, mm_zr1n, mm_zrb, b2_0, b2_1, pk_mul, tn_nI, in_nI, mi_lt, rd_eq, rd_nj, rd_nk, rs_eq, rs_nk, rl_si, rl_sA, nI_add, nI_eqI, nI_leI2, nI_ltI2, ql_0, ql_1, ql_2, ql_3, ql_4, ql_5, ql_6, ql_7, ql_8, ql_9, ql_10, ql_11, ql_12, ql_13, ql_14, ql_15, ql_16, ql_17, ql_18, ql_19, ql_20, ql_24, ql_25, ql_26, ql_27, ql_31, ql_32, ql_33, ql_36, ql_45, ql_46, ql_47, ql_48, ql_49, ql_50, ql_57, ql_63, ql_64, ql_65, ql_66, ql_67, ql_68, ql_69, ql_70, ql_71, ql_72, ql_73, ql_74, ql_75, ql_76, ql_77, ql_78, ql_79, ql_80, ql_81, ql_82, ql_83, ql_84, ql_85, ql_86, ql_87, ql_93, ql_96, ql_97, ql_100, ql_101, ql_120, ql_255, ql_256, ql_257, ql_511, ql_672, ql_900, ql_1000, ql_65536, rho_3_1, rho_3_2, kd_3, hch, eI, nI_n4]
    rw [show (1003 : Nat) = 1003 from rfl]
    simp (disch := omega) only [vX7_begin, rX7_begin_0, rX7_begin_2, rX7_begin_3, rX7_begin_4, rX7_begin_7, rX7_begin_8, rX7_begin_9, rX7_begin_12, rX7_begin_13, rX7_begin_16, rX7_begin_18, rX7_begin_21, rX7_begin_22, rX7_begin_23, rX7_begin_24, rX7_begin_27, rX7_begin_28, rX7_begin_31, rX7_begin_32, rX7_begin_34, rX7_begin_37, rX7_begin_38, rX7_begin_41, rX7_begin_42, rX7_begin_45, rX7_begin_46, rX7_begin_47, rX7_begin_48, rX7_begin_49, rX7_begin_50, mm_gd_t, mm_kc_v, mm_kc_n, mm_rfs, kl_n, kl_i, kl_r, kl_l, so_0, so_1, so_2, so_3, so_4, beq_self_eq_true, Bool.true_and, Bool.and_true, Bool.or_true, Bool.true_or, Bool.false_or, Bool.or_false, if_true, if_false, ↓reduceIte, decide_true, decide_false, Bool.not_false, Bool.not_true, not_true_eq_false, not_false_eq_true, eq_self, Nat.not_lt_zero, Bool.true_eq_false, Bool.false_eq_true, Nat.reduceAdd, Nat.reduceMul, Nat.reduceSub, Nat.reduceEqDiff, Nat.reduceLeDiff, Nat.reduceLT, Nat.reduceDiv, Nat.reduceMod, zb_0, zb_1, zb_b, on_nI, ml_l, rl_sl1, rl_sl2, rl_eq, rl_nj, rl_nk, qL_0, qL_1, qL_11, qL_10000, nI_lL, lN_add, lN_mul, Nat.zero_add, Nat.add_zero, mm_zr0n, mm_zr1n, mm_zrb, b2_0, b2_1, pk_mul, tn_nI, in_nI, mi_lt, rd_eq, rd_nj, rd_nk, rs_eq, rs_nk, rl_si, rl_sA, nI_add, nI_eqI, nI_leI2, nI_ltI2, ql_0, ql_1, ql_2, ql_3, ql_4, ql_5, ql_6, ql_7, ql_8, ql_9, ql_10, ql_11, ql_12, ql_13, ql_14, ql_15, ql_16, ql_17, ql_18, ql_19, ql_20, ql_24, ql_25, ql_26, ql_27, ql_31, ql_32, ql_33, ql_36, ql_45, ql_46, ql_47, ql_48, ql_49, ql_50, ql_57, ql_63, ql_64, ql_65, ql_66, ql_67, ql_68, ql_69, ql_70, ql_71, ql_72, ql_73, ql_74, ql_75, ql_76, ql_77, ql_78, ql_79, ql_80, ql_81, ql_82, ql_83, ql_84, ql_85, ql_86, ql_87, ql_93, ql_96, ql_97, ql_100, ql_101, ql_120, ql_255, ql_256, ql_257, ql_511, ql_672, ql_900, ql_1000, ql_65536, rho_3_1, rho_3_2, kd_3, hch, eI, nI_n4, show mm_kd 135 1003 = 32 from rfl]
  | some k =>
    have hk7 := kd_lt hk
    rw [kI_some hk] at eI
    simp only
    by_cases h9 : n = 9
    · rw [if_pos h9]
      subst h9
      simp (disch := omega) only [vX7_begin, rX7_begin_0, rX7_begin_2, rX7_begin_3, rX7_begin_4, rX7_begin_7, rX7_begin_8, rX7_begin_9, rX7_begin_12, rX7_begin_13, rX7_begin_16, rX7_begin_18, rX7_begin_21, rX7_begin_22, rX7_begin_23, rX7_begin_24, rX7_begin_27, rX7_begin_28, rX7_begin_31, rX7_begin_32, rX7_begin_34, rX7_begin_37, rX7_begin_38, rX7_begin_41, rX7_begin_42, rX7_begin_45, rX7_begin_46, rX7_begin_47, rX7_begin_48, rX7_begin_49, rX7_begin_50, mm_gd_t, mm_kc_v, mm_kc_n, mm_rfs, kl_n, kl_i, kl_r, kl_l, so_0, so_1, so_2, so_3, so_4, beq_self_eq_true, Bool.true_and, Bool.and_true, Bool.or_true, Bool.true_or, Bool.false_or, Bool.or_false, if_true, if_false, ↓reduceIte, decide_true, decide_false, Bool.not_false, Bool.not_true, not_true_eq_false, not_false_eq_true, eq_self, Nat.not_lt_zero, Bool.true_eq_false, Bool.false_eq_true, Nat.reduceAdd, Nat.reduceMul, Nat.reduceSub, Nat.reduceEqDiff, Nat.reduceLeDiff, Nat.reduceLT, Nat.reduceDiv, Nat.reduceMod, zb_0, zb_1, zb_b, on_nI, ml_l, rl_sl1, rl_sl2, rl_eq, rl_nj, rl_nk, qL_0, qL_1, qL_11, qL_10000, nI_lL, lN_add, lN_mul, Nat.zero_add, Nat.add_zero, mm_zr0n, mm_zr1n, mm_zrb, b2_0, b2_1, pk_mul, tn_nI, in_nI, mi_lt, rd_eq, rd_nj, rd_nk, rs_eq, rs_nk, rl_si, rl_sA, nI_add, nI_eqI, nI_leI2, nI_ltI2, ql_0, ql_1, ql_2, ql_3, ql_4, ql_5, ql_6, ql_7, ql_8, ql_9, ql_10, ql_11, ql_12, ql_13, ql_14, ql_15, ql_16, ql_17, ql_18, ql_19, ql_20, ql_24, ql_25, ql_26, ql_27, ql_31, ql_32, ql_33, ql_36, ql_45, ql_46, ql_47, ql_48, ql_49, ql_50, ql_57, ql_63, ql_64, ql_65, ql_66, ql_67, ql_68, ql_69, ql_70, ql_71, ql_72, ql_73, ql_74, ql_75, ql_76, ql_77, ql_78, ql_79, ql_80, ql_81, ql_82, ql_83, ql_84, ql_85, ql_86, ql_87, ql_93, ql_96, ql_97, ql_100, ql_101, ql_120, ql_255, ql_256, ql_257, ql_511, ql_672, ql_900, ql_1000, ql_65536, rho_3_1, rho_3_2, kd_3, hch, eI, h3, show mm_kd 135 1003 = 32 from rfl]
    · rw [if_neg h9]
      have g : ¬ 9 ≤ n := by omega
      have g2 : n < 9 := by omega
      obtain ⟨σ1, e1, f1, g1⟩ := s_fill (σ := σ) (k := 5 + n) (n := 5) (w := -nI 9) (ir_5r n g2) (iw_5r n g2) (fun σ => al_5s g2) (by omega)
      have h31 : σ1.1 3 0 = nI n := by rw [f1.1 3 (by omega)]; exact h3
      refine ⟨mm_si σ1 (5 + n) 0 (nI k), ?_, fr_si (fr_wd f1 (by omega) (by omega)) (by omega) (by omega), fun q hq => ?_⟩
      · simp (disch := omega) only [vX7_begin, rX7_begin_0, rX7_begin_2, rX7_begin_3, rX7_begin_4, rX7_begin_7, rX7_begin_8, rX7_begin_9, rX7_begin_12, rX7_begin_13, rX7_begin_16, rX7_begin_18, rX7_begin_21, rX7_begin_22, rX7_begin_23, rX7_begin_24, rX7_begin_27, rX7_begin_28, rX7_begin_31, rX7_begin_32, rX7_begin_34, rX7_begin_37, rX7_begin_38, rX7_begin_41, rX7_begin_42, rX7_begin_45, rX7_begin_46, rX7_begin_47, rX7_begin_48, rX7_begin_49, rX7_begin_50, mm_gd_t, mm_kc_v, mm_kc_n, mm_rfs, kl_n, kl_i, kl_r, kl_l, so_0, so_1, so_2, so_3, so_4, beq_self_eq_true, Bool.true_and, Bool.and_true, Bool.or_true, Bool.true_or, Bool.false_or, Bool.or_false, if_true, if_false, ↓reduceIte, decide_true, decide_false, Bool.not_false, Bool.not_true, not_true_eq_false, not_false_eq_true, eq_self, Nat.not_lt_zero, Bool.true_eq_false, Bool.false_eq_true, Nat.reduceAdd, Nat.reduceMul, Nat.reduceSub, Nat.reduceEqDiff, Nat.reduceLeDiff, Nat.reduceLT, Nat.reduceDiv, Nat.reduceMod, zb_0, zb_1, zb_b, on_nI, ml_l, rl_sl1, rl_sl2, rl_eq, rl_nj, rl_nk, qL_0, qL_1, qL_11, qL_10000, nI_lL, lN_add, lN_mul, Nat.zero_add, Nat.add_zero, mm_zr0n, mm_zr1n, mm_zrb, b2_0, b2_1, pk_mul, tn_nI, in_nI, mi_lt, rd_eq, rd_nj, rd_nk, rs_eq, rs_nk, rl_si, rl_sA, nI_add, nI_eqI, nI_leI2, nI_ltI2, ql_0, ql_1, ql_2, ql_3, ql_4, ql_5, ql_6, ql_7, ql_8, ql_9, ql_10, ql_11, ql_12, ql_13, ql_14, ql_15, ql_16, ql_17, ql_18, ql_19, ql_20, ql_24, ql_25, ql_26, ql_27, ql_31, ql_32, ql_33, ql_36, ql_45, ql_46, ql_47, ql_48, ql_49, ql_50, ql_57, ql_63, ql_64, ql_65, ql_66, ql_67, ql_68, ql_69, ql_70, ql_71, ql_72, ql_73, ql_74, ql_75, ql_76, ql_77, ql_78, ql_79, ql_80, ql_81, ql_82, ql_83, ql_84, ql_85, ql_86, ql_87, ql_93, ql_96, ql_97, ql_100, ql_101, ql_120, ql_255, ql_256, ql_257, ql_511, ql_672, ql_900, ql_1000, ql_65536, rho_3_1, rho_3_2, rho_4_0, rho_4_1, rho_4_2, rho_4_3, rho_4_4, rho_4_5, rho_4_6, rho_4_7, rho_4_8, kd_3, kd_4, al_4, hch, eI, h3, h31, g, g2, rho_4r, e1, iw_5r, al_5s, show mm_kd 135 1003 = 32 from rfl]
      · by_cases hq0 : q = 0
        · rw [if_pos hq0, hq0, rd_eq]
        · rw [if_neg hq0, rd_nj hq0]; exact g1 q hq

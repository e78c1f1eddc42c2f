/-! ===== the reference reads its text ===== -/
def lm_ok (σ : mm_M) (s : Nat) (L : Nat → Nat) : Prop := s ≤ 48 ∧ σ.1 120 4 = nI s ∧ (∀ j, j < s → σ.1 122 j = nI (L j)) ∧ ∀ j, L j < 256
/-- only the trial level has changed -/
def fZ_ (σ σ' : mm_M) : Prop := (∀ k j, (k ≠ 121 ∨ j < 48) → (k ≠ 120 ∨ j ≠ 2) → σ'.1 k j = σ.1 k j) ∧ σ'.2 = σ.2
theorem fZ_refl (σ : mm_M) : fZ_ σ σ := ⟨fun _ _ _ _ => rfl, rfl⟩
theorem fZ_tr {a b c : mm_M} (h1 : fZ_ a b) (h2 : fZ_ b c) : fZ_ a c := ⟨fun k j x y => (h2.1 k j x y).trans (h1.1 k j x y), h2.2.trans h1.2⟩
theorem fZ_si {σ : mm_M} {j : Nat} {v : Int32} (h : 48 ≤ j) : fZ_ σ (mm_si σ 121 j v) := ⟨fun k j' x _ => by
  by_cases hk : k = 121
  · subst hk; rw [rd_nj (by omega)]
  · rw [rd_nk hk], rfl⟩
theorem lm_fZ {σ σ' : mm_M} {s : Nat} {L : Nat → Nat} (h : lm_ok σ s L) (hf : fZ_ σ σ') : lm_ok σ' s L := by
  obtain ⟨a, b, c, d⟩ := h
  exact ⟨a, by rw [hf.1 120 4 (by omega) (by omega)]; exact b, fun j hj => by rw [hf.1 122 j (by omega) (by omega)]; exact c j hj, d⟩
/-- the trial level holds the lines so far, the begun one below part p, and nothing behind -/
def tl_ (σ : mm_M) (P : pp_) (p : Nat) : Prop := (∀ i, i < P.1 → ∀ q, q < 5 → σ.1 121 (48 + 9 * q + i) = mv_ (P.2 i 0) q (P.2 i q)) ∧ (∀ q, q < 5 → P.1 < 9 → σ.1 121 (48 + 9 * q + P.1) = if q < p then mv_ (P.2 P.1 0) q (P.2 P.1 q) else nI 0) ∧ ∀ i, P.1 < i → i < 9 → ∀ q, q < 5 → σ.1 121 (48 + 9 * q + i) = nI 0
theorem mv_no {k q v : Nat} (h : hp_ k q = false) : mv_ k q v = nI 0 := by unfold mv_; rw [h, if_neg (by decide)]
theorem mv_has {k q v : Nat} (h : hp_ k q = true) : mv_ k q v = if q = 4 ∧ v = 99 then -nI 1 else nI v := by unfold mv_; rw [h, if_pos rfl]
theorem tl_k {σ : mm_M} {P : pp_} {k : Nat} (h : tl_ σ P 0) (hk : k < 7) (hn : P.1 < 9) : tl_ (mm_si σ 121 (48 + P.1) (nI k)) (pu_ P 0 k) 1 := by
  obtain ⟨a, b, c⟩ := h
  refine ⟨fun i hi q hq => ?_, fun q hq _ => ?_, fun i hi hi9 q hq => ?_⟩
  · have hi : i < P.1 := hi
    rw [pu_lo hi, rd_nj (by omega)]; exact a i hi q hq
  · show (mm_si σ 121 (48 + P.1) (nI k)).1 121 (48 + 9 * q + P.1) = if q < 1 then mv_ ((pu_ P 0 k).2 P.1 0) q ((pu_ P 0 k).2 P.1 q) else nI 0
    rw [pu_at]
    by_cases hq0 : q = 0
    · subst hq0
      rw [if_pos (by omega), Nat.mul_zero, Nat.add_zero, rd_eq]
      show nI k = mv_ k 0 k
      rw [mv_has (hp_0 k hk)]; simp
    · rw [if_neg (by omega), rd_nj (by omega), b q hq hn, if_neg (by omega)]
  · have hi : P.1 < i := hi
    rw [rd_nj (by omega)]; exact c i hi hi9 q hq
theorem tl_v {σ : mm_M} {P : pp_} {p far v c : Nat} (h : tl_ σ P p) (hw : pw_ P p far) (hp : p ≠ 0) (hv : pv_ (P.2 P.1 0) p P.1 c = some v) : tl_ (mm_si σ 121 (48 + 9 * p + P.1) (if p = 4 ∧ v = 99 then -nI 1 else nI v)) (if nb_ (P.2 P.1 0) p = 0 then (P.1 + 1, (pu_ P p v).2) else pu_ P p v) (nb_ (P.2 P.1 0) p) := by
  obtain ⟨a, b, d⟩ := h
  obtain ⟨w1, w2, w3, w4, w5⟩ := hw
  obtain ⟨g1, g2, g3, g4⟩ := w5 hp
  clear w5 w4 g4
  have hp1 : 1 ≤ p := by omega
  have hk0 : (pu_ P p v).2 P.1 0 = P.2 P.1 0 := by rw [pu_at]; exact if_neg (by omega)
  have hr1 : ∀ q, q < 5 → (mm_si σ 121 (48 + 9 * p + P.1) (if p = 4 ∧ v = 99 then -nI 1 else nI v)).1 121 (48 + 9 * q + P.1) = if q = p then (if p = 4 ∧ v = 99 then -nI 1 else nI v) else σ.1 121 (48 + 9 * q + P.1) := fun q _ => by
    by_cases hq : q = p
    · rw [if_pos hq, hq, rd_eq]
    · rw [if_neg hq, rd_nj (by omega)]
  have hbelow : ∀ q, q < 5 → (nb_ (P.2 P.1 0) p = 0 ∨ q < nb_ (P.2 P.1 0) p) → (mm_si σ 121 (48 + 9 * p + P.1) (if p = 4 ∧ v = 99 then -nI 1 else nI v)).1 121 (48 + 9 * q + P.1) = mv_ (P.2 P.1 0) q ((pu_ P p v).2 P.1 q) := fun q hq hqn => by
    rw [hr1 q hq, pu_at]
    show _ = mv_ (P.2 P.1 0) q (if q = p then v else P.2 P.1 q)
    by_cases hqp : q = p
    · rw [if_pos hqp, if_pos hqp, hqp, mv_has g3]
    · rw [if_neg hqp, if_neg hqp, b q hq g1]
      by_cases hlt : q < p
      · rw [if_pos hlt]
      · rw [if_neg hlt, mv_no (nb_no (P.2 P.1 0) g2 p w3 q hq ⟨hp1, by omega, hqn⟩)]
  have hlow : ∀ i, i < P.1 → ∀ q, q < 5 → (mm_si σ 121 (48 + 9 * p + P.1) (if p = 4 ∧ v = 99 then -nI 1 else nI v)).1 121 (48 + 9 * q + i) = mv_ (P.2 i 0) q (P.2 i q) := fun i hi q hq => by rw [rd_nj (by omega)]; exact a i hi q hq
  have hhigh : ∀ i, P.1 < i → i < 9 → ∀ q, q < 5 → (mm_si σ 121 (48 + 9 * p + P.1) (if p = 4 ∧ v = 99 then -nI 1 else nI v)).1 121 (48 + 9 * q + i) = nI 0 := fun i hi hi9 q hq => by rw [rd_nj (by omega)]; exact d i hi hi9 q hq
  by_cases hq0 : nb_ (P.2 P.1 0) p = 0
  · rw [if_pos hq0, hq0]
    rw [hq0] at hbelow
    refine ⟨fun i hi q hq => ?_, fun q hq h9 => ?_, fun i hi hi9 q hq => ?_⟩
    · have hi : i < P.1 + 1 := hi
      show _ = mv_ ((pu_ P p v).2 i 0) q ((pu_ P p v).2 i q)
      by_cases hin : i = P.1
      · rw [hin, hk0]; exact hbelow q hq (Or.inl rfl)
      · rw [pu_lo (by omega)]; exact hlow i (by omega) q hq
    · have h9 : P.1 + 1 < 9 := h9
      rw [if_neg (show ¬ q < 0 by omega)]
      exact hhigh (P.1 + 1) (by omega) h9 q hq
    · have hi : P.1 + 1 < i := hi
      exact hhigh i (by omega) hi9 q hq
  · rw [if_neg hq0]
    have hnb := nb_hp (P.2 P.1 0) g2 p w3 ⟨hp1, hq0⟩
    refine ⟨fun i hi q hq => ?_, fun q hq _ => ?_, fun i hi hi9 q hq => ?_⟩
    · have hi : i < P.1 := hi
      rw [pu_lo hi]; exact hlow i hi q hq
    · show _ = if q < nb_ (P.2 P.1 0) p then mv_ ((pu_ P p v).2 P.1 0) q ((pu_ P p v).2 P.1 q) else nI 0
      by_cases hqn : q < nb_ (P.2 P.1 0) p
      · rw [if_pos hqn, hk0]; exact hbelow q hq (Or.inr hqn)
      · rw [if_neg hqn]
        show (mm_si σ 121 (48 + 9 * p + P.1) _).1 121 (48 + 9 * q + P.1) = nI 0
        rw [hr1 q hq, if_neg (by omega), b q hq g1, if_neg (by omega)]
    · have hi : P.1 < i := hi
      exact hhigh i hi hi9 q hq
/-- a letter at a place, as a part; none behind the end -/
def op_ (L : Nat → Nat) (s k p n place : Nat) : Option Nat := if place < s then pv_ k p n (L place) else none
theorem pa_n {L : Nat → Nat} {s d place : Nat} {P : pp_} {p far : Nat} (h : place + d = s) (hp : p ≠ 0) (ho : op_ L s (P.2 P.1 0) p P.1 place = none) : (pa_ L s d place P p far).1 = some place := by
  unfold op_ at ho
  cases d with
  | zero =>
    unfold pa_
    rw [if_neg (fun hh => hp hh.1)]
    show some s = some place
    rw [show s = place by omega]
  | succ d =>
    rw [if_pos (by omega)] at ho
    rw [pa_, if_neg hp, ho]
theorem pa_s {L : Nat → Nat} {s d place : Nat} {P : pp_} {p far v : Nat} (h : place + d = s) (hp : p ≠ 0) (ho : op_ L s (P.2 P.1 0) p P.1 place = some v) : ∃ d', d = d' + 1 ∧ pv_ (P.2 P.1 0) p P.1 (L place) = some v ∧ pa_ L s d place P p far = pa_ L s d' (place + 1) (if nb_ (P.2 P.1 0) p = 0 then (P.1 + 1, (pu_ P p v).2) else pu_ P p v) (nb_ (P.2 P.1 0) p) (if p = 4 ∧ v ≠ 99 then max far v else far) := by
  unfold op_ at ho
  cases d with
  | zero => rw [if_neg (by omega)] at ho; cases ho
  | succ d =>
    rw [if_pos (by omega)] at ho
    exact ⟨d, rfl, ho, by rw [pa_, if_neg hp, ho]⟩
theorem in_lit {a c b : Nat} {x y : Int64} (hx : x.toInt = (a : Int)) (hy : y.toInt = (b : Int)) (hc : c < 2147483648) : (decide (x.toInt ≤ (lN c).toInt) && decide ((lN c).toInt ≤ y.toInt)) = decide (a ≤ c ∧ c ≤ b) := by
  rw [hx, hy, lN_toInt (show c < 2 ^ 31 by omega), Bool.decide_and]
  congr 1
  · exact decide_eq_decide.2 (by omega)
  · exact decide_eq_decide.2 (by omega)
theorem x_variableAt {σ : mm_M} {s : Nat} {L : Nat → Nat} {place k p n : Nat} (hl : lm_ok σ s L) (hpl : place ≤ 48) (hp4 : p ≠ 4) (hp2 : ¬ (p = 2 ∧ k = 0)) : mm_ev mX9_variableAt [.ref 120, .int (nI place)] mm_H σ = some (some (.int (fo_ (op_ L s k p n place))), mm_H, σ) := by
  obtain ⟨l1, l2, l3, l4⟩ := hl
  unfold op_
  by_cases hlt : place < s
  · have g : ¬ s ≤ place := by omega
    have hL := l3 place hlt
    have hc := l4 place
    have hin := in_lit (c := L place) (x := 97) (y := 101) (a := 97) (b := 101) (by decide) (by decide) (by omega)
    rw [if_pos hlt]
    unfold pv_
    rw [if_neg hp4, if_neg hp2]
    by_cases hv : 97 ≤ L place ∧ L place ≤ 101
    · rw [decide_eq_true hv] at hin
      have hs : nI (L place) - nI 97 = nI (L place - 97) := pk_sub (by omega)
      rw [if_pos hv]
      simp (disch := omega) only [vX9_variableAt, rX9_variableAt_0, rX9_variableAt_1, rX9_variableAt_2, rX9_variableAt_5, rX9_variableAt_8, rX9_variableAt_9, rX9_variableAt_12, rX9_variableAt_13, rX9_variableAt_14, rX9_variableAt_15, rX9_variableAt_18, rX9_variableAt_21, rX9_variableAt_24, rX9_variableAt_27, rX9_variableAt_28, rX9_variableAt_31, rX9_variableAt_32, rX9_variableAt_33, rX9_variableAt_35, rX9_variableAt_36, rX9_variableAt_39, rX9_variableAt_41, mm_gd_t, mm_kc_v, mm_kc_n, mm_rfs, kl_n, kl_i, kl_r, kl_l, so_0, so_1, so_2, so_3, so_4, beq_self_eq_true, Bool.true_and, Bool.and_true, Bool.or_true, Bool.true_or, Bool.false_or, Bool.or_false, if_true, if_false, ↓reduceIte, decide_true, decide_false, Bool.not_false, Bool.not_true, not_true_eq_false, not_false_eq_true, eq_self, Nat.not_lt_zero, Bool.true_eq_false, Bool.false_eq_true, Nat.reduceAdd, Nat.reduceMul, Nat.reduceSub, Nat.reduceEqDiff, Nat.reduceLeDiff, Nat.reduceLT, Nat.reduceDiv, Nat.reduceMod, zb_0, zb_1, zb_b, on_nI, ml_l, rl_sl1, rl_sl2, rl_eq, rl_nj, rl_nk, qL_0, qL_1, qL_11, qL_10000, nI_lL, lN_add, lN_mul, Nat.zero_add, Nat.add_zero, mm_zr0n, mm_zr1n, mm_zrb, b2_0, b2_1, pk_mul, tn_nI, in_nI, mi_lt, rd_eq, rd_nj, rd_nk, rs_eq, rs_nk, rl_si, rl_sA, nI_add, nI_eqI, nI_leI2, nI_ltI2, ql_0, ql_1, ql_2, ql_3, ql_4, ql_5, ql_6, ql_7, ql_8, ql_9, ql_10, ql_11, ql_12, ql_13, ql_14, ql_15, ql_16, ql_17, ql_18, ql_19, ql_20, ql_24, ql_25, ql_26, ql_27, ql_31, ql_32, ql_33, ql_36, ql_45, ql_46, ql_47, ql_48, ql_49, ql_50, ql_57, ql_63, ql_64, ql_65, ql_66, ql_67, ql_68, ql_69, ql_70, ql_71, ql_72, ql_73, ql_74, ql_75, ql_76, ql_77, ql_78, ql_79, ql_80, ql_81, ql_82, ql_83, ql_84, ql_85, ql_86, ql_87, ql_93, ql_96, ql_97, ql_100, ql_101, ql_120, ql_255, ql_256, ql_257, ql_511, ql_672, ql_900, ql_1000, ql_65536, rho_120_1, rho_120_3, rho_120_5, rho_120_6, rho_120_10, rho_120_11, rho_120_12, rho_120_15, rho_120_17, rho_120_18, rho_120_19, rho_120_20, rho_120_22, rho_120_23, kd_120, kd_122, ir_122, iw_122, al_122, l2, hlt, g, hL, s_in, hin, hs]
      rfl
    · rw [decide_eq_false hv] at hin
      rw [if_neg hv]
      simp (disch := omega) only [vX9_variableAt, rX9_variableAt_0, rX9_variableAt_1, rX9_variableAt_2, rX9_variableAt_5, rX9_variableAt_8, rX9_variableAt_9, rX9_variableAt_12, rX9_variableAt_13, rX9_variableAt_14, rX9_variableAt_15, rX9_variableAt_18, rX9_variableAt_21, rX9_variableAt_24, rX9_variableAt_27, rX9_variableAt_28, rX9_variableAt_31, rX9_variableAt_32, rX9_variableAt_33, rX9_variableAt_35, rX9_variableAt_36, rX9_variableAt_39, rX9_variableAt_41, mm_gd_t, mm_kc_v, mm_kc_n, mm_rfs, kl_n, kl_i, kl_r, kl_l, so_0, so_1, so_2, so_3, so_4, beq_self_eq_true, Bool.true_and, Bool.and_true, Bool.or_true, Bool.true_or, Bool.false_or, Bool.or_false, if_true, if_false, ↓reduceIte, decide_true, decide_false, Bool.not_false, Bool.not_true, not_true_eq_false, not_false_eq_true, eq_self, Nat.not_lt_zero, Bool.true_eq_false, Bool.false_eq_true, Nat.reduceAdd, Nat.reduceMul, Nat.reduceSub, Nat.reduceEqDiff, Nat.reduceLeDiff, Nat.reduceLT, Nat.reduceDiv, Nat.reduceMod, zb_0, zb_1, zb_b, on_nI, ml_l, rl_sl1, rl_sl2, rl_eq, rl_nj, rl_nk, qL_0, qL_1, qL_11, qL_10000, nI_lL, lN_add, lN_mul, Nat.zero_add, Nat.add_zero, mm_zr0n, mm_zr1n, mm_zrb, b2_0, b2_1, pk_mul, tn_nI, in_nI, mi_lt, rd_eq, rd_nj, rd_nk, rs_eq, rs_nk, rl_si, rl_sA, nI_add, nI_eqI, nI_leI2, nI_ltI2, ql_0, ql_1, ql_2, ql_3, ql_4, ql_5, ql_6, ql_7, ql_8, ql_9, ql_10, ql_11, ql_12, ql_13, ql_14, ql_15, ql_16, ql_17, ql_18, ql_19, ql_20, ql_24, ql_25, ql_26, ql_27, ql_31, ql_32, ql_33, ql_36, ql_45, ql_46, ql_47, ql_48, ql_49, ql_50, ql_57, ql_63, ql_64, ql_65, ql_66, ql_67, ql_68, ql_69, ql_70, ql_71, ql_72, ql_73, ql_74, ql_75, ql_76, ql_77, ql_78, ql_79, ql_80, ql_81, ql_82, ql_83, ql_84, ql_85, ql_86, ql_87, ql_93, ql_96, ql_97, ql_100, ql_101, ql_120, ql_255, ql_256, ql_257, ql_511, ql_672, ql_900, ql_1000, ql_65536, rho_120_1, rho_120_3, rho_120_5, rho_120_6, rho_120_10, rho_120_11, rho_120_12, rho_120_15, rho_120_17, rho_120_18, rho_120_19, rho_120_20, rho_120_22, rho_120_23, kd_120, kd_122, ir_122, iw_122, al_122, l2, hlt, g, hL, s_in, hin]
      rfl
  · have g : s ≤ place := by omega
    rw [if_neg hlt]
    simp (disch := omega) only [vX9_variableAt, rX9_variableAt_0, rX9_variableAt_1, rX9_variableAt_2, rX9_variableAt_5, rX9_variableAt_8, rX9_variableAt_9, rX9_variableAt_12, rX9_variableAt_13, rX9_variableAt_14, rX9_variableAt_15, rX9_variableAt_18, rX9_variableAt_21, rX9_variableAt_24, rX9_variableAt_27, rX9_variableAt_28, rX9_variableAt_31, rX9_variableAt_32, rX9_variableAt_33, rX9_variableAt_35, rX9_variableAt_36, rX9_variableAt_39, rX9_variableAt_41, mm_gd_t, mm_kc_v, mm_kc_n, mm_rfs, kl_n, kl_i, kl_r, kl_l, so_0, so_1, so_2, so_3, so_4, beq_self_eq_true, Bool.true_and, Bool.and_true, Bool.or_true, Bool.true_or, Bool.false_or, Bool.or_false, if_true, if_false, ↓reduceIte, decide_true, decide_false, Bool.not_false, Bool.not_true, not_true_eq_false, not_false_eq_true, eq_self, Nat.not_lt_zero, Bool.true_eq_false, Bool.false_eq_true, Nat.reduceAdd, Nat.reduceMul, Nat.reduceSub, Nat.reduceEqDiff, Nat.reduceLeDiff, Nat.reduceLT, Nat.reduceDiv, Nat.reduceMod, zb_0, zb_1, zb_b, on_nI, ml_l, rl_sl1, rl_sl2, rl_eq, rl_nj, rl_nk, qL_0, qL_1, qL_11, qL_10000, nI_lL, lN_add, lN_mul, Nat.zero_add, Nat.add_zero, mm_zr0n, mm_zr1n, mm_zrb, b2_0, b2_1, pk_mul, tn_nI, in_nI, mi_lt, rd_eq, rd_nj, rd_nk, rs_eq, rs_nk, rl_si, rl_sA, nI_add, nI_eqI, nI_leI2, nI_ltI2, ql_0, ql_1, ql_2, ql_3, ql_4, ql_5, ql_6, ql_7, ql_8, ql_9, ql_10, ql_11, ql_12, ql_13, ql_14, ql_15, ql_16, ql_17, ql_18, ql_19, ql_20, ql_24, ql_25, ql_26, ql_27, ql_31, ql_32, ql_33, ql_36, ql_45, ql_46, ql_47, ql_48, ql_49, ql_50, ql_57, ql_63, ql_64, ql_65, ql_66, ql_67, ql_68, ql_69, ql_70, ql_71, ql_72, ql_73, ql_74, ql_75, ql_76, ql_77, ql_78, ql_79, ql_80, ql_81, ql_82, ql_83, ql_84, ql_85, ql_86, ql_87, ql_93, ql_96, ql_97, ql_100, ql_101, ql_120, ql_255, ql_256, ql_257, ql_511, ql_672, ql_900, ql_1000, ql_65536, rho_120_1, rho_120_3, rho_120_5, rho_120_6, rho_120_10, rho_120_11, rho_120_12, rho_120_15, rho_120_17, rho_120_18, rho_120_19, rho_120_20, rho_120_22, rho_120_23, kd_120, kd_122, ir_122, iw_122, al_122, l2, hlt, g]
    rfl
section RLS
variable {σ : mm_M} {s : Nat} {L : Nat → Nat} {k from_ n place m j : Nat} {x6 x7 : Option Value}
theorem x_rlVn (hl : lm_ok σ s L) (hpl : place ≤ 48) (hj : j < m) (hm : m ≤ 3) (hk : j = 1 → k ≠ 0) (ho : op_ L s k (j + 1) n place = none) : mm_run mX9_readLine mm_H 37 [some (.ref 120), some (.int (nI k)), some (.int (nI from_)), some (.int (nI (48 + n))), some (.int (nI place)), some (.int (nI m)), some (.int (nI j)), x7] [] σ = some (some (.int (-nI place)), mm_H, σ) := by
  have e := x_variableAt (k := k) (p := j + 1) (n := n) hl hpl (by omega) (fun h => hk (by omega) h.2)
  rw [ho] at e
  have e : mm_ev mX9_variableAt [.ref 120, .int (nI place)] mm_H σ = some (some (.int (-nI 9)), mm_H, σ) := e
  have g : ¬ m ≤ j := by omega
  rw [rX9_readLine_37]
  simp (disch := omega) only [vX9_readLine, rX9_readLine_39, rX9_readLine_41, rX9_readLine_44, rX9_readLine_45, rX9_readLine_47, rX9_readLine_50, rX9_readLine_52, rX9_readLine_54, rX9_readLine_56, rX9_readLine_59, rX9_readLine_61, rX9_readLine_62, rX9_readLine_63, rX9_readLine_64, rX9_readLine_67, rX9_readLine_68, rX9_readLine_70, rX9_readLine_71, rX9_readLine_73, rX9_readLine_75, rX9_readLine_76, rX9_readLine_77, rX9_readLine_79, rX9_readLine_80, rX9_readLine_83, rX9_readLine_86, mm_gd_t, mm_kc_v, mm_kc_n, mm_rfs, kl_n, kl_i, kl_r, kl_l, so_0, so_1, so_2, so_3, so_4, beq_self_eq_true, Bool.true_and, Bool.and_true, Bool.or_true, Bool.true_or, Bool.false_or, Bool.or_false, if_true, if_false, ↓reduceIte, decide_true, decide_false, Bool.not_false, Bool.not_true, not_true_eq_false, not_false_eq_true, eq_self, Nat.not_lt_zero, Bool.true_eq_false, Bool.false_eq_true, Nat.reduceAdd, Nat.reduceMul, Nat.reduceSub, Nat.reduceEqDiff, Nat.reduceLeDiff, Nat.reduceLT, Nat.reduceDiv, Nat.reduceMod, zb_0, zb_1, zb_b, on_nI, ml_l, rl_sl1, rl_sl2, rl_eq, rl_nj, rl_nk, qL_0, qL_1, qL_11, qL_10000, nI_lL, lN_add, lN_mul, Nat.zero_add, Nat.add_zero, mm_zr0n, mm_zr1n, mm_zrb, b2_0, b2_1, pk_mul, tn_nI, in_nI, mi_lt, rd_eq, rd_nj, rd_nk, rs_eq, rs_nk, rl_si, rl_sA, nI_add, nI_eqI, nI_leI2, nI_ltI2, ql_0, ql_1, ql_2, ql_3, ql_4, ql_5, ql_6, ql_7, ql_8, ql_9, ql_10, ql_11, ql_12, ql_13, ql_14, ql_15, ql_16, ql_17, ql_18, ql_19, ql_20, ql_24, ql_25, ql_26, ql_27, ql_31, ql_32, ql_33, ql_36, ql_45, ql_46, ql_47, ql_48, ql_49, ql_50, ql_57, ql_63, ql_64, ql_65, ql_66, ql_67, ql_68, ql_69, ql_70, ql_71, ql_72, ql_73, ql_74, ql_75, ql_76, ql_77, ql_78, ql_79, ql_80, ql_81, ql_82, ql_83, ql_84, ql_85, ql_86, ql_87, ql_93, ql_96, ql_97, ql_100, ql_101, ql_120, ql_255, ql_256, ql_257, ql_511, ql_672, ql_900, ql_1000, ql_65536, rho_120_1, rho_120_3, rho_120_5, rho_120_6, rho_120_10, rho_120_11, rho_120_12, rho_120_15, rho_120_17, rho_120_18, rho_120_19, rho_120_20, rho_120_22, rho_120_23, kd_120, g, e]
theorem x_rlVs {v : Nat} (hl : lm_ok σ s L) (hpl : place ≤ 48) (hj : j < m) (hm : m ≤ 3) (hn : n < 9) (hk : j = 1 → k ≠ 0) (ho : op_ L s k (j + 1) n place = some v) (hv : v ≤ 4) : mm_run mX9_readLine mm_H 37 [some (.ref 120), some (.int (nI k)), some (.int (nI from_)), some (.int (nI (48 + n))), some (.int (nI place)), some (.int (nI m)), some (.int (nI j)), x7] [] σ = mm_run mX9_readLine mm_H 37 [some (.ref 120), some (.int (nI k)), some (.int (nI from_)), some (.int (nI (48 + n))), some (.int (nI (place + 1))), some (.int (nI m)), some (.int (nI (j + 1))), some (.int (nI v))] [] (mm_si σ 121 (48 + 9 * (j + 1) + n) (nI v)) := by
  have e := x_variableAt (k := k) (p := j + 1) (n := n) hl hpl (by omega) (fun h => hk (by omega) h.2)
  rw [ho] at e
  have e : mm_ev mX9_variableAt [.ref 120, .int (nI place)] mm_H σ = some (some (.int (nI v)), mm_H, σ) := e
  have g : ¬ m ≤ j := by omega
  have hi : 48 + n + 9 + 9 * j = 48 + 9 * (j + 1) + n := by omega
  conv => lhs; rw [rX9_readLine_37]
  simp (disch := omega) only [vX9_readLine, rX9_readLine_39, rX9_readLine_41, rX9_readLine_44, rX9_readLine_45, rX9_readLine_47, rX9_readLine_50, rX9_readLine_52, rX9_readLine_54, rX9_readLine_56, rX9_readLine_59, rX9_readLine_61, rX9_readLine_62, rX9_readLine_63, rX9_readLine_64, rX9_readLine_67, rX9_readLine_68, rX9_readLine_70, rX9_readLine_71, rX9_readLine_73, rX9_readLine_75, rX9_readLine_76, rX9_readLine_77, rX9_readLine_79, rX9_readLine_80, rX9_readLine_83, rX9_readLine_86, mm_gd_t, mm_kc_v, mm_kc_n, mm_rfs, kl_n, kl_i, kl_r, kl_l, so_0, so_1, so_2, so_3, so_4, beq_self_eq_true, Bool.true_and, Bool.and_true, Bool.or_true, Bool.true_or, Bool.false_or, Bool.or_false, if_true, if_false, ↓reduceIte, decide_true, decide_false, Bool.not_false, Bool.not_true, not_true_eq_false, not_false_eq_true, eq_self, Nat.not_lt_zero, Bool.true_eq_false, Bool.false_eq_true, Nat.reduceAdd, Nat.reduceMul, Nat.reduceSub, Nat.reduceEqDiff, Nat.reduceLeDiff, Nat.reduceLT, Nat.reduceDiv, Nat.reduceMod, zb_0, zb_1, zb_b, on_nI, ml_l, rl_sl1, rl_sl2, rl_eq, rl_nj, rl_nk, qL_0, qL_1, qL_11, qL_10000, nI_lL, lN_add, lN_mul, Nat.zero_add, Nat.add_zero, mm_zr0n, mm_zr1n, mm_zrb, b2_0, b2_1, pk_mul, tn_nI, in_nI, mi_lt, rd_eq, rd_nj, rd_nk, rs_eq, rs_nk, rl_si, rl_sA, nI_add, nI_eqI, nI_leI2, nI_ltI2, ql_0, ql_1, ql_2, ql_3, ql_4, ql_5, ql_6, ql_7, ql_8, ql_9, ql_10, ql_11, ql_12, ql_13, ql_14, ql_15, ql_16, ql_17, ql_18, ql_19, ql_20, ql_24, ql_25, ql_26, ql_27, ql_31, ql_32, ql_33, ql_36, ql_45, ql_46, ql_47, ql_48, ql_49, ql_50, ql_57, ql_63, ql_64, ql_65, ql_66, ql_67, ql_68, ql_69, ql_70, ql_71, ql_72, ql_73, ql_74, ql_75, ql_76, ql_77, ql_78, ql_79, ql_80, ql_81, ql_82, ql_83, ql_84, ql_85, ql_86, ql_87, ql_93, ql_96, ql_97, ql_100, ql_101, ql_120, ql_255, ql_256, ql_257, ql_511, ql_672, ql_900, ql_1000, ql_65536, rho_120_1, rho_120_3, rho_120_5, rho_120_6, rho_120_10, rho_120_11, rho_120_12, rho_120_15, rho_120_17, rho_120_18, rho_120_19, rho_120_20, rho_120_22, rho_120_23, kd_120, kd_121, ir_121, iw_121, al_121, g, e, nI_n1, hi]
theorem x_rlE (hm : m ≤ 3) : mm_run mX9_readLine mm_H 37 [some (.ref 120), some (.int (nI k)), some (.int (nI from_)), some (.int (nI (48 + n))), some (.int (nI place)), some (.int (nI m)), some (.int (nI m)), x7] [] σ = mm_run mX9_readLine mm_H 89 [some (.ref 120), some (.int (nI k)), some (.int (nI from_)), some (.int (nI (48 + n))), some (.int (nI place)), some (.int (nI m)), some (.int (nI m)), x7] [] σ := by
  conv => lhs; rw [rX9_readLine_37]
  simp (disch := omega) only [vX9_readLine, rX9_readLine_39, rX9_readLine_41, mm_gd_t, mm_kc_v, mm_kc_n, mm_rfs, kl_n, kl_i, kl_r, kl_l, so_0, so_1, so_2, so_3, so_4, beq_self_eq_true, Bool.true_and, Bool.and_true, Bool.or_true, Bool.true_or, Bool.false_or, Bool.or_false, if_true, if_false, ↓reduceIte, decide_true, decide_false, Bool.not_false, Bool.not_true, not_true_eq_false, not_false_eq_true, eq_self, Nat.not_lt_zero, Bool.true_eq_false, Bool.false_eq_true, Nat.reduceAdd, Nat.reduceMul, Nat.reduceSub, Nat.reduceEqDiff, Nat.reduceLeDiff, Nat.reduceLT, Nat.reduceDiv, Nat.reduceMod, zb_0, zb_1, zb_b, on_nI, ml_l, rl_sl1, rl_sl2, rl_eq, rl_nj, rl_nk, qL_0, qL_1, qL_11, qL_10000, nI_lL, lN_add, lN_mul, Nat.zero_add, Nat.add_zero, mm_zr0n, mm_zr1n, mm_zrb, b2_0, b2_1, pk_mul, tn_nI, in_nI, mi_lt, rd_eq, rd_nj, rd_nk, rs_eq, rs_nk, rl_si, rl_sA, nI_add, nI_eqI, nI_leI2, nI_ltI2, ql_0, ql_1, ql_2, ql_3, ql_4, ql_5, ql_6, ql_7, ql_8, ql_9, ql_10, ql_11, ql_12, ql_13, ql_14, ql_15, ql_16, ql_17, ql_18, ql_19, ql_20, ql_24, ql_25, ql_26, ql_27, ql_31, ql_32, ql_33, ql_36, ql_45, ql_46, ql_47, ql_48, ql_49, ql_50, ql_57, ql_63, ql_64, ql_65, ql_66, ql_67, ql_68, ql_69, ql_70, ql_71, ql_72, ql_73, ql_74, ql_75, ql_76, ql_77, ql_78, ql_79, ql_80, ql_81, ql_82, ql_83, ql_84, ql_85, ql_86, ql_87, ql_93, ql_96, ql_97, ql_100, ql_101, ql_120, ql_255, ql_256, ql_257, ql_511, ql_672, ql_900, ql_1000, ql_65536, Nat.le_refl]
theorem x_rlF0 (hk : k ≠ 0) (hk7 : k < 7) : mm_run mX9_readLine mm_H 89 [some (.ref 120), some (.int (nI k)), some (.int (nI from_)), some (.int (nI (48 + n))), some (.int (nI place)), some (.int (nI m)), x6, x7] [] σ = mm_run mX9_readLine mm_H 148 [some (.ref 120), some (.int (nI k)), some (.int (nI from_)), some (.int (nI (48 + n))), some (.int (nI place)), some (.int (nI m)), x6, x7] [] σ := by
  simp (disch := omega) only [vX9_readLine, rX9_readLine_89, rX9_readLine_90, mm_gd_t, mm_kc_v, mm_kc_n, mm_rfs, kl_n, kl_i, kl_r, kl_l, so_0, so_1, so_2, so_3, so_4, beq_self_eq_true, Bool.true_and, Bool.and_true, Bool.or_true, Bool.true_or, Bool.false_or, Bool.or_false, if_true, if_false, ↓reduceIte, decide_true, decide_false, Bool.not_false, Bool.not_true, not_true_eq_false, not_false_eq_true, eq_self, Nat.not_lt_zero, Bool.true_eq_false, Bool.false_eq_true, Nat.reduceAdd, Nat.reduceMul, Nat.reduceSub, Nat.reduceEqDiff, Nat.reduceLeDiff, Nat.reduceLT, Nat.reduceDiv, Nat.reduceMod, zb_0, zb_1, zb_b, on_nI, ml_l, rl_sl1, rl_sl2, rl_eq, rl_nj, rl_nk, qL_0, qL_1, qL_11, qL_10000, nI_lL, lN_add, lN_mul, Nat.zero_add, Nat.add_zero, mm_zr0n, mm_zr1n, mm_zrb, b2_0, b2_1, pk_mul, tn_nI, in_nI, mi_lt, rd_eq, rd_nj, rd_nk, rs_eq, rs_nk, rl_si, rl_sA, nI_add, nI_eqI, nI_leI2, nI_ltI2, ql_0, ql_1, ql_2, ql_3, ql_4, ql_5, ql_6, ql_7, ql_8, ql_9, ql_10, ql_11, ql_12, ql_13, ql_14, ql_15, ql_16, ql_17, ql_18, ql_19, ql_20, ql_24, ql_25, ql_26, ql_27, ql_31, ql_32, ql_33, ql_36, ql_45, ql_46, ql_47, ql_48, ql_49, ql_50, ql_57, ql_63, ql_64, ql_65, ql_66, ql_67, ql_68, ql_69, ql_70, ql_71, ql_72, ql_73, ql_74, ql_75, ql_76, ql_77, ql_78, ql_79, ql_80, ql_81, ql_82, ql_83, ql_84, ql_85, ql_86, ql_87, ql_93, ql_96, ql_97, ql_100, ql_101, ql_120, ql_255, ql_256, ql_257, ql_511, ql_672, ql_900, ql_1000, ql_65536, hk]
theorem x_rlFn (hl : lm_ok σ s L) (hpl : place ≤ 48) (ho : op_ L s 0 2 n place = none) : mm_run mX9_readLine mm_H 89 [some (.ref 120), some (.int (nI 0)), some (.int (nI from_)), some (.int (nI (48 + n))), some (.int (nI place)), some (.int (nI m)), x6, x7] [] σ = some (some (.int (-nI place)), mm_H, σ) := by
  obtain ⟨l1, l2, l3, l4⟩ := hl
  unfold op_ at ho
  by_cases hlt : place < s
  · have g : ¬ s ≤ place := by omega
    have hL := l3 place hlt
    have hc := l4 place
    have hin := in_lit (c := L place) (x := 48) (y := 57) (a := 48) (b := 57) (by decide) (by decide) (by omega)
    rw [if_pos hlt] at ho
    have hv : ¬ (48 ≤ L place ∧ L place ≤ 57) := fun hv => by
      unfold pv_ at ho
      rw [if_neg (by omega), if_pos ⟨rfl, rfl⟩, if_pos hv] at ho; cases ho
    rw [decide_eq_false hv] at hin
    simp (disch := omega) only [vX9_readLine, rX9_readLine_89, rX9_readLine_90, rX9_readLine_93, rX9_readLine_95, rX9_readLine_96, rX9_readLine_99, rX9_readLine_102, rX9_readLine_103, rX9_readLine_106, rX9_readLine_108, rX9_readLine_109, rX9_readLine_110, rX9_readLine_113, rX9_readLine_116, rX9_readLine_119, rX9_readLine_122, rX9_readLine_124, rX9_readLine_125, rX9_readLine_126, rX9_readLine_127, rX9_readLine_130, rX9_readLine_131, rX9_readLine_133, rX9_readLine_134, rX9_readLine_135, rX9_readLine_138, rX9_readLine_140, rX9_readLine_141, rX9_readLine_143, rX9_readLine_144, rX9_readLine_145, mm_gd_t, mm_kc_v, mm_kc_n, mm_rfs, kl_n, kl_i, kl_r, kl_l, so_0, so_1, so_2, so_3, so_4, beq_self_eq_true, Bool.true_and, Bool.and_true, Bool.or_true, Bool.true_or, Bool.false_or, Bool.or_false, if_true, if_false, ↓reduceIte, decide_true, decide_false, Bool.not_false, Bool.not_true, not_true_eq_false, not_false_eq_true, eq_self, Nat.not_lt_zero, Bool.true_eq_false, Bool.false_eq_true, Nat.reduceAdd, Nat.reduceMul, Nat.reduceSub, Nat.reduceEqDiff, Nat.reduceLeDiff, Nat.reduceLT, Nat.reduceDiv, Nat.reduceMod, zb_0, zb_1, zb_b, on_nI, ml_l, rl_sl1, rl_sl2, rl_eq, rl_nj, rl_nk, qL_0, qL_1, qL_11, qL_10000, nI_lL, lN_add, lN_mul, Nat.zero_add, Nat.add_zero, mm_zr0n, mm_zr1n, mm_zrb, b2_0, b2_1, pk_mul, tn_nI, in_nI, mi_lt, rd_eq, rd_nj, rd_nk, rs_eq, rs_nk, rl_si, rl_sA, nI_add, nI_eqI, nI_leI2, nI_ltI2, ql_0, ql_1, ql_2, ql_3, ql_4, ql_5, ql_6, ql_7, ql_8, ql_9, ql_10, ql_11, ql_12, ql_13, ql_14, ql_15, ql_16, ql_17, ql_18, ql_19, ql_20, ql_24, ql_25, ql_26, ql_27, ql_31, ql_32, ql_33, ql_36, ql_45, ql_46, ql_47, ql_48, ql_49, ql_50, ql_57, ql_63, ql_64, ql_65, ql_66, ql_67, ql_68, ql_69, ql_70, ql_71, ql_72, ql_73, ql_74, ql_75, ql_76, ql_77, ql_78, ql_79, ql_80, ql_81, ql_82, ql_83, ql_84, ql_85, ql_86, ql_87, ql_93, ql_96, ql_97, ql_100, ql_101, ql_120, ql_255, ql_256, ql_257, ql_511, ql_672, ql_900, ql_1000, ql_65536, rho_120_1, rho_120_3, rho_120_5, rho_120_6, rho_120_10, rho_120_11, rho_120_12, rho_120_15, rho_120_17, rho_120_18, rho_120_19, rho_120_20, rho_120_22, rho_120_23, kd_120, kd_122, ir_122, iw_122, al_122, l2, hlt, g, hL, s_in, hin]
  · have g : s ≤ place := by omega
    simp (disch := omega) only [vX9_readLine, rX9_readLine_89, rX9_readLine_90, rX9_readLine_93, rX9_readLine_95, rX9_readLine_96, rX9_readLine_99, rX9_readLine_102, rX9_readLine_103, rX9_readLine_106, rX9_readLine_108, rX9_readLine_109, rX9_readLine_110, rX9_readLine_113, rX9_readLine_116, rX9_readLine_119, rX9_readLine_122, rX9_readLine_124, rX9_readLine_125, rX9_readLine_126, rX9_readLine_127, rX9_readLine_130, rX9_readLine_131, rX9_readLine_133, rX9_readLine_134, rX9_readLine_135, rX9_readLine_138, rX9_readLine_140, rX9_readLine_141, rX9_readLine_143, rX9_readLine_144, rX9_readLine_145, mm_gd_t, mm_kc_v, mm_kc_n, mm_rfs, kl_n, kl_i, kl_r, kl_l, so_0, so_1, so_2, so_3, so_4, beq_self_eq_true, Bool.true_and, Bool.and_true, Bool.or_true, Bool.true_or, Bool.false_or, Bool.or_false, if_true, if_false, ↓reduceIte, decide_true, decide_false, Bool.not_false, Bool.not_true, not_true_eq_false, not_false_eq_true, eq_self, Nat.not_lt_zero, Bool.true_eq_false, Bool.false_eq_true, Nat.reduceAdd, Nat.reduceMul, Nat.reduceSub, Nat.reduceEqDiff, Nat.reduceLeDiff, Nat.reduceLT, Nat.reduceDiv, Nat.reduceMod, zb_0, zb_1, zb_b, on_nI, ml_l, rl_sl1, rl_sl2, rl_eq, rl_nj, rl_nk, qL_0, qL_1, qL_11, qL_10000, nI_lL, lN_add, lN_mul, Nat.zero_add, Nat.add_zero, mm_zr0n, mm_zr1n, mm_zrb, b2_0, b2_1, pk_mul, tn_nI, in_nI, mi_lt, rd_eq, rd_nj, rd_nk, rs_eq, rs_nk, rl_si, rl_sA, nI_add, nI_eqI, nI_leI2, nI_ltI2, ql_0, ql_1, ql_2, ql_3, ql_4, ql_5, ql_6, ql_7, ql_8, ql_9, ql_10, ql_11, ql_12, ql_13, ql_14, ql_15, ql_16, ql_17, ql_18, ql_19, ql_20, ql_24, ql_25, ql_26, ql_27, ql_31, ql_32, ql_33, ql_36, ql_45, ql_46, ql_47, ql_48, ql_49, ql_50, ql_57, ql_63, ql_64, ql_65, ql_66, ql_67, ql_68, ql_69, ql_70, ql_71, ql_72, ql_73, ql_74, ql_75, ql_76, ql_77, ql_78, ql_79, ql_80, ql_81, ql_82, ql_83, ql_84, ql_85, ql_86, ql_87, ql_93, ql_96, ql_97, ql_100, ql_101, ql_120, ql_255, ql_256, ql_257, ql_511, ql_672, ql_900, ql_1000, ql_65536, rho_120_1, rho_120_3, rho_120_5, rho_120_6, rho_120_10, rho_120_11, rho_120_12, rho_120_15, rho_120_17, rho_120_18, rho_120_19, rho_120_20, rho_120_22, rho_120_23, kd_120, kd_122, ir_122, iw_122, al_122, l2, hlt, g]
theorem x_rlFs {v : Nat} (hl : lm_ok σ s L) (hpl : place ≤ 48) (hn : n < 9) (ho : op_ L s 0 2 n place = some v) : mm_run mX9_readLine mm_H 89 [some (.ref 120), some (.int (nI 0)), some (.int (nI from_)), some (.int (nI (48 + n))), some (.int (nI place)), some (.int (nI m)), x6, x7] [] σ = mm_run mX9_readLine mm_H 148 [some (.ref 120), some (.int (nI 0)), some (.int (nI from_)), some (.int (nI (48 + n))), some (.int (nI (place + 1))), some (.int (nI m)), x6, x7] [] (mm_si σ 121 (48 + 9 * 2 + n) (nI v)) := by
  obtain ⟨l1, l2, l3, l4⟩ := hl
  unfold op_ at ho
  by_cases hlt : place < s
  · have g : ¬ s ≤ place := by omega
    have hL := l3 place hlt
    have hc := l4 place
    have hin := in_lit (c := L place) (x := 48) (y := 57) (a := 48) (b := 57) (by decide) (by decide) (by omega)
    rw [if_pos hlt] at ho
    unfold pv_ at ho
    rw [if_neg (by omega), if_pos ⟨rfl, rfl⟩] at ho
    split at ho
    · rename_i hv
      cases ho
      rw [decide_eq_true hv] at hin
      have hs : nI (L place) - nI 48 = nI (L place - 48) := pk_sub (by omega)
      have hi : 48 + n + 18 = 48 + 9 * 2 + n := by omega
      rw [← hi]
      simp (disch := omega) only [vX9_readLine, rX9_readLine_89, rX9_readLine_90, rX9_readLine_93, rX9_readLine_95, rX9_readLine_96, rX9_readLine_99, rX9_readLine_102, rX9_readLine_103, rX9_readLine_106, rX9_readLine_108, rX9_readLine_109, rX9_readLine_110, rX9_readLine_113, rX9_readLine_116, rX9_readLine_119, rX9_readLine_122, rX9_readLine_124, rX9_readLine_125, rX9_readLine_126, rX9_readLine_127, rX9_readLine_130, rX9_readLine_131, rX9_readLine_133, rX9_readLine_134, rX9_readLine_135, rX9_readLine_138, rX9_readLine_140, rX9_readLine_141, rX9_readLine_143, rX9_readLine_144, rX9_readLine_145, mm_gd_t, mm_kc_v, mm_kc_n, mm_rfs, kl_n, kl_i, kl_r, kl_l, so_0, so_1, so_2, so_3, so_4, beq_self_eq_true, Bool.true_and, Bool.and_true, Bool.or_true, Bool.true_or, Bool.false_or, Bool.or_false, if_true, if_false, ↓reduceIte, decide_true, decide_false, Bool.not_false, Bool.not_true, not_true_eq_false, not_false_eq_true, eq_self, Nat.not_lt_zero, Bool.true_eq_false, Bool.false_eq_true, Nat.reduceAdd, Nat.reduceMul, Nat.reduceSub, Nat.reduceEqDiff, Nat.reduceLeDiff, Nat.reduceLT, Nat.reduceDiv, Nat.reduceMod, zb_0, zb_1, zb_b, on_nI, ml_l, rl_sl1, rl_sl2, rl_eq, rl_nj, rl_nk, qL_0, qL_1, qL_11, qL_10000, nI_lL, lN_add, lN_mul, Nat.zero_add, Nat.add_zero, mm_zr0n, mm_zr1n, mm_zrb, b2_0, b2_1, pk_mul, tn_nI, in_nI, mi_lt, rd_eq, rd_nj, rd_nk, rs_eq, rs_nk, rl_si, rl_sA, nI_add, nI_eqI, nI_leI2, nI_ltI2, ql_0, ql_1, ql_2, ql_3, ql_4, ql_5, ql_6, ql_7, ql_8, ql_9, ql_10, ql_11, ql_12, ql_13, ql_14, ql_15, ql_16, ql_17, ql_18, ql_19, ql_20, ql_24, ql_25, ql_26, ql_27, ql_31, ql_32, ql_33, ql_36, ql_45, ql_46, ql_47, ql_48, ql_49, ql_50, ql_57, ql_63, ql_64, ql_65, ql_66, ql_67, ql_68, ql_69, ql_70, ql_71, ql_72, ql_73, ql_74, ql_75, ql_76, ql_77, ql_78, ql_79, ql_80, ql_81, ql_82, ql_83, ql_84, ql_85, ql_86, ql_87, ql_93, ql_96, ql_97, ql_100, ql_101, ql_120, ql_255, ql_256, ql_257, ql_511, ql_672, ql_900, ql_1000, ql_65536, rho_120_1, rho_120_3, rho_120_5, rho_120_6, rho_120_10, rho_120_11, rho_120_12, rho_120_15, rho_120_17, rho_120_18, rho_120_19, rho_120_20, rho_120_22, rho_120_23, kd_120, kd_121, ir_121, iw_121, al_121, kd_122, ir_122, iw_122, al_122, l2, hlt, g, hL, s_in, hin, hs]
    · cases ho
  · rw [if_neg hlt] at ho; cases ho
theorem x_rlT0 (hk7 : k < 7) (hw : hw_ k = false) : mm_run mX9_readLine mm_H 148 [some (.ref 120), some (.int (nI k)), some (.int (nI from_)), some (.int (nI (48 + n))), some (.int (nI place)), some (.int (nI m)), x6, x7] [] σ = some (some (.int (nI place)), mm_H, σ) := by
  simp (disch := omega) only [vX9_readLine, rX9_readLine_148, rX9_readLine_149, rX9_readLine_152, rX9_readLine_269, rX9_readLine_271, mm_gd_t, mm_kc_v, mm_kc_n, mm_rfs, kl_n, kl_i, kl_r, kl_l, so_0, so_1, so_2, so_3, so_4, beq_self_eq_true, Bool.true_and, Bool.and_true, Bool.or_true, Bool.true_or, Bool.false_or, Bool.or_false, if_true, if_false, ↓reduceIte, decide_true, decide_false, Bool.not_false, Bool.not_true, not_true_eq_false, not_false_eq_true, eq_self, Nat.not_lt_zero, Bool.true_eq_false, Bool.false_eq_true, Nat.reduceAdd, Nat.reduceMul, Nat.reduceSub, Nat.reduceEqDiff, Nat.reduceLeDiff, Nat.reduceLT, Nat.reduceDiv, Nat.reduceMod, zb_0, zb_1, zb_b, on_nI, ml_l, rl_sl1, rl_sl2, rl_eq, rl_nj, rl_nk, qL_0, qL_1, qL_11, qL_10000, nI_lL, lN_add, lN_mul, Nat.zero_add, Nat.add_zero, mm_zr0n, mm_zr1n, mm_zrb, b2_0, b2_1, pk_mul, tn_nI, in_nI, mi_lt, rd_eq, rd_nj, rd_nk, rs_eq, rs_nk, rl_si, rl_sA, nI_add, nI_eqI, nI_leI2, nI_ltI2, ql_0, ql_1, ql_2, ql_3, ql_4, ql_5, ql_6, ql_7, ql_8, ql_9, ql_10, ql_11, ql_12, ql_13, ql_14, ql_15, ql_16, ql_17, ql_18, ql_19, ql_20, ql_24, ql_25, ql_26, ql_27, ql_31, ql_32, ql_33, ql_36, ql_45, ql_46, ql_47, ql_48, ql_49, ql_50, ql_57, ql_63, ql_64, ql_65, ql_66, ql_67, ql_68, ql_69, ql_70, ql_71, ql_72, ql_73, ql_74, ql_75, ql_76, ql_77, ql_78, ql_79, ql_80, ql_81, ql_82, ql_83, ql_84, ql_85, ql_86, ql_87, ql_93, ql_96, ql_97, ql_100, ql_101, ql_120, ql_255, ql_256, ql_257, ql_511, ql_672, ql_900, ql_1000, ql_65536, x_hasWay, hw]
theorem x_rlTn (hl : lm_ok σ s L) (hpl : place ≤ 48) (hn : n < 9) (h2 : σ.1 120 2 = nI n) (hk7 : k < 7) (hw : hw_ k = true) (ho : op_ L s k 4 n place = none) : mm_run mX9_readLine mm_H 148 [some (.ref 120), some (.int (nI k)), some (.int (nI from_)), some (.int (nI (48 + n))), some (.int (nI place)), some (.int (nI m)), x6, x7] [] σ = some (some (.int (-nI place)), mm_H, σ) := by
  obtain ⟨l1, l2, l3, l4⟩ := hl
  unfold op_ at ho
  by_cases hlt : place < s
  · have g : ¬ s ≤ place := by omega
    have hL := l3 place hlt
    have hc := l4 place
    have hin := in_lit (c := L place) (x := lN (49 + n)) (y := 57) (a := 49 + n) (b := 57) (lN_toInt (by omega)) (by decide) (by omega)
    rw [if_pos hlt] at ho
    unfold pv_ at ho
    rw [if_pos rfl] at ho
    have h46 : ¬ L place = 46 := fun h => by rw [if_pos h] at ho; cases ho
    rw [if_neg h46] at ho
    have hv : ¬ (49 + n ≤ L place ∧ L place ≤ 57) := fun hv => by rw [if_pos (by omega)] at ho; cases ho
    rw [decide_eq_false hv] at hin
    simp (disch := omega) only [vX9_readLine, rX9_readLine_148, rX9_readLine_149, rX9_readLine_152, rX9_readLine_155, rX9_readLine_157, rX9_readLine_158, rX9_readLine_161, rX9_readLine_164, rX9_readLine_165, rX9_readLine_168, rX9_readLine_170, rX9_readLine_171, rX9_readLine_173, rX9_readLine_176, rX9_readLine_177, rX9_readLine_180, rX9_readLine_181, rX9_readLine_183, rX9_readLine_185, rX9_readLine_186, rX9_readLine_189, rX9_readLine_192, rX9_readLine_193, rX9_readLine_196, rX9_readLine_198, rX9_readLine_199, rX9_readLine_200, rX9_readLine_202, rX9_readLine_203, rX9_readLine_206, rX9_readLine_207, rX9_readLine_208, rX9_readLine_211, rX9_readLine_214, rX9_readLine_217, rX9_readLine_218, rX9_readLine_221, rX9_readLine_222, rX9_readLine_224, rX9_readLine_226, rX9_readLine_229, rX9_readLine_231, rX9_readLine_234, rX9_readLine_236, rX9_readLine_237, rX9_readLine_238, rX9_readLine_239, rX9_readLine_242, rX9_readLine_243, rX9_readLine_245, rX9_readLine_246, rX9_readLine_248, rX9_readLine_251, rX9_readLine_252, rX9_readLine_255, rX9_readLine_256, rX9_readLine_259, rX9_readLine_261, rX9_readLine_262, rX9_readLine_264, rX9_readLine_265, rX9_readLine_266, rX9_readLine_269, rX9_readLine_271, mm_gd_t, mm_kc_v, mm_kc_n, mm_rfs, kl_n, kl_i, kl_r, kl_l, so_0, so_1, so_2, so_3, so_4, beq_self_eq_true, Bool.true_and, Bool.and_true, Bool.or_true, Bool.true_or, Bool.false_or, Bool.or_false, if_true, if_false, ↓reduceIte, decide_true, decide_false, Bool.not_false, Bool.not_true, not_true_eq_false, not_false_eq_true, eq_self, Nat.not_lt_zero, Bool.true_eq_false, Bool.false_eq_true, Nat.reduceAdd, Nat.reduceMul, Nat.reduceSub, Nat.reduceEqDiff, Nat.reduceLeDiff, Nat.reduceLT, Nat.reduceDiv, Nat.reduceMod, zb_0, zb_1, zb_b, on_nI, ml_l, rl_sl1, rl_sl2, rl_eq, rl_nj, rl_nk, qL_0, qL_1, qL_11, qL_10000, nI_lL, lN_add, lN_mul, Nat.zero_add, Nat.add_zero, mm_zr0n, mm_zr1n, mm_zrb, b2_0, b2_1, pk_mul, tn_nI, in_nI, mi_lt, rd_eq, rd_nj, rd_nk, rs_eq, rs_nk, rl_si, rl_sA, nI_add, nI_eqI, nI_leI2, nI_ltI2, ql_0, ql_1, ql_2, ql_3, ql_4, ql_5, ql_6, ql_7, ql_8, ql_9, ql_10, ql_11, ql_12, ql_13, ql_14, ql_15, ql_16, ql_17, ql_18, ql_19, ql_20, ql_24, ql_25, ql_26, ql_27, ql_31, ql_32, ql_33, ql_36, ql_45, ql_46, ql_47, ql_48, ql_49, ql_50, ql_57, ql_63, ql_64, ql_65, ql_66, ql_67, ql_68, ql_69, ql_70, ql_71, ql_72, ql_73, ql_74, ql_75, ql_76, ql_77, ql_78, ql_79, ql_80, ql_81, ql_82, ql_83, ql_84, ql_85, ql_86, ql_87, ql_93, ql_96, ql_97, ql_100, ql_101, ql_120, ql_255, ql_256, ql_257, ql_511, ql_672, ql_900, ql_1000, ql_65536, rho_120_1, rho_120_3, rho_120_5, rho_120_6, rho_120_10, rho_120_11, rho_120_12, rho_120_15, rho_120_17, rho_120_18, rho_120_19, rho_120_20, rho_120_22, rho_120_23, kd_120, kd_122, ir_122, iw_122, al_122, x_hasWay, hw, l2, h2, hlt, g, hL, h46, s_in, hin]
  · have g : s ≤ place := by omega
    simp (disch := omega) only [vX9_readLine, rX9_readLine_148, rX9_readLine_149, rX9_readLine_152, rX9_readLine_155, rX9_readLine_157, rX9_readLine_158, rX9_readLine_161, rX9_readLine_164, rX9_readLine_165, rX9_readLine_168, rX9_readLine_170, rX9_readLine_171, rX9_readLine_173, rX9_readLine_176, rX9_readLine_177, rX9_readLine_180, rX9_readLine_181, rX9_readLine_183, rX9_readLine_185, rX9_readLine_186, rX9_readLine_189, rX9_readLine_192, rX9_readLine_193, rX9_readLine_196, rX9_readLine_198, rX9_readLine_199, rX9_readLine_200, rX9_readLine_202, rX9_readLine_203, rX9_readLine_206, rX9_readLine_207, rX9_readLine_208, rX9_readLine_211, rX9_readLine_214, rX9_readLine_217, rX9_readLine_218, rX9_readLine_221, rX9_readLine_222, rX9_readLine_224, rX9_readLine_226, rX9_readLine_229, rX9_readLine_231, rX9_readLine_234, rX9_readLine_236, rX9_readLine_237, rX9_readLine_238, rX9_readLine_239, rX9_readLine_242, rX9_readLine_243, rX9_readLine_245, rX9_readLine_246, rX9_readLine_248, rX9_readLine_251, rX9_readLine_252, rX9_readLine_255, rX9_readLine_256, rX9_readLine_259, rX9_readLine_261, rX9_readLine_262, rX9_readLine_264, rX9_readLine_265, rX9_readLine_266, rX9_readLine_269, rX9_readLine_271, mm_gd_t, mm_kc_v, mm_kc_n, mm_rfs, kl_n, kl_i, kl_r, kl_l, so_0, so_1, so_2, so_3, so_4, beq_self_eq_true, Bool.true_and, Bool.and_true, Bool.or_true, Bool.true_or, Bool.false_or, Bool.or_false, if_true, if_false, ↓reduceIte, decide_true, decide_false, Bool.not_false, Bool.not_true, not_true_eq_false, not_false_eq_true, eq_self, Nat.not_lt_zero, Bool.true_eq_false, Bool.false_eq_true, Nat.reduceAdd, Nat.reduceMul, Nat.reduceSub, Nat.reduceEqDiff, Nat.reduceLeDiff, Nat.reduceLT, Nat.reduceDiv, Nat.reduceMod, zb_0, zb_1, zb_b, on_nI, ml_l, rl_sl1, rl_sl2, rl_eq, rl_nj, rl_nk, qL_0, qL_1, qL_11, qL_10000, nI_lL, lN_add, lN_mul, Nat.zero_add, Nat.add_zero, mm_zr0n, mm_zr1n, mm_zrb, b2_0, b2_1, pk_mul, tn_nI, in_nI, mi_lt, rd_eq, rd_nj, rd_nk, rs_eq, rs_nk, rl_si, rl_sA, nI_add, nI_eqI, nI_leI2, nI_ltI2, ql_0, ql_1, ql_2, ql_3, ql_4, ql_5, ql_6, ql_7, ql_8, ql_9, ql_10, ql_11, ql_12, ql_13, ql_14, ql_15, ql_16, ql_17, ql_18, ql_19, ql_20, ql_24, ql_25, ql_26, ql_27, ql_31, ql_32, ql_33, ql_36, ql_45, ql_46, ql_47, ql_48, ql_49, ql_50, ql_57, ql_63, ql_64, ql_65, ql_66, ql_67, ql_68, ql_69, ql_70, ql_71, ql_72, ql_73, ql_74, ql_75, ql_76, ql_77, ql_78, ql_79, ql_80, ql_81, ql_82, ql_83, ql_84, ql_85, ql_86, ql_87, ql_93, ql_96, ql_97, ql_100, ql_101, ql_120, ql_255, ql_256, ql_257, ql_511, ql_672, ql_900, ql_1000, ql_65536, rho_120_1, rho_120_3, rho_120_5, rho_120_6, rho_120_10, rho_120_11, rho_120_12, rho_120_15, rho_120_17, rho_120_18, rho_120_19, rho_120_20, rho_120_22, rho_120_23, kd_120, kd_122, ir_122, iw_122, al_122, x_hasWay, hw, l2, hlt, g]
theorem x_rlTs {v : Nat} (hl : lm_ok σ s L) (hpl : place ≤ 48) (hn : n < 9) (h2 : σ.1 120 2 = nI n) (hk7 : k < 7) (hw : hw_ k = true) (ho : op_ L s k 4 n place = some v) : mm_run mX9_readLine mm_H 148 [some (.ref 120), some (.int (nI k)), some (.int (nI from_)), some (.int (nI (48 + n))), some (.int (nI place)), some (.int (nI m)), x6, x7] [] σ = some (some (.int (nI (place + 1))), mm_H, mm_si σ 121 (48 + 9 * 4 + n) (if (4 : Nat) = 4 ∧ v = 99 then -nI 1 else nI v)) := by
  obtain ⟨l1, l2, l3, l4⟩ := hl
  unfold op_ at ho
  have hi : 48 + n + 36 = 48 + 9 * 4 + n := by omega
  rw [← hi]
  by_cases hlt : place < s
  · have g : ¬ s ≤ place := by omega
    have hL := l3 place hlt
    have hc := l4 place
    have hin := in_lit (c := L place) (x := lN (49 + n)) (y := 57) (a := 49 + n) (b := 57) (lN_toInt (by omega)) (by decide) (by omega)
    rw [if_pos hlt] at ho
    unfold pv_ at ho
    rw [if_pos rfl] at ho
    by_cases h46 : L place = 46
    · rw [if_pos h46] at ho
      cases ho
      rw [decide_eq_false (show ¬ (49 + n ≤ L place ∧ L place ≤ 57) by omega)] at hin
      rw [h46] at hin hL
      simp (disch := omega) only [vX9_readLine, rX9_readLine_148, rX9_readLine_149, rX9_readLine_152, rX9_readLine_155, rX9_readLine_157, rX9_readLine_158, rX9_readLine_161, rX9_readLine_164, rX9_readLine_165, rX9_readLine_168, rX9_readLine_170, rX9_readLine_171, rX9_readLine_173, rX9_readLine_176, rX9_readLine_177, rX9_readLine_180, rX9_readLine_181, rX9_readLine_183, rX9_readLine_185, rX9_readLine_186, rX9_readLine_189, rX9_readLine_192, rX9_readLine_193, rX9_readLine_196, rX9_readLine_198, rX9_readLine_199, rX9_readLine_200, rX9_readLine_202, rX9_readLine_203, rX9_readLine_206, rX9_readLine_207, rX9_readLine_208, rX9_readLine_211, rX9_readLine_214, rX9_readLine_217, rX9_readLine_218, rX9_readLine_221, rX9_readLine_222, rX9_readLine_224, rX9_readLine_226, rX9_readLine_229, rX9_readLine_231, rX9_readLine_234, rX9_readLine_236, rX9_readLine_237, rX9_readLine_238, rX9_readLine_239, rX9_readLine_242, rX9_readLine_243, rX9_readLine_245, rX9_readLine_246, rX9_readLine_248, rX9_readLine_251, rX9_readLine_252, rX9_readLine_255, rX9_readLine_256, rX9_readLine_259, rX9_readLine_261, rX9_readLine_262, rX9_readLine_264, rX9_readLine_265, rX9_readLine_266, rX9_readLine_269, rX9_readLine_271, mm_gd_t, mm_kc_v, mm_kc_n, mm_rfs, kl_n, kl_i, kl_r, kl_l, so_0, so_1, so_2, so_3, so_4, beq_self_eq_true, Bool.true_and, Bool.and_true, Bool.or_true, Bool.true_or, Bool.false_or, Bool.or_false, if_true, if_false, ↓reduceIte, decide_true, decide_false, Bool.not_false, Bool.not_true, not_true_eq_false, not_false_eq_true, eq_self, Nat.not_lt_zero, Bool.true_eq_false, Bool.false_eq_true, Nat.reduceAdd, Nat.reduceMul, Nat.reduceSub, Nat.reduceEqDiff, Nat.reduceLeDiff, Nat.reduceLT, Nat.reduceDiv, Nat.reduceMod, zb_0, zb_1, zb_b, on_nI, ml_l, rl_sl1, rl_sl2, rl_eq, rl_nj, rl_nk, qL_0, qL_1, qL_11, qL_10000, nI_lL, lN_add, lN_mul, Nat.zero_add, Nat.add_zero, mm_zr0n, mm_zr1n, mm_zrb, b2_0, b2_1, pk_mul, tn_nI, in_nI, mi_lt, rd_eq, rd_nj, rd_nk, rs_eq, rs_nk, rl_si, rl_sA, nI_add, nI_eqI, nI_leI2, nI_ltI2, ql_0, ql_1, ql_2, ql_3, ql_4, ql_5, ql_6, ql_7, ql_8, ql_9, ql_10, ql_11, ql_12, ql_13, ql_14, ql_15, ql_16, ql_17, ql_18, ql_19, ql_20, ql_24, ql_25, ql_26, ql_27, ql_31, ql_32, ql_33, ql_36, ql_45, ql_46, ql_47, ql_48, ql_49, ql_50, ql_57, ql_63, ql_64, ql_65, ql_66, ql_67, ql_68, ql_69, ql_70, ql_71, ql_72, ql_73, ql_74, ql_75, ql_76, ql_77, ql_78, ql_79, ql_80, ql_81, ql_82, ql_83, ql_84, ql_85, ql_86, ql_87, ql_93, ql_96, ql_97, ql_100, ql_101, ql_120, ql_255, ql_256, ql_257, ql_511, ql_672, ql_900, ql_1000, ql_65536, rho_120_1, rho_120_3, rho_120_5, rho_120_6, rho_120_10, rho_120_11, rho_120_12, rho_120_15, rho_120_17, rho_120_18, rho_120_19, rho_120_20, rho_120_22, rho_120_23, kd_120, kd_121, ir_121, iw_121, al_121, kd_122, ir_122, iw_122, al_122, x_hasWay, hw, l2, h2, hlt, g, hL, s_in, hin]
      simp
    · rw [if_neg h46] at ho
      split at ho
      · rename_i hv
        cases ho
        rw [decide_eq_true (show 49 + n ≤ L place ∧ L place ≤ 57 by omega)] at hin
        have hs : nI (L place) - nI 48 = nI (L place - 48) := pk_sub (by omega)
        rw [if_neg (by omega)]
        simp (disch := omega) only [vX9_readLine, rX9_readLine_148, rX9_readLine_149, rX9_readLine_152, rX9_readLine_155, rX9_readLine_157, rX9_readLine_158, rX9_readLine_161, rX9_readLine_164, rX9_readLine_165, rX9_readLine_168, rX9_readLine_170, rX9_readLine_171, rX9_readLine_173, rX9_readLine_176, rX9_readLine_177, rX9_readLine_180, rX9_readLine_181, rX9_readLine_183, rX9_readLine_185, rX9_readLine_186, rX9_readLine_189, rX9_readLine_192, rX9_readLine_193, rX9_readLine_196, rX9_readLine_198, rX9_readLine_199, rX9_readLine_200, rX9_readLine_202, rX9_readLine_203, rX9_readLine_206, rX9_readLine_207, rX9_readLine_208, rX9_readLine_211, rX9_readLine_214, rX9_readLine_217, rX9_readLine_218, rX9_readLine_221, rX9_readLine_222, rX9_readLine_224, rX9_readLine_226, rX9_readLine_229, rX9_readLine_231, rX9_readLine_234, rX9_readLine_236, rX9_readLine_237, rX9_readLine_238, rX9_readLine_239, rX9_readLine_242, rX9_readLine_243, rX9_readLine_245, rX9_readLine_246, rX9_readLine_248, rX9_readLine_251, rX9_readLine_252, rX9_readLine_255, rX9_readLine_256, rX9_readLine_259, rX9_readLine_261, rX9_readLine_262, rX9_readLine_264, rX9_readLine_265, rX9_readLine_266, rX9_readLine_269, rX9_readLine_271, mm_gd_t, mm_kc_v, mm_kc_n, mm_rfs, kl_n, kl_i, kl_r, kl_l, so_0, so_1, so_2, so_3, so_4, beq_self_eq_true, Bool.true_and, Bool.and_true, Bool.or_true, Bool.true_or, Bool.false_or, Bool.or_false, if_true, if_false, ↓reduceIte, decide_true, decide_false, Bool.not_false, Bool.not_true, not_true_eq_false, not_false_eq_true, eq_self, Nat.not_lt_zero, Bool.true_eq_false, Bool.false_eq_true, Nat.reduceAdd, Nat.reduceMul, Nat.reduceSub, Nat.reduceEqDiff, Nat.reduceLeDiff, Nat.reduceLT, Nat.reduceDiv, Nat.reduceMod, zb_0, zb_1, zb_b, on_nI, ml_l, rl_sl1, rl_sl2, rl_eq, rl_nj, rl_nk, qL_0, qL_1, qL_11, qL_10000, nI_lL, lN_add, lN_mul, Nat.zero_add, Nat.add_zero, mm_zr0n, mm_zr1n, mm_zrb, b2_0, b2_1, pk_mul, tn_nI, in_nI, mi_lt, rd_eq, rd_nj, rd_nk, rs_eq, rs_nk, rl_si, rl_sA, nI_add, nI_eqI, nI_leI2, nI_ltI2, ql_0, ql_1, ql_2, ql_3, ql_4, ql_5, ql_6, ql_7, ql_8, ql_9, ql_10, ql_11, ql_12, ql_13, ql_14, ql_15, ql_16, ql_17, ql_18, ql_19, ql_20, ql_24, ql_25, ql_26, ql_27, ql_31, ql_32, ql_33, ql_36, ql_45, ql_46, ql_47, ql_48, ql_49, ql_50, ql_57, ql_63, ql_64, ql_65, ql_66, ql_67, ql_68, ql_69, ql_70, ql_71, ql_72, ql_73, ql_74, ql_75, ql_76, ql_77, ql_78, ql_79, ql_80, ql_81, ql_82, ql_83, ql_84, ql_85, ql_86, ql_87, ql_93, ql_96, ql_97, ql_100, ql_101, ql_120, ql_255, ql_256, ql_257, ql_511, ql_672, ql_900, ql_1000, ql_65536, rho_120_1, rho_120_3, rho_120_5, rho_120_6, rho_120_10, rho_120_11, rho_120_12, rho_120_15, rho_120_17, rho_120_18, rho_120_19, rho_120_20, rho_120_22, rho_120_23, kd_120, kd_121, ir_121, iw_121, al_121, kd_122, ir_122, iw_122, al_122, x_hasWay, hw, l2, h2, hlt, g, hL, h46, s_in, hin, hs]
      · cases ho
  · rw [if_neg hlt] at ho; cases ho
end RLS
/-- a reading of the rest of a line: a fault, or a place behind it -/
def rl_ (L : Nat → Nat) (s d : Nat) (σ : mm_M) (place : Nat) (P : pp_) (p far : Nat) (r : mm_R) : Prop :=
  (∃ q σ', r = some (some (.int (-nI q)), mm_H, σ') ∧ 1 ≤ q ∧ q ≤ 48 ∧ fZ_ σ σ' ∧ (pa_ L s d place P p far).1 = some q) ∨
  (∃ e d' P' far' σ', r = some (some (.int (nI e)), mm_H, σ') ∧ e + d' = s ∧ place ≤ e ∧ fZ_ σ σ' ∧ σ'.1 120 2 = σ.1 120 2 ∧ tl_ σ' P' 0 ∧ P'.1 = P.1 + 1 ∧ P'.2 P.1 0 = P.2 P.1 0 ∧ far' = (if hw_ (P.2 P.1 0) = true ∧ P'.2 P.1 4 ≠ 99 then max far (P'.2 P.1 4) else far) ∧ pw_ P' 0 far' ∧ pa_ L s d place P p far = pa_ L s d' e P' 0 far')
theorem h2_si {σ : mm_M} {n j : Nat} {v : Int32} (h : σ.1 120 2 = nI n) : (mm_si σ 121 j v).1 120 2 = nI n := by rw [rd_nk (by omega)]; exact h
/-- a part that is there, and then the rest -/
theorem rl_step {L : Nat → Nat} {s d place p far v : Nat} {P : pp_} {σ : mm_M} {r : mm_R} (h : place + d = s) (hp : p ≠ 0) (hw : pw_ P p far) (ho : op_ L s (P.2 P.1 0) p P.1 place = some v) (hnb : nb_ (P.2 P.1 0) p ≠ 0) (hp4 : p ≠ 4)
    (hr : ∀ d', d = d' + 1 → pw_ (pu_ P p v) (nb_ (P.2 P.1 0) p) far → rl_ L s d' (mm_si σ 121 (48 + 9 * p + P.1) (nI v)) (place + 1) (pu_ P p v) (nb_ (P.2 P.1 0) p) far r) : rl_ L s d σ place P p far r := by
  obtain ⟨d', hd, hv, hpa⟩ := pa_s (far := far) h hp ho
  have hw2 := pw_v hw hp hv
  rw [if_neg hnb, if_neg (fun hh => hp4 hh.1)] at hpa hw2
  have h1 := (hw.2.2.2.2 hp)
  have hk0 : (pu_ P p v).2 P.1 0 = P.2 P.1 0 := by rw [pu_at]; exact if_neg (by omega)
  have F := fZ_si (σ := σ) (j := 48 + 9 * p + P.1) (v := nI v) (by omega)
  rcases hr d' hd hw2 with ⟨q, σ', e1, e2, e3, e4, e5⟩ | ⟨e, dd, P', far', σ', e1, e2, e3, e4, e5, e6, e7, e8, e9, e10, e11⟩
  · exact Or.inl ⟨q, σ', e1, e2, e3, fZ_tr F e4, by rw [hpa]; exact e5⟩
  · refine Or.inr ⟨e, dd, P', far', σ', e1, e2, by omega, fZ_tr F e4, by rw [e5, rd_nk (by omega)], e6, e7, ?_, ?_, e10, by rw [hpa]; exact e11⟩
    · rw [← hk0]; exact e8
    · rw [← hk0]; exact e9
/-- the last part, and the line is whole -/
theorem rl_last {L : Nat → Nat} {s d place p far v : Nat} {P : pp_} {σ : mm_M} (h : place + d = s) (hp : p ≠ 0) (hw : pw_ P p far) (ht : tl_ σ P p) (ho : op_ L s (P.2 P.1 0) p P.1 place = some v) (hnb : nb_ (P.2 P.1 0) p = 0) :
    rl_ L s d σ place P p far (some (some (.int (nI (place + 1))), mm_H, mm_si σ 121 (48 + 9 * p + P.1) (if p = 4 ∧ v = 99 then -nI 1 else nI v))) := by
  obtain ⟨d', hd, hv, hpa⟩ := pa_s (far := far) h hp ho
  have hw2 := pw_v hw hp hv
  have ht2 := tl_v ht hw hp hv
  rw [if_pos hnb, hnb] at hpa hw2
  rw [if_pos hnb, hnb] at ht2
  have h1 := (hw.2.2.2.2 hp)
  have hp5 := hw.2.2.1
  have hk0 : (pu_ P p v).2 P.1 0 = P.2 P.1 0 := by rw [pu_at]; exact if_neg (by omega)
  refine Or.inr ⟨place + 1, d', (P.1 + 1, (pu_ P p v).2), _, _, rfl, by omega, by omega, fZ_si (by omega), by rw [rd_nk (by omega)], ht2, rfl, hk0, ?_, hw2, hpa⟩
  show _ = if hw_ (P.2 P.1 0) = true ∧ (pu_ P p v).2 P.1 4 ≠ 99 then max far ((pu_ P p v).2 P.1 4) else far
  cases hH : hw_ (P.2 P.1 0)
  · have hp4 : p ≠ 4 := fun h4 => by
      have := h1.2.2.1
      rw [h4, hp_4 _ h1.2.1, hH] at this; cases this
    rw [if_neg (fun hh => hp4 hh.1), if_neg (fun hh => by cases hh.1)]
  · have hp4 : p = 4 := by
      apply Classical.byContradiction; intro hh
      have := nb_no (P.2 P.1 0) h1.2.1 p hp5 4 (by omega) ⟨by omega, by omega, Or.inl hnb⟩
      rw [hp_4 _ h1.2.1, hH] at this; cases this
    have h4v : (pu_ P p v).2 P.1 4 = v := by rw [pu_at]; show (if 4 = p then v else _) = v; rw [if_pos hp4.symm]
    rw [h4v]
    by_cases h99 : v = 99
    · rw [if_neg (fun hh => hh.2 h99), if_neg (fun hh => hh.2 h99)]
    · rw [if_pos ⟨hp4, h99⟩, if_pos ⟨rfl, h99⟩]
theorem rl_none {L : Nat → Nat} {s d place p far : Nat} {P : pp_} {σ : mm_M} (h : place + d = s) (hp : p ≠ 0) (hs : s ≤ 48) (h1 : 1 ≤ place) (ho : op_ L s (P.2 P.1 0) p P.1 place = none) : rl_ L s d σ place P p far (some (some (.int (-nI place)), mm_H, σ)) := Or.inl ⟨place, σ, rfl, h1, by omega, fZ_refl _, pa_n h hp ho⟩

/-! ===== program, keep, again ===== -/
def cb_ (b : Nat) : Prop := mm_kd 135 b = 4 ∧ mm_rho b 1 = some (b + 1) ∧ mm_rho b 2 = some (b + 11) ∧ mm_kd 135 (b + 1) = 24 ∧ (∀ i, i < 9 → mm_rho (b + 1) i = some (b + 2 + i)) ∧ (∀ i, i < 9 → mm_iw 135 (b + 2 + i) = true) ∧ mm_iw 135 (b + 11) = true ∧ (∀ σ : mm_M, mm_al σ (b + 1) = 9) ∧ (∀ i, i < 9 → ∀ σ : mm_M, mm_al σ (b + 2 + i) = 5) ∧ (∀ σ : mm_M, mm_al σ (b + 11) = 3) ∧ b + 12 < 1000
theorem cb_3 : cb_ 3 := ⟨rfl, rfl, rfl, rfl, by decide, by decide, rfl, fun _ => rfl, fun i hi σ => (al_kt (by omega)).trans ((by decide : ∀ i, i < 9 → (mm_kt (3 + 2 + i)).2 = 5) i hi), fun _ => rfl, by decide⟩
theorem cb_15 : cb_ 15 := ⟨rfl, rfl, rfl, rfl, by decide, by decide, rfl, fun _ => rfl, fun i hi σ => (al_kt (by omega)).trans ((by decide : ∀ i, i < 9 → (mm_kt (15 + 2 + i)).2 = 5) i hi), fun _ => rfl, by decide⟩
theorem cb_30 : cb_ 30 := ⟨rfl, rfl, rfl, rfl, by decide, by decide, rfl, fun _ => rfl, fun i hi σ => (al_kt (by omega)).trans ((by decide : ∀ i, i < 9 → (mm_kt (30 + 2 + i)).2 = 5) i hi), fun _ => rfl, by decide⟩
theorem cb_42 : cb_ 42 := ⟨rfl, rfl, rfl, rfl, by decide, by decide, rfl, fun _ => rfl, fun i hi σ => (al_kt (by omega)).trans ((by decide : ∀ i, i < 9 → (mm_kt (42 + 2 + i)).2 = 5) i hi), fun _ => rfl, by decide⟩
theorem s_copyL {b c : Nat} (hb : cb_ b) (hc : cb_ c) (hbc : b + 12 ≤ c ∨ c + 12 ≤ b) : ∀ (d i : Nat) (σ : mm_M), i + d = 9 →
    ∃ σ', mm_run mX4_copy mm_H 10 [some (.ref b), some (.ref c), some (.int (nI i))] [] σ = mm_run mX4_copy mm_H 40 [some (.ref b), some (.ref c), some (.int (nI 9))] [] σ' ∧ fr_ (b + 2) (b + 11) σ σ' ∧ (∀ j, i ≤ j → j < 9 → ∀ q, q < 5 → σ'.1 (b + 2 + j) q = σ.1 (c + 2 + j) q) ∧ (∀ j, j < i → σ'.1 (b + 2 + j) = σ.1 (b + 2 + j))
  | 0, i, σ, h => by
    refine ⟨σ, ?_, fr_refl _ _ _, fun j h1 h2 => by omega, fun _ _ => rfl⟩
    have h3 : i = 9 := by omega
    subst h3
    rw [rX4_copy_10]
    simp (disch := omega) only [vX4_copy, rX4_copy_11, rX4_copy_13, mm_gd_t, mm_kc_v, mm_kc_n, mm_rfs, kl_n, kl_i, kl_r, kl_l, so_0, so_1, so_2, so_3, so_4, beq_self_eq_true, Bool.true_and, Bool.and_true, Bool.or_true, Bool.true_or, Bool.false_or, Bool.or_false, if_true, if_false, ↓reduceIte, decide_true, decide_false, Bool.not_false, Bool.not_true, not_true_eq_false, not_false_eq_true, eq_self, Nat.not_lt_zero, Bool.true_eq_false, Bool.false_eq_true, Nat.reduceAdd, Nat.reduceMul, Nat.reduceSub, Nat.reduceEqDiff, Nat.reduceLeDiff, Nat.reduceLT, Nat.reduceDiv, Nat.reduceMod, zb_0, zb_1, zb_b, on_nI, ml_l, rl_sl1, rl_sl2, rl_eq, rl_nj, rl_nk, qL_0, qL_1, qL_11, qL_10000, nI_lL, lN_add, lN_mul, Nat.zero_add, Nat.add_zero, mm_zr0n, mm_zr1n, mm_zrb, b2_0, b2_1, pk_mul, tn_nI, in_nI, mi_lt, rd_eq, rd_nj, rd_nk, rs_eq, rs_nk, rl_si, rl_sA, nI_add, nI_eqI, nI_leI2, nI_ltI2, ql_0, ql_1, ql_2, ql_3, ql_4, ql_5, ql_6, ql_7, ql_8, ql_9, ql_10, ql_11, ql_12, ql_13, ql_14, ql_15, ql_16, ql_17, ql_18, ql_19, ql_20, ql_24, ql_25, ql_26, ql_27, ql_31, ql_32, ql_33, ql_36, ql_45, ql_46, ql_47, ql_48, ql_49, ql_50, ql_57, ql_63, ql_64, ql_65, ql_66, ql_67, ql_68, ql_69, ql_70, ql_71, ql_72, ql_73, ql_74, ql_75, ql_76, ql_77, ql_78, ql_79, ql_80, ql_81, ql_82, ql_83, ql_84, ql_85, ql_86, ql_87, ql_93, ql_96, ql_97, ql_100, ql_101, ql_120, ql_255, ql_256, ql_257, ql_511, ql_672, ql_900, ql_1000, ql_65536]
  | d + 1, i, σ, h => by
    have hb' := hb
    have hc' := hc
    obtain ⟨k0, k1, k2, k3, k4, k5, k6, a1, a2, a3, k7⟩ := hb
    obtain ⟨c0, c1, c2, c3, c4, c5, c6, d1, d2, d3, c7⟩ := hc
    let σ1 := mm_sA σ (b + 2 + i) (va_cpy (σ.1 (c + 2 + i)) (σ.1 (b + 2 + i)) 0 0 5)
    obtain ⟨σ2, e2, f2, g2, g3⟩ := s_copyL hb' hc' hbc d (i + 1) σ1 (by omega)
    refine ⟨σ2, ?_, fr_tr (fr_sA (fr_refl _ _ _) (by omega) (by omega)) f2, fun j h1 h2 v hv => ?_, fun j hj => ?_⟩
    · rw [← e2]
      have h2 : ¬ 9 ≤ i := by omega
      rw [rX4_copy_10]
      simp (disch := omega) only [vX4_copy, rX4_copy_11, rX4_copy_13, rX4_copy_16, rX4_copy_17, rX4_copy_20, rX4_copy_21, rX4_copy_22, rX4_copy_23, rX4_copy_24, rX4_copy_27, rX4_copy_28, rX4_copy_29, rX4_copy_30, rX4_copy_31, rX4_copy_34, rX4_copy_37, mm_gd_t, mm_kc_v, mm_kc_n, mm_rfs, kl_n, kl_i, kl_r, kl_l, so_0, so_1, so_2, so_3, so_4, beq_self_eq_true, Bool.true_and, Bool.and_true, Bool.or_true, Bool.true_or, Bool.false_or, Bool.or_false, if_true, if_false, ↓reduceIte, decide_true, decide_false, Bool.not_false, Bool.not_true, not_true_eq_false, not_false_eq_true, eq_self, Nat.not_lt_zero, Bool.true_eq_false, Bool.false_eq_true, Nat.reduceAdd, Nat.reduceMul, Nat.reduceSub, Nat.reduceEqDiff, Nat.reduceLeDiff, Nat.reduceLT, Nat.reduceDiv, Nat.reduceMod, zb_0, zb_1, zb_b, on_nI, ml_l, rl_sl1, rl_sl2, rl_eq, rl_nj, rl_nk, qL_0, qL_1, qL_11, qL_10000, nI_lL, lN_add, lN_mul, Nat.zero_add, Nat.add_zero, mm_zr0n, mm_zr1n, mm_zrb, b2_0, b2_1, pk_mul, tn_nI, in_nI, mi_lt, rd_eq, rd_nj, rd_nk, rs_eq, rs_nk, rl_si, rl_sA, nI_add, nI_eqI, nI_leI2, nI_ltI2, ql_0, ql_1, ql_2, ql_3, ql_4, ql_5, ql_6, ql_7, ql_8, ql_9, ql_10, ql_11, ql_12, ql_13, ql_14, ql_15, ql_16, ql_17, ql_18, ql_19, ql_20, ql_24, ql_25, ql_26, ql_27, ql_31, ql_32, ql_33, ql_36, ql_45, ql_46, ql_47, ql_48, ql_49, ql_50, ql_57, ql_63, ql_64, ql_65, ql_66, ql_67, ql_68, ql_69, ql_70, ql_71, ql_72, ql_73, ql_74, ql_75, ql_76, ql_77, ql_78, ql_79, ql_80, ql_81, ql_82, ql_83, ql_84, ql_85, ql_86, ql_87, ql_93, ql_96, ql_97, ql_100, ql_101, ql_120, ql_255, ql_256, ql_257, ql_511, ql_672, ql_900, ql_1000, ql_65536, h2, k0, k1, k3, k4, k5, a1, a2, c0, c1, c3, c4, c5, d1, d2, mm_cok, mm_cp]
      rfl
    · by_cases hji : j = i
      · subst hji; rw [g3 j (by omega)]
        show (mm_sA σ (b + 2 + j) _).1 (b + 2 + j) v = _
        rw [rs_eq]; exact sb_cpy0 hv
      · rw [g2 j (by omega) h2 v hv]
        show (mm_sA σ (b + 2 + i) _).1 (c + 2 + j) v = _
        rw [rs_nk (by omega)]
    · rw [g3 j (by omega)]
      show (mm_sA σ (b + 2 + i) _).1 (b + 2 + j) = _
      rw [rs_nk (by omega)]
theorem s_copy {σ : mm_M} {b c : Nat} (hb : cb_ b) (hc : cb_ c) (hbc : b + 12 ≤ c ∨ c + 12 ≤ b) :
    ∃ σ', mm_ev mX4_copy [.ref b, .ref c] mm_H σ = some (none, mm_H, σ') ∧ fr_ b (b + 12) σ σ' ∧ σ'.1 b 0 = σ.1 c 0 ∧ (∀ j, j < 9 → ∀ q, q < 5 → σ'.1 (b + 2 + j) q = σ.1 (c + 2 + j) q) ∧ (∀ k, k < 3 → σ'.1 (b + 11) k = σ.1 (c + 11) k) := by
  obtain ⟨σ1, e1, f1, g1, _⟩ := s_copyL hb hc hbc 9 0 (mm_si σ b 0 (σ.1 c 0)) (by omega)
  obtain ⟨k0, k1, k2, k3, k4, k5, k6, a1, a2, a3, k7⟩ := hb
  obtain ⟨c0, c1, c2, c3, c4, c5, c6, d1, d2, d3, c7⟩ := hc
  refine ⟨mm_sA σ1 (b + 11) (va_cpy (σ1.1 (c + 11)) (σ1.1 (b + 11)) 0 0 3), ?_, fr_sA (fr_tr (fr_si (fr_refl _ _ _) (by omega) (by omega)) (fr_wd f1 (by omega) (by omega))) (by omega) (by omega), ?_, fun j hj q hq => ?_, fun k hk => ?_⟩
  · simp (disch := omega) only [vX4_copy, rX4_copy_0, rX4_copy_1, rX4_copy_2, rX4_copy_5, rX4_copy_8, rX4_copy_9, rX4_copy_40, rX4_copy_41, rX4_copy_44, rX4_copy_45, rX4_copy_46, rX4_copy_49, rX4_copy_50, rX4_copy_51, rX4_copy_54, mm_gd_t, mm_kc_v, mm_kc_n, mm_rfs, kl_n, kl_i, kl_r, kl_l, so_0, so_1, so_2, so_3, so_4, beq_self_eq_true, Bool.true_and, Bool.and_true, Bool.or_true, Bool.true_or, Bool.false_or, Bool.or_false, if_true, if_false, ↓reduceIte, decide_true, decide_false, Bool.not_false, Bool.not_true, not_true_eq_false, not_false_eq_true, eq_self, Nat.not_lt_zero, Bool.true_eq_false, Bool.false_eq_true, Nat.reduceAdd, Nat.reduceMul, Nat.reduceSub, Nat.reduceEqDiff, Nat.reduceLeDiff, Nat.reduceLT, Nat.reduceDiv, Nat.reduceMod, zb_0, zb_1, zb_b, on_nI, ml_l, rl_sl1, rl_sl2, rl_eq, rl_nj, rl_nk, qL_0, qL_1, qL_11, qL_10000, nI_lL, lN_add, lN_mul, Nat.zero_add, Nat.add_zero, mm_zr0n, mm_zr1n, mm_zrb, b2_0, b2_1, pk_mul, tn_nI, in_nI, mi_lt, rd_eq, rd_nj, rd_nk, rs_eq, rs_nk, rl_si, rl_sA, nI_add, nI_eqI, nI_leI2, nI_ltI2, ql_0, ql_1, ql_2, ql_3, ql_4, ql_5, ql_6, ql_7, ql_8, ql_9, ql_10, ql_11, ql_12, ql_13, ql_14, ql_15, ql_16, ql_17, ql_18, ql_19, ql_20, ql_24, ql_25, ql_26, ql_27, ql_31, ql_32, ql_33, ql_36, ql_45, ql_46, ql_47, ql_48, ql_49, ql_50, ql_57, ql_63, ql_64, ql_65, ql_66, ql_67, ql_68, ql_69, ql_70, ql_71, ql_72, ql_73, ql_74, ql_75, ql_76, ql_77, ql_78, ql_79, ql_80, ql_81, ql_82, ql_83, ql_84, ql_85, ql_86, ql_87, ql_93, ql_96, ql_97, ql_100, ql_101, ql_120, ql_255, ql_256, ql_257, ql_511, ql_672, ql_900, ql_1000, ql_65536, e1, k0, k2, k6, a3, c0, c2, c6, d3, mm_cok, mm_cp]
  · rw [rs_nk (by omega), f1.1 b (by omega), rd_eq]
  · rw [rs_nk (by omega), g1 j (by omega) hj q hq, rd_nk (by omega)]
  · rw [rs_eq, sb_cpy0 hk, f1.1 (c + 11) (by omega), rd_nk (by omega)]
/-- a part of a row alone -/
def fK_ (K lo hi : Nat) (σ σ' : mm_M) : Prop := (∀ k j, (k ≠ K ∨ j < lo ∨ hi ≤ j) → σ'.1 k j = σ.1 k j) ∧ σ'.2 = σ.2
theorem fK_refl (K lo hi : Nat) (σ : mm_M) : fK_ K lo hi σ σ := ⟨fun _ _ _ => rfl, rfl⟩
theorem fK_tr {K lo hi : Nat} {a b c : mm_M} (h1 : fK_ K lo hi a b) (h2 : fK_ K lo hi b c) : fK_ K lo hi a c := ⟨fun k j h => (h2.1 k j h).trans (h1.1 k j h), h2.2.trans h1.2⟩
theorem fK_si {K lo hi j : Nat} {σ : mm_M} {v : Int32} (h1 : lo ≤ j) (h2 : j < hi) : fK_ K lo hi σ (mm_si σ K j v) := ⟨fun k j' h => by
  by_cases hk : k = K
  · subst hk; rw [rd_nj (by omega)]
  · rw [rd_nk hk], rfl⟩
theorem x_keepL {t : Nat} (ht : t < 2) : ∀ (d i : Nat) (σ : mm_M), i + d = 48 →
    ∃ σ', mm_run mX9_keep mm_H 21 [some (.ref 120), some (.int (nI t)), some (.int (nI i))] [] σ = mm_run mX9_keep mm_H 50 [some (.ref 120), some (.int (nI t)), some (.int (nI 48))] [] σ' ∧ fK_ 134 (48 * t + i) (48 * t + 48) σ σ' ∧ (∀ j, i ≤ j → j < 48 → σ'.1 134 (48 * t + j) = σ.1 121 j)
  | 0, i, σ, h => by
    refine ⟨σ, ?_, fK_refl _ _ _ _, fun j h1 h2 => by omega⟩
    have h3 : i = 48 := by omega
    subst h3
    rw [rX9_keep_21]
    simp (disch := omega) only [vX9_keep, rX9_keep_22, rX9_keep_24, mm_gd_t, mm_kc_v, mm_kc_n, mm_rfs, kl_n, kl_i, kl_r, kl_l, so_0, so_1, so_2, so_3, so_4, beq_self_eq_true, Bool.true_and, Bool.and_true, Bool.or_true, Bool.true_or, Bool.false_or, Bool.or_false, if_true, if_false, ↓reduceIte, decide_true, decide_false, Bool.not_false, Bool.not_true, not_true_eq_false, not_false_eq_true, eq_self, Nat.not_lt_zero, Bool.true_eq_false, Bool.false_eq_true, Nat.reduceAdd, Nat.reduceMul, Nat.reduceSub, Nat.reduceEqDiff, Nat.reduceLeDiff, Nat.reduceLT, Nat.reduceDiv, Nat.reduceMod, zb_0, zb_1, zb_b, on_nI, ml_l, rl_sl1, rl_sl2, rl_eq, rl_nj, rl_nk, qL_0, qL_1, qL_11, qL_10000, nI_lL, lN_add, lN_mul, Nat.zero_add, Nat.add_zero, mm_zr0n, mm_zr1n, mm_zrb, b2_0, b2_1, pk_mul, tn_nI, in_nI, mi_lt, rd_eq, rd_nj, rd_nk, rs_eq, rs_nk, rl_si, rl_sA, nI_add, nI_eqI, nI_leI2, nI_ltI2, ql_0, ql_1, ql_2, ql_3, ql_4, ql_5, ql_6, ql_7, ql_8, ql_9, ql_10, ql_11, ql_12, ql_13, ql_14, ql_15, ql_16, ql_17, ql_18, ql_19, ql_20, ql_24, ql_25, ql_26, ql_27, ql_31, ql_32, ql_33, ql_36, ql_45, ql_46, ql_47, ql_48, ql_49, ql_50, ql_57, ql_63, ql_64, ql_65, ql_66, ql_67, ql_68, ql_69, ql_70, ql_71, ql_72, ql_73, ql_74, ql_75, ql_76, ql_77, ql_78, ql_79, ql_80, ql_81, ql_82, ql_83, ql_84, ql_85, ql_86, ql_87, ql_93, ql_96, ql_97, ql_100, ql_101, ql_120, ql_255, ql_256, ql_257, ql_511, ql_672, ql_900, ql_1000, ql_65536]
  | d + 1, i, σ, h => by
    obtain ⟨σ2, e2, f2, g2⟩ := x_keepL ht d (i + 1) (mm_si σ 134 (48 * t + i) (σ.1 121 i)) (by omega)
    refine ⟨σ2, ?_, fK_tr (fK_si (by omega) (by omega)) ⟨fun k j hk => f2.1 k j (by omega), f2.2⟩, fun j h1 h2 => ?_⟩
    · rw [← e2]
      have h2 : ¬ 48 ≤ i := by omega
      rw [rX9_keep_21]
      simp (disch := omega) only [vX9_keep, rX9_keep_22, rX9_keep_24, rX9_keep_27, rX9_keep_28, rX9_keep_31, rX9_keep_33, rX9_keep_34, rX9_keep_35, rX9_keep_36, rX9_keep_37, rX9_keep_38, rX9_keep_41, rX9_keep_42, rX9_keep_43, rX9_keep_44, rX9_keep_47, mm_gd_t, mm_kc_v, mm_kc_n, mm_rfs, kl_n, kl_i, kl_r, kl_l, so_0, so_1, so_2, so_3, so_4, beq_self_eq_true, Bool.true_and, Bool.and_true, Bool.or_true, Bool.true_or, Bool.false_or, Bool.or_false, if_true, if_false, ↓reduceIte, decide_true, decide_false, Bool.not_false, Bool.not_true, not_true_eq_false, not_false_eq_true, eq_self, Nat.not_lt_zero, Bool.true_eq_false, Bool.false_eq_true, Nat.reduceAdd, Nat.reduceMul, Nat.reduceSub, Nat.reduceEqDiff, Nat.reduceLeDiff, Nat.reduceLT, Nat.reduceDiv, Nat.reduceMod, zb_0, zb_1, zb_b, on_nI, ml_l, rl_sl1, rl_sl2, rl_eq, rl_nj, rl_nk, qL_0, qL_1, qL_11, qL_10000, nI_lL, lN_add, lN_mul, Nat.zero_add, Nat.add_zero, mm_zr0n, mm_zr1n, mm_zrb, b2_0, b2_1, pk_mul, tn_nI, in_nI, mi_lt, rd_eq, rd_nj, rd_nk, rs_eq, rs_nk, rl_si, rl_sA, nI_add, nI_eqI, nI_leI2, nI_ltI2, ql_0, ql_1, ql_2, ql_3, ql_4, ql_5, ql_6, ql_7, ql_8, ql_9, ql_10, ql_11, ql_12, ql_13, ql_14, ql_15, ql_16, ql_17, ql_18, ql_19, ql_20, ql_24, ql_25, ql_26, ql_27, ql_31, ql_32, ql_33, ql_36, ql_45, ql_46, ql_47, ql_48, ql_49, ql_50, ql_57, ql_63, ql_64, ql_65, ql_66, ql_67, ql_68, ql_69, ql_70, ql_71, ql_72, ql_73, ql_74, ql_75, ql_76, ql_77, ql_78, ql_79, ql_80, ql_81, ql_82, ql_83, ql_84, ql_85, ql_86, ql_87, ql_93, ql_96, ql_97, ql_100, ql_101, ql_120, ql_255, ql_256, ql_257, ql_511, ql_672, ql_900, ql_1000, ql_65536, rho_120_1, rho_120_3, rho_120_5, rho_120_6, rho_120_10, rho_120_11, rho_120_12, rho_120_15, rho_120_17, rho_120_18, rho_120_19, rho_120_20, rho_120_22, rho_120_23, kd_120, kd_121, ir_121, iw_121, al_121, kd_134, ir_134, iw_134, al_134, h2]
    · by_cases hji : j = i
      · subst hji; rw [f2.1 134 (48 * t + j) (by omega), rd_eq]
      · rw [g2 j (by omega) h2, rd_nk (by omega)]
theorem x_againL {t : Nat} (ht : t < 2) : ∀ (d i : Nat) (σ : mm_M), i + d = 48 →
    ∃ σ', mm_run mX9_again mm_H 26 [some (.ref 120), some (.int (nI t)), some (.int (nI i))] [] σ = mm_run mX9_again mm_H 55 [some (.ref 120), some (.int (nI t)), some (.int (nI 48))] [] σ' ∧ fK_ 121 i 48 σ σ' ∧ (∀ j, i ≤ j → j < 48 → σ'.1 121 j = σ.1 134 (48 * t + j))
  | 0, i, σ, h => by
    refine ⟨σ, ?_, fK_refl _ _ _ _, fun j h1 h2 => by omega⟩
    have h3 : i = 48 := by omega
    subst h3
    rw [rX9_again_26]
    simp (disch := omega) only [vX9_again, rX9_again_27, rX9_again_29, mm_gd_t, mm_kc_v, mm_kc_n, mm_rfs, kl_n, kl_i, kl_r, kl_l, so_0, so_1, so_2, so_3, so_4, beq_self_eq_true, Bool.true_and, Bool.and_true, Bool.or_true, Bool.true_or, Bool.false_or, Bool.or_false, if_true, if_false, ↓reduceIte, decide_true, decide_false, Bool.not_false, Bool.not_true, not_true_eq_false, not_false_eq_true, eq_self, Nat.not_lt_zero, Bool.true_eq_false, Bool.false_eq_true, Nat.reduceAdd, Nat.reduceMul, Nat.reduceSub, Nat.reduceEqDiff, Nat.reduceLeDiff, Nat.reduceLT, Nat.reduceDiv, Nat.reduceMod, zb_0, zb_1, zb_b, on_nI, ml_l, rl_sl1, rl_sl2, rl_eq, rl_nj, rl_nk, qL_0, qL_1, qL_11, qL_10000, nI_lL, lN_add, lN_mul, Nat.zero_add, Nat.add_zero, mm_zr0n, mm_zr1n, mm_zrb, b2_0, b2_1, pk_mul, tn_nI, in_nI, mi_lt, rd_eq, rd_nj, rd_nk, rs_eq, rs_nk, rl_si, rl_sA, nI_add, nI_eqI, nI_leI2, nI_ltI2, ql_0, ql_1, ql_2, ql_3, ql_4, ql_5, ql_6, ql_7, ql_8, ql_9, ql_10, ql_11, ql_12, ql_13, ql_14, ql_15, ql_16, ql_17, ql_18, ql_19, ql_20, ql_24, ql_25, ql_26, ql_27, ql_31, ql_32, ql_33, ql_36, ql_45, ql_46, ql_47, ql_48, ql_49, ql_50, ql_57, ql_63, ql_64, ql_65, ql_66, ql_67, ql_68, ql_69, ql_70, ql_71, ql_72, ql_73, ql_74, ql_75, ql_76, ql_77, ql_78, ql_79, ql_80, ql_81, ql_82, ql_83, ql_84, ql_85, ql_86, ql_87, ql_93, ql_96, ql_97, ql_100, ql_101, ql_120, ql_255, ql_256, ql_257, ql_511, ql_672, ql_900, ql_1000, ql_65536]
  | d + 1, i, σ, h => by
    obtain ⟨σ2, e2, f2, g2⟩ := x_againL ht d (i + 1) (mm_si σ 121 i (σ.1 134 (48 * t + i))) (by omega)
    refine ⟨σ2, ?_, fK_tr (fK_si (by omega) (by omega)) ⟨fun k j hk => f2.1 k j (by omega), f2.2⟩, fun j h1 h2 => ?_⟩
    · rw [← e2]
      have h2 : ¬ 48 ≤ i := by omega
      rw [rX9_again_26]
      simp (disch := omega) only [vX9_again, rX9_again_27, rX9_again_29, rX9_again_32, rX9_again_33, rX9_again_36, rX9_again_37, rX9_again_38, rX9_again_41, rX9_again_43, rX9_again_44, rX9_again_45, rX9_again_46, rX9_again_47, rX9_again_48, rX9_again_49, rX9_again_52, mm_gd_t, mm_kc_v, mm_kc_n, mm_rfs, kl_n, kl_i, kl_r, kl_l, so_0, so_1, so_2, so_3, so_4, beq_self_eq_true, Bool.true_and, Bool.and_true, Bool.or_true, Bool.true_or, Bool.false_or, Bool.or_false, if_true, if_false, ↓reduceIte, decide_true, decide_false, Bool.not_false, Bool.not_true, not_true_eq_false, not_false_eq_true, eq_self, Nat.not_lt_zero, Bool.true_eq_false, Bool.false_eq_true, Nat.reduceAdd, Nat.reduceMul, Nat.reduceSub, Nat.reduceEqDiff, Nat.reduceLeDiff, Nat.reduceLT, Nat.reduceDiv, Nat.reduceMod, zb_0, zb_1, zb_b, on_nI, ml_l, rl_sl1, rl_sl2, rl_eq, rl_nj, rl_nk, qL_0, qL_1, qL_11, qL_10000, nI_lL, lN_add, lN_mul, Nat.zero_add, Nat.add_zero, mm_zr0n, mm_zr1n, mm_zrb, b2_0, b2_1, pk_mul, tn_nI, in_nI, mi_lt, rd_eq, rd_nj, rd_nk, rs_eq, rs_nk, rl_si, rl_sA, nI_add, nI_eqI, nI_leI2, nI_ltI2, ql_0, ql_1, ql_2, ql_3, ql_4, ql_5, ql_6, ql_7, ql_8, ql_9, ql_10, ql_11, ql_12, ql_13, ql_14, ql_15, ql_16, ql_17, ql_18, ql_19, ql_20, ql_24, ql_25, ql_26, ql_27, ql_31, ql_32, ql_33, ql_36, ql_45, ql_46, ql_47, ql_48, ql_49, ql_50, ql_57, ql_63, ql_64, ql_65, ql_66, ql_67, ql_68, ql_69, ql_70, ql_71, ql_72, ql_73, ql_74, ql_75, ql_76, ql_77, ql_78, ql_79, ql_80, ql_81, ql_82, ql_83, ql_84, ql_85, ql_86, ql_87, ql_93, ql_96, ql_97, ql_100, ql_101, ql_120, ql_255, ql_256, ql_257, ql_511, ql_672, ql_900, ql_1000, ql_65536, rho_120_1, rho_120_3, rho_120_5, rho_120_6, rho_120_10, rho_120_11, rho_120_12, rho_120_15, rho_120_17, rho_120_18, rho_120_19, rho_120_20, rho_120_22, rho_120_23, kd_120, kd_121, ir_121, iw_121, al_121, kd_134, ir_134, iw_134, al_134, h2]
    · by_cases hji : j = i
      · subst hji; rw [f2.1 121 j (by omega), rd_eq]
      · rw [g2 j (by omega) h2, rd_nk (by omega)]
theorem x_progL : ∀ (d i : Nat) (σ : mm_M), i + d = 45 →
    ∃ σ', mm_run mX9_program mm_H 22 [some (.ref 120), some (.int (nI i))] [] σ = mm_run mX9_program mm_H 49 [some (.ref 120), some (.int (nI 45))] [] σ' ∧ fK_ 121 i 45 σ σ' ∧ (∀ j, i ≤ j → j < 45 → σ'.1 121 j = σ.1 121 (48 + j))
  | 0, i, σ, h => by
    refine ⟨σ, ?_, fK_refl _ _ _ _, fun j h1 h2 => by omega⟩
    have h3 : i = 45 := by omega
    subst h3
    rw [rX9_program_22]
    simp (disch := omega) only [vX9_program, rX9_program_23, rX9_program_25, mm_gd_t, mm_kc_v, mm_kc_n, mm_rfs, kl_n, kl_i, kl_r, kl_l, so_0, so_1, so_2, so_3, so_4, beq_self_eq_true, Bool.true_and, Bool.and_true, Bool.or_true, Bool.true_or, Bool.false_or, Bool.or_false, if_true, if_false, ↓reduceIte, decide_true, decide_false, Bool.not_false, Bool.not_true, not_true_eq_false, not_false_eq_true, eq_self, Nat.not_lt_zero, Bool.true_eq_false, Bool.false_eq_true, Nat.reduceAdd, Nat.reduceMul, Nat.reduceSub, Nat.reduceEqDiff, Nat.reduceLeDiff, Nat.reduceLT, Nat.reduceDiv, Nat.reduceMod, zb_0, zb_1, zb_b, on_nI, ml_l, rl_sl1, rl_sl2, rl_eq, rl_nj, rl_nk, qL_0, qL_1, qL_11, qL_10000, nI_lL, lN_add, lN_mul, Nat.zero_add, Nat.add_zero, mm_zr0n, mm_zr1n, mm_zrb, b2_0, b2_1, pk_mul, tn_nI, in_nI, mi_lt, rd_eq, rd_nj, rd_nk, rs_eq, rs_nk, rl_si, rl_sA, nI_add, nI_eqI, nI_leI2, nI_ltI2, ql_0, ql_1, ql_2, ql_3, ql_4, ql_5, ql_6, ql_7, ql_8, ql_9, ql_10, ql_11, ql_12, ql_13, ql_14, ql_15, ql_16, ql_17, ql_18, ql_19, ql_20, ql_24, ql_25, ql_26, ql_27, ql_31, ql_32, ql_33, ql_36, ql_45, ql_46, ql_47, ql_48, ql_49, ql_50, ql_57, ql_63, ql_64, ql_65, ql_66, ql_67, ql_68, ql_69, ql_70, ql_71, ql_72, ql_73, ql_74, ql_75, ql_76, ql_77, ql_78, ql_79, ql_80, ql_81, ql_82, ql_83, ql_84, ql_85, ql_86, ql_87, ql_93, ql_96, ql_97, ql_100, ql_101, ql_120, ql_255, ql_256, ql_257, ql_511, ql_672, ql_900, ql_1000, ql_65536]
  | d + 1, i, σ, h => by
    obtain ⟨σ2, e2, f2, g2⟩ := x_progL d (i + 1) (mm_si σ 121 i (σ.1 121 (48 + i))) (by omega)
    refine ⟨σ2, ?_, fK_tr (fK_si (by omega) (by omega)) ⟨fun k j hk => f2.1 k j (by omega), f2.2⟩, fun j h1 h2 => ?_⟩
    · rw [← e2]
      have h2 : ¬ 45 ≤ i := by omega
      rw [rX9_program_22]
      simp (disch := omega) only [vX9_program, rX9_program_23, rX9_program_25, rX9_program_28, rX9_program_29, rX9_program_32, rX9_program_33, rX9_program_34, rX9_program_37, rX9_program_39, rX9_program_40, rX9_program_41, rX9_program_42, rX9_program_43, rX9_program_46, mm_gd_t, mm_kc_v, mm_kc_n, mm_rfs, kl_n, kl_i, kl_r, kl_l, so_0, so_1, so_2, so_3, so_4, beq_self_eq_true, Bool.true_and, Bool.and_true, Bool.or_true, Bool.true_or, Bool.false_or, Bool.or_false, if_true, if_false, ↓reduceIte, decide_true, decide_false, Bool.not_false, Bool.not_true, not_true_eq_false, not_false_eq_true, eq_self, Nat.not_lt_zero, Bool.true_eq_false, Bool.false_eq_true, Nat.reduceAdd, Nat.reduceMul, Nat.reduceSub, Nat.reduceEqDiff, Nat.reduceLeDiff, Nat.reduceLT, Nat.reduceDiv, Nat.reduceMod, zb_0, zb_1, zb_b, on_nI, ml_l, rl_sl1, rl_sl2, rl_eq, rl_nj, rl_nk, qL_0, qL_1, qL_11, qL_10000, nI_lL, lN_add, lN_mul, Nat.zero_add, Nat.add_zero, mm_zr0n, mm_zr1n, mm_zrb, b2_0, b2_1, pk_mul, tn_nI, in_nI, mi_lt, rd_eq, rd_nj, rd_nk, rs_eq, rs_nk, rl_si, rl_sA, nI_add, nI_eqI, nI_leI2, nI_ltI2, ql_0, ql_1, ql_2, ql_3, ql_4, ql_5, ql_6, ql_7, ql_8, ql_9, ql_10, ql_11, ql_12, ql_13, ql_14, ql_15, ql_16, ql_17, ql_18, ql_19, ql_20, ql_24, ql_25, ql_26, ql_27, ql_31, ql_32, ql_33, ql_36, ql_45, ql_46, ql_47, ql_48, ql_49, ql_50, ql_57, ql_63, ql_64, ql_65, ql_66, ql_67, ql_68, ql_69, ql_70, ql_71, ql_72, ql_73, ql_74, ql_75, ql_76, ql_77, ql_78, ql_79, ql_80, ql_81, ql_82, ql_83, ql_84, ql_85, ql_86, ql_87, ql_93, ql_96, ql_97, ql_100, ql_101, ql_120, ql_255, ql_256, ql_257, ql_511, ql_672, ql_900, ql_1000, ql_65536, rho_120_1, rho_120_3, rho_120_5, rho_120_6, rho_120_10, rho_120_11, rho_120_12, rho_120_15, rho_120_17, rho_120_18, rho_120_19, rho_120_20, rho_120_22, rho_120_23, kd_120, kd_121, ir_121, iw_121, al_121, h2]
    · by_cases hji : j = i
      · subst hji; rw [f2.1 121 j (by omega), rd_eq]
      · rw [g2 j (by omega) h2, rd_nj (by omega)]
theorem m_keep {σ : mm_M} (h : IV σ) {x : Int32} : SM (mm_ev mX8_keep [.ref 0, .int x] mm_H) (mm_ev mX9_keep [.ref 120, .int x] mm_H) σ := by
  have hin := in_0 x (hi := lN 1) (n := 2) (by decide)
  obtain ⟨s, L, P, lb, hh, D, ac, h1, h2, h3, h4, h5, h6⟩ := h
  cases hx : bl_ x 2
  · refine ⟨.int (-nI 1), σ, σ, ?_, ?_, ⟨s, L, P, lb, hh, D, ac, h1, h2, h3, h4, h5, h6⟩, rfl, ⟨_, rfl⟩, rfl⟩
    · simp (disch := omega) only [vX8_keep, rX8_keep_0, rX8_keep_1, rX8_keep_2, rX8_keep_5, rX8_keep_8, rX8_keep_9, mm_gd_t, mm_kc_v, mm_kc_n, mm_rfs, kl_n, kl_i, kl_r, kl_l, so_0, so_1, so_2, so_3, so_4, beq_self_eq_true, Bool.true_and, Bool.and_true, Bool.or_true, Bool.true_or, Bool.false_or, Bool.or_false, if_true, if_false, ↓reduceIte, decide_true, decide_false, Bool.not_false, Bool.not_true, not_true_eq_false, not_false_eq_true, eq_self, Nat.not_lt_zero, Bool.true_eq_false, Bool.false_eq_true, Nat.reduceAdd, Nat.reduceMul, Nat.reduceSub, Nat.reduceEqDiff, Nat.reduceLeDiff, Nat.reduceLT, Nat.reduceDiv, Nat.reduceMod, zb_0, zb_1, zb_b, on_nI, ml_l, rl_sl1, rl_sl2, rl_eq, rl_nj, rl_nk, qL_0, qL_1, qL_11, qL_10000, nI_lL, lN_add, lN_mul, Nat.zero_add, Nat.add_zero, mm_zr0n, mm_zr1n, mm_zrb, b2_0, b2_1, pk_mul, tn_nI, in_nI, mi_lt, rd_eq, rd_nj, rd_nk, rs_eq, rs_nk, rl_si, rl_sA, nI_add, nI_eqI, nI_leI2, nI_ltI2, ql_0, ql_1, ql_2, ql_3, ql_4, ql_5, ql_6, ql_7, ql_8, ql_9, ql_10, ql_11, ql_12, ql_13, ql_14, ql_15, ql_16, ql_17, ql_18, ql_19, ql_20, ql_24, ql_25, ql_26, ql_27, ql_31, ql_32, ql_33, ql_36, ql_45, ql_46, ql_47, ql_48, ql_49, ql_50, ql_57, ql_63, ql_64, ql_65, ql_66, ql_67, ql_68, ql_69, ql_70, ql_71, ql_72, ql_73, ql_74, ql_75, ql_76, ql_77, ql_78, ql_79, ql_80, ql_81, ql_82, ql_83, ql_84, ql_85, ql_86, ql_87, ql_93, ql_96, ql_97, ql_100, ql_101, ql_120, ql_255, ql_256, ql_257, ql_511, ql_672, ql_900, ql_1000, ql_65536, s_isBelow, hx]
    · rw [hx] at hin
      simp (disch := omega) only [vX9_keep, rX9_keep_0, rX9_keep_1, rX9_keep_2, rX9_keep_3, rX9_keep_4, rX9_keep_7, rX9_keep_10, rX9_keep_11, mm_gd_t, mm_kc_v, mm_kc_n, mm_rfs, kl_n, kl_i, kl_r, kl_l, so_0, so_1, so_2, so_3, so_4, beq_self_eq_true, Bool.true_and, Bool.and_true, Bool.or_true, Bool.true_or, Bool.false_or, Bool.or_false, if_true, if_false, ↓reduceIte, decide_true, decide_false, Bool.not_false, Bool.not_true, not_true_eq_false, not_false_eq_true, eq_self, Nat.not_lt_zero, Bool.true_eq_false, Bool.false_eq_true, Nat.reduceAdd, Nat.reduceMul, Nat.reduceSub, Nat.reduceEqDiff, Nat.reduceLeDiff, Nat.reduceLT, Nat.reduceDiv, Nat.reduceMod, zb_0, zb_1, zb_b, on_nI, ml_l, rl_sl1, rl_sl2, rl_eq, rl_nj, rl_nk, qL_0, qL_1, qL_11, qL_10000, nI_lL, lN_add, lN_mul, Nat.zero_add, Nat.add_zero, mm_zr0n, mm_zr1n, mm_zrb, b2_0, b2_1, pk_mul, tn_nI, in_nI, mi_lt, rd_eq, rd_nj, rd_nk, rs_eq, rs_nk, rl_si, rl_sA, nI_add, nI_eqI, nI_leI2, nI_ltI2, ql_0, ql_1, ql_2, ql_3, ql_4, ql_5, ql_6, ql_7, ql_8, ql_9, ql_10, ql_11, ql_12, ql_13, ql_14, ql_15, ql_16, ql_17, ql_18, ql_19, ql_20, ql_24, ql_25, ql_26, ql_27, ql_31, ql_32, ql_33, ql_36, ql_45, ql_46, ql_47, ql_48, ql_49, ql_50, ql_57, ql_63, ql_64, ql_65, ql_66, ql_67, ql_68, ql_69, ql_70, ql_71, ql_72, ql_73, ql_74, ql_75, ql_76, ql_77, ql_78, ql_79, ql_80, ql_81, ql_82, ql_83, ql_84, ql_85, ql_86, ql_87, ql_93, ql_96, ql_97, ql_100, ql_101, ql_120, ql_255, ql_256, ql_257, ql_511, ql_672, ql_900, ql_1000, ql_65536, s_in, hin]
  · obtain ⟨t, ht, rfl⟩ := bl_of (by omega) hx
    rw [nI_lL (by omega), hx] at hin
    have hw := h2.1.1
    have hbt : cb_ (30 + 12 * t) := by
      have : t = 0 ∨ t = 1 := by omega
      rcases this with h | h <;> subst h
      · exact cb_30
      · exact cb_42
    have hrho : mm_rho 29 t = some (30 + 12 * t) := by
      have : t = 0 ∨ t = 1 := by omega
      rcases this with h | h <;> subst h <;> rfl
    obtain ⟨σ1, e1, f1, g0, g1, g2⟩ := s_copy (σ := σ) hbt cb_15 (by omega)
    have kdb := hbt.1
    let σ2 := mm_si σ1 54 t (nI 1)
    have q15 : σ2.1 15 0 = nI P.1 := by
      show (mm_si σ1 54 t (nI 1)).1 15 0 = _
      rw [rd_nk (by omega), f1.1 15 (by omega)]; exact h2.2.1.1
    have eC : mm_ev mX8_keep [.ref 0, .int (nI t)] mm_H σ = some (some (.int (nI P.1)), mm_H, σ2) := by
      have q15' := q15
      simp only [σ2] at q15'
      rw [rd_nk (by omega)] at q15'
      simp (disch := omega) only [vX8_keep, rX8_keep_0, rX8_keep_1, rX8_keep_2, rX8_keep_5, rX8_keep_8, rX8_keep_9, rX8_keep_10, rX8_keep_11, rX8_keep_14, rX8_keep_15, rX8_keep_16, rX8_keep_17, rX8_keep_20, rX8_keep_23, rX8_keep_24, rX8_keep_27, rX8_keep_28, rX8_keep_29, rX8_keep_30, rX8_keep_31, rX8_keep_34, rX8_keep_37, mm_gd_t, mm_kc_v, mm_kc_n, mm_rfs, kl_n, kl_i, kl_r, kl_l, so_0, so_1, so_2, so_3, so_4, beq_self_eq_true, Bool.true_and, Bool.and_true, Bool.or_true, Bool.true_or, Bool.false_or, Bool.or_false, if_true, if_false, ↓reduceIte, decide_true, decide_false, Bool.not_false, Bool.not_true, not_true_eq_false, not_false_eq_true, eq_self, Nat.not_lt_zero, Bool.true_eq_false, Bool.false_eq_true, Nat.reduceAdd, Nat.reduceMul, Nat.reduceSub, Nat.reduceEqDiff, Nat.reduceLeDiff, Nat.reduceLT, Nat.reduceDiv, Nat.reduceMod, zb_0, zb_1, zb_b, on_nI, ml_l, rl_sl1, rl_sl2, rl_eq, rl_nj, rl_nk, qL_0, qL_1, qL_11, qL_10000, nI_lL, lN_add, lN_mul, Nat.zero_add, Nat.add_zero, mm_zr0n, mm_zr1n, mm_zrb, b2_0, b2_1, pk_mul, tn_nI, in_nI, mi_lt, rd_eq, rd_nj, rd_nk, rs_eq, rs_nk, rl_si, rl_sA, nI_add, nI_eqI, nI_leI2, nI_ltI2, ql_0, ql_1, ql_2, ql_3, ql_4, ql_5, ql_6, ql_7, ql_8, ql_9, ql_10, ql_11, ql_12, ql_13, ql_14, ql_15, ql_16, ql_17, ql_18, ql_19, ql_20, ql_24, ql_25, ql_26, ql_27, ql_31, ql_32, ql_33, ql_36, ql_45, ql_46, ql_47, ql_48, ql_49, ql_50, ql_57, ql_63, ql_64, ql_65, ql_66, ql_67, ql_68, ql_69, ql_70, ql_71, ql_72, ql_73, ql_74, ql_75, ql_76, ql_77, ql_78, ql_79, ql_80, ql_81, ql_82, ql_83, ql_84, ql_85, ql_86, ql_87, ql_93, ql_96, ql_97, ql_100, ql_101, ql_120, ql_255, ql_256, ql_257, ql_511, ql_672, ql_900, ql_1000, ql_65536, rho_0_0, rho_0_1, rho_0_2, rho_0_3, rho_0_4, rho_0_5, rho_0_6, rho_0_7, rho_0_8, rho_0_9, rho_0_10, rho_0_11, rho_0_12, rho_15_1, rho_15_2, rho_29_0, rho_29_1, kd_0, kd_15, kd_29, al_29, kd_54, al_54, s_isBelow, hx, hrho, e1, kdb, q15']
      rfl
    let σ3 := mm_si σ2 133 t (nI 1)
    obtain ⟨σ4, e4, f4, g4⟩ := x_keepL ht 48 0 σ3 (by omega)
    have oth : ∀ k j, k < 30 ∨ 55 ≤ k → k ≠ 133 → k ≠ 134 → σ4.1 k j = σ.1 k j := fun k j a b c => by
      rw [f4.1 k j (by omega)]
      simp (disch := omega) only [σ3, σ2, rd_nk]
      rw [f1.1 k (by omega)]
    have q120 : σ4.1 120 0 = nI P.1 := by rw [oth 120 0 (by omega) (by omega) (by omega)]; exact h2.2.2.1.1
    have eM : mm_ev mX9_keep [.ref 120, .int (nI t)] mm_H σ2 = some (some (.int (nI P.1)), mm_H, σ4) := by
      have e4' := e4
      simp only [σ3] at e4'
      simp (disch := omega) only [vX9_keep, rX9_keep_0, rX9_keep_1, rX9_keep_2, rX9_keep_3, rX9_keep_4, rX9_keep_7, rX9_keep_10, rX9_keep_11, rX9_keep_12, rX9_keep_13, rX9_keep_16, rX9_keep_17, rX9_keep_18, rX9_keep_19, rX9_keep_20, rX9_keep_50, rX9_keep_51, rX9_keep_54, mm_gd_t, mm_kc_v, mm_kc_n, mm_rfs, kl_n, kl_i, kl_r, kl_l, so_0, so_1, so_2, so_3, so_4, beq_self_eq_true, Bool.true_and, Bool.and_true, Bool.or_true, Bool.true_or, Bool.false_or, Bool.or_false, if_true, if_false, ↓reduceIte, decide_true, decide_false, Bool.not_false, Bool.not_true, not_true_eq_false, not_false_eq_true, eq_self, Nat.not_lt_zero, Bool.true_eq_false, Bool.false_eq_true, Nat.reduceAdd, Nat.reduceMul, Nat.reduceSub, Nat.reduceEqDiff, Nat.reduceLeDiff, Nat.reduceLT, Nat.reduceDiv, Nat.reduceMod, zb_0, zb_1, zb_b, on_nI, ml_l, rl_sl1, rl_sl2, rl_eq, rl_nj, rl_nk, qL_0, qL_1, qL_11, qL_10000, nI_lL, lN_add, lN_mul, Nat.zero_add, Nat.add_zero, mm_zr0n, mm_zr1n, mm_zrb, b2_0, b2_1, pk_mul, tn_nI, in_nI, mi_lt, rd_eq, rd_nj, rd_nk, rs_eq, rs_nk, rl_si, rl_sA, nI_add, nI_eqI, nI_leI2, nI_ltI2, ql_0, ql_1, ql_2, ql_3, ql_4, ql_5, ql_6, ql_7, ql_8, ql_9, ql_10, ql_11, ql_12, ql_13, ql_14, ql_15, ql_16, ql_17, ql_18, ql_19, ql_20, ql_24, ql_25, ql_26, ql_27, ql_31, ql_32, ql_33, ql_36, ql_45, ql_46, ql_47, ql_48, ql_49, ql_50, ql_57, ql_63, ql_64, ql_65, ql_66, ql_67, ql_68, ql_69, ql_70, ql_71, ql_72, ql_73, ql_74, ql_75, ql_76, ql_77, ql_78, ql_79, ql_80, ql_81, ql_82, ql_83, ql_84, ql_85, ql_86, ql_87, ql_93, ql_96, ql_97, ql_100, ql_101, ql_120, ql_255, ql_256, ql_257, ql_511, ql_672, ql_900, ql_1000, ql_65536, rho_120_1, rho_120_3, rho_120_5, rho_120_6, rho_120_10, rho_120_11, rho_120_12, rho_120_15, rho_120_17, rho_120_18, rho_120_19, rho_120_20, rho_120_22, rho_120_23, kd_120, kd_133, al_133, s_in, hin, e4', q120]
    refine ⟨_, σ2, σ4, eC, eM, ⟨s, L, P, lb, hh, D, ac, pT_cg h1 (oth 1 0 (by omega) (by omega) (by omega)) (fun j => oth 2 j (by omega) (by omega) (by omega)) (oth 120 4 (by omega) (by omega) (by omega)) (fun j => oth 122 j (by omega) (by omega) (by omega)), pP_cg h2 (fun k j _ _ => oth k j (by omega) (by omega) (by omega)) (oth 120 0 (by omega) (by omega) (by omega)) (fun j _ => oth 121 j (by omega) (by omega) (by omega)), pH_cg h3 (fun k j _ _ => oth k j (by omega) (by omega) (by omega)) (oth 120 16 (by omega) (by omega) (by omega)) (fun k j _ _ => oth k j (by omega) (by omega) (by omega)), ?_, ?_, pA_cg h6 (oth 27 0 (by omega) (by omega) (by omega)) (fun j => oth 28 j (by omega) (by omega) (by omega)) (oth 120 8 (by omega) (by omega) (by omega)) (oth 120 9 (by omega) (by omega) (by omega)) (fun j => oth 125 j (by omega) (by omega) (by omega))⟩, ?_, ⟨_, rfl⟩, by show σ1.2.2 = _; rw [f1.2]⟩
    · show σ4.2.1 0 13 = σ4.2.1 120 21
      rw [f4.2]
      show σ1.2.1 0 13 = σ1.2.1 120 21
      rw [f1.2]; exact h4
    · intro u hu
      by_cases hut : u = t
      · subst hut
        refine ⟨true, ?_, ?_, fun _ => ⟨P, lb, rfl, h2.1, ⟨?_, fun i hi p hp => ?_⟩, fun k hk => ?_, fun i hi p hp => ?_, fun k hk => ?_⟩⟩
        · rw [f4.1 54 u (by omega)]; simp (disch := omega) only [σ3, σ2, rd_nk, rd_eq]; rfl
        · rw [f4.1 133 u (by omega)]; simp (disch := omega) only [σ3, rd_eq]; rfl
        · rw [f4.1 (30 + 12 * u) 0 (by omega)]; simp (disch := omega) only [σ3, σ2, rd_nk]; rw [g0]; exact h2.2.1.1
        · rw [f4.1 (30 + 12 * u + 2 + i) p (by omega)]; simp (disch := omega) only [σ3, σ2, rd_nk]; rw [g1 i (by omega) p hp]; exact h2.2.1.2 i hi p hp
        · rw [f4.1 (41 + 12 * u) k (by omega)]; simp (disch := omega) only [σ3, σ2, rd_nk]
          have := g2 k hk
          rw [show 30 + 12 * u + 11 = 41 + 12 * u by omega] at this
          rw [this]; exact h2.2.2.2.1 k hk
        · rw [show 48 * u + 9 * p + i = 48 * u + (9 * p + i) by omega, g4 _ (by omega) (by omega)]
          simp (disch := omega) only [σ3, σ2, rd_nk]; rw [f1.1 121 (by omega)]
          have := h2.2.2.1.2 i hi p hp
          rwa [show 48 * 0 + 9 * p + i = 9 * p + i by omega] at this
        · rw [show 48 * u + 45 + k = 48 * u + (45 + k) by omega, g4 _ (by omega) (by omega)]
          simp (disch := omega) only [σ3, σ2, rd_nk]; rw [f1.1 121 (by omega)]
          exact h2.2.2.2.2 k hk
      · obtain ⟨b, x1, x2, x3⟩ := h5 u hu
        refine ⟨b, ?_, ?_, fun hb => ?_⟩
        · rw [f4.1 54 u (by omega)]; simp (disch := omega) only [σ3, σ2, rd_nk, rd_nj]; rw [f1.1 54 (by omega)]; exact x1
        · rw [f4.1 133 u (by omega)]; simp (disch := omega) only [σ3, σ2, rd_nk, rd_nj]; rw [f1.1 133 (by omega)]; exact x2
        · obtain ⟨Q, lq, y1, y2, y3, y4, y5, y6⟩ := x3 hb
          have h9 := y2.1
          have o2 : ∀ k j, 30 + 12 * u ≤ k → k < 42 + 12 * u → σ4.1 k j = σ.1 k j := fun k j a b => by
            rw [f4.1 k j (by omega)]; simp (disch := omega) only [σ3, σ2, rd_nk]; rw [f1.1 k (by omega)]
          have o3 : ∀ j, 48 * u ≤ j → j < 48 * u + 48 → σ4.1 134 j = σ.1 134 j := fun j a b => by
            rw [f4.1 134 j (by omega)]; simp (disch := omega) only [σ3, σ2, rd_nk]; rw [f1.1 134 (by omega)]
          exact ⟨Q, lq, y1, y2, ⟨by rw [o2 _ _ (by omega) (by omega)]; exact y3.1, fun i hi p hp => by rw [o2 _ _ (by omega) (by omega)]; exact y3.2 i hi p hp⟩, fun k hk => by rw [o2 _ _ (by omega) (by omega)]; exact y4 k hk, rm_cg y5 h9 (fun j a b => o3 j (by omega) (by omega)), fun k hk => by rw [o3 _ (by omega) (by omega)]; exact y6 k hk⟩
    · rw [f4.2]; show σ1.2.2 = _; rw [f1.2]
theorem m_again {σ : mm_M} (h : IV σ) {x : Int32} : SM (mm_ev mX8_again [.ref 0, .int x] mm_H) (mm_ev mX9_again [.ref 120, .int x] mm_H) σ := by
  have hin := in_0 x (hi := lN 1) (n := 2) (by decide)
  obtain ⟨s, L, P, lb, hh, D, ac, h1, h2, h3, h4, h5, h6⟩ := h
  cases hx : bl_ x 2
  · refine ⟨.int (-nI 1), σ, σ, ?_, ?_, ⟨s, L, P, lb, hh, D, ac, h1, h2, h3, h4, h5, h6⟩, rfl, ⟨_, rfl⟩, rfl⟩
    · simp (disch := omega) only [vX8_again, rX8_again_0, rX8_again_1, rX8_again_2, rX8_again_5, rX8_again_8, rX8_again_9, mm_gd_t, mm_kc_v, mm_kc_n, mm_rfs, kl_n, kl_i, kl_r, kl_l, so_0, so_1, so_2, so_3, so_4, beq_self_eq_true, Bool.true_and, Bool.and_true, Bool.or_true, Bool.true_or, Bool.false_or, Bool.or_false, if_true, if_false, ↓reduceIte, decide_true, decide_false, Bool.not_false, Bool.not_true, not_true_eq_false, not_false_eq_true, eq_self, Nat.not_lt_zero, Bool.true_eq_false, Bool.false_eq_true, Nat.reduceAdd, Nat.reduceMul, Nat.reduceSub, Nat.reduceEqDiff, Nat.reduceLeDiff, Nat.reduceLT, Nat.reduceDiv, Nat.reduceMod, zb_0, zb_1, zb_b, on_nI, ml_l, rl_sl1, rl_sl2, rl_eq, rl_nj, rl_nk, qL_0, qL_1, qL_11, qL_10000, nI_lL, lN_add, lN_mul, Nat.zero_add, Nat.add_zero, mm_zr0n, mm_zr1n, mm_zrb, b2_0, b2_1, pk_mul, tn_nI, in_nI, mi_lt, rd_eq, rd_nj, rd_nk, rs_eq, rs_nk, rl_si, rl_sA, nI_add, nI_eqI, nI_leI2, nI_ltI2, ql_0, ql_1, ql_2, ql_3, ql_4, ql_5, ql_6, ql_7, ql_8, ql_9, ql_10, ql_11, ql_12, ql_13, ql_14, ql_15, ql_16, ql_17, ql_18, ql_19, ql_20, ql_24, ql_25, ql_26, ql_27, ql_31, ql_32, ql_33, ql_36, ql_45, ql_46, ql_47, ql_48, ql_49, ql_50, ql_57, ql_63, ql_64, ql_65, ql_66, ql_67, ql_68, ql_69, ql_70, ql_71, ql_72, ql_73, ql_74, ql_75, ql_76, ql_77, ql_78, ql_79, ql_80, ql_81, ql_82, ql_83, ql_84, ql_85, ql_86, ql_87, ql_93, ql_96, ql_97, ql_100, ql_101, ql_120, ql_255, ql_256, ql_257, ql_511, ql_672, ql_900, ql_1000, ql_65536, s_isBelow, hx]
    · rw [hx] at hin
      simp (disch := omega) only [vX9_again, rX9_again_0, rX9_again_1, rX9_again_2, rX9_again_3, rX9_again_4, rX9_again_7, rX9_again_10, rX9_again_11, mm_gd_t, mm_kc_v, mm_kc_n, mm_rfs, kl_n, kl_i, kl_r, kl_l, so_0, so_1, so_2, so_3, so_4, beq_self_eq_true, Bool.true_and, Bool.and_true, Bool.or_true, Bool.true_or, Bool.false_or, Bool.or_false, if_true, if_false, ↓reduceIte, decide_true, decide_false, Bool.not_false, Bool.not_true, not_true_eq_false, not_false_eq_true, eq_self, Nat.not_lt_zero, Bool.true_eq_false, Bool.false_eq_true, Nat.reduceAdd, Nat.reduceMul, Nat.reduceSub, Nat.reduceEqDiff, Nat.reduceLeDiff, Nat.reduceLT, Nat.reduceDiv, Nat.reduceMod, zb_0, zb_1, zb_b, on_nI, ml_l, rl_sl1, rl_sl2, rl_eq, rl_nj, rl_nk, qL_0, qL_1, qL_11, qL_10000, nI_lL, lN_add, lN_mul, Nat.zero_add, Nat.add_zero, mm_zr0n, mm_zr1n, mm_zrb, b2_0, b2_1, pk_mul, tn_nI, in_nI, mi_lt, rd_eq, rd_nj, rd_nk, rs_eq, rs_nk, rl_si, rl_sA, nI_add, nI_eqI, nI_leI2, nI_ltI2, ql_0, ql_1, ql_2, ql_3, ql_4, ql_5, ql_6, ql_7, ql_8, ql_9, ql_10, ql_11, ql_12, ql_13, ql_14, ql_15, ql_16, ql_17, ql_18, ql_19, ql_20, ql_24, ql_25, ql_26, ql_27, ql_31, ql_32, ql_33, ql_36, ql_45, ql_46, ql_47, ql_48, ql_49, ql_50, ql_57, ql_63, ql_64, ql_65, ql_66, ql_67, ql_68, ql_69, ql_70, ql_71, ql_72, ql_73, ql_74, ql_75, ql_76, ql_77, ql_78, ql_79, ql_80, ql_81, ql_82, ql_83, ql_84, ql_85, ql_86, ql_87, ql_93, ql_96, ql_97, ql_100, ql_101, ql_120, ql_255, ql_256, ql_257, ql_511, ql_672, ql_900, ql_1000, ql_65536, s_in, hin]
  · obtain ⟨t, ht, rfl⟩ := bl_of (by omega) hx
    rw [nI_lL (by omega), hx] at hin
    obtain ⟨b, x1, x2, x3⟩ := h5 t ht
    cases hb : b
    · subst hb
      refine ⟨.int (-nI 3), σ, σ, ?_, ?_, ⟨s, L, P, lb, hh, D, ac, h1, h2, h3, h4, h5, h6⟩, rfl, ⟨_, rfl⟩, rfl⟩
      · simp (disch := omega) only [vX8_again, rX8_again_0, rX8_again_1, rX8_again_2, rX8_again_5, rX8_again_8, rX8_again_9, rX8_again_10, rX8_again_11, rX8_again_14, rX8_again_15, rX8_again_16, rX8_again_19, rX8_again_21, rX8_again_22, mm_gd_t, mm_kc_v, mm_kc_n, mm_rfs, kl_n, kl_i, kl_r, kl_l, so_0, so_1, so_2, so_3, so_4, beq_self_eq_true, Bool.true_and, Bool.and_true, Bool.or_true, Bool.true_or, Bool.false_or, Bool.or_false, if_true, if_false, ↓reduceIte, decide_true, decide_false, Bool.not_false, Bool.not_true, not_true_eq_false, not_false_eq_true, eq_self, Nat.not_lt_zero, Bool.true_eq_false, Bool.false_eq_true, Nat.reduceAdd, Nat.reduceMul, Nat.reduceSub, Nat.reduceEqDiff, Nat.reduceLeDiff, Nat.reduceLT, Nat.reduceDiv, Nat.reduceMod, zb_0, zb_1, zb_b, on_nI, ml_l, rl_sl1, rl_sl2, rl_eq, rl_nj, rl_nk, qL_0, qL_1, qL_11, qL_10000, nI_lL, lN_add, lN_mul, Nat.zero_add, Nat.add_zero, mm_zr0n, mm_zr1n, mm_zrb, b2_0, b2_1, pk_mul, tn_nI, in_nI, mi_lt, rd_eq, rd_nj, rd_nk, rs_eq, rs_nk, rl_si, rl_sA, nI_add, nI_eqI, nI_leI2, nI_ltI2, ql_0, ql_1, ql_2, ql_3, ql_4, ql_5, ql_6, ql_7, ql_8, ql_9, ql_10, ql_11, ql_12, ql_13, ql_14, ql_15, ql_16, ql_17, ql_18, ql_19, ql_20, ql_24, ql_25, ql_26, ql_27, ql_31, ql_32, ql_33, ql_36, ql_45, ql_46, ql_47, ql_48, ql_49, ql_50, ql_57, ql_63, ql_64, ql_65, ql_66, ql_67, ql_68, ql_69, ql_70, ql_71, ql_72, ql_73, ql_74, ql_75, ql_76, ql_77, ql_78, ql_79, ql_80, ql_81, ql_82, ql_83, ql_84, ql_85, ql_86, ql_87, ql_93, ql_96, ql_97, ql_100, ql_101, ql_120, ql_255, ql_256, ql_257, ql_511, ql_672, ql_900, ql_1000, ql_65536, rho_0_0, rho_0_1, rho_0_2, rho_0_3, rho_0_4, rho_0_5, rho_0_6, rho_0_7, rho_0_8, rho_0_9, rho_0_10, rho_0_11, rho_0_12, kd_0, kd_54, al_54, s_isBelow, hx, x1]
      · simp (disch := omega) only [vX9_again, rX9_again_0, rX9_again_1, rX9_again_2, rX9_again_3, rX9_again_4, rX9_again_7, rX9_again_10, rX9_again_11, rX9_again_12, rX9_again_13, rX9_again_16, rX9_again_17, rX9_again_18, rX9_again_21, rX9_again_23, mm_gd_t, mm_kc_v, mm_kc_n, mm_rfs, kl_n, kl_i, kl_r, kl_l, so_0, so_1, so_2, so_3, so_4, beq_self_eq_true, Bool.true_and, Bool.and_true, Bool.or_true, Bool.true_or, Bool.false_or, Bool.or_false, if_true, if_false, ↓reduceIte, decide_true, decide_false, Bool.not_false, Bool.not_true, not_true_eq_false, not_false_eq_true, eq_self, Nat.not_lt_zero, Bool.true_eq_false, Bool.false_eq_true, Nat.reduceAdd, Nat.reduceMul, Nat.reduceSub, Nat.reduceEqDiff, Nat.reduceLeDiff, Nat.reduceLT, Nat.reduceDiv, Nat.reduceMod, zb_0, zb_1, zb_b, on_nI, ml_l, rl_sl1, rl_sl2, rl_eq, rl_nj, rl_nk, qL_0, qL_1, qL_11, qL_10000, nI_lL, lN_add, lN_mul, Nat.zero_add, Nat.add_zero, mm_zr0n, mm_zr1n, mm_zrb, b2_0, b2_1, pk_mul, tn_nI, in_nI, mi_lt, rd_eq, rd_nj, rd_nk, rs_eq, rs_nk, rl_si, rl_sA, nI_add, nI_eqI, nI_leI2, nI_ltI2, ql_0, ql_1, ql_2, ql_3, ql_4, ql_5, ql_6, ql_7, ql_8, ql_9, ql_10, ql_11, ql_12, ql_13, ql_14, ql_15, ql_16, ql_17, ql_18, ql_19, ql_20, ql_24, ql_25, ql_26, ql_27, ql_31, ql_32, ql_33, ql_36, ql_45, ql_46, ql_47, ql_48, ql_49, ql_50, ql_57, ql_63, ql_64, ql_65, ql_66, ql_67, ql_68, ql_69, ql_70, ql_71, ql_72, ql_73, ql_74, ql_75, ql_76, ql_77, ql_78, ql_79, ql_80, ql_81, ql_82, ql_83, ql_84, ql_85, ql_86, ql_87, ql_93, ql_96, ql_97, ql_100, ql_101, ql_120, ql_255, ql_256, ql_257, ql_511, ql_672, ql_900, ql_1000, ql_65536, rho_120_1, rho_120_3, rho_120_5, rho_120_6, rho_120_10, rho_120_11, rho_120_12, rho_120_15, rho_120_17, rho_120_18, rho_120_19, rho_120_20, rho_120_22, rho_120_23, kd_120, kd_133, al_133, s_in, hin, x2]
    · subst hb
      obtain ⟨Q, lq, y1, y2, y3, y4, y5, y6⟩ := x3 rfl
      have h9 := y2.1
      have hbt : cb_ (30 + 12 * t) := by
        have : t = 0 ∨ t = 1 := by omega
        rcases this with h | h <;> subst h
        · exact cb_30
        · exact cb_42
      have hrho : mm_rho 29 t = some (30 + 12 * t) := by
        have : t = 0 ∨ t = 1 := by omega
        rcases this with h | h <;> subst h <;> rfl
      obtain ⟨σ1, e1, f1, g0, g1, g2⟩ := s_copy (σ := σ) cb_15 hbt (by omega)
      let σ2 := mm_si σ1 27 0 (nI 0)
      have q15 : σ1.1 15 0 = nI P.1 := by rw [g0, ← y1]; exact y3.1
      have eC : mm_ev mX8_again [.ref 0, .int (nI t)] mm_H σ = some (some (.int (nI P.1)), mm_H, σ2) := by
        simp (disch := omega) only [vX8_again, rX8_again_0, rX8_again_1, rX8_again_2, rX8_again_5, rX8_again_8, rX8_again_9, rX8_again_10, rX8_again_11, rX8_again_14, rX8_again_15, rX8_again_16, rX8_again_19, rX8_again_21, rX8_again_22, rX8_again_23, rX8_again_26, rX8_again_27, rX8_again_30, rX8_again_31, rX8_again_32, rX8_again_35, rX8_again_36, rX8_again_39, rX8_again_40, rX8_again_43, rX8_again_44, rX8_again_47, rX8_again_50, mm_gd_t, mm_kc_v, mm_kc_n, mm_rfs, kl_n, kl_i, kl_r, kl_l, so_0, so_1, so_2, so_3, so_4, beq_self_eq_true, Bool.true_and, Bool.and_true, Bool.or_true, Bool.true_or, Bool.false_or, Bool.or_false, if_true, if_false, ↓reduceIte, decide_true, decide_false, Bool.not_false, Bool.not_true, not_true_eq_false, not_false_eq_true, eq_self, Nat.not_lt_zero, Bool.true_eq_false, Bool.false_eq_true, Nat.reduceAdd, Nat.reduceMul, Nat.reduceSub, Nat.reduceEqDiff, Nat.reduceLeDiff, Nat.reduceLT, Nat.reduceDiv, Nat.reduceMod, zb_0, zb_1, zb_b, on_nI, ml_l, rl_sl1, rl_sl2, rl_eq, rl_nj, rl_nk, qL_0, qL_1, qL_11, qL_10000, nI_lL, lN_add, lN_mul, Nat.zero_add, Nat.add_zero, mm_zr0n, mm_zr1n, mm_zrb, b2_0, b2_1, pk_mul, tn_nI, in_nI, mi_lt, rd_eq, rd_nj, rd_nk, rs_eq, rs_nk, rl_si, rl_sA, nI_add, nI_eqI, nI_leI2, nI_ltI2, ql_0, ql_1, ql_2, ql_3, ql_4, ql_5, ql_6, ql_7, ql_8, ql_9, ql_10, ql_11, ql_12, ql_13, ql_14, ql_15, ql_16, ql_17, ql_18, ql_19, ql_20, ql_24, ql_25, ql_26, ql_27, ql_31, ql_32, ql_33, ql_36, ql_45, ql_46, ql_47, ql_48, ql_49, ql_50, ql_57, ql_63, ql_64, ql_65, ql_66, ql_67, ql_68, ql_69, ql_70, ql_71, ql_72, ql_73, ql_74, ql_75, ql_76, ql_77, ql_78, ql_79, ql_80, ql_81, ql_82, ql_83, ql_84, ql_85, ql_86, ql_87, ql_93, ql_96, ql_97, ql_100, ql_101, ql_120, ql_255, ql_256, ql_257, ql_511, ql_672, ql_900, ql_1000, ql_65536, rho_0_0, rho_0_1, rho_0_2, rho_0_3, rho_0_4, rho_0_5, rho_0_6, rho_0_7, rho_0_8, rho_0_9, rho_0_10, rho_0_11, rho_0_12, rho_15_1, rho_15_2, rho_27_1, rho_29_0, rho_29_1, kd_0, kd_15, kd_27, kd_29, al_29, kd_54, al_54, s_isBelow, hx, hrho, e1, x1, q15]
        rfl
      obtain ⟨σ3, e3, f3, g3⟩ := x_againL ht 48 0 σ2 (by omega)
      let σ4 := mm_si σ3 120 8 (nI 0)
      have x2' : σ2.1 133 t = nI (b2 true) := by
        simp (disch := omega) only [σ2, rd_nk]; rw [f1.1 133 (by omega)]; exact x2
      have q120 : σ3.1 120 0 = nI P.1 := by
        rw [f3.1 120 0 (by omega)]; simp (disch := omega) only [σ2, rd_nk]; rw [f1.1 120 (by omega)]; exact h2.2.2.1.1
      have eM : mm_ev mX9_again [.ref 120, .int (nI t)] mm_H σ2 = some (some (.int (nI P.1)), mm_H, σ4) := by
        simp (disch := omega) only [vX9_again, rX9_again_0, rX9_again_1, rX9_again_2, rX9_again_3, rX9_again_4, rX9_again_7, rX9_again_10, rX9_again_11, rX9_again_12, rX9_again_13, rX9_again_16, rX9_again_17, rX9_again_18, rX9_again_21, rX9_again_23, rX9_again_24, rX9_again_25, rX9_again_55, rX9_again_56, rX9_again_57, rX9_again_60, rX9_again_61, rX9_again_64, mm_gd_t, mm_kc_v, mm_kc_n, mm_rfs, kl_n, kl_i, kl_r, kl_l, so_0, so_1, so_2, so_3, so_4, beq_self_eq_true, Bool.true_and, Bool.and_true, Bool.or_true, Bool.true_or, Bool.false_or, Bool.or_false, if_true, if_false, ↓reduceIte, decide_true, decide_false, Bool.not_false, Bool.not_true, not_true_eq_false, not_false_eq_true, eq_self, Nat.not_lt_zero, Bool.true_eq_false, Bool.false_eq_true, Nat.reduceAdd, Nat.reduceMul, Nat.reduceSub, Nat.reduceEqDiff, Nat.reduceLeDiff, Nat.reduceLT, Nat.reduceDiv, Nat.reduceMod, zb_0, zb_1, zb_b, on_nI, ml_l, rl_sl1, rl_sl2, rl_eq, rl_nj, rl_nk, qL_0, qL_1, qL_11, qL_10000, nI_lL, lN_add, lN_mul, Nat.zero_add, Nat.add_zero, mm_zr0n, mm_zr1n, mm_zrb, b2_0, b2_1, pk_mul, tn_nI, in_nI, mi_lt, rd_eq, rd_nj, rd_nk, rs_eq, rs_nk, rl_si, rl_sA, nI_add, nI_eqI, nI_leI2, nI_ltI2, ql_0, ql_1, ql_2, ql_3, ql_4, ql_5, ql_6, ql_7, ql_8, ql_9, ql_10, ql_11, ql_12, ql_13, ql_14, ql_15, ql_16, ql_17, ql_18, ql_19, ql_20, ql_24, ql_25, ql_26, ql_27, ql_31, ql_32, ql_33, ql_36, ql_45, ql_46, ql_47, ql_48, ql_49, ql_50, ql_57, ql_63, ql_64, ql_65, ql_66, ql_67, ql_68, ql_69, ql_70, ql_71, ql_72, ql_73, ql_74, ql_75, ql_76, ql_77, ql_78, ql_79, ql_80, ql_81, ql_82, ql_83, ql_84, ql_85, ql_86, ql_87, ql_93, ql_96, ql_97, ql_100, ql_101, ql_120, ql_255, ql_256, ql_257, ql_511, ql_672, ql_900, ql_1000, ql_65536, rho_120_1, rho_120_3, rho_120_5, rho_120_6, rho_120_10, rho_120_11, rho_120_12, rho_120_15, rho_120_17, rho_120_18, rho_120_19, rho_120_20, rho_120_22, rho_120_23, kd_120, kd_133, al_133, s_in, hin, x2', e3, q120]
        rfl
      have oth : ∀ k j, ¬ (15 ≤ k ∧ k < 28) → k ≠ 121 → (k ≠ 120 ∨ j ≠ 8) → σ4.1 k j = σ.1 k j := fun k j a b c => by
        have : σ4.1 k j = σ3.1 k j := by
          by_cases h120 : k = 120
          · subst h120; simp (disch := omega) only [σ4, rd_nj]
          · simp (disch := omega) only [σ4, rd_nk]
        rw [this, f3.1 k j (by omega)]
        simp (disch := omega) only [σ2, rd_nk]
        rw [f1.1 k (by omega)]
      have o2 : ∀ k j, k < 27 → σ4.1 k j = σ1.1 k j := fun k j a => by
        simp (disch := omega) only [σ4, rd_nk]; rw [f3.1 k j (by omega)]; simp (disch := omega) only [σ2, rd_nk]
      have o3 : ∀ j, j < 48 → σ4.1 121 j = σ.1 134 (48 * t + j) := fun j hj => by
        simp (disch := omega) only [σ4, rd_nk]; rw [g3 j (by omega) hj]; simp (disch := omega) only [σ2, rd_nk]; rw [f1.1 134 (by omega)]
      have a9 := h6
      obtain ⟨b1, b2', b3, nx, S, b4, b5, b6⟩ := a9
      refine ⟨_, σ2, σ4, eC, eM, ⟨s, L, Q, lq, hh, D, 0, pT_cg h1 (oth 1 0 (by omega) (by omega) (by omega)) (fun j => oth 2 j (by omega) (by omega) (by omega)) (oth 120 4 (by omega) (by omega) (by omega)) (fun j => oth 122 j (by omega) (by omega) (by omega)), ⟨y2, ⟨?_, fun i hi p hp => ?_⟩, ⟨?_, fun i hi p hp => ?_⟩, fun k hk => ?_, fun k hk => ?_⟩, pH_cg h3 (fun k j _ _ => oth k j (by omega) (by omega) (by omega)) (oth 120 16 (by omega) (by omega) (by omega)) (fun k j _ _ => oth k j (by omega) (by omega) (by omega)), ?_, ?_, ⟨by omega, ?_, ?_, nx, fun _ => (Q, lq), b4, ?_, rfl, fun _ _ => rfl, fun _ _ => rfl, fun j hj => by omega⟩⟩, ?_, ⟨_, rfl⟩, by show σ1.2.2 = _; rw [f1.2]⟩
      · rw [o2 15 0 (by omega), g0]; exact y3.1
      · rw [o2 _ p (by omega), g1 i (by omega) p hp]; exact y3.2 i hi p hp
      · rw [oth 120 0 (by omega) (by omega) (by omega), y1]; exact h2.2.2.1.1
      · rw [o3 _ (by omega)]
        have := y5 i hi p hp
        rwa [show 48 * t + 9 * p + i = 48 * t + (48 * 0 + 9 * p + i) by omega] at this
      · rw [o2 26 k (by omega)]
        have := g2 k hk
        rw [show 30 + 12 * t + 11 = 41 + 12 * t by omega] at this
        rw [this]; exact y4 k hk
      · rw [o3 _ (by omega)]
        have := y6 k hk
        rwa [show 48 * t + 45 + k = 48 * t + (45 + k) by omega] at this
      · show σ4.2.1 0 13 = σ4.2.1 120 21
        show σ3.2.1 0 13 = σ3.2.1 120 21
        rw [f3.2]
        show σ1.2.1 0 13 = σ1.2.1 120 21
        rw [f1.2]; exact h4
      · rw [y1]
        exact pK_cg h5 (fun k j _ _ => oth k j (by omega) (by omega) (by omega)) (fun j => oth 133 j (by omega) (by omega) (by omega)) (fun j => oth 134 j (by omega) (by omega) (by omega))
      · show (mm_si σ3 120 8 (nI 0)).1 27 0 = _
        rw [rd_nk (by omega), f3.1 27 0 (by omega)]; exact rd_eq
      · exact rd_eq
      · rw [oth 120 9 (by omega) (by omega) (by omega)]; exact b5
      · show σ3.2.2 = _
        rw [f3.2]; show σ1.2.2 = _; rw [f1.2]
theorem pa_lt {L : Nat → Nat} {s q : Nat} : ∀ (d place : Nat) (P : pp_) (p far : Nat), place + d = s → (pa_ L s d place P p far).1 = some q → q ≤ s
  | 0, place, P, p, far, h, e => by
    unfold pa_ at e
    simp only at e
    split at e
    · cases e
    · cases e; omega
  | d + 1, place, P, p, far, h, e => by
    unfold pa_ at e
    split at e
    · split at e
      · cases e; omega
      · split at e
        · cases e; omega
        · exact pa_lt d (place + 1) _ _ _ (by omega) e
    · split at e
      · cases e; omega
      · exact pa_lt d (place + 1) _ _ _ (by omega) e
theorem pt_lt {L : Nat → Nat} {s q : Nat} (h : (pt_ L s).1 = some q) : q ≤ s := by
  unfold pt_ at h
  split at h
  · cases h; omega
  · exact pa_lt _ _ _ _ _ (by omega) h
theorem nI_m9 {q : Nat} (h : q ≤ 48) : ¬ nI q = -nI 9 := (by decide : ∀ q, q ≤ 48 → ¬ nI q = -nI 9) q h
theorem m_program {σ : mm_M} (h : IV σ) : SM (mm_ev mX8_program [.ref 0] mm_H) (mm_ev mX9_program [.ref 120] mm_H) σ := by
  obtain ⟨s, L, P, lb, hh, D, ac, hi⟩ := h
  obtain ⟨σ1, e1, f1, g1⟩ := s_readInto hi.1.1
  have i1 := iv_eq hi (eq_3 f1)
  have hlm := i1.1.2
  cases ho : (pt_ L s).1 with
  | some q =>
    obtain ⟨σ2, e2, f2, _⟩ := x_readText hlm
    have i2 := iv_eq i1 (eq_Z f2)
    rw [ho] at e1 e2
    have hq : ¬ nI q = -nI 9 := nI_m9 (Nat.le_trans (pt_lt ho) hi.1.1.1)
    have hfo : fo_ (some q) = nI q := rfl
    rw [hfo] at e1 e2
    refine ⟨.int (-nI 3), σ1, σ2, ?_, ?_, ⟨s, L, P, lb, hh, D, ac, i2⟩, by rw [f2.2, f1.2], ⟨_, rfl⟩, by rw [f1.2]⟩
    · simp (disch := omega) only [vX8_program, rX8_program_0, rX8_program_1, rX8_program_4, rX8_program_5, rX8_program_8, rX8_program_11, rX8_program_13, rX8_program_16, rX8_program_18, mm_gd_t, mm_kc_v, mm_kc_n, mm_rfs, kl_n, kl_i, kl_r, kl_l, so_0, so_1, so_2, so_3, so_4, beq_self_eq_true, Bool.true_and, Bool.and_true, Bool.or_true, Bool.true_or, Bool.false_or, Bool.or_false, if_true, if_false, ↓reduceIte, decide_true, decide_false, Bool.not_false, Bool.not_true, not_true_eq_false, not_false_eq_true, eq_self, Nat.not_lt_zero, Bool.true_eq_false, Bool.false_eq_true, Nat.reduceAdd, Nat.reduceMul, Nat.reduceSub, Nat.reduceEqDiff, Nat.reduceLeDiff, Nat.reduceLT, Nat.reduceDiv, Nat.reduceMod, zb_0, zb_1, zb_b, on_nI, ml_l, rl_sl1, rl_sl2, rl_eq, rl_nj, rl_nk, qL_0, qL_1, qL_11, qL_10000, nI_lL, lN_add, lN_mul, Nat.zero_add, Nat.add_zero, mm_zr0n, mm_zr1n, mm_zrb, b2_0, b2_1, pk_mul, tn_nI, in_nI, mi_lt, rd_eq, rd_nj, rd_nk, rs_eq, rs_nk, rl_si, rl_sA, nI_add, nI_eqI, nI_leI2, nI_ltI2, ql_0, ql_1, ql_2, ql_3, ql_4, ql_5, ql_6, ql_7, ql_8, ql_9, ql_10, ql_11, ql_12, ql_13, ql_14, ql_15, ql_16, ql_17, ql_18, ql_19, ql_20, ql_24, ql_25, ql_26, ql_27, ql_31, ql_32, ql_33, ql_36, ql_45, ql_46, ql_47, ql_48, ql_49, ql_50, ql_57, ql_63, ql_64, ql_65, ql_66, ql_67, ql_68, ql_69, ql_70, ql_71, ql_72, ql_73, ql_74, ql_75, ql_76, ql_77, ql_78, ql_79, ql_80, ql_81, ql_82, ql_83, ql_84, ql_85, ql_86, ql_87, ql_93, ql_96, ql_97, ql_100, ql_101, ql_120, ql_255, ql_256, ql_257, ql_511, ql_672, ql_900, ql_1000, ql_65536, rho_0_0, rho_0_1, rho_0_2, rho_0_3, rho_0_4, rho_0_5, rho_0_6, rho_0_7, rho_0_8, rho_0_9, rho_0_10, rho_0_11, rho_0_12, rho_1_1, kd_0, kd_1, e1, hq]
    · simp (disch := omega) only [vX9_program, rX9_program_0, rX9_program_1, rX9_program_4, rX9_program_6, rX9_program_9, rX9_program_11, mm_gd_t, mm_kc_v, mm_kc_n, mm_rfs, kl_n, kl_i, kl_r, kl_l, so_0, so_1, so_2, so_3, so_4, beq_self_eq_true, Bool.true_and, Bool.and_true, Bool.or_true, Bool.true_or, Bool.false_or, Bool.or_false, if_true, if_false, ↓reduceIte, decide_true, decide_false, Bool.not_false, Bool.not_true, not_true_eq_false, not_false_eq_true, eq_self, Nat.not_lt_zero, Bool.true_eq_false, Bool.false_eq_true, Nat.reduceAdd, Nat.reduceMul, Nat.reduceSub, Nat.reduceEqDiff, Nat.reduceLeDiff, Nat.reduceLT, Nat.reduceDiv, Nat.reduceMod, zb_0, zb_1, zb_b, on_nI, ml_l, rl_sl1, rl_sl2, rl_eq, rl_nj, rl_nk, qL_0, qL_1, qL_11, qL_10000, nI_lL, lN_add, lN_mul, Nat.zero_add, Nat.add_zero, mm_zr0n, mm_zr1n, mm_zrb, b2_0, b2_1, pk_mul, tn_nI, in_nI, mi_lt, rd_eq, rd_nj, rd_nk, rs_eq, rs_nk, rl_si, rl_sA, nI_add, nI_eqI, nI_leI2, nI_ltI2, ql_0, ql_1, ql_2, ql_3, ql_4, ql_5, ql_6, ql_7, ql_8, ql_9, ql_10, ql_11, ql_12, ql_13, ql_14, ql_15, ql_16, ql_17, ql_18, ql_19, ql_20, ql_24, ql_25, ql_26, ql_27, ql_31, ql_32, ql_33, ql_36, ql_45, ql_46, ql_47, ql_48, ql_49, ql_50, ql_57, ql_63, ql_64, ql_65, ql_66, ql_67, ql_68, ql_69, ql_70, ql_71, ql_72, ql_73, ql_74, ql_75, ql_76, ql_77, ql_78, ql_79, ql_80, ql_81, ql_82, ql_83, ql_84, ql_85, ql_86, ql_87, ql_93, ql_96, ql_97, ql_100, ql_101, ql_120, ql_255, ql_256, ql_257, ql_511, ql_672, ql_900, ql_1000, ql_65536, rho_120_1, rho_120_3, rho_120_5, rho_120_6, rho_120_10, rho_120_11, rho_120_12, rho_120_15, rho_120_17, rho_120_18, rho_120_19, rho_120_20, rho_120_22, rho_120_23, kd_120, e2, hq]
  | none =>
    have hw := pt_wf ho
    obtain ⟨g11, g12⟩ := g1 ho
    have h9 := hw.1
    rw [ho] at e1
    have hfo : fo_ none = -nI 9 := rfl
    rw [hfo] at e1
    obtain ⟨σ2, e2, f2, a0, a1, a2⟩ := s_copy (σ := σ1) cb_15 cb_3 (by omega)
    let σ3 := mm_si (mm_si (mm_si σ2 27 0 (nI 0)) 54 0 (nI 0)) 54 1 (nI 0)
    have q15 : σ2.1 15 0 = nI (pt_ L s).2.1 := by rw [a0]; exact g11.1
    have eC : mm_ev mX8_program [.ref 0] mm_H σ = some (some (.int (nI (pt_ L s).2.1)), mm_H, σ3) := by
      simp (disch := omega) only [vX8_program, rX8_program_0, rX8_program_1, rX8_program_4, rX8_program_5, rX8_program_8, rX8_program_11, rX8_program_13, rX8_program_16, rX8_program_18, rX8_program_19, rX8_program_20, rX8_program_23, rX8_program_24, rX8_program_27, rX8_program_30, rX8_program_31, rX8_program_34, rX8_program_35, rX8_program_38, rX8_program_39, rX8_program_40, rX8_program_41, rX8_program_42, rX8_program_45, rX8_program_46, rX8_program_49, rX8_program_50, rX8_program_51, rX8_program_52, rX8_program_55, rX8_program_58, rX8_program_59, rX8_program_62, rX8_program_65, mm_gd_t, mm_kc_v, mm_kc_n, mm_rfs, kl_n, kl_i, kl_r, kl_l, so_0, so_1, so_2, so_3, so_4, beq_self_eq_true, Bool.true_and, Bool.and_true, Bool.or_true, Bool.true_or, Bool.false_or, Bool.or_false, if_true, if_false, ↓reduceIte, decide_true, decide_false, Bool.not_false, Bool.not_true, not_true_eq_false, not_false_eq_true, eq_self, Nat.not_lt_zero, Bool.true_eq_false, Bool.false_eq_true, Nat.reduceAdd, Nat.reduceMul, Nat.reduceSub, Nat.reduceEqDiff, Nat.reduceLeDiff, Nat.reduceLT, Nat.reduceDiv, Nat.reduceMod, zb_0, zb_1, zb_b, on_nI, ml_l, rl_sl1, rl_sl2, rl_eq, rl_nj, rl_nk, qL_0, qL_1, qL_11, qL_10000, nI_lL, lN_add, lN_mul, Nat.zero_add, Nat.add_zero, mm_zr0n, mm_zr1n, mm_zrb, b2_0, b2_1, pk_mul, tn_nI, in_nI, mi_lt, rd_eq, rd_nj, rd_nk, rs_eq, rs_nk, rl_si, rl_sA, nI_add, nI_eqI, nI_leI2, nI_ltI2, ql_0, ql_1, ql_2, ql_3, ql_4, ql_5, ql_6, ql_7, ql_8, ql_9, ql_10, ql_11, ql_12, ql_13, ql_14, ql_15, ql_16, ql_17, ql_18, ql_19, ql_20, ql_24, ql_25, ql_26, ql_27, ql_31, ql_32, ql_33, ql_36, ql_45, ql_46, ql_47, ql_48, ql_49, ql_50, ql_57, ql_63, ql_64, ql_65, ql_66, ql_67, ql_68, ql_69, ql_70, ql_71, ql_72, ql_73, ql_74, ql_75, ql_76, ql_77, ql_78, ql_79, ql_80, ql_81, ql_82, ql_83, ql_84, ql_85, ql_86, ql_87, ql_93, ql_96, ql_97, ql_100, ql_101, ql_120, ql_255, ql_256, ql_257, ql_511, ql_672, ql_900, ql_1000, ql_65536, rho_0_0, rho_0_1, rho_0_2, rho_0_3, rho_0_4, rho_0_5, rho_0_6, rho_0_7, rho_0_8, rho_0_9, rho_0_10, rho_0_11, rho_0_12, rho_1_1, rho_3_1, rho_3_2, rho_15_1, rho_15_2, rho_27_1, kd_0, kd_1, kd_3, kd_15, kd_27, kd_54, al_54, e1, e2, q15]
      rfl
    have o3 : ∀ k j, ¬ (15 ≤ k ∧ k < 28) → k ≠ 54 → σ3.1 k j = σ1.1 k j := fun k j a b => by
      simp (disch := omega) only [σ3, rd_nk]; rw [f2.1 k (by omega)]
    have hlm3 : lm_ok σ3 s L := ⟨hlm.1, by rw [o3 120 4 (by omega) (by omega)]; exact hlm.2.1, fun j hj => by rw [o3 122 j (by omega) (by omega)]; exact hlm.2.2.1 j hj, hlm.2.2.2⟩
    obtain ⟨σ4, e4, f4, g4⟩ := x_readText hlm3
    obtain ⟨g41, g42⟩ := g4 ho
    rw [ho, hfo] at e4
    let σ5 := mm_si σ4 120 0 (nI (pt_ L s).2.1)
    obtain ⟨σ6, e6, f6, g6⟩ := x_progL 45 0 σ5 (by omega)
    let σ7 := mm_si (mm_si (mm_si (mm_si (mm_si (mm_si σ6 121 45 (nI 0)) 121 46 (nI 1)) 121 47 (nI 2)) 120 8 (nI 0)) 133 0 (nI 0)) 133 1 (nI 0)
    have o7 : ∀ k j, (k ≠ 120 ∨ (j ≠ 0 ∧ j ≠ 2 ∧ j ≠ 8)) → k ≠ 121 → k ≠ 133 → σ7.1 k j = σ3.1 k j := fun k j a b c => by
      have : σ7.1 k j = σ6.1 k j := by
        by_cases h120 : k = 120
        · subst h120; simp (disch := omega) only [σ7, rd_nk, rd_nj]
        · simp (disch := omega) only [σ7, rd_nk]
      rw [this, f6.1 k j (by omega)]
      have : σ5.1 k j = σ4.1 k j := by
        by_cases h120 : k = 120
        · subst h120; simp (disch := omega) only [σ5, rd_nj]
        · simp (disch := omega) only [σ5, rd_nk]
      rw [this, f4.1 k j (by omega) (by omega)]
    have q7 : σ7.1 120 0 = nI (pt_ L s).2.1 := by
      simp (disch := omega) only [σ7, rd_nk, rd_nj]; rw [f6.1 120 0 (by omega)]; exact rd_eq
    have r7 : rq_ 0 σ7 (pt_ L s).2 := ⟨q7, fun i hi p hp => by
      have : σ7.1 121 (48 * 0 + 9 * p + i) = σ6.1 121 (48 * 0 + 9 * p + i) := by simp (disch := omega) only [σ7, rd_nk, rd_nj]
      rw [this, g6 _ (by omega) (by omega)]
      show (mm_si σ4 120 0 _).1 121 _ = _
      rw [rd_nk (by omega)]
      have := g42 i hi p hp
      rwa [show 48 + 9 * p + i = 48 + (48 * 0 + 9 * p + i) by omega] at this⟩
    have l7 : ∀ k, k < 3 → σ7.1 121 (48 * 0 + 45 + k) = nI k := fun k hk => by
      have : k = 0 ∨ k = 1 ∨ k = 2 := by omega
      rcases this with h | h | h <;> subst h <;> simp (disch := omega) only [σ7, rd_nk, rd_nj, rd_eq, Nat.reduceMul, Nat.reduceAdd]
    obtain ⟨σ8, e8, f8, _⟩ := x_findLabels (lb := fun k => nI k) hw (by omega : 0 < 2) r7 l7
    have q8 : σ8.1 120 0 = nI (pt_ L s).2.1 := by rw [f8.1 120 0 (by omega)]; exact q7
    have eM : mm_ev mX9_program [.ref 120] mm_H σ3 = some (some (.int (nI (pt_ L s).2.1)), mm_H, σ8) := by
      have e6' := e6
      have e8' := e8
      simp only [σ5] at e6'
      simp only [σ7] at e8'
      simp (disch := omega) only [vX9_program, rX9_program_0, rX9_program_1, rX9_program_4, rX9_program_6, rX9_program_9, rX9_program_11, rX9_program_12, rX9_program_13, rX9_program_14, rX9_program_17, rX9_program_20, rX9_program_21, rX9_program_49, rX9_program_50, rX9_program_51, rX9_program_52, rX9_program_53, rX9_program_56, rX9_program_57, rX9_program_60, rX9_program_62, rX9_program_63, rX9_program_64, rX9_program_65, rX9_program_66, rX9_program_69, rX9_program_72, rX9_program_73, rX9_program_74, rX9_program_77, rX9_program_78, rX9_program_81, rX9_program_82, rX9_program_83, rX9_program_84, rX9_program_85, rX9_program_88, rX9_program_89, rX9_program_90, rX9_program_91, rX9_program_92, rX9_program_93, rX9_program_96, rX9_program_97, rX9_program_100, mm_gd_t, mm_kc_v, mm_kc_n, mm_rfs, kl_n, kl_i, kl_r, kl_l, so_0, so_1, so_2, so_3, so_4, beq_self_eq_true, Bool.true_and, Bool.and_true, Bool.or_true, Bool.true_or, Bool.false_or, Bool.or_false, if_true, if_false, ↓reduceIte, decide_true, decide_false, Bool.not_false, Bool.not_true, not_true_eq_false, not_false_eq_true, eq_self, Nat.not_lt_zero, Bool.true_eq_false, Bool.false_eq_true, Nat.reduceAdd, Nat.reduceMul, Nat.reduceSub, Nat.reduceEqDiff, Nat.reduceLeDiff, Nat.reduceLT, Nat.reduceDiv, Nat.reduceMod, zb_0, zb_1, zb_b, on_nI, ml_l, rl_sl1, rl_sl2, rl_eq, rl_nj, rl_nk, qL_0, qL_1, qL_11, qL_10000, nI_lL, lN_add, lN_mul, Nat.zero_add, Nat.add_zero, mm_zr0n, mm_zr1n, mm_zrb, b2_0, b2_1, pk_mul, tn_nI, in_nI, mi_lt, rd_eq, rd_nj, rd_nk, rs_eq, rs_nk, rl_si, rl_sA, nI_add, nI_eqI, nI_leI2, nI_ltI2, ql_0, ql_1, ql_2, ql_3, ql_4, ql_5, ql_6, ql_7, ql_8, ql_9, ql_10, ql_11, ql_12, ql_13, ql_14, ql_15, ql_16, ql_17, ql_18, ql_19, ql_20, ql_24, ql_25, ql_26, ql_27, ql_31, ql_32, ql_33, ql_36, ql_45, ql_46, ql_47, ql_48, ql_49, ql_50, ql_57, ql_63, ql_64, ql_65, ql_66, ql_67, ql_68, ql_69, ql_70, ql_71, ql_72, ql_73, ql_74, ql_75, ql_76, ql_77, ql_78, ql_79, ql_80, ql_81, ql_82, ql_83, ql_84, ql_85, ql_86, ql_87, ql_93, ql_96, ql_97, ql_100, ql_101, ql_120, ql_255, ql_256, ql_257, ql_511, ql_672, ql_900, ql_1000, ql_65536, rho_120_1, rho_120_3, rho_120_5, rho_120_6, rho_120_10, rho_120_11, rho_120_12, rho_120_15, rho_120_17, rho_120_18, rho_120_19, rho_120_20, rho_120_22, rho_120_23, kd_120, kd_121, ir_121, iw_121, al_121, kd_133, al_133, e4, g41, e6', e8', q8]
    have oth : ∀ k j, ¬ (15 ≤ k ∧ k < 28) → k ≠ 54 → (k ≠ 120 ∨ (j ≠ 0 ∧ j ≠ 2 ∧ j ≠ 8 ∧ j ≠ 7)) → k ≠ 121 → k ≠ 123 → k ≠ 124 → k ≠ 133 → σ8.1 k j = σ1.1 k j := fun k j a b c d e f g => by
      rw [f8.1 k j (by omega), o7 k j (by omega) (by omega) (by omega), o3 k j (by omega) (by omega)]
    have o8 : ∀ k j, 15 ≤ k → k < 27 → σ8.1 k j = σ2.1 k j := fun k j a b => by
      rw [f8.1 k j (by omega), o7 k j (by omega) (by omega) (by omega)]; simp (disch := omega) only [σ3, rd_nk]
    obtain ⟨h1, h2, h3, h4, h5, h6⟩ := i1
    obtain ⟨b1, b2', b3, nx, S, b4, b5, b6⟩ := h6
    refine ⟨_, σ3, σ8, eC, eM, ⟨s, L, (pt_ L s).2, fun k => nI k, hh, D, 0, pT_cg h1 (oth 1 0 (by omega) (by omega) (by omega) (by omega) (by omega) (by omega) (by omega)) (fun j => oth 2 j (by omega) (by omega) (by omega) (by omega) (by omega) (by omega) (by omega)) (oth 120 4 (by omega) (by omega) (by omega) (by omega) (by omega) (by omega) (by omega)) (fun j => oth 122 j (by omega) (by omega) (by omega) (by omega) (by omega) (by omega) (by omega)), ⟨hw, ⟨?_, fun i hi p hp => ?_⟩, ⟨q8, rm_cg r7.2 h9 (fun j _ _ => f8.1 121 j (by omega))⟩, fun k hk => ?_, fun k hk => ?_⟩, pH_cg h3 (fun k j _ _ => oth k j (by omega) (by omega) (by omega) (by omega) (by omega) (by omega) (by omega)) (oth 120 16 (by omega) (by omega) (by omega) (by omega) (by omega) (by omega) (by omega)) (fun k j _ _ => ?_), ?_, fun t ht => ⟨false, ?_, ?_, fun hb => by cases hb⟩, ⟨by omega, ?_, ?_, nx, fun _ => ((pt_ L s).2, fun k => nI k), b4, ?_, rfl, fun _ _ => rfl, fun _ _ => rfl, fun j hj => by omega⟩⟩, ?_, ⟨_, rfl⟩, by show σ2.2.2 = _; rw [f2.2, f1.2]⟩
    · rw [o8 15 0 (by omega) (by omega)]; exact q15
    · rw [o8 _ p (by omega) (by omega), a1 i (by omega) p hp]; exact g11.2 i hi p hp
    · rw [o8 26 k (by omega) (by omega)]
      have := a2 k hk
      rw [this]; exact g12 k hk
    · rw [f8.1 121 _ (by omega)]
      have := l7 k hk
      rwa [show 48 * 0 + 45 + k = 45 + k by omega] at this
    · exact oth k j (by omega) (by omega) (by omega) (by omega) (by omega) (by omega) (by omega)
    · show σ8.2.1 0 13 = σ8.2.1 120 21
      rw [f8.2]; show σ6.2.1 0 13 = σ6.2.1 120 21
      rw [f6.2]; show σ4.2.1 0 13 = σ4.2.1 120 21
      rw [f4.2]; show σ2.2.1 0 13 = σ2.2.1 120 21
      rw [f2.2]; exact h4
    · rw [f8.1 54 t (by omega), o7 54 t (by omega) (by omega) (by omega)]
      have : t = 0 ∨ t = 1 := by omega
      rcases this with h | h <;> subst h <;> (simp (disch := omega) only [σ3, rd_nk, rd_nj, rd_eq]; rfl)
    · rw [f8.1 133 t (by omega)]
      have : t = 0 ∨ t = 1 := by omega
      rcases this with h | h <;> subst h <;> (simp (disch := omega) only [σ7, rd_nk, rd_nj, rd_eq]; rfl)
    · rw [f8.1 27 0 (by omega), o7 27 0 (by omega) (by omega) (by omega)]
      simp (disch := omega) only [σ3, rd_nk, rd_nj, rd_eq]
    · rw [f8.1 120 8 (by omega)]
      simp (disch := omega) only [σ7, rd_nk, rd_nj, rd_eq]
    · rw [oth 120 9 (by omega) (by omega) (by omega) (by omega) (by omega) (by omega) (by omega)]; exact b5
    · rw [f8.2]; show σ6.2.2 = _
      rw [f6.2]; show σ4.2.2 = _
      rw [f4.2]; show σ2.2.2 = _
      rw [f2.2, f1.2]

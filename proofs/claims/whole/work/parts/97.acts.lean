/-! ===== acts ===== -/
theorem s_place {σ : mm_M} {a : Nat} (ha : a ≤ 14) (h : σ.1 27 0 = nI a) :
    ∃ σ', mm_ev mX0_placeForOne [.ref 27] mm_H σ = some (some (.int (nI (6 * min a 13))), mm_H, σ') ∧ fr_ 27 29 σ σ' ∧ σ'.1 27 0 = nI (min a 13 + 1) ∧ ∀ j, j < 6 * min a 13 → σ'.1 28 j = σ.1 28 (j + 6 * (a - min a 13)) := by
  by_cases hlt : a < 14
  · have hm : min a 13 = a := by omega
    rw [hm, Nat.sub_self]
    refine ⟨mm_si σ 27 0 (nI (a + 1)), ?_, fr_si (fr_refl _ _ _) (by omega) (by omega), rd_eq, fun j hj => by rw [rd_nk (by omega), Nat.mul_zero, Nat.add_zero]⟩
    rw [Nat.mul_comm 6 a]
    simp (disch := omega) only [vX0_placeForOne, rX0_placeForOne_0, rX0_placeForOne_1, rX0_placeForOne_4, rX0_placeForOne_6, rX0_placeForOne_9, rX0_placeForOne_10, rX0_placeForOne_13, rX0_placeForOne_15, rX0_placeForOne_16, rX0_placeForOne_19, rX0_placeForOne_20, rX0_placeForOne_22, rX0_placeForOne_25, rX0_placeForOne_26, rX0_placeForOne_28, rX0_placeForOne_31, rX0_placeForOne_32, rX0_placeForOne_33, rX0_placeForOne_36, rX0_placeForOne_37, rX0_placeForOne_38, rX0_placeForOne_41, rX0_placeForOne_42, rX0_placeForOne_45, rX0_placeForOne_46, rX0_placeForOne_47, rX0_placeForOne_49, rX0_placeForOne_50, mm_gd_t, mm_kc_v, mm_kc_n, mm_rfs, kl_n, kl_i, kl_r, kl_l, so_0, so_1, so_2, so_3, so_4, beq_self_eq_true, Bool.true_and, Bool.and_true, Bool.or_true, Bool.true_or, Bool.false_or, Bool.or_false, if_true, if_false, ↓reduceIte, decide_true, decide_false, Bool.not_false, Bool.not_true, not_true_eq_false, not_false_eq_true, eq_self, Nat.not_lt_zero, Bool.true_eq_false, Bool.false_eq_true, Nat.reduceAdd, Nat.reduceMul, Nat.reduceSub, Nat.reduceEqDiff, Nat.reduceLeDiff, Nat.reduceLT, Nat.reduceDiv, Nat.reduceMod, zb_0, zb_1, zb_b, on_nI, ml_l, rl_sl1, rl_sl2, rl_eq, rl_nj, rl_nk, qL_0, qL_1, qL_11, qL_10000, nI_lL, lN_add, lN_mul, Nat.zero_add, Nat.add_zero, mm_zr0n, mm_zr1n, mm_zrb, b2_0, b2_1, pk_mul, tn_nI, in_nI, mi_lt, rd_eq, rd_nj, rd_nk, rs_eq, rs_nk, rl_si, rl_sA, nI_add, nI_eqI, nI_leI2, nI_ltI2, ql_0, ql_1, ql_2, ql_3, ql_4, ql_5, ql_6, ql_7, ql_8, ql_9, ql_10, ql_11, ql_12, ql_13, ql_14, ql_15, ql_16, ql_17, ql_18, ql_19, ql_20, ql_24, ql_25, ql_26, ql_27, ql_31, ql_32, ql_33, ql_36, ql_45, ql_46, ql_47, ql_48, ql_49, ql_50, ql_57, ql_63, ql_64, ql_65, ql_66, ql_67, ql_68, ql_69, ql_70, ql_71, ql_72, ql_73, ql_74, ql_75, ql_76, ql_77, ql_78, ql_79, ql_80, ql_81, ql_82, ql_83, ql_84, ql_85, ql_86, ql_87, ql_93, ql_96, ql_97, ql_100, ql_101, ql_120, ql_255, ql_256, ql_257, ql_511, ql_672, ql_900, ql_1000, ql_65536, rho_27_1, kd_27, kd_28, ir_28, iw_28, al_28, h, hlt, pk_sub, Nat.add_sub_cancel]
  · have h14 : a = 14 := by omega
    subst h14
    refine ⟨mm_si (mm_si (mm_cp σ 28 28 6 0 78) 27 0 (nI 13)) 27 0 (nI 14), ?_, fr_si (fr_si (fr_sA (fr_refl _ _ _) (by omega) (by omega)) (by omega) (by omega)) (by omega) (by omega), rd_eq, fun j hj => ?_⟩
    · simp (disch := omega) only [vX0_placeForOne, rX0_placeForOne_0, rX0_placeForOne_1, rX0_placeForOne_4, rX0_placeForOne_6, rX0_placeForOne_9, rX0_placeForOne_10, rX0_placeForOne_13, rX0_placeForOne_15, rX0_placeForOne_16, rX0_placeForOne_19, rX0_placeForOne_20, rX0_placeForOne_22, rX0_placeForOne_25, rX0_placeForOne_26, rX0_placeForOne_28, rX0_placeForOne_31, rX0_placeForOne_32, rX0_placeForOne_33, rX0_placeForOne_36, rX0_placeForOne_37, rX0_placeForOne_38, rX0_placeForOne_41, rX0_placeForOne_42, rX0_placeForOne_45, rX0_placeForOne_46, rX0_placeForOne_47, rX0_placeForOne_49, rX0_placeForOne_50, mm_gd_t, mm_kc_v, mm_kc_n, mm_rfs, kl_n, kl_i, kl_r, kl_l, so_0, so_1, so_2, so_3, so_4, beq_self_eq_true, Bool.true_and, Bool.and_true, Bool.or_true, Bool.true_or, Bool.false_or, Bool.or_false, if_true, if_false, ↓reduceIte, decide_true, decide_false, Bool.not_false, Bool.not_true, not_true_eq_false, not_false_eq_true, eq_self, Nat.not_lt_zero, Bool.true_eq_false, Bool.false_eq_true, Nat.reduceAdd, Nat.reduceMul, Nat.reduceSub, Nat.reduceEqDiff, Nat.reduceLeDiff, Nat.reduceLT, Nat.reduceDiv, Nat.reduceMod, zb_0, zb_1, zb_b, on_nI, ml_l, rl_sl1, rl_sl2, rl_eq, rl_nj, rl_nk, qL_0, qL_1, qL_11, qL_10000, nI_lL, lN_add, lN_mul, Nat.zero_add, Nat.add_zero, mm_zr0n, mm_zr1n, mm_zrb, b2_0, b2_1, pk_mul, tn_nI, in_nI, mi_lt, rd_eq, rd_nj, rd_nk, rs_eq, rs_nk, rl_si, rl_sA, nI_add, nI_eqI, nI_leI2, nI_ltI2, ql_0, ql_1, ql_2, ql_3, ql_4, ql_5, ql_6, ql_7, ql_8, ql_9, ql_10, ql_11, ql_12, ql_13, ql_14, ql_15, ql_16, ql_17, ql_18, ql_19, ql_20, ql_24, ql_25, ql_26, ql_27, ql_31, ql_32, ql_33, ql_36, ql_45, ql_46, ql_47, ql_48, ql_49, ql_50, ql_57, ql_63, ql_64, ql_65, ql_66, ql_67, ql_68, ql_69, ql_70, ql_71, ql_72, ql_73, ql_74, ql_75, ql_76, ql_77, ql_78, ql_79, ql_80, ql_81, ql_82, ql_83, ql_84, ql_85, ql_86, ql_87, ql_93, ql_96, ql_97, ql_100, ql_101, ql_120, ql_255, ql_256, ql_257, ql_511, ql_672, ql_900, ql_1000, ql_65536, rho_27_1, kd_27, kd_28, ir_28, iw_28, al_28, h, mm_cok, mm_cp, pk_sub]
      rfl
    · rw [rd_nk (by omega), rd_nk (by omega)]
      have hj' : j < 78 := by omega
      show (mm_sA σ 28 _).1 28 j = _
      rw [rs_eq, pk_cpy_in (by omega) (by omega)]
      show σ.1 28 (6 + (j - 0)) = σ.1 28 (j + 6)
      rw [Nat.sub_zero, Nat.add_comm]
theorem x_keepActL {nx : Nat} (hn : nx < 14) : ∀ (d i : Nat) (σ : mm_M), i + d = 48 → σ.1 120 9 = nI nx →
    ∃ σ', mm_run mX9_keepAct mm_H 2 [some (.ref 120), some (.int (nI i))] [] σ = mm_run mX9_keepAct mm_H 34 [some (.ref 120), some (.int (nI 48))] [] σ' ∧ fK_ 125 (48 * nx + i) (48 * nx + 48) σ σ' ∧ (∀ j, i ≤ j → j < 48 → σ'.1 125 (48 * nx + j) = σ.1 121 j)
  | 0, i, σ, h, hx => by
    refine ⟨σ, ?_, fK_refl _ _ _ _, fun j h1 h2 => by omega⟩
    have h3 : i = 48 := by omega
    subst h3
    rw [rX9_keepAct_2]
    simp (disch := omega) only [vX9_keepAct, rX9_keepAct_3, rX9_keepAct_5, mm_gd_t, mm_kc_v, mm_kc_n, mm_rfs, kl_n, kl_i, kl_r, kl_l, so_0, so_1, so_2, so_3, so_4, beq_self_eq_true, Bool.true_and, Bool.and_true, Bool.or_true, Bool.true_or, Bool.false_or, Bool.or_false, if_true, if_false, ↓reduceIte, decide_true, decide_false, Bool.not_false, Bool.not_true, not_true_eq_false, not_false_eq_true, eq_self, Nat.not_lt_zero, Bool.true_eq_false, Bool.false_eq_true, Nat.reduceAdd, Nat.reduceMul, Nat.reduceSub, Nat.reduceEqDiff, Nat.reduceLeDiff, Nat.reduceLT, Nat.reduceDiv, Nat.reduceMod, zb_0, zb_1, zb_b, on_nI, ml_l, rl_sl1, rl_sl2, rl_eq, rl_nj, rl_nk, qL_0, qL_1, qL_11, qL_10000, nI_lL, lN_add, lN_mul, Nat.zero_add, Nat.add_zero, mm_zr0n, mm_zr1n, mm_zrb, b2_0, b2_1, pk_mul, tn_nI, in_nI, mi_lt, rd_eq, rd_nj, rd_nk, rs_eq, rs_nk, rl_si, rl_sA, nI_add, nI_eqI, nI_leI2, nI_ltI2, ql_0, ql_1, ql_2, ql_3, ql_4, ql_5, ql_6, ql_7, ql_8, ql_9, ql_10, ql_11, ql_12, ql_13, ql_14, ql_15, ql_16, ql_17, ql_18, ql_19, ql_20, ql_24, ql_25, ql_26, ql_27, ql_31, ql_32, ql_33, ql_36, ql_45, ql_46, ql_47, ql_48, ql_49, ql_50, ql_57, ql_63, ql_64, ql_65, ql_66, ql_67, ql_68, ql_69, ql_70, ql_71, ql_72, ql_73, ql_74, ql_75, ql_76, ql_77, ql_78, ql_79, ql_80, ql_81, ql_82, ql_83, ql_84, ql_85, ql_86, ql_87, ql_93, ql_96, ql_97, ql_100, ql_101, ql_120, ql_255, ql_256, ql_257, ql_511, ql_672, ql_900, ql_1000, ql_65536]
  | d + 1, i, σ, h, hx => by
    obtain ⟨σ2, e2, f2, g2⟩ := x_keepActL hn d (i + 1) (mm_si σ 125 (48 * nx + i) (σ.1 121 i)) (by omega) (by rw [rd_nk (by omega)]; exact hx)
    refine ⟨σ2, ?_, fK_tr (fK_si (by omega) (by omega)) ⟨fun k j hk => f2.1 k j (by omega), f2.2⟩, fun j h1 h2 => ?_⟩
    · rw [← e2]
      have h2 : ¬ 48 ≤ i := by omega
      rw [rX9_keepAct_2]
      simp (disch := omega) only [vX9_keepAct, rX9_keepAct_3, rX9_keepAct_5, rX9_keepAct_8, rX9_keepAct_9, rX9_keepAct_12, rX9_keepAct_14, rX9_keepAct_15, rX9_keepAct_18, rX9_keepAct_19, rX9_keepAct_20, rX9_keepAct_21, rX9_keepAct_22, rX9_keepAct_25, rX9_keepAct_26, rX9_keepAct_27, rX9_keepAct_28, rX9_keepAct_31, mm_gd_t, mm_kc_v, mm_kc_n, mm_rfs, kl_n, kl_i, kl_r, kl_l, so_0, so_1, so_2, so_3, so_4, beq_self_eq_true, Bool.true_and, Bool.and_true, Bool.or_true, Bool.true_or, Bool.false_or, Bool.or_false, if_true, if_false, ↓reduceIte, decide_true, decide_false, Bool.not_false, Bool.not_true, not_true_eq_false, not_false_eq_true, eq_self, Nat.not_lt_zero, Bool.true_eq_false, Bool.false_eq_true, Nat.reduceAdd, Nat.reduceMul, Nat.reduceSub, Nat.reduceEqDiff, Nat.reduceLeDiff, Nat.reduceLT, Nat.reduceDiv, Nat.reduceMod, zb_0, zb_1, zb_b, on_nI, ml_l, rl_sl1, rl_sl2, rl_eq, rl_nj, rl_nk, qL_0, qL_1, qL_11, qL_10000, nI_lL, lN_add, lN_mul, Nat.zero_add, Nat.add_zero, mm_zr0n, mm_zr1n, mm_zrb, b2_0, b2_1, pk_mul, tn_nI, in_nI, mi_lt, rd_eq, rd_nj, rd_nk, rs_eq, rs_nk, rl_si, rl_sA, nI_add, nI_eqI, nI_leI2, nI_ltI2, ql_0, ql_1, ql_2, ql_3, ql_4, ql_5, ql_6, ql_7, ql_8, ql_9, ql_10, ql_11, ql_12, ql_13, ql_14, ql_15, ql_16, ql_17, ql_18, ql_19, ql_20, ql_24, ql_25, ql_26, ql_27, ql_31, ql_32, ql_33, ql_36, ql_45, ql_46, ql_47, ql_48, ql_49, ql_50, ql_57, ql_63, ql_64, ql_65, ql_66, ql_67, ql_68, ql_69, ql_70, ql_71, ql_72, ql_73, ql_74, ql_75, ql_76, ql_77, ql_78, ql_79, ql_80, ql_81, ql_82, ql_83, ql_84, ql_85, ql_86, ql_87, ql_93, ql_96, ql_97, ql_100, ql_101, ql_120, ql_255, ql_256, ql_257, ql_511, ql_672, ql_900, ql_1000, ql_65536, rho_120_1, rho_120_3, rho_120_5, rho_120_6, rho_120_10, rho_120_11, rho_120_12, rho_120_15, rho_120_17, rho_120_18, rho_120_19, rho_120_20, rho_120_22, rho_120_23, kd_120, kd_121, ir_121, iw_121, al_121, kd_125, ir_125, iw_125, al_125, h2, hx]
    · by_cases hji : j = i
      · subst hji; rw [f2.1 125 (48 * nx + j) (by omega), rd_eq]
      · rw [g2 j (by omega) h2, rd_nk (by omega)]
theorem x_keepAct {σ : mm_M} {nx a : Nat} (hn : nx < 14) (ha : a ≤ 14) (h9 : σ.1 120 9 = nI nx) (h8 : σ.1 120 8 = nI a) :
    ∃ σ', mm_ev mX9_keepAct [.ref 120] mm_H σ = some (none, mm_H, σ') ∧ (∀ k j, (k ≠ 120 ∨ (j ≠ 8 ∧ j ≠ 9)) → (k ≠ 125 ∨ j < 48 * nx ∨ 48 * nx + 48 ≤ j) → σ'.1 k j = σ.1 k j) ∧ σ'.2 = σ.2 ∧ (∀ j, j < 48 → σ'.1 125 (48 * nx + j) = σ.1 121 j) ∧ σ'.1 120 9 = nI ((nx + 1) % 14) ∧ σ'.1 120 8 = nI (min a 13 + 1) := by
  obtain ⟨σ1, e1, f1, g1⟩ := x_keepActL hn 48 0 σ (by omega) h9
  have q9 : σ1.1 120 9 = nI nx := by rw [f1.1 120 9 (by omega)]; exact h9
  have q8 : σ1.1 120 8 = nI a := by rw [f1.1 120 8 (by omega)]; exact h8
  have er : mm_re (nI (nx + 1)) (nI 14) = nI ((nx + 1) % 14) := re_nI (by omega) (by omega) (by omega)
  refine ⟨mm_si (mm_si σ1 120 9 (nI ((nx + 1) % 14))) 120 8 (nI (min a 13 + 1)), ?_, fun k j h1 h2 => ?_, f1.2, fun j hj => ?_, ?_, rd_eq⟩
  · by_cases hlt : a < 14
    · have hm : min a 13 = a := by omega
      have hge : ¬ 14 ≤ a := by omega
      rw [hm]
      simp (disch := omega) only [vX9_keepAct, rX9_keepAct_0, rX9_keepAct_1, rX9_keepAct_34, rX9_keepAct_35, rX9_keepAct_36, rX9_keepAct_39, rX9_keepAct_40, rX9_keepAct_41, rX9_keepAct_43, rX9_keepAct_44, rX9_keepAct_47, rX9_keepAct_48, rX9_keepAct_49, rX9_keepAct_52, rX9_keepAct_54, rX9_keepAct_57, rX9_keepAct_58, rX9_keepAct_61, rX9_keepAct_62, rX9_keepAct_63, rX9_keepAct_66, rX9_keepAct_68, rX9_keepAct_71, mm_gd_t, mm_kc_v, mm_kc_n, mm_rfs, kl_n, kl_i, kl_r, kl_l, so_0, so_1, so_2, so_3, so_4, beq_self_eq_true, Bool.true_and, Bool.and_true, Bool.or_true, Bool.true_or, Bool.false_or, Bool.or_false, if_true, if_false, ↓reduceIte, decide_true, decide_false, Bool.not_false, Bool.not_true, not_true_eq_false, not_false_eq_true, eq_self, Nat.not_lt_zero, Bool.true_eq_false, Bool.false_eq_true, Nat.reduceAdd, Nat.reduceMul, Nat.reduceSub, Nat.reduceEqDiff, Nat.reduceLeDiff, Nat.reduceLT, Nat.reduceDiv, Nat.reduceMod, zb_0, zb_1, zb_b, on_nI, ml_l, rl_sl1, rl_sl2, rl_eq, rl_nj, rl_nk, qL_0, qL_1, qL_11, qL_10000, nI_lL, lN_add, lN_mul, Nat.zero_add, Nat.add_zero, mm_zr0n, mm_zr1n, mm_zrb, b2_0, b2_1, pk_mul, tn_nI, in_nI, mi_lt, rd_eq, rd_nj, rd_nk, rs_eq, rs_nk, rl_si, rl_sA, nI_add, nI_eqI, nI_leI2, nI_ltI2, ql_0, ql_1, ql_2, ql_3, ql_4, ql_5, ql_6, ql_7, ql_8, ql_9, ql_10, ql_11, ql_12, ql_13, ql_14, ql_15, ql_16, ql_17, ql_18, ql_19, ql_20, ql_24, ql_25, ql_26, ql_27, ql_31, ql_32, ql_33, ql_36, ql_45, ql_46, ql_47, ql_48, ql_49, ql_50, ql_57, ql_63, ql_64, ql_65, ql_66, ql_67, ql_68, ql_69, ql_70, ql_71, ql_72, ql_73, ql_74, ql_75, ql_76, ql_77, ql_78, ql_79, ql_80, ql_81, ql_82, ql_83, ql_84, ql_85, ql_86, ql_87, ql_93, ql_96, ql_97, ql_100, ql_101, ql_120, ql_255, ql_256, ql_257, ql_511, ql_672, ql_900, ql_1000, ql_65536, rho_120_1, rho_120_3, rho_120_5, rho_120_6, rho_120_10, rho_120_11, rho_120_12, rho_120_15, rho_120_17, rho_120_18, rho_120_19, rho_120_20, rho_120_22, rho_120_23, kd_120, e1, q9, q8, er, hge]
    · have hm : min a 13 + 1 = 14 := by omega
      have hge : 14 ≤ a := by omega
      rw [hm]
      simp (disch := omega) only [vX9_keepAct, rX9_keepAct_0, rX9_keepAct_1, rX9_keepAct_34, rX9_keepAct_35, rX9_keepAct_36, rX9_keepAct_39, rX9_keepAct_40, rX9_keepAct_41, rX9_keepAct_43, rX9_keepAct_44, rX9_keepAct_47, rX9_keepAct_48, rX9_keepAct_49, rX9_keepAct_52, rX9_keepAct_54, rX9_keepAct_57, rX9_keepAct_58, rX9_keepAct_61, rX9_keepAct_62, rX9_keepAct_63, rX9_keepAct_66, rX9_keepAct_68, rX9_keepAct_71, mm_gd_t, mm_kc_v, mm_kc_n, mm_rfs, kl_n, kl_i, kl_r, kl_l, so_0, so_1, so_2, so_3, so_4, beq_self_eq_true, Bool.true_and, Bool.and_true, Bool.or_true, Bool.true_or, Bool.false_or, Bool.or_false, if_true, if_false, ↓reduceIte, decide_true, decide_false, Bool.not_false, Bool.not_true, not_true_eq_false, not_false_eq_true, eq_self, Nat.not_lt_zero, Bool.true_eq_false, Bool.false_eq_true, Nat.reduceAdd, Nat.reduceMul, Nat.reduceSub, Nat.reduceEqDiff, Nat.reduceLeDiff, Nat.reduceLT, Nat.reduceDiv, Nat.reduceMod, zb_0, zb_1, zb_b, on_nI, ml_l, rl_sl1, rl_sl2, rl_eq, rl_nj, rl_nk, qL_0, qL_1, qL_11, qL_10000, nI_lL, lN_add, lN_mul, Nat.zero_add, Nat.add_zero, mm_zr0n, mm_zr1n, mm_zrb, b2_0, b2_1, pk_mul, tn_nI, in_nI, mi_lt, rd_eq, rd_nj, rd_nk, rs_eq, rs_nk, rl_si, rl_sA, nI_add, nI_eqI, nI_leI2, nI_ltI2, ql_0, ql_1, ql_2, ql_3, ql_4, ql_5, ql_6, ql_7, ql_8, ql_9, ql_10, ql_11, ql_12, ql_13, ql_14, ql_15, ql_16, ql_17, ql_18, ql_19, ql_20, ql_24, ql_25, ql_26, ql_27, ql_31, ql_32, ql_33, ql_36, ql_45, ql_46, ql_47, ql_48, ql_49, ql_50, ql_57, ql_63, ql_64, ql_65, ql_66, ql_67, ql_68, ql_69, ql_70, ql_71, ql_72, ql_73, ql_74, ql_75, ql_76, ql_77, ql_78, ql_79, ql_80, ql_81, ql_82, ql_83, ql_84, ql_85, ql_86, ql_87, ql_93, ql_96, ql_97, ql_100, ql_101, ql_120, ql_255, ql_256, ql_257, ql_511, ql_672, ql_900, ql_1000, ql_65536, rho_120_1, rho_120_3, rho_120_5, rho_120_6, rho_120_10, rho_120_11, rho_120_12, rho_120_15, rho_120_17, rho_120_18, rho_120_19, rho_120_20, rho_120_22, rho_120_23, kd_120, e1, q9, q8, er, hge]
  · have : (mm_si (mm_si σ1 120 9 (nI ((nx + 1) % 14))) 120 8 (nI (min a 13 + 1))).1 k j = σ1.1 k j := by
      by_cases h120 : k = 120
      · subst h120; rw [rd_nj (by omega), rd_nj (by omega)]
      · rw [rd_nk h120, rd_nk h120]
    rw [this, f1.1 k j (by omega)]
  · rw [rd_nk (by omega), rd_nk (by omega)]; exact g1 j (by omega) hj
  · rw [rd_nj (by omega), rd_eq]
theorem dl_cg {n o : Nat} {f : Nat → Int32} {x x' y : sp2_} (h1 : ∀ i, i < n → x'.1.2 i = x.1.2 i) (h2 : ∀ k, k < 3 → x'.2 k = x.2 k) (h : dl_ n f o x y) : dl_ n f o x' y := by
  rcases h with ⟨i, a, b, c, d, e⟩ | ⟨t, a, b, c, d, e⟩
  · exact Or.inl ⟨i, a, b, fun q hq => by rw [h1 i a]; exact c q hq, fun i' hi' hn => by rw [h1 i' hi']; exact d i' hi' hn, fun k hk => by rw [h2 k hk]; exact e k hk⟩
  · exact Or.inr ⟨t, a, b, by rw [h2 t a]; exact c, fun i' hi' => by rw [h1 i' hi']; exact d i' hi', fun k hk hn => by rw [h2 k hk]; exact e k hk hn⟩
theorem dl_mv {n o o' : Nat} {f g : Nat → Int32} {x y : sp2_} (he : ∀ q, q < 6 → g (o' + q) = f (o + q)) (h : dl_ n f o x y) : dl_ n g o' x y := by
  have h0 := he 0 (by omega)
  have h1 := he 1 (by omega)
  rw [Nat.add_zero, Nat.add_zero] at h0
  rcases h with ⟨i, a, b, c, d, e⟩ | ⟨t, a, b, c, d, e⟩
  · exact Or.inl ⟨i, a, by rw [h0]; exact b, fun q hq => by
      have := he (1 + q) (by omega)
      rw [← Nat.add_assoc, ← Nat.add_assoc] at this
      rw [this]; exact c q hq, d, e⟩
  · exact Or.inr ⟨t, a, by rw [h0]; exact b, by rw [h1]; exact c, d, e⟩
/-- one more act -/
theorem pA_push {σ σ' : mm_M} {P P' : pp_} {lb lb' : Nat → Int32} {a nx : Nat} (hP : wf_ P) (hr : rm_ 0 (σ.1 121) P) (hl : lm_ σ lb) (h : pA_ σ P lb a) (hnx : σ.1 120 9 = nI nx) (hn14 : nx < 14) (h1 : P'.1 = P.1)
    (c0 : σ'.1 27 0 = nI (min a 13 + 1)) (c1 : ∀ j, j < 6 * min a 13 → σ'.1 28 j = σ.1 28 (j + 6 * (a - min a 13))) (c2 : dl_ P.1 (σ'.1 28) (6 * min a 13) (P, lb) (P', lb'))
    (m0 : σ'.1 120 8 = nI (min a 13 + 1)) (m1 : σ'.1 120 9 = nI ((nx + 1) % 14)) (m2 : ∀ j, (j < 48 * nx ∨ 48 * nx + 48 ≤ j) → σ'.1 125 j = σ.1 125 j) (m3 : ∀ j, j < 48 → σ'.1 125 (48 * nx + j) = σ.1 121 j) : pA_ σ' P' lb' (min a 13 + 1) := by
  obtain ⟨a1, a2, a3, nx', S, a4, a5, a6, a7, a8, a9⟩ := h
  have hnn : nx' = nx := by
    have : nI nx' = nI nx := by rw [← a5, ← hnx]
    exact (nI_eq (by omega) (by omega)).1 this
  subst hnn
  have h9 := hP.1
  refine ⟨by omega, c0, m0, (nx' + 1) % 14, fun j => if j = min a 13 + 1 then (P', lb') else S (j + (a - min a 13)), by omega, m1, ?_, ?_, ?_, fun j hj => ⟨?_, ?_⟩⟩
  · dsimp only; rw [if_pos rfl]
  · intro i hi; dsimp only; rw [if_pos rfl]
  · intro k hk; dsimp only; rw [if_pos rfl]
  · dsimp only; rw [if_neg (by omega), h1]
    by_cases hjm : j = min a 13
    · have hs : ((nx' + 1) % 14 + 14 - (min a 13 + 1) + j) % 14 = nx' := by omega
      have hS : j + (a - min a 13) = a := by omega
      rw [hs, hS]
      refine ⟨a6, ⟨by rw [a6]; exact h9, fun i hi => ?_⟩, fun i hi p hp => ?_, fun k hk => ?_⟩
      · rw [a6] at hi ⊢; rw [a7 i hi]; exact hP.2 i hi
      · rw [a6] at hi
        rw [a7 i hi, show 48 * nx' + 9 * p + i = 48 * nx' + (9 * p + i) by omega, m3 _ (by omega)]
        have := hr i hi p hp
        rwa [show 0 + 9 * p + i = 9 * p + i by omega] at this
      · rw [show 48 * nx' + 45 + k = 48 * nx' + (45 + k) by omega, m3 _ (by omega), a8 k hk]; exact hl k hk
    · have hjl : j < min a 13 := by omega
      obtain ⟨⟨b1, b2, b3, b4⟩, _⟩ := a9 (j + (a - min a 13)) (by omega)
      have hs : ((nx' + 1) % 14 + 14 - (min a 13 + 1) + j) % 14 = (nx' + 14 - a + (j + (a - min a 13))) % 14 := by omega
      rw [hs]
      have hne : (nx' + 14 - a + (j + (a - min a 13))) % 14 ≠ nx' := by omega
      generalize (nx' + 14 - a + (j + (a - min a 13))) % 14 = u at b3 b4 hne ⊢
      have h9' := b2.1
      exact ⟨b1, b2, rm_cg b3 h9' (fun j _ _ => m2 j (by omega)), fun k hk => by rw [m2 _ (by omega)]; exact b4 k hk⟩
  · dsimp only; rw [if_neg (show ¬ j = min a 13 + 1 by omega), h1]
    by_cases hjm : j = min a 13
    · have hS : j + (a - min a 13) = a := by omega
      rw [if_pos (by omega), hS, hjm]
      exact dl_cg a7 a8 c2
    · rw [if_neg (by omega)]
      have hd := (a9 (j + (a - min a 13)) (by omega)).2
      rw [show j + (a - min a 13) + 1 = j + 1 + (a - min a 13) by omega] at hd
      refine dl_mv (fun q hq => ?_) hd
      rw [c1 _ (by omega), show 6 * j + q + 6 * (a - min a 13) = 6 * (j + (a - min a 13)) + q by omega]

theorem s_addLabelled {σ : mm_M} {a t : Nat} (ha : a ≤ 14) (ht : t < 3) (h : σ.1 27 0 = nI a) :
    ∃ σ', mm_ev mX0_addLabelled [.ref 27, .ref 15, .int (nI t)] mm_H σ = some (none, mm_H, σ') ∧ fr_ 27 29 σ σ' ∧ σ'.1 27 0 = nI (min a 13 + 1) ∧ (∀ j, j < 6 * min a 13 → σ'.1 28 j = σ.1 28 (j + 6 * (a - min a 13))) ∧ σ'.1 28 (6 * min a 13) = nI (9 + t) ∧ σ'.1 28 (6 * min a 13 + 1) = σ.1 26 t := by
  obtain ⟨σ1, e1, f1, g1, g2⟩ := s_place ha h
  have q : σ1.1 26 t = σ.1 26 t := by rw [f1.1 26 (by omega)]
  have hm : min a 13 ≤ 13 := by omega
  generalize min a 13 = m at hm e1 g1 g2 ⊢
  refine ⟨mm_si (mm_si σ1 28 (6 * m) (nI (9 + t))) 28 (6 * m + 1) (σ.1 26 t), ?_, fr_si (fr_si f1 (by omega) (by omega)) (by omega) (by omega), ?_, fun j hj => ?_, ?_, rd_eq⟩
  · simp (disch := omega) only [vX0_addLabelled, rX0_addLabelled_0, rX0_addLabelled_1, rX0_addLabelled_4, rX0_addLabelled_5, rX0_addLabelled_6, rX0_addLabelled_9, rX0_addLabelled_10, rX0_addLabelled_12, rX0_addLabelled_13, rX0_addLabelled_14, rX0_addLabelled_15, rX0_addLabelled_16, rX0_addLabelled_19, rX0_addLabelled_20, rX0_addLabelled_21, rX0_addLabelled_22, rX0_addLabelled_23, rX0_addLabelled_26, rX0_addLabelled_27, rX0_addLabelled_28, rX0_addLabelled_29, mm_gd_t, mm_kc_v, mm_kc_n, mm_rfs, kl_n, kl_i, kl_r, kl_l, so_0, so_1, so_2, so_3, so_4, beq_self_eq_true, Bool.true_and, Bool.and_true, Bool.or_true, Bool.true_or, Bool.false_or, Bool.or_false, if_true, if_false, ↓reduceIte, decide_true, decide_false, Bool.not_false, Bool.not_true, not_true_eq_false, not_false_eq_true, eq_self, Nat.not_lt_zero, Bool.true_eq_false, Bool.false_eq_true, Nat.reduceAdd, Nat.reduceMul, Nat.reduceSub, Nat.reduceEqDiff, Nat.reduceLeDiff, Nat.reduceLT, Nat.reduceDiv, Nat.reduceMod, zb_0, zb_1, zb_b, on_nI, ml_l, rl_sl1, rl_sl2, rl_eq, rl_nj, rl_nk, qL_0, qL_1, qL_11, qL_10000, nI_lL, lN_add, lN_mul, Nat.zero_add, Nat.add_zero, mm_zr0n, mm_zr1n, mm_zrb, b2_0, b2_1, pk_mul, tn_nI, in_nI, mi_lt, rd_eq, rd_nj, rd_nk, rs_eq, rs_nk, rl_si, rl_sA, nI_add, nI_eqI, nI_leI2, nI_ltI2, ql_0, ql_1, ql_2, ql_3, ql_4, ql_5, ql_6, ql_7, ql_8, ql_9, ql_10, ql_11, ql_12, ql_13, ql_14, ql_15, ql_16, ql_17, ql_18, ql_19, ql_20, ql_24, ql_25, ql_26, ql_27, ql_31, ql_32, ql_33, ql_36, ql_45, ql_46, ql_47, ql_48, ql_49, ql_50, ql_57, ql_63, ql_64, ql_65, ql_66, ql_67, ql_68, ql_69, ql_70, ql_71, ql_72, ql_73, ql_74, ql_75, ql_76, ql_77, ql_78, ql_79, ql_80, ql_81, ql_82, ql_83, ql_84, ql_85, ql_86, ql_87, ql_93, ql_96, ql_97, ql_100, ql_101, ql_120, ql_255, ql_256, ql_257, ql_511, ql_672, ql_900, ql_1000, ql_65536, rho_15_1, rho_15_2, rho_27_1, kd_15, kd_26, ir_26, iw_26, al_26, kd_27, kd_28, ir_28, iw_28, al_28, e1, q]
  · rw [rd_nk (by omega), rd_nk (by omega)]; exact g1
  · rw [rd_nj (by omega), rd_nj (by omega)]; exact g2 j hj
  · rw [rd_nj (by omega), rd_eq]
theorem s_addTold {σ : mm_M} {a i : Nat} (ha : a ≤ 14) (hi : i < 9) (h : σ.1 27 0 = nI a) :
    ∃ σ', mm_ev mX0_addTold [.ref 27, .ref 15, .int (nI i)] mm_H σ = some (none, mm_H, σ') ∧ fr_ 27 29 σ σ' ∧ σ'.1 27 0 = nI (min a 13 + 1) ∧ (∀ j, j < 6 * min a 13 → σ'.1 28 j = σ.1 28 (j + 6 * (a - min a 13))) ∧ σ'.1 28 (6 * min a 13) = nI i ∧ ∀ q, q < 5 → σ'.1 28 (6 * min a 13 + 1 + q) = σ.1 (17 + i) q := by
  obtain ⟨σ1, e1, f1, g1, g2⟩ := s_place ha h
  have hm : min a 13 ≤ 13 := by omega
  generalize min a 13 = m at hm e1 g1 g2 ⊢
  refine ⟨mm_sA (mm_si σ1 28 (6 * m) (nI i)) 28 (va_cpy (σ1.1 (17 + i)) ((mm_si σ1 28 (6 * m) (nI i)).1 28) 0 (6 * m + 1) 5), ?_, fr_sA (fr_si f1 (by omega) (by omega)) (by omega) (by omega), ?_, fun j hj => ?_, ?_, fun q hq => ?_⟩
  · have iw17 := iw_17r i hi
    have h78 : 6 * m ≤ 78 := by omega
    simp (disch := omega) only [vX0_addTold, rX0_addTold_0, rX0_addTold_1, rX0_addTold_4, rX0_addTold_5, rX0_addTold_6, rX0_addTold_9, rX0_addTold_10, rX0_addTold_11, rX0_addTold_12, rX0_addTold_13, rX0_addTold_16, rX0_addTold_17, rX0_addTold_18, rX0_addTold_19, rX0_addTold_20, rX0_addTold_23, rX0_addTold_24, rX0_addTold_25, rX0_addTold_26, rX0_addTold_27, rX0_addTold_30, mm_gd_t, mm_kc_v, mm_kc_n, mm_rfs, kl_n, kl_i, kl_r, kl_l, so_0, so_1, so_2, so_3, so_4, beq_self_eq_true, Bool.true_and, Bool.and_true, Bool.or_true, Bool.true_or, Bool.false_or, Bool.or_false, if_true, if_false, ↓reduceIte, decide_true, decide_false, Bool.not_false, Bool.not_true, not_true_eq_false, not_false_eq_true, eq_self, Nat.not_lt_zero, Bool.true_eq_false, Bool.false_eq_true, Nat.reduceAdd, Nat.reduceMul, Nat.reduceSub, Nat.reduceEqDiff, Nat.reduceLeDiff, Nat.reduceLT, Nat.reduceDiv, Nat.reduceMod, zb_0, zb_1, zb_b, on_nI, ml_l, rl_sl1, rl_sl2, rl_eq, rl_nj, rl_nk, qL_0, qL_1, qL_11, qL_10000, nI_lL, lN_add, lN_mul, Nat.zero_add, Nat.add_zero, mm_zr0n, mm_zr1n, mm_zrb, b2_0, b2_1, pk_mul, tn_nI, in_nI, mi_lt, rd_eq, rd_nj, rd_nk, rs_eq, rs_nk, rl_si, rl_sA, nI_add, nI_eqI, nI_leI2, nI_ltI2, ql_0, ql_1, ql_2, ql_3, ql_4, ql_5, ql_6, ql_7, ql_8, ql_9, ql_10, ql_11, ql_12, ql_13, ql_14, ql_15, ql_16, ql_17, ql_18, ql_19, ql_20, ql_24, ql_25, ql_26, ql_27, ql_31, ql_32, ql_33, ql_36, ql_45, ql_46, ql_47, ql_48, ql_49, ql_50, ql_57, ql_63, ql_64, ql_65, ql_66, ql_67, ql_68, ql_69, ql_70, ql_71, ql_72, ql_73, ql_74, ql_75, ql_76, ql_77, ql_78, ql_79, ql_80, ql_81, ql_82, ql_83, ql_84, ql_85, ql_86, ql_87, ql_93, ql_96, ql_97, ql_100, ql_101, ql_120, ql_255, ql_256, ql_257, ql_511, ql_672, ql_900, ql_1000, ql_65536, rho_15_1, rho_15_2, rho_16_0, rho_16_1, rho_16_2, rho_16_3, rho_16_4, rho_16_5, rho_16_6, rho_16_7, rho_16_8, rho_27_1, kd_15, kd_16, al_16, kd_27, kd_28, ir_28, iw_28, al_28, e1, rho_16r, iw17, al_17s, mm_cok, mm_cp, h78]
  · rw [rs_nk (by omega), rd_nk (by omega)]; exact g1
  · rw [rs_eq, pk_cpy_out (by omega), rd_nj (by omega)]; exact g2 j hj
  · rw [rs_eq, pk_cpy_out (by omega), rd_eq]
  · rw [rs_eq, pk_cpy_in (by omega) (by omega), show 0 + (6 * m + 1 + q - (6 * m + 1)) = q by omega, f1.1 (17 + i) (by omega)]
theorem m_relabel {σ : mm_M} (h : IV σ) {x y : Int32} : SM (mm_ev mX8_relabel [.ref 0, .int x, .int y] mm_H) (mm_ev mX9_relabel [.ref 120, .int x, .int y] mm_H) σ := by
  have hin := in_0 x (hi := 2) (n := 3) (by decide)
  have hin2 := in_0 y (hi := 3) (n := 4) (by decide)
  obtain ⟨s, L, P, lb, hh, D, ac, h1, h2, h3, h4, h5, h6⟩ := h
  cases hx : bl_ x 3
  · refine ⟨.int (-nI 1), σ, σ, ?_, ?_, ⟨s, L, P, lb, hh, D, ac, h1, h2, h3, h4, h5, h6⟩, rfl, ⟨_, rfl⟩, rfl⟩
    · simp (disch := omega) only [vX8_relabel, rX8_relabel_0, rX8_relabel_1, rX8_relabel_2, rX8_relabel_5, rX8_relabel_8, rX8_relabel_9, mm_gd_t, mm_kc_v, mm_kc_n, mm_rfs, kl_n, kl_i, kl_r, kl_l, so_0, so_1, so_2, so_3, so_4, beq_self_eq_true, Bool.true_and, Bool.and_true, Bool.or_true, Bool.true_or, Bool.false_or, Bool.or_false, if_true, if_false, ↓reduceIte, decide_true, decide_false, Bool.not_false, Bool.not_true, not_true_eq_false, not_false_eq_true, eq_self, Nat.not_lt_zero, Bool.true_eq_false, Bool.false_eq_true, Nat.reduceAdd, Nat.reduceMul, Nat.reduceSub, Nat.reduceEqDiff, Nat.reduceLeDiff, Nat.reduceLT, Nat.reduceDiv, Nat.reduceMod, zb_0, zb_1, zb_b, on_nI, ml_l, rl_sl1, rl_sl2, rl_eq, rl_nj, rl_nk, qL_0, qL_1, qL_11, qL_10000, nI_lL, lN_add, lN_mul, Nat.zero_add, Nat.add_zero, mm_zr0n, mm_zr1n, mm_zrb, b2_0, b2_1, pk_mul, tn_nI, in_nI, mi_lt, rd_eq, rd_nj, rd_nk, rs_eq, rs_nk, rl_si, rl_sA, nI_add, nI_eqI, nI_leI2, nI_ltI2, ql_0, ql_1, ql_2, ql_3, ql_4, ql_5, ql_6, ql_7, ql_8, ql_9, ql_10, ql_11, ql_12, ql_13, ql_14, ql_15, ql_16, ql_17, ql_18, ql_19, ql_20, ql_24, ql_25, ql_26, ql_27, ql_31, ql_32, ql_33, ql_36, ql_45, ql_46, ql_47, ql_48, ql_49, ql_50, ql_57, ql_63, ql_64, ql_65, ql_66, ql_67, ql_68, ql_69, ql_70, ql_71, ql_72, ql_73, ql_74, ql_75, ql_76, ql_77, ql_78, ql_79, ql_80, ql_81, ql_82, ql_83, ql_84, ql_85, ql_86, ql_87, ql_93, ql_96, ql_97, ql_100, ql_101, ql_120, ql_255, ql_256, ql_257, ql_511, ql_672, ql_900, ql_1000, ql_65536, s_isBelow, hx]
    · rw [hx] at hin
      simp (disch := omega) only [vX9_relabel, rX9_relabel_0, rX9_relabel_1, rX9_relabel_2, rX9_relabel_3, rX9_relabel_6, rX9_relabel_9, rX9_relabel_12, rX9_relabel_13, mm_gd_t, mm_kc_v, mm_kc_n, mm_rfs, kl_n, kl_i, kl_r, kl_l, so_0, so_1, so_2, so_3, so_4, beq_self_eq_true, Bool.true_and, Bool.and_true, Bool.or_true, Bool.true_or, Bool.false_or, Bool.or_false, if_true, if_false, ↓reduceIte, decide_true, decide_false, Bool.not_false, Bool.not_true, not_true_eq_false, not_false_eq_true, eq_self, Nat.not_lt_zero, Bool.true_eq_false, Bool.false_eq_true, Nat.reduceAdd, Nat.reduceMul, Nat.reduceSub, Nat.reduceEqDiff, Nat.reduceLeDiff, Nat.reduceLT, Nat.reduceDiv, Nat.reduceMod, zb_0, zb_1, zb_b, on_nI, ml_l, rl_sl1, rl_sl2, rl_eq, rl_nj, rl_nk, qL_0, qL_1, qL_11, qL_10000, nI_lL, lN_add, lN_mul, Nat.zero_add, Nat.add_zero, mm_zr0n, mm_zr1n, mm_zrb, b2_0, b2_1, pk_mul, tn_nI, in_nI, mi_lt, rd_eq, rd_nj, rd_nk, rs_eq, rs_nk, rl_si, rl_sA, nI_add, nI_eqI, nI_leI2, nI_ltI2, ql_0, ql_1, ql_2, ql_3, ql_4, ql_5, ql_6, ql_7, ql_8, ql_9, ql_10, ql_11, ql_12, ql_13, ql_14, ql_15, ql_16, ql_17, ql_18, ql_19, ql_20, ql_24, ql_25, ql_26, ql_27, ql_31, ql_32, ql_33, ql_36, ql_45, ql_46, ql_47, ql_48, ql_49, ql_50, ql_57, ql_63, ql_64, ql_65, ql_66, ql_67, ql_68, ql_69, ql_70, ql_71, ql_72, ql_73, ql_74, ql_75, ql_76, ql_77, ql_78, ql_79, ql_80, ql_81, ql_82, ql_83, ql_84, ql_85, ql_86, ql_87, ql_93, ql_96, ql_97, ql_100, ql_101, ql_120, ql_255, ql_256, ql_257, ql_511, ql_672, ql_900, ql_1000, ql_65536, s_in, hin]
  · obtain ⟨t, ht, rfl⟩ := bl_of (by omega) hx
    rw [nI_lL (by omega), hx] at hin
    cases hy : bl_ y 4
    · refine ⟨.int (-nI 2), σ, σ, ?_, ?_, ⟨s, L, P, lb, hh, D, ac, h1, h2, h3, h4, h5, h6⟩, rfl, ⟨_, rfl⟩, rfl⟩
      · simp (disch := omega) only [vX8_relabel, rX8_relabel_0, rX8_relabel_1, rX8_relabel_2, rX8_relabel_5, rX8_relabel_8, rX8_relabel_9, rX8_relabel_10, rX8_relabel_11, rX8_relabel_12, rX8_relabel_15, rX8_relabel_18, rX8_relabel_20, mm_gd_t, mm_kc_v, mm_kc_n, mm_rfs, kl_n, kl_i, kl_r, kl_l, so_0, so_1, so_2, so_3, so_4, beq_self_eq_true, Bool.true_and, Bool.and_true, Bool.or_true, Bool.true_or, Bool.false_or, Bool.or_false, if_true, if_false, ↓reduceIte, decide_true, decide_false, Bool.not_false, Bool.not_true, not_true_eq_false, not_false_eq_true, eq_self, Nat.not_lt_zero, Bool.true_eq_false, Bool.false_eq_true, Nat.reduceAdd, Nat.reduceMul, Nat.reduceSub, Nat.reduceEqDiff, Nat.reduceLeDiff, Nat.reduceLT, Nat.reduceDiv, Nat.reduceMod, zb_0, zb_1, zb_b, on_nI, ml_l, rl_sl1, rl_sl2, rl_eq, rl_nj, rl_nk, qL_0, qL_1, qL_11, qL_10000, nI_lL, lN_add, lN_mul, Nat.zero_add, Nat.add_zero, mm_zr0n, mm_zr1n, mm_zrb, b2_0, b2_1, pk_mul, tn_nI, in_nI, mi_lt, rd_eq, rd_nj, rd_nk, rs_eq, rs_nk, rl_si, rl_sA, nI_add, nI_eqI, nI_leI2, nI_ltI2, ql_0, ql_1, ql_2, ql_3, ql_4, ql_5, ql_6, ql_7, ql_8, ql_9, ql_10, ql_11, ql_12, ql_13, ql_14, ql_15, ql_16, ql_17, ql_18, ql_19, ql_20, ql_24, ql_25, ql_26, ql_27, ql_31, ql_32, ql_33, ql_36, ql_45, ql_46, ql_47, ql_48, ql_49, ql_50, ql_57, ql_63, ql_64, ql_65, ql_66, ql_67, ql_68, ql_69, ql_70, ql_71, ql_72, ql_73, ql_74, ql_75, ql_76, ql_77, ql_78, ql_79, ql_80, ql_81, ql_82, ql_83, ql_84, ql_85, ql_86, ql_87, ql_93, ql_96, ql_97, ql_100, ql_101, ql_120, ql_255, ql_256, ql_257, ql_511, ql_672, ql_900, ql_1000, ql_65536, s_isBelow, hx, hy]
      · rw [hy] at hin2
        simp (disch := omega) only [vX9_relabel, rX9_relabel_0, rX9_relabel_1, rX9_relabel_2, rX9_relabel_3, rX9_relabel_6, rX9_relabel_9, rX9_relabel_12, rX9_relabel_13, rX9_relabel_14, rX9_relabel_15, rX9_relabel_16, rX9_relabel_17, rX9_relabel_20, rX9_relabel_23, rX9_relabel_26, rX9_relabel_28, mm_gd_t, mm_kc_v, mm_kc_n, mm_rfs, kl_n, kl_i, kl_r, kl_l, so_0, so_1, so_2, so_3, so_4, beq_self_eq_true, Bool.true_and, Bool.and_true, Bool.or_true, Bool.true_or, Bool.false_or, Bool.or_false, if_true, if_false, ↓reduceIte, decide_true, decide_false, Bool.not_false, Bool.not_true, not_true_eq_false, not_false_eq_true, eq_self, Nat.not_lt_zero, Bool.true_eq_false, Bool.false_eq_true, Nat.reduceAdd, Nat.reduceMul, Nat.reduceSub, Nat.reduceEqDiff, Nat.reduceLeDiff, Nat.reduceLT, Nat.reduceDiv, Nat.reduceMod, zb_0, zb_1, zb_b, on_nI, ml_l, rl_sl1, rl_sl2, rl_eq, rl_nj, rl_nk, qL_0, qL_1, qL_11, qL_10000, nI_lL, lN_add, lN_mul, Nat.zero_add, Nat.add_zero, mm_zr0n, mm_zr1n, mm_zrb, b2_0, b2_1, pk_mul, tn_nI, in_nI, mi_lt, rd_eq, rd_nj, rd_nk, rs_eq, rs_nk, rl_si, rl_sA, nI_add, nI_eqI, nI_leI2, nI_ltI2, ql_0, ql_1, ql_2, ql_3, ql_4, ql_5, ql_6, ql_7, ql_8, ql_9, ql_10, ql_11, ql_12, ql_13, ql_14, ql_15, ql_16, ql_17, ql_18, ql_19, ql_20, ql_24, ql_25, ql_26, ql_27, ql_31, ql_32, ql_33, ql_36, ql_45, ql_46, ql_47, ql_48, ql_49, ql_50, ql_57, ql_63, ql_64, ql_65, ql_66, ql_67, ql_68, ql_69, ql_70, ql_71, ql_72, ql_73, ql_74, ql_75, ql_76, ql_77, ql_78, ql_79, ql_80, ql_81, ql_82, ql_83, ql_84, ql_85, ql_86, ql_87, ql_93, ql_96, ql_97, ql_100, ql_101, ql_120, ql_255, ql_256, ql_257, ql_511, ql_672, ql_900, ql_1000, ql_65536, s_in, hin, hin2]
    · rw [hy] at hin2
      have hac := h6.1
      have hP := h2.1
      have h9 := hP.1
      obtain ⟨σ1, e1, f1, g1, g2, g3, g4⟩ := s_addLabelled hac ht h6.2.1
      have q26 : σ.1 26 t = lb t := h2.2.2.2.1 t ht
      let σ2 := mm_si σ1 26 t y
      have eC : mm_ev mX8_relabel [.ref 0, .int (nI t), .int y] mm_H σ = some (some (.int (lb t)), mm_H, σ2) := by
        simp (disch := omega) only [vX8_relabel, rX8_relabel_0, rX8_relabel_1, rX8_relabel_2, rX8_relabel_5, rX8_relabel_8, rX8_relabel_9, rX8_relabel_10, rX8_relabel_11, rX8_relabel_12, rX8_relabel_15, rX8_relabel_18, rX8_relabel_20, rX8_relabel_21, rX8_relabel_22, rX8_relabel_25, rX8_relabel_28, rX8_relabel_29, rX8_relabel_30, rX8_relabel_31, rX8_relabel_32, rX8_relabel_35, rX8_relabel_36, rX8_relabel_39, rX8_relabel_40, rX8_relabel_43, rX8_relabel_44, rX8_relabel_47, rX8_relabel_50, rX8_relabel_51, rX8_relabel_52, rX8_relabel_53, rX8_relabel_54, mm_gd_t, mm_kc_v, mm_kc_n, mm_rfs, kl_n, kl_i, kl_r, kl_l, so_0, so_1, so_2, so_3, so_4, beq_self_eq_true, Bool.true_and, Bool.and_true, Bool.or_true, Bool.true_or, Bool.false_or, Bool.or_false, if_true, if_false, ↓reduceIte, decide_true, decide_false, Bool.not_false, Bool.not_true, not_true_eq_false, not_false_eq_true, eq_self, Nat.not_lt_zero, Bool.true_eq_false, Bool.false_eq_true, Nat.reduceAdd, Nat.reduceMul, Nat.reduceSub, Nat.reduceEqDiff, Nat.reduceLeDiff, Nat.reduceLT, Nat.reduceDiv, Nat.reduceMod, zb_0, zb_1, zb_b, on_nI, ml_l, rl_sl1, rl_sl2, rl_eq, rl_nj, rl_nk, qL_0, qL_1, qL_11, qL_10000, nI_lL, lN_add, lN_mul, Nat.zero_add, Nat.add_zero, mm_zr0n, mm_zr1n, mm_zrb, b2_0, b2_1, pk_mul, tn_nI, in_nI, mi_lt, rd_eq, rd_nj, rd_nk, rs_eq, rs_nk, rl_si, rl_sA, nI_add, nI_eqI, nI_leI2, nI_ltI2, ql_0, ql_1, ql_2, ql_3, ql_4, ql_5, ql_6, ql_7, ql_8, ql_9, ql_10, ql_11, ql_12, ql_13, ql_14, ql_15, ql_16, ql_17, ql_18, ql_19, ql_20, ql_24, ql_25, ql_26, ql_27, ql_31, ql_32, ql_33, ql_36, ql_45, ql_46, ql_47, ql_48, ql_49, ql_50, ql_57, ql_63, ql_64, ql_65, ql_66, ql_67, ql_68, ql_69, ql_70, ql_71, ql_72, ql_73, ql_74, ql_75, ql_76, ql_77, ql_78, ql_79, ql_80, ql_81, ql_82, ql_83, ql_84, ql_85, ql_86, ql_87, ql_93, ql_96, ql_97, ql_100, ql_101, ql_120, ql_255, ql_256, ql_257, ql_511, ql_672, ql_900, ql_1000, ql_65536, rho_0_0, rho_0_1, rho_0_2, rho_0_3, rho_0_4, rho_0_5, rho_0_6, rho_0_7, rho_0_8, rho_0_9, rho_0_10, rho_0_11, rho_0_12, rho_15_1, rho_15_2, rho_27_1, kd_0, kd_15, kd_26, ir_26, iw_26, al_26, kd_27, s_isBelow, hx, hy, q26, e1]
        rfl
      have o2 : ∀ k j, (k < 26 ∨ 29 ≤ k) → σ2.1 k j = σ.1 k j := fun k j hk => by
        simp (disch := omega) only [σ2, rd_nk]; rw [f1.1 k (by omega)]
      have hA := h6
      obtain ⟨b1, b2', b3, nx, S, b4, b5, b6⟩ := h6
      obtain ⟨σ3, e3, f3, f3', k1, k2, k3⟩ := x_keepAct (σ := σ2) b4 b1 (by rw [o2 120 9 (by omega)]; exact b5) (by rw [o2 120 8 (by omega)]; exact b3)
      let σ4 := mm_si σ3 121 (45 + t) y
      have q121 : σ3.1 121 (45 + t) = lb t := by rw [f3 121 _ (by omega) (by omega), o2 121 _ (by omega)]; exact h2.2.2.2.2 t ht
      have eM : mm_ev mX9_relabel [.ref 120, .int (nI t), .int y] mm_H σ2 = some (some (.int (lb t)), mm_H, σ4) := by
        simp (disch := omega) only [vX9_relabel, rX9_relabel_0, rX9_relabel_1, rX9_relabel_2, rX9_relabel_3, rX9_relabel_6, rX9_relabel_9, rX9_relabel_12, rX9_relabel_13, rX9_relabel_14, rX9_relabel_15, rX9_relabel_16, rX9_relabel_17, rX9_relabel_20, rX9_relabel_23, rX9_relabel_26, rX9_relabel_28, rX9_relabel_29, rX9_relabel_30, rX9_relabel_33, rX9_relabel_34, rX9_relabel_37, rX9_relabel_39, rX9_relabel_40, rX9_relabel_41, rX9_relabel_42, rX9_relabel_43, rX9_relabel_44, rX9_relabel_47, rX9_relabel_49, rX9_relabel_50, rX9_relabel_51, rX9_relabel_52, rX9_relabel_53, rX9_relabel_54, mm_gd_t, mm_kc_v, mm_kc_n, mm_rfs, kl_n, kl_i, kl_r, kl_l, so_0, so_1, so_2, so_3, so_4, beq_self_eq_true, Bool.true_and, Bool.and_true, Bool.or_true, Bool.true_or, Bool.false_or, Bool.or_false, if_true, if_false, ↓reduceIte, decide_true, decide_false, Bool.not_false, Bool.not_true, not_true_eq_false, not_false_eq_true, eq_self, Nat.not_lt_zero, Bool.true_eq_false, Bool.false_eq_true, Nat.reduceAdd, Nat.reduceMul, Nat.reduceSub, Nat.reduceEqDiff, Nat.reduceLeDiff, Nat.reduceLT, Nat.reduceDiv, Nat.reduceMod, zb_0, zb_1, zb_b, on_nI, ml_l, rl_sl1, rl_sl2, rl_eq, rl_nj, rl_nk, qL_0, qL_1, qL_11, qL_10000, nI_lL, lN_add, lN_mul, Nat.zero_add, Nat.add_zero, mm_zr0n, mm_zr1n, mm_zrb, b2_0, b2_1, pk_mul, tn_nI, in_nI, mi_lt, rd_eq, rd_nj, rd_nk, rs_eq, rs_nk, rl_si, rl_sA, nI_add, nI_eqI, nI_leI2, nI_ltI2, ql_0, ql_1, ql_2, ql_3, ql_4, ql_5, ql_6, ql_7, ql_8, ql_9, ql_10, ql_11, ql_12, ql_13, ql_14, ql_15, ql_16, ql_17, ql_18, ql_19, ql_20, ql_24, ql_25, ql_26, ql_27, ql_31, ql_32, ql_33, ql_36, ql_45, ql_46, ql_47, ql_48, ql_49, ql_50, ql_57, ql_63, ql_64, ql_65, ql_66, ql_67, ql_68, ql_69, ql_70, ql_71, ql_72, ql_73, ql_74, ql_75, ql_76, ql_77, ql_78, ql_79, ql_80, ql_81, ql_82, ql_83, ql_84, ql_85, ql_86, ql_87, ql_93, ql_96, ql_97, ql_100, ql_101, ql_120, ql_255, ql_256, ql_257, ql_511, ql_672, ql_900, ql_1000, ql_65536, rho_120_1, rho_120_3, rho_120_5, rho_120_6, rho_120_10, rho_120_11, rho_120_12, rho_120_15, rho_120_17, rho_120_18, rho_120_19, rho_120_20, rho_120_22, rho_120_23, kd_120, kd_121, ir_121, iw_121, al_121, s_in, hin, hin2, e3, q121]
        rfl
      have oth : ∀ k j, (k < 26 ∨ 29 ≤ k) → (k ≠ 120 ∨ (j ≠ 8 ∧ j ≠ 9)) → k ≠ 125 → (k ≠ 121 ∨ j ≠ 45 + t) → σ4.1 k j = σ.1 k j := fun k j a b c d => by
        have : σ4.1 k j = σ3.1 k j := by
          by_cases h121 : k = 121
          · subst h121; simp (disch := omega) only [σ4, rd_nj]
          · simp (disch := omega) only [σ4, rd_nk]
        rw [this, f3 k j (by omega) (by omega), o2 k j (by omega)]
      have o4 : ∀ k j, k < 120 → σ4.1 k j = σ2.1 k j := fun k j a => by
        simp (disch := omega) only [σ4, rd_nk]; rw [f3 k j (by omega) (by omega)]
      have r0 : rm_ 0 (σ.1 121) P := h2.2.2.1.2
      refine ⟨_, σ2, σ4, eC, eM, ⟨s, L, P, fun k => if k = t then y else lb k, hh, D, min ac 13 + 1, pT_cg h1 (oth 1 0 (by omega) (by omega) (by omega) (by omega)) (fun j => oth 2 j (by omega) (by omega) (by omega) (by omega)) (oth 120 4 (by omega) (by omega) (by omega) (by omega)) (fun j => oth 122 j (by omega) (by omega) (by omega) (by omega)), ⟨hP, ⟨?_, fun i hi p hp => ?_⟩, ⟨?_, rm_cg r0 h9 (fun j _ _ => oth 121 j (by omega) (by omega) (by omega) (by omega))⟩, fun k hk => ?_, fun k hk => ?_⟩, pH_cg h3 (fun k j _ _ => oth k j (by omega) (by omega) (by omega) (by omega)) (oth 120 16 (by omega) (by omega) (by omega) (by omega)) (fun k j _ _ => oth k j (by omega) (by omega) (by omega) (by omega)), ?_, pK_cg h5 (fun k j _ _ => oth k j (by omega) (by omega) (by omega) (by omega)) (fun j => oth 133 j (by omega) (by omega) (by omega) (by omega)) (fun j => oth 134 j (by omega) (by omega) (by omega) (by omega)), pA_push hP r0 h2.2.2.2.2 hA b5 b4 rfl ?_ (fun j hj => ?_) (Or.inr ⟨t, ht, ?_, ?_, fun _ _ => rfl, fun k hk hkt => (if_neg hkt).symm⟩) ?_ ?_ (fun j hj => ?_) (fun j hj => ?_)⟩, ?_, ⟨_, rfl⟩, by show σ1.2.2 = _; rw [f1.2]⟩
      · rw [oth 15 0 (by omega) (by omega) (by omega) (by omega)]; exact h2.2.1.1
      · rw [oth _ p (by omega) (by omega) (by omega) (by omega)]; exact h2.2.1.2 i hi p hp
      · rw [oth 120 0 (by omega) (by omega) (by omega) (by omega)]; exact h2.2.2.1.1
      · show _ = if k = t then y else lb k
        rw [o4 26 k (by omega)]
        show (mm_si σ1 26 t y).1 26 k = _
        by_cases hkt : k = t
        · subst hkt; rw [rd_eq, if_pos rfl]
        · rw [rd_nj hkt, if_neg hkt, f1.1 26 (by omega)]; exact h2.2.2.2.1 k hk
      · show _ = if k = t then y else lb k
        by_cases hkt : k = t
        · subst hkt; rw [if_pos rfl]; exact rd_eq
        · rw [if_neg hkt, oth 121 _ (by omega) (by omega) (by omega) (by omega)]; exact h2.2.2.2.2 k hk
      · show σ3.2.1 0 13 = σ3.2.1 120 21
        rw [f3']; show σ1.2.1 0 13 = σ1.2.1 120 21
        rw [f1.2]; exact h4
      · rw [o4 27 0 (by omega)]; simp (disch := omega) only [σ2, rd_nk]; exact g1
      · rw [o4 28 j (by omega)]; simp (disch := omega) only [σ2, rd_nk]; exact g2 j hj
      · rw [o4 28 _ (by omega)]; simp (disch := omega) only [σ2, rd_nk]; exact g3
      · rw [o4 28 _ (by omega)]; simp (disch := omega) only [σ2, rd_nk]; rw [g4]; exact q26
      · simp (disch := omega) only [σ4, rd_nk]; exact k3
      · simp (disch := omega) only [σ4, rd_nk]; exact k2
      · simp (disch := omega) only [σ4, rd_nk]; rw [f3 125 j (by omega) (by omega), o2 125 j (by omega)]
      · simp (disch := omega) only [σ4, rd_nk]; rw [k1 j hj, o2 121 j (by omega)]
      · show σ3.2.2 = _
        rw [f3']; show σ1.2.2 = _; rw [f1.2]

theorem s_takeBack {σ : mm_M} {n a : Nat} {x y : sp2_} (hn : n ≤ 9) (ha : a < 14) (h : σ.1 27 0 = nI (a + 1)) (hd : dl_ n (σ.1 28) (6 * a) x y) (hy : ∀ i, i < n → ∀ p, p < 5 → σ.1 (17 + i) p = cv_ (y.1.2 i 0) p (y.1.2 i p)) (hl : ∀ k, k < 3 → σ.1 26 k = y.2 k) :
    ∃ σ', mm_ev mX0_takeBack [.ref 27, .ref 15] mm_H σ = some (some (.int (nI 1)), mm_H, σ') ∧ fr_ 17 28 σ σ' ∧ σ'.1 27 0 = nI a ∧ (∀ i, i < n → ∀ p, p < 5 → σ'.1 (17 + i) p = cv_ (x.1.2 i 0) p (x.1.2 i p)) ∧ ∀ k, k < 3 → σ'.1 26 k = x.2 k := by
  have ne : ¬ a + 1 = 0 := by omega
  rcases hd with ⟨i, b1, b2, b3, b4, b5⟩ | ⟨t, b1, b2, b3, b4, b5⟩
  · have iw17 := iw_17r i (by omega)
    have h9 : ¬ 9 ≤ i := by omega
    have b2' : σ.1 28 (a * 6) = nI i := by rw [Nat.mul_comm]; exact b2
    have h79 : a * 6 + 1 + 5 ≤ 84 := by omega
    have h78 : a * 6 ≤ 78 := by omega
    refine ⟨mm_sA (mm_si σ 27 0 (nI a)) (17 + i) (va_cpy (σ.1 28) (σ.1 (17 + i)) (a * 6 + 1) 0 5), ?_, fr_sA (fr_si (fr_refl _ _ _) (by omega) (by omega)) (by omega) (by omega), ?_, fun i' hi' p hp => ?_, fun k hk => ?_⟩
    · simp (disch := omega) only [vX0_takeBack, rX0_takeBack_0, rX0_takeBack_1, rX0_takeBack_4, rX0_takeBack_7, rX0_takeBack_8, rX0_takeBack_9, rX0_takeBack_10, rX0_takeBack_11, rX0_takeBack_14, rX0_takeBack_15, rX0_takeBack_16, rX0_takeBack_19, rX0_takeBack_20, rX0_takeBack_23, rX0_takeBack_25, rX0_takeBack_26, rX0_takeBack_27, rX0_takeBack_28, rX0_takeBack_31, rX0_takeBack_32, rX0_takeBack_33, rX0_takeBack_34, rX0_takeBack_35, rX0_takeBack_37, rX0_takeBack_40, rX0_takeBack_41, rX0_takeBack_44, rX0_takeBack_45, rX0_takeBack_46, rX0_takeBack_47, rX0_takeBack_48, rX0_takeBack_51, rX0_takeBack_52, rX0_takeBack_53, rX0_takeBack_54, rX0_takeBack_55, rX0_takeBack_58, rX0_takeBack_61, rX0_takeBack_62, rX0_takeBack_65, rX0_takeBack_66, rX0_takeBack_68, rX0_takeBack_69, rX0_takeBack_70, rX0_takeBack_73, rX0_takeBack_74, rX0_takeBack_75, rX0_takeBack_76, rX0_takeBack_77, rX0_takeBack_78, rX0_takeBack_79, mm_gd_t, mm_kc_v, mm_kc_n, mm_rfs, kl_n, kl_i, kl_r, kl_l, so_0, so_1, so_2, so_3, so_4, beq_self_eq_true, Bool.true_and, Bool.and_true, Bool.or_true, Bool.true_or, Bool.false_or, Bool.or_false, if_true, if_false, ↓reduceIte, decide_true, decide_false, Bool.not_false, Bool.not_true, not_true_eq_false, not_false_eq_true, eq_self, Nat.not_lt_zero, Bool.true_eq_false, Bool.false_eq_true, Nat.reduceAdd, Nat.reduceMul, Nat.reduceSub, Nat.reduceEqDiff, Nat.reduceLeDiff, Nat.reduceLT, Nat.reduceDiv, Nat.reduceMod, zb_0, zb_1, zb_b, on_nI, ml_l, rl_sl1, rl_sl2, rl_eq, rl_nj, rl_nk, qL_0, qL_1, qL_11, qL_10000, nI_lL, lN_add, lN_mul, Nat.zero_add, Nat.add_zero, mm_zr0n, mm_zr1n, mm_zrb, b2_0, b2_1, pk_mul, tn_nI, in_nI, mi_lt, rd_eq, rd_nj, rd_nk, rs_eq, rs_nk, rl_si, rl_sA, nI_add, nI_eqI, nI_leI2, nI_ltI2, ql_0, ql_1, ql_2, ql_3, ql_4, ql_5, ql_6, ql_7, ql_8, ql_9, ql_10, ql_11, ql_12, ql_13, ql_14, ql_15, ql_16, ql_17, ql_18, ql_19, ql_20, ql_24, ql_25, ql_26, ql_27, ql_31, ql_32, ql_33, ql_36, ql_45, ql_46, ql_47, ql_48, ql_49, ql_50, ql_57, ql_63, ql_64, ql_65, ql_66, ql_67, ql_68, ql_69, ql_70, ql_71, ql_72, ql_73, ql_74, ql_75, ql_76, ql_77, ql_78, ql_79, ql_80, ql_81, ql_82, ql_83, ql_84, ql_85, ql_86, ql_87, ql_93, ql_96, ql_97, ql_100, ql_101, ql_120, ql_255, ql_256, ql_257, ql_511, ql_672, ql_900, ql_1000, ql_65536, rho_15_1, rho_15_2, rho_16_0, rho_16_1, rho_16_2, rho_16_3, rho_16_4, rho_16_5, rho_16_6, rho_16_7, rho_16_8, rho_27_1, kd_15, kd_16, al_16, kd_27, kd_28, ir_28, iw_28, al_28, h, ne, pk_sub, Nat.add_sub_cancel, b2', h9, rho_16r, iw17, al_17s, mm_cok, mm_cp, h79, h78]
    · rw [rs_nk (by omega), rd_eq]
    · by_cases hii : i' = i
      · subst hii
        rw [rs_eq, pk_cpy_in (by omega) (by omega)]
        have := b3 p hp
        rwa [show 6 * a + 1 + p = a * 6 + 1 + (p - 0) by omega] at this
      · rw [rs_nk (by omega), rd_nk (by omega), b4 i' hi' hii]; exact hy i' hi' p hp
    · rw [rs_nk (by omega), rd_nk (by omega), b5 k hk]; exact hl k hk
  · have h9 : 9 ≤ 9 + t := by omega
    have b2' : σ.1 28 (a * 6) = nI (9 + t) := by rw [Nat.mul_comm]; exact b2
    have b3' : σ.1 28 (a * 6 + 1) = x.2 t := by rw [Nat.mul_comm]; exact b3
    have e9 : 9 + t - 9 = t := by omega
    refine ⟨mm_si (mm_si σ 27 0 (nI a)) 26 t (x.2 t), ?_, fr_si (fr_si (fr_refl _ _ _) (by omega) (by omega)) (by omega) (by omega), ?_, fun i' hi' p hp => ?_, fun k hk => ?_⟩
    · simp (disch := omega) only [vX0_takeBack, rX0_takeBack_0, rX0_takeBack_1, rX0_takeBack_4, rX0_takeBack_7, rX0_takeBack_8, rX0_takeBack_9, rX0_takeBack_10, rX0_takeBack_11, rX0_takeBack_14, rX0_takeBack_15, rX0_takeBack_16, rX0_takeBack_19, rX0_takeBack_20, rX0_takeBack_23, rX0_takeBack_25, rX0_takeBack_26, rX0_takeBack_27, rX0_takeBack_28, rX0_takeBack_31, rX0_takeBack_32, rX0_takeBack_33, rX0_takeBack_34, rX0_takeBack_35, rX0_takeBack_37, rX0_takeBack_40, rX0_takeBack_41, rX0_takeBack_44, rX0_takeBack_45, rX0_takeBack_46, rX0_takeBack_47, rX0_takeBack_48, rX0_takeBack_51, rX0_takeBack_52, rX0_takeBack_53, rX0_takeBack_54, rX0_takeBack_55, rX0_takeBack_58, rX0_takeBack_61, rX0_takeBack_62, rX0_takeBack_65, rX0_takeBack_66, rX0_takeBack_68, rX0_takeBack_69, rX0_takeBack_70, rX0_takeBack_73, rX0_takeBack_74, rX0_takeBack_75, rX0_takeBack_76, rX0_takeBack_77, rX0_takeBack_78, rX0_takeBack_79, mm_gd_t, mm_kc_v, mm_kc_n, mm_rfs, kl_n, kl_i, kl_r, kl_l, so_0, so_1, so_2, so_3, so_4, beq_self_eq_true, Bool.true_and, Bool.and_true, Bool.or_true, Bool.true_or, Bool.false_or, Bool.or_false, if_true, if_false, ↓reduceIte, decide_true, decide_false, Bool.not_false, Bool.not_true, not_true_eq_false, not_false_eq_true, eq_self, Nat.not_lt_zero, Bool.true_eq_false, Bool.false_eq_true, Nat.reduceAdd, Nat.reduceMul, Nat.reduceSub, Nat.reduceEqDiff, Nat.reduceLeDiff, Nat.reduceLT, Nat.reduceDiv, Nat.reduceMod, zb_0, zb_1, zb_b, on_nI, ml_l, rl_sl1, rl_sl2, rl_eq, rl_nj, rl_nk, qL_0, qL_1, qL_11, qL_10000, nI_lL, lN_add, lN_mul, Nat.zero_add, Nat.add_zero, mm_zr0n, mm_zr1n, mm_zrb, b2_0, b2_1, pk_mul, tn_nI, in_nI, mi_lt, rd_eq, rd_nj, rd_nk, rs_eq, rs_nk, rl_si, rl_sA, nI_add, nI_eqI, nI_leI2, nI_ltI2, ql_0, ql_1, ql_2, ql_3, ql_4, ql_5, ql_6, ql_7, ql_8, ql_9, ql_10, ql_11, ql_12, ql_13, ql_14, ql_15, ql_16, ql_17, ql_18, ql_19, ql_20, ql_24, ql_25, ql_26, ql_27, ql_31, ql_32, ql_33, ql_36, ql_45, ql_46, ql_47, ql_48, ql_49, ql_50, ql_57, ql_63, ql_64, ql_65, ql_66, ql_67, ql_68, ql_69, ql_70, ql_71, ql_72, ql_73, ql_74, ql_75, ql_76, ql_77, ql_78, ql_79, ql_80, ql_81, ql_82, ql_83, ql_84, ql_85, ql_86, ql_87, ql_93, ql_96, ql_97, ql_100, ql_101, ql_120, ql_255, ql_256, ql_257, ql_511, ql_672, ql_900, ql_1000, ql_65536, rho_15_1, rho_15_2, rho_16_0, rho_16_1, rho_16_2, rho_16_3, rho_16_4, rho_16_5, rho_16_6, rho_16_7, rho_16_8, rho_27_1, kd_15, kd_16, al_16, kd_26, ir_26, iw_26, al_26, kd_27, kd_28, ir_28, iw_28, al_28, h, ne, pk_sub, Nat.add_sub_cancel, b2', b3', h9, e9]
    · rw [rd_nk (by omega), rd_eq]
    · rw [rd_nk (by omega), rd_nk (by omega), b4 i' hi']; exact hy i' hi' p hp
    · by_cases hkt : k = t
      · subst hkt; rw [rd_eq]
      · rw [rd_nj hkt, rd_nk (by omega), b5 k hk hkt]; exact hl k hk
theorem x_undoL {nx : Nat} (hn : nx < 14) : ∀ (d i : Nat) (σ : mm_M), i + d = 48 → σ.1 120 9 = nI nx →
    ∃ σ', mm_run mX9_undo mm_H 36 [some (.ref 120), some (.int (nI i))] [] σ = mm_run mX9_undo mm_H 68 [some (.ref 120), some (.int (nI 48))] [] σ' ∧ fK_ 121 i 48 σ σ' ∧ (∀ j, i ≤ j → j < 48 → σ'.1 121 j = σ.1 125 (48 * nx + j))
  | 0, i, σ, h, hx => by
    refine ⟨σ, ?_, fK_refl _ _ _ _, fun j h1 h2 => by omega⟩
    have h3 : i = 48 := by omega
    subst h3
    rw [rX9_undo_36]
    simp (disch := omega) only [vX9_undo, rX9_undo_37, rX9_undo_39, mm_gd_t, mm_kc_v, mm_kc_n, mm_rfs, kl_n, kl_i, kl_r, kl_l, so_0, so_1, so_2, so_3, so_4, beq_self_eq_true, Bool.true_and, Bool.and_true, Bool.or_true, Bool.true_or, Bool.false_or, Bool.or_false, if_true, if_false, ↓reduceIte, decide_true, decide_false, Bool.not_false, Bool.not_true, not_true_eq_false, not_false_eq_true, eq_self, Nat.not_lt_zero, Bool.true_eq_false, Bool.false_eq_true, Nat.reduceAdd, Nat.reduceMul, Nat.reduceSub, Nat.reduceEqDiff, Nat.reduceLeDiff, Nat.reduceLT, Nat.reduceDiv, Nat.reduceMod, zb_0, zb_1, zb_b, on_nI, ml_l, rl_sl1, rl_sl2, rl_eq, rl_nj, rl_nk, qL_0, qL_1, qL_11, qL_10000, nI_lL, lN_add, lN_mul, Nat.zero_add, Nat.add_zero, mm_zr0n, mm_zr1n, mm_zrb, b2_0, b2_1, pk_mul, tn_nI, in_nI, mi_lt, rd_eq, rd_nj, rd_nk, rs_eq, rs_nk, rl_si, rl_sA, nI_add, nI_eqI, nI_leI2, nI_ltI2, ql_0, ql_1, ql_2, ql_3, ql_4, ql_5, ql_6, ql_7, ql_8, ql_9, ql_10, ql_11, ql_12, ql_13, ql_14, ql_15, ql_16, ql_17, ql_18, ql_19, ql_20, ql_24, ql_25, ql_26, ql_27, ql_31, ql_32, ql_33, ql_36, ql_45, ql_46, ql_47, ql_48, ql_49, ql_50, ql_57, ql_63, ql_64, ql_65, ql_66, ql_67, ql_68, ql_69, ql_70, ql_71, ql_72, ql_73, ql_74, ql_75, ql_76, ql_77, ql_78, ql_79, ql_80, ql_81, ql_82, ql_83, ql_84, ql_85, ql_86, ql_87, ql_93, ql_96, ql_97, ql_100, ql_101, ql_120, ql_255, ql_256, ql_257, ql_511, ql_672, ql_900, ql_1000, ql_65536]
  | d + 1, i, σ, h, hx => by
    obtain ⟨σ2, e2, f2, g2⟩ := x_undoL hn d (i + 1) (mm_si σ 121 i (σ.1 125 (48 * nx + i))) (by omega) (by rw [rd_nk (by omega)]; exact hx)
    refine ⟨σ2, ?_, fK_tr (fK_si (by omega) (by omega)) ⟨fun k j hk => f2.1 k j (by omega), f2.2⟩, fun j h1 h2 => ?_⟩
    · rw [← e2]
      have h2 : ¬ 48 ≤ i := by omega
      rw [rX9_undo_36]
      simp (disch := omega) only [vX9_undo, rX9_undo_37, rX9_undo_39, rX9_undo_42, rX9_undo_43, rX9_undo_46, rX9_undo_47, rX9_undo_48, rX9_undo_51, rX9_undo_53, rX9_undo_54, rX9_undo_57, rX9_undo_58, rX9_undo_59, rX9_undo_60, rX9_undo_61, rX9_undo_62, rX9_undo_65, mm_gd_t, mm_kc_v, mm_kc_n, mm_rfs, kl_n, kl_i, kl_r, kl_l, so_0, so_1, so_2, so_3, so_4, beq_self_eq_true, Bool.true_and, Bool.and_true, Bool.or_true, Bool.true_or, Bool.false_or, Bool.or_false, if_true, if_false, ↓reduceIte, decide_true, decide_false, Bool.not_false, Bool.not_true, not_true_eq_false, not_false_eq_true, eq_self, Nat.not_lt_zero, Bool.true_eq_false, Bool.false_eq_true, Nat.reduceAdd, Nat.reduceMul, Nat.reduceSub, Nat.reduceEqDiff, Nat.reduceLeDiff, Nat.reduceLT, Nat.reduceDiv, Nat.reduceMod, zb_0, zb_1, zb_b, on_nI, ml_l, rl_sl1, rl_sl2, rl_eq, rl_nj, rl_nk, qL_0, qL_1, qL_11, qL_10000, nI_lL, lN_add, lN_mul, Nat.zero_add, Nat.add_zero, mm_zr0n, mm_zr1n, mm_zrb, b2_0, b2_1, pk_mul, tn_nI, in_nI, mi_lt, rd_eq, rd_nj, rd_nk, rs_eq, rs_nk, rl_si, rl_sA, nI_add, nI_eqI, nI_leI2, nI_ltI2, ql_0, ql_1, ql_2, ql_3, ql_4, ql_5, ql_6, ql_7, ql_8, ql_9, ql_10, ql_11, ql_12, ql_13, ql_14, ql_15, ql_16, ql_17, ql_18, ql_19, ql_20, ql_24, ql_25, ql_26, ql_27, ql_31, ql_32, ql_33, ql_36, ql_45, ql_46, ql_47, ql_48, ql_49, ql_50, ql_57, ql_63, ql_64, ql_65, ql_66, ql_67, ql_68, ql_69, ql_70, ql_71, ql_72, ql_73, ql_74, ql_75, ql_76, ql_77, ql_78, ql_79, ql_80, ql_81, ql_82, ql_83, ql_84, ql_85, ql_86, ql_87, ql_93, ql_96, ql_97, ql_100, ql_101, ql_120, ql_255, ql_256, ql_257, ql_511, ql_672, ql_900, ql_1000, ql_65536, rho_120_1, rho_120_3, rho_120_5, rho_120_6, rho_120_10, rho_120_11, rho_120_12, rho_120_15, rho_120_17, rho_120_18, rho_120_19, rho_120_20, rho_120_22, rho_120_23, kd_120, kd_121, ir_121, iw_121, al_121, kd_125, ir_125, iw_125, al_125, h2, hx]
    · by_cases hji : j = i
      · subst hji; rw [f2.1 121 j (by omega), rd_eq]
      · rw [g2 j (by omega) h2, rd_nk (by omega)]
theorem m_undo {σ : mm_M} (h : IV σ) : SM (mm_ev mX8_undo [.ref 0] mm_H) (mm_ev mX9_undo [.ref 120] mm_H) σ := by
  obtain ⟨s, L, P, lb, hh, D, ac, h1, h2, h3, h4, h5, h6⟩ := h
  have hP := h2.1
  have hA := h6
  obtain ⟨a1, a2, a3, nx, S, a4, a5, a6, a7, a8, a9⟩ := h6
  cases ac with
  | zero =>
    have a2' : σ.1 27 0 = nI 0 := a2
    have a3' : σ.1 120 8 = nI 0 := a3
    refine ⟨.int (-nI 3), σ, σ, ?_, ?_, ⟨s, L, P, lb, hh, D, 0, h1, h2, h3, h4, h5, hA⟩, rfl, ⟨_, rfl⟩, rfl⟩
    · simp (disch := omega) only [vX8_undo, rX8_undo_0, rX8_undo_1, rX8_undo_4, rX8_undo_5, rX8_undo_8, rX8_undo_11, rX8_undo_14, rX8_undo_15, rX8_undo_18, rX8_undo_21, rX8_undo_24, rX8_undo_26, vX0_takeBack, rX0_takeBack_0, rX0_takeBack_1, rX0_takeBack_4, rX0_takeBack_7, rX0_takeBack_8, mm_gd_t, mm_kc_v, mm_kc_n, mm_rfs, kl_n, kl_i, kl_r, kl_l, so_0, so_1, so_2, so_3, so_4, beq_self_eq_true, Bool.true_and, Bool.and_true, Bool.or_true, Bool.true_or, Bool.false_or, Bool.or_false, if_true, if_false, ↓reduceIte, decide_true, decide_false, Bool.not_false, Bool.not_true, not_true_eq_false, not_false_eq_true, eq_self, Nat.not_lt_zero, Bool.true_eq_false, Bool.false_eq_true, Nat.reduceAdd, Nat.reduceMul, Nat.reduceSub, Nat.reduceEqDiff, Nat.reduceLeDiff, Nat.reduceLT, Nat.reduceDiv, Nat.reduceMod, zb_0, zb_1, zb_b, on_nI, ml_l, rl_sl1, rl_sl2, rl_eq, rl_nj, rl_nk, qL_0, qL_1, qL_11, qL_10000, nI_lL, lN_add, lN_mul, Nat.zero_add, Nat.add_zero, mm_zr0n, mm_zr1n, mm_zrb, b2_0, b2_1, pk_mul, tn_nI, in_nI, mi_lt, rd_eq, rd_nj, rd_nk, rs_eq, rs_nk, rl_si, rl_sA, nI_add, nI_eqI, nI_leI2, nI_ltI2, ql_0, ql_1, ql_2, ql_3, ql_4, ql_5, ql_6, ql_7, ql_8, ql_9, ql_10, ql_11, ql_12, ql_13, ql_14, ql_15, ql_16, ql_17, ql_18, ql_19, ql_20, ql_24, ql_25, ql_26, ql_27, ql_31, ql_32, ql_33, ql_36, ql_45, ql_46, ql_47, ql_48, ql_49, ql_50, ql_57, ql_63, ql_64, ql_65, ql_66, ql_67, ql_68, ql_69, ql_70, ql_71, ql_72, ql_73, ql_74, ql_75, ql_76, ql_77, ql_78, ql_79, ql_80, ql_81, ql_82, ql_83, ql_84, ql_85, ql_86, ql_87, ql_93, ql_96, ql_97, ql_100, ql_101, ql_120, ql_255, ql_256, ql_257, ql_511, ql_672, ql_900, ql_1000, ql_65536, rho_0_0, rho_0_1, rho_0_2, rho_0_3, rho_0_4, rho_0_5, rho_0_6, rho_0_7, rho_0_8, rho_0_9, rho_0_10, rho_0_11, rho_0_12, rho_15_1, rho_15_2, rho_27_1, kd_0, kd_15, kd_27, a2']
    · simp (disch := omega) only [vX9_undo, rX9_undo_0, rX9_undo_1, rX9_undo_4, rX9_undo_7, rX9_undo_9, mm_gd_t, mm_kc_v, mm_kc_n, mm_rfs, kl_n, kl_i, kl_r, kl_l, so_0, so_1, so_2, so_3, so_4, beq_self_eq_true, Bool.true_and, Bool.and_true, Bool.or_true, Bool.true_or, Bool.false_or, Bool.or_false, if_true, if_false, ↓reduceIte, decide_true, decide_false, Bool.not_false, Bool.not_true, not_true_eq_false, not_false_eq_true, eq_self, Nat.not_lt_zero, Bool.true_eq_false, Bool.false_eq_true, Nat.reduceAdd, Nat.reduceMul, Nat.reduceSub, Nat.reduceEqDiff, Nat.reduceLeDiff, Nat.reduceLT, Nat.reduceDiv, Nat.reduceMod, zb_0, zb_1, zb_b, on_nI, ml_l, rl_sl1, rl_sl2, rl_eq, rl_nj, rl_nk, qL_0, qL_1, qL_11, qL_10000, nI_lL, lN_add, lN_mul, Nat.zero_add, Nat.add_zero, mm_zr0n, mm_zr1n, mm_zrb, b2_0, b2_1, pk_mul, tn_nI, in_nI, mi_lt, rd_eq, rd_nj, rd_nk, rs_eq, rs_nk, rl_si, rl_sA, nI_add, nI_eqI, nI_leI2, nI_ltI2, ql_0, ql_1, ql_2, ql_3, ql_4, ql_5, ql_6, ql_7, ql_8, ql_9, ql_10, ql_11, ql_12, ql_13, ql_14, ql_15, ql_16, ql_17, ql_18, ql_19, ql_20, ql_24, ql_25, ql_26, ql_27, ql_31, ql_32, ql_33, ql_36, ql_45, ql_46, ql_47, ql_48, ql_49, ql_50, ql_57, ql_63, ql_64, ql_65, ql_66, ql_67, ql_68, ql_69, ql_70, ql_71, ql_72, ql_73, ql_74, ql_75, ql_76, ql_77, ql_78, ql_79, ql_80, ql_81, ql_82, ql_83, ql_84, ql_85, ql_86, ql_87, ql_93, ql_96, ql_97, ql_100, ql_101, ql_120, ql_255, ql_256, ql_257, ql_511, ql_672, ql_900, ql_1000, ql_65536, rho_120_1, rho_120_3, rho_120_5, rho_120_6, rho_120_10, rho_120_11, rho_120_12, rho_120_15, rho_120_17, rho_120_18, rho_120_19, rho_120_20, rho_120_22, rho_120_23, kd_120, a3']
  | succ a =>
    obtain ⟨⟨c1, c2, c3, c4⟩, c5⟩ := a9 a (by omega)
    have h9 := hP.1
    obtain ⟨σ1, e1, f1, g1, g2, g3⟩ := s_takeBack (σ := σ) h9 (by omega) a2 c5 (fun i hi p hp => by rw [a7 i hi]; exact h2.2.1.2 i hi p hp) (fun k hk => by rw [a8 k hk]; exact h2.2.2.2.1 k hk)
    have eC : mm_ev mX8_undo [.ref 0] mm_H σ = some (some (.int (nI a)), mm_H, σ1) := by
      simp (disch := omega) only [vX8_undo, rX8_undo_0, rX8_undo_1, rX8_undo_4, rX8_undo_5, rX8_undo_8, rX8_undo_11, rX8_undo_14, rX8_undo_15, rX8_undo_18, rX8_undo_21, rX8_undo_24, rX8_undo_26, mm_gd_t, mm_kc_v, mm_kc_n, mm_rfs, kl_n, kl_i, kl_r, kl_l, so_0, so_1, so_2, so_3, so_4, beq_self_eq_true, Bool.true_and, Bool.and_true, Bool.or_true, Bool.true_or, Bool.false_or, Bool.or_false, if_true, if_false, ↓reduceIte, decide_true, decide_false, Bool.not_false, Bool.not_true, not_true_eq_false, not_false_eq_true, eq_self, Nat.not_lt_zero, Bool.true_eq_false, Bool.false_eq_true, Nat.reduceAdd, Nat.reduceMul, Nat.reduceSub, Nat.reduceEqDiff, Nat.reduceLeDiff, Nat.reduceLT, Nat.reduceDiv, Nat.reduceMod, zb_0, zb_1, zb_b, on_nI, ml_l, rl_sl1, rl_sl2, rl_eq, rl_nj, rl_nk, qL_0, qL_1, qL_11, qL_10000, nI_lL, lN_add, lN_mul, Nat.zero_add, Nat.add_zero, mm_zr0n, mm_zr1n, mm_zrb, b2_0, b2_1, pk_mul, tn_nI, in_nI, mi_lt, rd_eq, rd_nj, rd_nk, rs_eq, rs_nk, rl_si, rl_sA, nI_add, nI_eqI, nI_leI2, nI_ltI2, ql_0, ql_1, ql_2, ql_3, ql_4, ql_5, ql_6, ql_7, ql_8, ql_9, ql_10, ql_11, ql_12, ql_13, ql_14, ql_15, ql_16, ql_17, ql_18, ql_19, ql_20, ql_24, ql_25, ql_26, ql_27, ql_31, ql_32, ql_33, ql_36, ql_45, ql_46, ql_47, ql_48, ql_49, ql_50, ql_57, ql_63, ql_64, ql_65, ql_66, ql_67, ql_68, ql_69, ql_70, ql_71, ql_72, ql_73, ql_74, ql_75, ql_76, ql_77, ql_78, ql_79, ql_80, ql_81, ql_82, ql_83, ql_84, ql_85, ql_86, ql_87, ql_93, ql_96, ql_97, ql_100, ql_101, ql_120, ql_255, ql_256, ql_257, ql_511, ql_672, ql_900, ql_1000, ql_65536, rho_0_0, rho_0_1, rho_0_2, rho_0_3, rho_0_4, rho_0_5, rho_0_6, rho_0_7, rho_0_8, rho_0_9, rho_0_10, rho_0_11, rho_0_12, rho_15_1, rho_15_2, rho_27_1, kd_0, kd_15, kd_27, e1, g1]
    have hs : (nx + 14 - (a + 1) + a) % 14 = (nx + 13) % 14 := by omega
    rw [hs] at c3 c4
    have er : mm_re (nI (nx + 13)) (nI 14) = nI ((nx + 13) % 14) := re_nI (by omega) (by omega) (by omega)
    let σ2 := mm_si (mm_si σ1 120 8 (nI a)) 120 9 (nI ((nx + 13) % 14))
    obtain ⟨σ3, e3, f3, k3⟩ := x_undoL (nx := (nx + 13) % 14) (by omega) 48 0 σ2 (by omega) rd_eq
    have q8 : σ1.1 120 8 = nI (a + 1) := by rw [f1.1 120 (by omega)]; exact a3
    have q9 : σ1.1 120 9 = nI nx := by rw [f1.1 120 (by omega)]; exact a5
    have r8 : σ3.1 120 8 = nI a := by rw [f3.1 120 8 (by omega)]; simp (disch := omega) only [σ2, rd_nj, rd_eq]
    have r9 : σ3.1 120 9 = nI ((nx + 13) % 14) := by rw [f3.1 120 9 (by omega)]; exact rd_eq
    have ne : ¬ a + 1 = 0 := by omega
    have eM : mm_ev mX9_undo [.ref 120] mm_H σ1 = some (some (.int (nI a)), mm_H, σ3) := by
      have e3' := e3
      simp only [σ2] at e3'
      simp (disch := omega) only [vX9_undo, rX9_undo_0, rX9_undo_1, rX9_undo_4, rX9_undo_7, rX9_undo_9, rX9_undo_10, rX9_undo_11, rX9_undo_12, rX9_undo_15, rX9_undo_16, rX9_undo_17, rX9_undo_20, rX9_undo_21, rX9_undo_22, rX9_undo_25, rX9_undo_27, rX9_undo_28, rX9_undo_30, rX9_undo_31, rX9_undo_34, rX9_undo_35, rX9_undo_68, rX9_undo_69, rX9_undo_72, mm_gd_t, mm_kc_v, mm_kc_n, mm_rfs, kl_n, kl_i, kl_r, kl_l, so_0, so_1, so_2, so_3, so_4, beq_self_eq_true, Bool.true_and, Bool.and_true, Bool.or_true, Bool.true_or, Bool.false_or, Bool.or_false, if_true, if_false, ↓reduceIte, decide_true, decide_false, Bool.not_false, Bool.not_true, not_true_eq_false, not_false_eq_true, eq_self, Nat.not_lt_zero, Bool.true_eq_false, Bool.false_eq_true, Nat.reduceAdd, Nat.reduceMul, Nat.reduceSub, Nat.reduceEqDiff, Nat.reduceLeDiff, Nat.reduceLT, Nat.reduceDiv, Nat.reduceMod, zb_0, zb_1, zb_b, on_nI, ml_l, rl_sl1, rl_sl2, rl_eq, rl_nj, rl_nk, qL_0, qL_1, qL_11, qL_10000, nI_lL, lN_add, lN_mul, Nat.zero_add, Nat.add_zero, mm_zr0n, mm_zr1n, mm_zrb, b2_0, b2_1, pk_mul, tn_nI, in_nI, mi_lt, rd_eq, rd_nj, rd_nk, rs_eq, rs_nk, rl_si, rl_sA, nI_add, nI_eqI, nI_leI2, nI_ltI2, ql_0, ql_1, ql_2, ql_3, ql_4, ql_5, ql_6, ql_7, ql_8, ql_9, ql_10, ql_11, ql_12, ql_13, ql_14, ql_15, ql_16, ql_17, ql_18, ql_19, ql_20, ql_24, ql_25, ql_26, ql_27, ql_31, ql_32, ql_33, ql_36, ql_45, ql_46, ql_47, ql_48, ql_49, ql_50, ql_57, ql_63, ql_64, ql_65, ql_66, ql_67, ql_68, ql_69, ql_70, ql_71, ql_72, ql_73, ql_74, ql_75, ql_76, ql_77, ql_78, ql_79, ql_80, ql_81, ql_82, ql_83, ql_84, ql_85, ql_86, ql_87, ql_93, ql_96, ql_97, ql_100, ql_101, ql_120, ql_255, ql_256, ql_257, ql_511, ql_672, ql_900, ql_1000, ql_65536, rho_120_1, rho_120_3, rho_120_5, rho_120_6, rho_120_10, rho_120_11, rho_120_12, rho_120_15, rho_120_17, rho_120_18, rho_120_19, rho_120_20, rho_120_22, rho_120_23, kd_120, q8, q9, ne, er, pk_sub, Nat.add_sub_cancel, e3', r8]
    have oth : ∀ k j, (k < 17 ∨ 28 ≤ k) → (k ≠ 120 ∨ (j ≠ 8 ∧ j ≠ 9)) → k ≠ 121 → σ3.1 k j = σ.1 k j := fun k j x y z => by
      rw [f3.1 k j (by omega)]
      have : σ2.1 k j = σ1.1 k j := by
        by_cases h120 : k = 120
        · subst h120; simp (disch := omega) only [σ2, rd_nj]
        · simp (disch := omega) only [σ2, rd_nk]
      rw [this, f1.1 k (by omega)]
    have o2 : ∀ k j, k < 28 → σ3.1 k j = σ1.1 k j := fun k j x => by
      rw [f3.1 k j (by omega)]; simp (disch := omega) only [σ2, rd_nk]
    have o3 : ∀ j, j < 48 → σ3.1 121 j = σ.1 125 (48 * ((nx + 13) % 14) + j) := fun j hj => by
      rw [k3 j (by omega) hj]; simp (disch := omega) only [σ2, rd_nk]; rw [f1.1 125 (by omega)]
    have e125 : σ3.1 125 = σ.1 125 := funext fun j => oth 125 j (by omega) (by omega) (by omega)
    have e28 : σ3.1 28 = σ.1 28 := funext fun j => oth 28 j (by omega) (by omega) (by omega)
    refine ⟨_, σ1, σ3, eC, eM, ⟨s, L, (S a).1, (S a).2, hh, D, a, pT_cg h1 (oth 1 0 (by omega) (by omega) (by omega)) (fun j => oth 2 j (by omega) (by omega) (by omega)) (oth 120 4 (by omega) (by omega) (by omega)) (fun j => oth 122 j (by omega) (by omega) (by omega)), ⟨c2, ⟨?_, fun i hi p hp => ?_⟩, ⟨?_, fun i hi p hp => ?_⟩, fun k hk => ?_, fun k hk => ?_⟩, pH_cg h3 (fun k j _ _ => oth k j (by omega) (by omega) (by omega)) (oth 120 16 (by omega) (by omega) (by omega)) (fun k j _ _ => oth k j (by omega) (by omega) (by omega)), ?_, ?_, ⟨by omega, ?_, r8, (nx + 13) % 14, S, by omega, r9, rfl, fun _ _ => rfl, fun _ _ => rfl, fun j hj => ?_⟩⟩, ?_, ⟨_, rfl⟩, by rw [f1.2]⟩
    · rw [oth 15 0 (by omega) (by omega) (by omega), c1]; exact h2.2.1.1
    · rw [c1] at hi
      rw [o2 _ p (by omega)]; exact g2 i hi p hp
    · rw [oth 120 0 (by omega) (by omega) (by omega), c1]; exact h2.2.2.1.1
    · have hi' := hi
      rw [c1] at hi'
      rw [o3 _ (by omega)]
      have := c3 i hi p hp
      rwa [show 48 * ((nx + 13) % 14) + 9 * p + i = 48 * ((nx + 13) % 14) + (48 * 0 + 9 * p + i) by omega] at this
    · rw [o2 26 k (by omega)]; exact g3 k hk
    · rw [o3 _ (by omega)]
      have := c4 k hk
      rwa [show 48 * ((nx + 13) % 14) + 45 + k = 48 * ((nx + 13) % 14) + (45 + k) by omega] at this
    · show σ3.2.1 0 13 = σ3.2.1 120 21
      rw [f3.2]; show σ1.2.1 0 13 = σ1.2.1 120 21
      rw [f1.2]; exact h4
    · rw [c1]
      exact pK_cg h5 (fun k j _ _ => oth k j (by omega) (by omega) (by omega)) (fun j => oth 133 j (by omega) (by omega) (by omega)) (fun j => oth 134 j (by omega) (by omega) (by omega))
    · rw [o2 27 0 (by omega)]; exact g1
    · rw [c1, e125, e28]
      have := a9 j (by omega)
      have hs : (nx + 14 - (a + 1) + j) % 14 = ((nx + 13) % 14 + 14 - a + j) % 14 := by omega
      rw [hs] at this
      exact this
    · rw [f3.2]; show σ1.2.2 = _; rw [f1.2]

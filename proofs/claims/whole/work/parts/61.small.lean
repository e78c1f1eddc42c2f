/-! ===== small methods ===== -/
theorem nI_n1 {a b : Nat} (ha : a < 2147483648) (h0 : 0 < b) (hb : b < 2147483648) : (nI a = -nI b) = False := by
  refine eq_false (fun h => ?_)
  have := congrArg Int32.toInt h
  rw [nI_toInt (show a < 2 ^ 31 by omega), sb_negT (show b < 2 ^ 31 by omega)] at this
  omega
theorem nI_n2 {a b : Nat} (ha : a < 2147483648) (h0 : 0 < b) (hb : b < 2147483648) : (-nI b = nI a) = False := by
  rw [@eq_comm _ (-nI b) (nI a)]; exact nI_n1 ha h0 hb
theorem nI_n3 {a b : Nat} (ha : a < 2147483648) (hb : b < 2147483648) : (-nI b = -nI a) = (b = a) := by
  refine propext ⟨fun h => ?_, fun h => by rw [h]⟩
  have := congrArg Int32.toInt h
  rw [sb_negT (show a < 2 ^ 31 by omega), sb_negT (show b < 2 ^ 31 by omega)] at this
  omega
theorem nI_n4 {a b : Nat} (ha : a < 2147483648) (h0 : 0 < b) (hb : b < 2147483648) : (-nI b < nI a) = True := by
  refine eq_true (Int32.lt_iff_toInt_lt.2 ?_)
  rw [nI_toInt (show a < 2 ^ 31 by omega), sb_negT (show b < 2 ^ 31 by omega)]; omega
theorem nI_n5 {a b : Nat} (ha : a < 2147483648) (h0 : 0 < b) (hb : b < 2147483648) : (-nI b ≤ nI a) = True := by
  refine eq_true (Int32.le_iff_toInt_le.2 ?_)
  rw [nI_toInt (show a < 2 ^ 31 by omega), sb_negT (show b < 2 ^ 31 by omega)]; omega
theorem nI_n6 {a b : Nat} (ha : a < 2147483648) (h0 : 0 < b) (hb : b < 2147483648) : (nI a ≤ -nI b) = False := by
  refine eq_false (fun h => ?_)
  have := Int32.le_iff_toInt_le.1 h
  rw [nI_toInt (show a < 2 ^ 31 by omega), sb_negT (show b < 2 ^ 31 by omega)] at this; omega
theorem nI_n7 {a b : Nat} (ha : a < 2147483648) (h0 : 0 < b) (hb : b < 2147483648) : (nI a < -nI b) = False := by
  refine eq_false (fun h => ?_)
  have := Int32.lt_iff_toInt_lt.1 h
  rw [nI_toInt (show a < 2 ^ 31 by omega), sb_negT (show b < 2 ^ 31 by omega)] at this; omega
theorem bl_neg {b n : Nat} (h0 : 0 < b) (hb : b < 2147483648) : bl_ (-nI b) n = false := by
  unfold bl_
  rw [sb_negT (show b < 2 ^ 31 by omega)]
  rw [decide_eq_false (by omega), Bool.false_and]
theorem lt0_i {x : Int32} : (x < nI 0) = (x.toInt < 0) := by rw [Int32.lt_iff_toInt_lt]; rfl
theorem le_i {x : Int32} {n : Nat} (hn : n < 2147483648) : (nI n ≤ x) = ((n : Int) ≤ x.toInt) := by rw [Int32.le_iff_toInt_le, nI_toInt (show n < 2 ^ 31 by omega)]
theorem s_isBelow {σ : mm_M} {x : Int32} {n : Nat} (hn : n < 2147483648) : mm_ev mX8_isBelow [.int x, .int (nI n)] mm_H σ = some (some (.int (nI (b2 (bl_ x n)))), mm_H, σ) := by
  simp only [vX8_isBelow, rX8_isBelow_0, rX8_isBelow_1, rX8_isBelow_4, rX8_isBelow_5, rX8_isBelow_6, rX8_isBelow_9, rX8_isBelow_10, rX8_isBelow_13, rX8_isBelow_14, mm_gd_t, mm_kc_v, mm_kc_n, mm_rfs, kl_n, kl_i, kl_r, kl_l, so_0, so_1, so_2, so_3, so_4, beq_self_eq_true, Bool.true_and, Bool.and_true, Bool.or_true, Bool.true_or, Bool.false_or, Bool.or_false, if_true, if_false, ↓reduceIte, decide_true, decide_false, Bool.not_false, Bool.not_true, not_true_eq_false, not_false_eq_true, eq_self, Nat.not_lt_zero, Bool.true_eq_false, Bool.false_eq_true, Nat.reduceAdd, Nat.reduceMul, Nat.reduceSub, Nat.reduceEqDiff, Nat.reduceLeDiff, Nat.reduceLT, Nat.reduceDiv, Nat.reduceMod, zb_0, zb_1, zb_b, on_nI, ml_l, rl_sl1, rl_sl2, rl_eq, rl_nj, rl_nk, qL_0, qL_1, qL_11, qL_10000, nI_lL, lN_add, lN_mul, Nat.zero_add, Nat.add_zero, mm_zr0n, mm_zr1n, mm_zrb, b2_0, b2_1, pk_mul, tn_nI, in_nI, mi_lt, rd_eq, rd_nj, rd_nk, rs_eq, rs_nk, rl_si, rl_sA, nI_add, nI_eqI, nI_leI2, nI_ltI2, ql_0, ql_1, ql_2, ql_3, ql_4, ql_5, ql_6, ql_7, ql_8, ql_9, ql_10, ql_11, ql_12, ql_13, ql_14, ql_15, ql_16, ql_17, ql_18, ql_19, ql_20, ql_24, ql_25, ql_26, ql_27, ql_31, ql_32, ql_33, ql_36, ql_45, ql_46, ql_47, ql_48, ql_49, ql_50, ql_57, ql_63, ql_64, ql_65, ql_66, ql_67, ql_68, ql_69, ql_70, ql_71, ql_72, ql_73, ql_74, ql_75, ql_76, ql_77, ql_78, ql_79, ql_80, ql_81, ql_82, ql_83, ql_84, ql_85, ql_86, ql_87, ql_93, ql_96, ql_97, ql_100, ql_101, ql_120, ql_255, ql_256, ql_257, ql_511, ql_672, ql_900, ql_1000, ql_65536]
  simp only [lt0_i, le_i hn]
  unfold bl_
  by_cases h1 : x.toInt < 0
  · rw [if_pos h1, decide_eq_false (by omega)]; rfl
  · rw [if_neg h1, decide_eq_true (by omega)]
    by_cases h2 : (n : Int) ≤ x.toInt
    · rw [if_pos h2, decide_eq_false (by omega)]; rfl
    · rw [if_neg h2, decide_eq_true (by omega)]; rfl
theorem s_areFigures {σ : mm_M} {x y z : Int32} : mm_ev mX8_areFigures [.int x, .int y, .int z] mm_H σ = some (some (.int (nI (b2 (bl_ x 10 && (bl_ y 10 && bl_ z 10))))), mm_H, σ) := by
  simp (disch := omega) only [vX8_areFigures, rX8_areFigures_0, rX8_areFigures_1, rX8_areFigures_3, rX8_areFigures_6, rX8_areFigures_9, rX8_areFigures_10, rX8_areFigures_12, rX8_areFigures_15, rX8_areFigures_18, rX8_areFigures_19, rX8_areFigures_21, rX8_areFigures_24, rX8_areFigures_27, rX8_areFigures_28, rX8_areFigures_31, rX8_areFigures_32, mm_gd_t, mm_kc_v, mm_kc_n, mm_rfs, kl_n, kl_i, kl_r, kl_l, so_0, so_1, so_2, so_3, so_4, beq_self_eq_true, Bool.true_and, Bool.and_true, Bool.or_true, Bool.true_or, Bool.false_or, Bool.or_false, if_true, if_false, ↓reduceIte, decide_true, decide_false, Bool.not_false, Bool.not_true, not_true_eq_false, not_false_eq_true, eq_self, Nat.not_lt_zero, Bool.true_eq_false, Bool.false_eq_true, Nat.reduceAdd, Nat.reduceMul, Nat.reduceSub, Nat.reduceEqDiff, Nat.reduceLeDiff, Nat.reduceLT, Nat.reduceDiv, Nat.reduceMod, zb_0, zb_1, zb_b, on_nI, ml_l, rl_sl1, rl_sl2, rl_eq, rl_nj, rl_nk, qL_0, qL_1, qL_11, qL_10000, nI_lL, lN_add, lN_mul, Nat.zero_add, Nat.add_zero, mm_zr0n, mm_zr1n, mm_zrb, b2_0, b2_1, pk_mul, tn_nI, in_nI, mi_lt, rd_eq, rd_nj, rd_nk, rs_eq, rs_nk, rl_si, rl_sA, nI_add, nI_eqI, nI_leI2, nI_ltI2, ql_0, ql_1, ql_2, ql_3, ql_4, ql_5, ql_6, ql_7, ql_8, ql_9, ql_10, ql_11, ql_12, ql_13, ql_14, ql_15, ql_16, ql_17, ql_18, ql_19, ql_20, ql_24, ql_25, ql_26, ql_27, ql_31, ql_32, ql_33, ql_36, ql_45, ql_46, ql_47, ql_48, ql_49, ql_50, ql_57, ql_63, ql_64, ql_65, ql_66, ql_67, ql_68, ql_69, ql_70, ql_71, ql_72, ql_73, ql_74, ql_75, ql_76, ql_77, ql_78, ql_79, ql_80, ql_81, ql_82, ql_83, ql_84, ql_85, ql_86, ql_87, ql_93, ql_96, ql_97, ql_100, ql_101, ql_120, ql_255, ql_256, ql_257, ql_511, ql_672, ql_900, ql_1000, ql_65536, s_isBelow, b2_0]
  cases bl_ x 10 <;> cases bl_ y 10 <;> cases bl_ z 10 <;> rfl
theorem s_has {σ : mm_M} {x : Int32} {n : Nat} (hn : n < 2147483648) (h : σ.1 15 0 = nI n) : mm_ev mX4_has [.ref 15, .int x] mm_H σ = some (some (.int (nI (b2 (bl_ x n)))), mm_H, σ) := by
  simp (disch := omega) only [vX4_has, rX4_has_0, rX4_has_1, rX4_has_2, rX4_has_5, rX4_has_8, mm_gd_t, mm_kc_v, mm_kc_n, mm_rfs, kl_n, kl_i, kl_r, kl_l, so_0, so_1, so_2, so_3, so_4, beq_self_eq_true, Bool.true_and, Bool.and_true, Bool.or_true, Bool.true_or, Bool.false_or, Bool.or_false, if_true, if_false, ↓reduceIte, decide_true, decide_false, Bool.not_false, Bool.not_true, not_true_eq_false, not_false_eq_true, eq_self, Nat.not_lt_zero, Bool.true_eq_false, Bool.false_eq_true, Nat.reduceAdd, Nat.reduceMul, Nat.reduceSub, Nat.reduceEqDiff, Nat.reduceLeDiff, Nat.reduceLT, Nat.reduceDiv, Nat.reduceMod, zb_0, zb_1, zb_b, on_nI, ml_l, rl_sl1, rl_sl2, rl_eq, rl_nj, rl_nk, qL_0, qL_1, qL_11, qL_10000, nI_lL, lN_add, lN_mul, Nat.zero_add, Nat.add_zero, mm_zr0n, mm_zr1n, mm_zrb, b2_0, b2_1, pk_mul, tn_nI, in_nI, mi_lt, rd_eq, rd_nj, rd_nk, rs_eq, rs_nk, rl_si, rl_sA, nI_add, nI_eqI, nI_leI2, nI_ltI2, ql_0, ql_1, ql_2, ql_3, ql_4, ql_5, ql_6, ql_7, ql_8, ql_9, ql_10, ql_11, ql_12, ql_13, ql_14, ql_15, ql_16, ql_17, ql_18, ql_19, ql_20, ql_24, ql_25, ql_26, ql_27, ql_31, ql_32, ql_33, ql_36, ql_45, ql_46, ql_47, ql_48, ql_49, ql_50, ql_57, ql_63, ql_64, ql_65, ql_66, ql_67, ql_68, ql_69, ql_70, ql_71, ql_72, ql_73, ql_74, ql_75, ql_76, ql_77, ql_78, ql_79, ql_80, ql_81, ql_82, ql_83, ql_84, ql_85, ql_86, ql_87, ql_93, ql_96, ql_97, ql_100, ql_101, ql_120, ql_255, ql_256, ql_257, ql_511, ql_672, ql_900, ql_1000, ql_65536, s_isBelow, b2_0, kd_15, h, mm_zrb]
/-! the reference -/
theorem cmp_lt {a b : Int64} : (lg_cmp a b < nI 0) = (a.toInt < b.toInt) := by
  unfold lg_cmp
  rw [← Int64.lt_iff_toInt_lt]
  by_cases h1 : a > b
  · rw [if_pos h1]
    exact propext ⟨fun h => absurd h (by decide), fun h => absurd h (Int64.not_lt.2 (Int64.le_of_lt h1))⟩
  · rw [if_neg h1]
    by_cases h2 : a = b
    · rw [if_pos h2]
      exact propext ⟨fun h => absurd h (by decide), fun h => absurd h (by rw [h2]; exact Int64.lt_irrefl)⟩
    · rw [if_neg h2]
      exact propext ⟨fun _ => Int64.lt_of_le_of_ne (Int64.not_lt.1 h1) h2, fun _ => by decide⟩
theorem cmp_gt {a b : Int64} : (nI 0 < lg_cmp a b) = (b.toInt < a.toInt) := by
  unfold lg_cmp
  rw [← Int64.lt_iff_toInt_lt]
  by_cases h1 : a > b
  · rw [if_pos h1]
    exact propext ⟨fun _ => h1, fun _ => by decide⟩
  · rw [if_neg h1]
    by_cases h2 : a = b
    · rw [if_pos h2]
      exact propext ⟨fun h => absurd h (by decide), fun h => absurd h h1⟩
    · rw [if_neg h2]
      exact propext ⟨fun h => absurd h (by decide), fun h => absurd h h1⟩
theorem s_in {σ : mm_M} {x lo hi : Int64} : mm_ev mX9_in [.long x, .long lo, .long hi] mm_H σ = some (some (.int (nI (b2 (decide (lo.toInt ≤ x.toInt) && decide (x.toInt ≤ hi.toInt))))), mm_H, σ) := by
  simp only [vX9_in, rX9_in_0, rX9_in_1, rX9_in_2, rX9_in_3, rX9_in_6, rX9_in_7, rX9_in_9, rX9_in_10, rX9_in_13, rX9_in_14, rX9_in_17, rX9_in_18, mm_gd_t, mm_kc_v, mm_kc_n, mm_rfs, kl_n, kl_i, kl_r, kl_l, so_0, so_1, so_2, so_3, so_4, beq_self_eq_true, Bool.true_and, Bool.and_true, Bool.or_true, Bool.true_or, Bool.false_or, Bool.or_false, if_true, if_false, ↓reduceIte, decide_true, decide_false, Bool.not_false, Bool.not_true, not_true_eq_false, not_false_eq_true, eq_self, Nat.not_lt_zero, Bool.true_eq_false, Bool.false_eq_true, Nat.reduceAdd, Nat.reduceMul, Nat.reduceSub, Nat.reduceEqDiff, Nat.reduceLeDiff, Nat.reduceLT, Nat.reduceDiv, Nat.reduceMod, zb_0, zb_1, zb_b, on_nI, ml_l, rl_sl1, rl_sl2, rl_eq, rl_nj, rl_nk, qL_0, qL_1, qL_11, qL_10000, nI_lL, lN_add, lN_mul, Nat.zero_add, Nat.add_zero, mm_zr0n, mm_zr1n, mm_zrb, b2_0, b2_1, pk_mul, tn_nI, in_nI, mi_lt, rd_eq, rd_nj, rd_nk, rs_eq, rs_nk, rl_si, rl_sA, nI_add, nI_eqI, nI_leI2, nI_ltI2, ql_0, ql_1, ql_2, ql_3, ql_4, ql_5, ql_6, ql_7, ql_8, ql_9, ql_10, ql_11, ql_12, ql_13, ql_14, ql_15, ql_16, ql_17, ql_18, ql_19, ql_20, ql_24, ql_25, ql_26, ql_27, ql_31, ql_32, ql_33, ql_36, ql_45, ql_46, ql_47, ql_48, ql_49, ql_50, ql_57, ql_63, ql_64, ql_65, ql_66, ql_67, ql_68, ql_69, ql_70, ql_71, ql_72, ql_73, ql_74, ql_75, ql_76, ql_77, ql_78, ql_79, ql_80, ql_81, ql_82, ql_83, ql_84, ql_85, ql_86, ql_87, ql_93, ql_96, ql_97, ql_100, ql_101, ql_120, ql_255, ql_256, ql_257, ql_511, ql_672, ql_900, ql_1000, ql_65536, cmp_lt, cmp_gt]
  by_cases h1 : x.toInt < lo.toInt
  · rw [if_pos h1, decide_eq_false (by omega)]; rfl
  · rw [if_neg h1, decide_eq_true (by omega)]
    by_cases h2 : hi.toInt < x.toInt
    · rw [if_pos h2, decide_eq_false (by omega)]; rfl
    · rw [if_neg h2, decide_eq_true (by omega)]; rfl
theorem i2l_toInt (x : Int32) : x.toInt64.toInt = x.toInt := Int32.toInt_toInt64 x
/-- in, of an int, from 0 to n - 1 -/
theorem in_0 (x : Int32) {hi : Int64} {n : Nat} (h : hi.toInt = (n : Int) - 1) : (decide ((lN 0).toInt ≤ x.toInt64.toInt) && decide (x.toInt64.toInt ≤ hi.toInt)) = bl_ x n := by
  unfold bl_
  rw [i2l_toInt, h]
  congr 1
  exact decide_eq_decide.2 (by omega)
theorem s_hasX {σ : mm_M} {m k : Nat} (hm : m < 2147483648) (hk : k < 32) : mm_ev mX9_has [.int (nI m), .int (nI k)] mm_H σ = some (some (.int (nI (b2 (m.testBit k)))), mm_H, σ) := by
  simp (disch := omega) only [vX9_has, rX9_has_0, rX9_has_1, rX9_has_2, rX9_has_3, rX9_has_4, rX9_has_5, rX9_has_6, rX9_has_9, rX9_has_10, rX9_has_13, rX9_has_14, mm_gd_t, mm_kc_v, mm_kc_n, mm_rfs, kl_n, kl_i, kl_r, kl_l, so_0, so_1, so_2, so_3, so_4, beq_self_eq_true, Bool.true_and, Bool.and_true, Bool.or_true, Bool.true_or, Bool.false_or, Bool.or_false, if_true, if_false, ↓reduceIte, decide_true, decide_false, Bool.not_false, Bool.not_true, not_true_eq_false, not_false_eq_true, eq_self, Nat.not_lt_zero, Bool.true_eq_false, Bool.false_eq_true, Nat.reduceAdd, Nat.reduceMul, Nat.reduceSub, Nat.reduceEqDiff, Nat.reduceLeDiff, Nat.reduceLT, Nat.reduceDiv, Nat.reduceMod, zb_0, zb_1, zb_b, on_nI, ml_l, rl_sl1, rl_sl2, rl_eq, rl_nj, rl_nk, qL_0, qL_1, qL_11, qL_10000, nI_lL, lN_add, lN_mul, Nat.zero_add, Nat.add_zero, mm_zr0n, mm_zr1n, mm_zrb, b2_0, b2_1, pk_mul, tn_nI, in_nI, mi_lt, rd_eq, rd_nj, rd_nk, rs_eq, rs_nk, rl_si, rl_sA, nI_add, nI_eqI, nI_leI2, nI_ltI2, ql_0, ql_1, ql_2, ql_3, ql_4, ql_5, ql_6, ql_7, ql_8, ql_9, ql_10, ql_11, ql_12, ql_13, ql_14, ql_15, ql_16, ql_17, ql_18, ql_19, ql_20, ql_24, ql_25, ql_26, ql_27, ql_31, ql_32, ql_33, ql_36, ql_45, ql_46, ql_47, ql_48, ql_49, ql_50, ql_57, ql_63, ql_64, ql_65, ql_66, ql_67, ql_68, ql_69, ql_70, ql_71, ql_72, ql_73, ql_74, ql_75, ql_76, ql_77, ql_78, ql_79, ql_80, ql_81, ql_82, ql_83, ql_84, ql_85, ql_86, ql_87, ql_93, ql_96, ql_97, ql_100, ql_101, ql_120, ql_255, ql_256, ql_257, ql_511, ql_672, ql_900, ql_1000, ql_65536, bit_nI, b2_1]
  cases m.testBit k <;> rfl

/-! ===== the reference: labels go on ===== -/
theorem x_join {σ : mm_M} {t v n : Nat} {w : Int32} (hn : n ≤ 9) (ht : t < 100) (hv : v < 5) (h0 : σ.1 120 0 = nI n) : mm_ev mX9_join [.ref 120, .int (nI t), .int (nI v), .int w] mm_H σ = some (none, mm_H, if t < n then mm_si σ 123 (5 * t + v) (σ.1 123 (5 * t + v) ||| w) else σ) := by
  by_cases h : t < n
  · have h' : ¬ n ≤ t := by omega
    simp (disch := omega) only [vX9_join, rX9_join_0, rX9_join_1, rX9_join_2, rX9_join_5, rX9_join_8, rX9_join_9, rX9_join_12, rX9_join_13, rX9_join_14, rX9_join_15, rX9_join_16, rX9_join_17, rX9_join_18, rX9_join_19, rX9_join_20, rX9_join_21, rX9_join_22, mm_gd_t, mm_kc_v, mm_kc_n, mm_rfs, kl_n, kl_i, kl_r, kl_l, so_0, so_1, so_2, so_3, so_4, beq_self_eq_true, Bool.true_and, Bool.and_true, Bool.or_true, Bool.true_or, Bool.false_or, Bool.or_false, if_true, if_false, ↓reduceIte, decide_true, decide_false, Bool.not_false, Bool.not_true, not_true_eq_false, not_false_eq_true, eq_self, Nat.not_lt_zero, Bool.true_eq_false, Bool.false_eq_true, Nat.reduceAdd, Nat.reduceMul, Nat.reduceSub, Nat.reduceEqDiff, Nat.reduceLeDiff, Nat.reduceLT, Nat.reduceDiv, Nat.reduceMod, zb_0, zb_1, zb_b, on_nI, ml_l, rl_sl1, rl_sl2, rl_eq, rl_nj, rl_nk, qL_0, qL_1, qL_11, qL_10000, nI_lL, lN_add, lN_mul, Nat.zero_add, Nat.add_zero, mm_zr0n, mm_zr1n, mm_zrb, b2_0, b2_1, pk_mul, tn_nI, in_nI, mi_lt, rd_eq, rd_nj, rd_nk, rs_eq, rs_nk, rl_si, rl_sA, nI_add, nI_eqI, nI_leI2, nI_ltI2, ql_0, ql_1, ql_2, ql_3, ql_4, ql_5, ql_6, ql_7, ql_8, ql_9, ql_10, ql_11, ql_12, ql_13, ql_14, ql_15, ql_16, ql_17, ql_18, ql_19, ql_20, ql_24, ql_25, ql_26, ql_27, ql_31, ql_32, ql_33, ql_36, ql_45, ql_46, ql_47, ql_48, ql_49, ql_50, ql_57, ql_63, ql_64, ql_65, ql_66, ql_67, ql_68, ql_69, ql_70, ql_71, ql_72, ql_73, ql_74, ql_75, ql_76, ql_77, ql_78, ql_79, ql_80, ql_81, ql_82, ql_83, ql_84, ql_85, ql_86, ql_87, ql_93, ql_96, ql_97, ql_100, ql_101, ql_120, ql_255, ql_256, ql_257, ql_511, ql_672, ql_900, ql_1000, ql_65536, rho_120_1, rho_120_3, rho_120_5, rho_120_6, rho_120_10, rho_120_11, rho_120_12, rho_120_15, rho_120_17, rho_120_18, rho_120_19, rho_120_20, rho_120_22, rho_120_23, kd_120, kd_123, ir_123, iw_123, al_123, h0, h, h']
  · have h' : n ≤ t := by omega
    simp (disch := omega) only [vX9_join, rX9_join_0, rX9_join_1, rX9_join_2, rX9_join_5, rX9_join_8, rX9_join_9, rX9_join_12, rX9_join_13, rX9_join_14, rX9_join_15, rX9_join_16, rX9_join_17, rX9_join_18, rX9_join_19, rX9_join_20, rX9_join_21, rX9_join_22, mm_gd_t, mm_kc_v, mm_kc_n, mm_rfs, kl_n, kl_i, kl_r, kl_l, so_0, so_1, so_2, so_3, so_4, beq_self_eq_true, Bool.true_and, Bool.and_true, Bool.or_true, Bool.true_or, Bool.false_or, Bool.or_false, if_true, if_false, ↓reduceIte, decide_true, decide_false, Bool.not_false, Bool.not_true, not_true_eq_false, not_false_eq_true, eq_self, Nat.not_lt_zero, Bool.true_eq_false, Bool.false_eq_true, Nat.reduceAdd, Nat.reduceMul, Nat.reduceSub, Nat.reduceEqDiff, Nat.reduceLeDiff, Nat.reduceLT, Nat.reduceDiv, Nat.reduceMod, zb_0, zb_1, zb_b, on_nI, ml_l, rl_sl1, rl_sl2, rl_eq, rl_nj, rl_nk, qL_0, qL_1, qL_11, qL_10000, nI_lL, lN_add, lN_mul, Nat.zero_add, Nat.add_zero, mm_zr0n, mm_zr1n, mm_zrb, b2_0, b2_1, pk_mul, tn_nI, in_nI, mi_lt, rd_eq, rd_nj, rd_nk, rs_eq, rs_nk, rl_si, rl_sA, nI_add, nI_eqI, nI_leI2, nI_ltI2, ql_0, ql_1, ql_2, ql_3, ql_4, ql_5, ql_6, ql_7, ql_8, ql_9, ql_10, ql_11, ql_12, ql_13, ql_14, ql_15, ql_16, ql_17, ql_18, ql_19, ql_20, ql_24, ql_25, ql_26, ql_27, ql_31, ql_32, ql_33, ql_36, ql_45, ql_46, ql_47, ql_48, ql_49, ql_50, ql_57, ql_63, ql_64, ql_65, ql_66, ql_67, ql_68, ql_69, ql_70, ql_71, ql_72, ql_73, ql_74, ql_75, ql_76, ql_77, ql_78, ql_79, ql_80, ql_81, ql_82, ql_83, ql_84, ql_85, ql_86, ql_87, ql_93, ql_96, ql_97, ql_100, ql_101, ql_120, ql_255, ql_256, ql_257, ql_511, ql_672, ql_900, ql_1000, ql_65536, rho_120_1, rho_120_3, rho_120_5, rho_120_6, rho_120_10, rho_120_11, rho_120_12, rho_120_15, rho_120_17, rho_120_18, rho_120_19, rho_120_20, rho_120_22, rho_120_23, kd_120, kd_123, ir_123, iw_123, al_123, h0, h, h']
/-- one variable, behind a line that is left -/
def jo_ (n t v : Nat) (w : Int32) (σ : mm_M) : mm_M := if t < n then mm_si σ 123 (5 * t + v) (σ.1 123 (5 * t + v) ||| w) else σ
theorem jo_fr (n t v : Nat) (w : Int32) (σ : mm_M) : fr_ 123 124 σ (jo_ n t v w σ) := by
  unfold jo_; split
  · exact fr_si (fr_refl _ _ _) (by omega) (by omega)
  · exact fr_refl _ _ _
theorem jo_rd {n t v j u : Nat} {w : Int32} {σ : mm_M} (hv : v < 5) (hu : u < 5) : (jo_ n t v w σ).1 123 (5 * j + u) = if t < n ∧ j = t ∧ u = v then σ.1 123 (5 * j + u) ||| w else σ.1 123 (5 * j + u) := by
  unfold jo_
  by_cases h : t < n
  · rw [if_pos h]
    by_cases h2 : j = t ∧ u = v
    · rw [if_pos ⟨h, h2⟩, h2.1, h2.2, rd_eq]
    · rw [if_neg (fun hh => h2 hh.2), rd_nj (by omega)]
  · rw [if_neg h, if_neg (fun hh => h hh.1)]
theorem x_join' {σ : mm_M} {t v n : Nat} {w : Int32} (hn : n ≤ 9) (ht : t < 100) (hv : v < 5) (h0 : σ.1 120 0 = nI n) : mm_ev mX9_join [.ref 120, .int (nI t), .int (nI v), .int w] mm_H σ = some (none, mm_H, jo_ n t v w σ) := x_join hn ht hv h0
theorem cm_2 {n t : Nat} {lv : Nat → Int32} {s : fw_} {j u : Nat} : (cm_ n t lv s).2 j u = if t < n ∧ j = t then s.2 j u ||| lv u else s.2 j u := by
  unfold cm_
  by_cases h : t < n
  · rw [if_pos h]
    by_cases h2 : j = t
    · rw [if_pos ⟨h, h2⟩]; show (if j = t then _ else _) = _; rw [if_pos h2]
    · rw [if_neg (fun hh => h2 hh.2)]; show (if j = t then _ else _) = _; rw [if_neg h2]
  · rw [if_neg h, if_neg (fun hh => h hh.1)]
/-- labels, the first v variables of them gone on -/
def mv2_ (σ : mm_M) (s s' : fw_) (v : Nat) : Prop := ∀ j, j < 9 → ∀ u, u < 5 → σ.1 123 (5 * j + u) = if u < v then s'.2 j u else s.2 j u
theorem fm_123 {lv : Nat} {σ σ' : mm_M} {P : pp_} (hr : rq_ lv σ P) (hP : P.1 ≤ 9) (hf : fr_ 123 124 σ σ') : rq_ lv σ' P := ⟨by rw [hf.1 120 (by omega)]; exact hr.1, rm_cg hr.2 hP (fun j _ _ => by rw [hf.1 121 (by omega)])⟩

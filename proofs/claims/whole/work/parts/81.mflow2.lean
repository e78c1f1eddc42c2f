/-! ===== the reference: labels go on ===== -/
theorem x_join {σ : mm_M} {t v n : Nat} {w : Int32} (hn : n ≤ 9) (ht : t < 100) (hv : v < 5) (h0 : σ.1 120 0 = nI n) : mm_ev mX9_join [.ref 120, .int (nI t), .int (nI v), .int w] mm_H σ = some (none, mm_H, if t < n then mm_si σ 123 (5 * t + v) (σ.1 123 (5 * t + v) ||| w) else σ) := by
  by_cases h : t < n
  · have h' : ¬ n ≤ t := by omega
    simp (disch := omega) only [vX9_join, rX9_join_0, rX9_join_1, rX9_join_2, rX9_join_5, rX9_join_8, rX9_join_9, rX9_join_12, rX9_join_13, rX9_join_14, rX9_join_15, rX9_join_16, rX9_join_17, rX9_join_18, rX9_join_19, rX9_join_20, rX9_join_21, rX9_join_22, mm_gd_t, mm_kc_v, mm_kc_n, mm_rfs, kl_n, kl_i, kl_r, kl_l, so_0, so_1, so_2, so_3, so_4, beq_self_eq_true, Bool.true_and, Bool.and_true, Bool.or_true, Bool.true_or, Bool.false_or, Bool.or_false, if_true, if_false, ↓reduceIte, decide_true, decide_false, Bool.not_false, Bool.not_true, not_true_eq_false, not_false_eq_true, eq_self, Nat.not_lt_zero, Bool.true_eq_false, Bool.false_eq_true, Nat.reduceAdd, Nat.reduceMul, Nat.reduceSub, Nat.reduceEqDiff, Nat.reduceLeDiff, Nat.reduceLT, Nat.reduceDiv, Nat.reduceMod, zb_0, zb_1, zb_b, on_nI, ml_l, rl_sl1, rl_sl2, rl_eq, rl_nj, rl_nk, qL_0, qL_1, qL_11, qL_10000, nI_lL, lN_add, lN_mul, Nat.zero_add, Nat.add_zero, mm_zr0n, mm_zr1n, mm_zrb, b2_0, b2_1, pk_mul, tn_nI, in_nI, mi_lt, rd_eq, rd_nj, rd_nk, rs_eq, rs_nk, rl_si, rl_sA, nI_add, nI_eqI, nI_leI2, nI_ltI2, ql_0, ql_1, ql_2, ql_3, ql_4, ql_5, ql_6, ql_7, ql_8, ql_9, ql_10, ql_11, ql_12, ql_13, ql_14, ql_15, ql_16, ql_17, ql_18, ql_19, ql_20, ql_24, ql_25, ql_26, ql_27, ql_31, ql_32, ql_33, ql_36, ql_45, ql_46, ql_47, ql_48, ql_49, ql_50, ql_57, ql_63, ql_64, ql_65, ql_66, ql_67, ql_68, ql_69, ql_70, ql_71, ql_72, ql_73, ql_74, ql_75, ql_76, ql_77, ql_78, ql_79, ql_80, ql_81, ql_82, ql_83, ql_84, ql_85, ql_86, ql_87, ql_93, ql_96, ql_97, ql_100, ql_101, ql_120, ql_255, ql_256, ql_257, ql_511, ql_672, ql_900, ql_1000, ql_65536, rho_120_1, rho_120_3, rho_120_5, rho_120_6, rho_120_10, rho_120_11, rho_120_12, rho_120_15, rho_120_17, rho_120_18, rho_120_19, rho_120_20, rho_120_22, rho_120_23, kd_120, kd_123, ir_123, iw_123, al_123, h0, h, h']
  · have h' : n ≤ t := by omega
    simp (disch := omega) only [vX9_join, rX9_join_0, rX9_join_1, rX9_join_2, rX9_join_5, rX9_join_8, rX9_join_9, rX9_join_12, rX9_join_13, rX9_join_14, rX9_join_15, rX9_join_16, rX9_join_17, rX9_join_18, rX9_join_19, rX9_join_20, rX9_join_21, rX9_join_22, mm_gd_t, mm_kc_v, mm_kc_n, mm_rfs, kl_n, kl_i, kl_r, kl_l, so_0, so_1, so_2, so_3, so_4, beq_self_eq_true, Bool.true_and, Bool.and_true, Bool.or_true, Bool.true_or, Bool.false_or, Bool.or_false, if_true, if_false, ↓reduceIte, decide_true, decide_false, Bool.not_false, Bool.not_true, not_true_eq_false, not_false_eq_true, eq_self, Nat.not_lt_zero, Bool.true_eq_false, Bool.false_eq_true, Nat.reduceAdd, Nat.reduceMul, Nat.reduceSub, Nat.reduceEqDiff, Nat.reduceLeDiff, Nat.reduceLT, Nat.reduceDiv, Nat.reduceMod, zb_0, zb_1, zb_b, on_nI, ml_l, rl_sl1, rl_sl2, rl_eq, rl_nj, rl_nk, qL_0, qL_1, qL_11, qL_10000, nI_lL, lN_add, lN_mul, Nat.zero_add, Nat.add_zero, mm_zr0n, mm_zr1n, mm_zrb, b2_0, b2_1, pk_mul, tn_nI, in_nI, mi_lt, rd_eq, rd_nj, rd_nk, rs_eq, rs_nk, rl_si, rl_sA, nI_add, nI_eqI, nI_leI2, nI_ltI2, ql_0, ql_1, ql_2, ql_3, ql_4, ql_5, ql_6, ql_7, ql_8, ql_9, ql_10, ql_11, ql_12, ql_13, ql_14, ql_15, ql_16, ql_17, ql_18, ql_19, ql_20, ql_24, ql_25, ql_26, ql_27, ql_31, ql_32, ql_33, ql_36, ql_45, ql_46, ql_47, ql_48, ql_49, ql_50, ql_57, ql_63, ql_64, ql_65, ql_66, ql_67, ql_68, ql_69, ql_70, ql_71, ql_72, ql_73, ql_74, ql_75, ql_76, ql_77, ql_78, ql_79, ql_80, ql_81, ql_82, ql_83, ql_84, ql_85, ql_86, ql_87, ql_93, ql_96, ql_97, ql_100, ql_101, ql_120, ql_255, ql_256, ql_257, ql_511, ql_672, ql_900, ql_1000, ql_65536, rho_120_1, rho_120_3, rho_120_5, rho_120_6, rho_120_10, rho_120_11, rho_120_12, rho_120_15, rho_120_17, rho_120_18, rho_120_19, rho_120_20, rho_120_22, rho_120_23, kd_120, kd_123, ir_123, iw_123, al_123, h0, h, h']
/-- one variable, behind a line that is left -/
def jo_ (n t v : Nat) (w : Int32) (σ : mm_M) : mm_M := if t < n then mm_si σ 123 (5 * t + v) (σ.1 123 (5 * t + v) ||| w) else σ
theorem jo_fr (n t v : Nat) (w : Int32) (σ : mm_M) : fr_ 123 124 σ (jo_ n t v w σ) := by
  unfold jo_; split
  · exact fr_si (fr_refl _ _ _) (by omega) (by omega)
  · exact fr_refl _ _ _
theorem jo_rd {n t v j u : Nat} {w : Int32} {σ : mm_M} (hv : v < 5) (hu : u < 5) : (jo_ n t v w σ).1 123 (5 * j + u) = if t < n ∧ j = t ∧ u = v then σ.1 123 (5 * j + u) ||| w else σ.1 123 (5 * j + u) := by
  unfold jo_
  by_cases h : t < n
  · rw [if_pos h]
    by_cases h2 : j = t ∧ u = v
    · rw [if_pos ⟨h, h2⟩, h2.1, h2.2, rd_eq]
    · rw [if_neg (fun hh => h2 hh.2), rd_nj (by omega)]
  · rw [if_neg h, if_neg (fun hh => h hh.1)]
theorem x_join' {σ : mm_M} {t v n : Nat} {w : Int32} (hn : n ≤ 9) (ht : t < 100) (hv : v < 5) (h0 : σ.1 120 0 = nI n) : mm_ev mX9_join [.ref 120, .int (nI t), .int (nI v), .int w] mm_H σ = some (none, mm_H, jo_ n t v w σ) := x_join hn ht hv h0
theorem cm_2 {n t : Nat} {lv : Nat → Int32} {s : fw_} {j u : Nat} : (cm_ n t lv s).2 j u = if t < n ∧ j = t then s.2 j u ||| lv u else s.2 j u := by
  unfold cm_
  by_cases h : t < n
  · rw [if_pos h]
    by_cases h2 : j = t
    · rw [if_pos ⟨h, h2⟩]; show (if j = t then _ else _) = _; rw [if_pos h2]
    · rw [if_neg (fun hh => h2 hh.2)]; show (if j = t then _ else _) = _; rw [if_neg h2]
  · rw [if_neg h, if_neg (fun hh => h hh.1)]
/-- labels, the first v variables of them gone on -/
def mv2_ (σ : mm_M) (s s' : fw_) (v : Nat) : Prop := ∀ j, j < 9 → ∀ u, u < 5 → σ.1 123 (5 * j + u) = if u < v then s'.2 j u else s.2 j u
theorem fm_123 {lv : Nat} {σ σ' : mm_M} {P : pp_} (hr : rq_ lv σ P) (hP : P.1 ≤ 9) (hf : fr_ 123 124 σ σ') : rq_ lv σ' P := ⟨by rw [hf.1 120 (by omega)]; exact hr.1, rm_cg hr.2 hP (fun j _ _ => by rw [hf.1 121 (by omega)])⟩
theorem x_flowT {σ : mm_M} {P : pp_} {i v : Nat} {s : fw_} {lvv own two : Int32} {x4 x10 x11 : Option Value} (hP : wf_ P) (hi : i < P.1) (hv : v < 5) (h2 : h3_ (P.2 i 0) = true → two = s.2 i (P.2 i 2) ||| s.2 i (P.2 i 3)) :
    mm_run mX9_flow mm_H 151 [some (.ref 120), some (.int lvv), some (.int (nI i)), some (.int (nI (P.2 i 0))), x4, some (.int (nI (P.2 i 1))), some (.int own), some (.int two), some (.int (nI v)), some (.int (s.2 i v)), x10, x11] [] σ
    = mm_run mX9_flow mm_H 197 [some (.ref 120), some (.int lvv), some (.int (nI i)), some (.int (nI (P.2 i 0))), x4, some (.int (nI (P.2 i 1))), some (.int own), some (.int two), some (.int (nI v)), some (.int (s.2 i v)), some (.int (ln_ P s i own v)), x11] [] σ := by
  have h9 := hP.1
  obtain ⟨w0, w1, w2, w3, w4⟩ := hP.2 i hi
  unfold ln_
  by_cases hvx : v = P.2 i 1
  · rw [if_pos hvx]
    have hK : P.2 i 0 = 0 ∨ P.2 i 0 = 1 ∨ P.2 i 0 = 2 ∨ P.2 i 0 = 3 ∨ P.2 i 0 = 4 ∨ P.2 i 0 = 5 ∨ P.2 i 0 = 6 := by omega
    rcases hK with hK | hK | hK | hK | hK | hK | hK <;> rw [hK] at h2 ⊢
    · simp (disch := omega) only [vX9_flow, rX9_flow_151, rX9_flow_153, rX9_flow_155, rX9_flow_158, rX9_flow_160, rX9_flow_163, rX9_flow_164, rX9_flow_167, rX9_flow_168, rX9_flow_170, rX9_flow_173, rX9_flow_175, rX9_flow_178, rX9_flow_179, rX9_flow_182, rX9_flow_185, rX9_flow_187, rX9_flow_189, rX9_flow_190, rX9_flow_193, rX9_flow_195, mm_gd_t, mm_kc_v, mm_kc_n, mm_rfs, kl_n, kl_i, kl_r, kl_l, so_0, so_1, so_2, so_3, so_4, beq_self_eq_true, Bool.true_and, Bool.and_true, Bool.or_true, Bool.true_or, Bool.false_or, Bool.or_false, if_true, if_false, ↓reduceIte, decide_true, decide_false, Bool.not_false, Bool.not_true, not_true_eq_false, not_false_eq_true, eq_self, Nat.not_lt_zero, Bool.true_eq_false, Bool.false_eq_true, Nat.reduceAdd, Nat.reduceMul, Nat.reduceSub, Nat.reduceEqDiff, Nat.reduceLeDiff, Nat.reduceLT, Nat.reduceDiv, Nat.reduceMod, zb_0, zb_1, zb_b, on_nI, ml_l, rl_sl1, rl_sl2, rl_eq, rl_nj, rl_nk, qL_0, qL_1, qL_11, qL_10000, nI_lL, lN_add, lN_mul, Nat.zero_add, Nat.add_zero, mm_zr0n, mm_zr1n, mm_zrb, b2_0, b2_1, pk_mul, tn_nI, in_nI, mi_lt, rd_eq, rd_nj, rd_nk, rs_eq, rs_nk, rl_si, rl_sA, nI_add, nI_eqI, nI_leI2, nI_ltI2, ql_0, ql_1, ql_2, ql_3, ql_4, ql_5, ql_6, ql_7, ql_8, ql_9, ql_10, ql_11, ql_12, ql_13, ql_14, ql_15, ql_16, ql_17, ql_18, ql_19, ql_20, ql_24, ql_25, ql_26, ql_27, ql_31, ql_32, ql_33, ql_36, ql_45, ql_46, ql_47, ql_48, ql_49, ql_50, ql_57, ql_63, ql_64, ql_65, ql_66, ql_67, ql_68, ql_69, ql_70, ql_71, ql_72, ql_73, ql_74, ql_75, ql_76, ql_77, ql_78, ql_79, ql_80, ql_81, ql_82, ql_83, ql_84, ql_85, ql_86, ql_87, ql_93, ql_96, ql_97, ql_100, ql_101, ql_120, ql_255, ql_256, ql_257, ql_511, ql_672, ql_900, ql_1000, ql_65536, hvx, x_hasThree]
      simp
    · have h2 := h2 rfl
      simp (disch := omega) only [vX9_flow, rX9_flow_151, rX9_flow_153, rX9_flow_155, rX9_flow_158, rX9_flow_160, rX9_flow_163, rX9_flow_164, rX9_flow_167, rX9_flow_168, rX9_flow_170, rX9_flow_173, rX9_flow_175, rX9_flow_178, rX9_flow_179, rX9_flow_182, rX9_flow_185, rX9_flow_187, rX9_flow_189, rX9_flow_190, rX9_flow_193, rX9_flow_195, mm_gd_t, mm_kc_v, mm_kc_n, mm_rfs, kl_n, kl_i, kl_r, kl_l, so_0, so_1, so_2, so_3, so_4, beq_self_eq_true, Bool.true_and, Bool.and_true, Bool.or_true, Bool.true_or, Bool.false_or, Bool.or_false, if_true, if_false, ↓reduceIte, decide_true, decide_false, Bool.not_false, Bool.not_true, not_true_eq_false, not_false_eq_true, eq_self, Nat.not_lt_zero, Bool.true_eq_false, Bool.false_eq_true, Nat.reduceAdd, Nat.reduceMul, Nat.reduceSub, Nat.reduceEqDiff, Nat.reduceLeDiff, Nat.reduceLT, Nat.reduceDiv, Nat.reduceMod, zb_0, zb_1, zb_b, on_nI, ml_l, rl_sl1, rl_sl2, rl_eq, rl_nj, rl_nk, qL_0, qL_1, qL_11, qL_10000, nI_lL, lN_add, lN_mul, Nat.zero_add, Nat.add_zero, mm_zr0n, mm_zr1n, mm_zrb, b2_0, b2_1, pk_mul, tn_nI, in_nI, mi_lt, rd_eq, rd_nj, rd_nk, rs_eq, rs_nk, rl_si, rl_sA, nI_add, nI_eqI, nI_leI2, nI_ltI2, ql_0, ql_1, ql_2, ql_3, ql_4, ql_5, ql_6, ql_7, ql_8, ql_9, ql_10, ql_11, ql_12, ql_13, ql_14, ql_15, ql_16, ql_17, ql_18, ql_19, ql_20, ql_24, ql_25, ql_26, ql_27, ql_31, ql_32, ql_33, ql_36, ql_45, ql_46, ql_47, ql_48, ql_49, ql_50, ql_57, ql_63, ql_64, ql_65, ql_66, ql_67, ql_68, ql_69, ql_70, ql_71, ql_72, ql_73, ql_74, ql_75, ql_76, ql_77, ql_78, ql_79, ql_80, ql_81, ql_82, ql_83, ql_84, ql_85, ql_86, ql_87, ql_93, ql_96, ql_97, ql_100, ql_101, ql_120, ql_255, ql_256, ql_257, ql_511, ql_672, ql_900, ql_1000, ql_65536, hvx, x_hasThree, show h3_ 1 = true from rfl, h2]
      simp
    · have h2 := h2 rfl
      simp (disch := omega) only [vX9_flow, rX9_flow_151, rX9_flow_153, rX9_flow_155, rX9_flow_158, rX9_flow_160, rX9_flow_163, rX9_flow_164, rX9_flow_167, rX9_flow_168, rX9_flow_170, rX9_flow_173, rX9_flow_175, rX9_flow_178, rX9_flow_179, rX9_flow_182, rX9_flow_185, rX9_flow_187, rX9_flow_189, rX9_flow_190, rX9_flow_193, rX9_flow_195, mm_gd_t, mm_kc_v, mm_kc_n, mm_rfs, kl_n, kl_i, kl_r, kl_l, so_0, so_1, so_2, so_3, so_4, beq_self_eq_true, Bool.true_and, Bool.and_true, Bool.or_true, Bool.true_or, Bool.false_or, Bool.or_false, if_true, if_false, ↓reduceIte, decide_true, decide_false, Bool.not_false, Bool.not_true, not_true_eq_false, not_false_eq_true, eq_self, Nat.not_lt_zero, Bool.true_eq_false, Bool.false_eq_true, Nat.reduceAdd, Nat.reduceMul, Nat.reduceSub, Nat.reduceEqDiff, Nat.reduceLeDiff, Nat.reduceLT, Nat.reduceDiv, Nat.reduceMod, zb_0, zb_1, zb_b, on_nI, ml_l, rl_sl1, rl_sl2, rl_eq, rl_nj, rl_nk, qL_0, qL_1, qL_11, qL_10000, nI_lL, lN_add, lN_mul, Nat.zero_add, Nat.add_zero, mm_zr0n, mm_zr1n, mm_zrb, b2_0, b2_1, pk_mul, tn_nI, in_nI, mi_lt, rd_eq, rd_nj, rd_nk, rs_eq, rs_nk, rl_si, rl_sA, nI_add, nI_eqI, nI_leI2, nI_ltI2, ql_0, ql_1, ql_2, ql_3, ql_4, ql_5, ql_6, ql_7, ql_8, ql_9, ql_10, ql_11, ql_12, ql_13, ql_14, ql_15, ql_16, ql_17, ql_18, ql_19, ql_20, ql_24, ql_25, ql_26, ql_27, ql_31, ql_32, ql_33, ql_36, ql_45, ql_46, ql_47, ql_48, ql_49, ql_50, ql_57, ql_63, ql_64, ql_65, ql_66, ql_67, ql_68, ql_69, ql_70, ql_71, ql_72, ql_73, ql_74, ql_75, ql_76, ql_77, ql_78, ql_79, ql_80, ql_81, ql_82, ql_83, ql_84, ql_85, ql_86, ql_87, ql_93, ql_96, ql_97, ql_100, ql_101, ql_120, ql_255, ql_256, ql_257, ql_511, ql_672, ql_900, ql_1000, ql_65536, hvx, x_hasThree, show h3_ 2 = true from rfl, h2]
      simp
    · simp (disch := omega) only [vX9_flow, rX9_flow_151, rX9_flow_153, rX9_flow_155, rX9_flow_158, rX9_flow_160, rX9_flow_163, rX9_flow_164, rX9_flow_167, rX9_flow_168, rX9_flow_170, rX9_flow_173, rX9_flow_175, rX9_flow_178, rX9_flow_179, rX9_flow_182, rX9_flow_185, rX9_flow_187, rX9_flow_189, rX9_flow_190, rX9_flow_193, rX9_flow_195, mm_gd_t, mm_kc_v, mm_kc_n, mm_rfs, kl_n, kl_i, kl_r, kl_l, so_0, so_1, so_2, so_3, so_4, beq_self_eq_true, Bool.true_and, Bool.and_true, Bool.or_true, Bool.true_or, Bool.false_or, Bool.or_false, if_true, if_false, ↓reduceIte, decide_true, decide_false, Bool.not_false, Bool.not_true, not_true_eq_false, not_false_eq_true, eq_self, Nat.not_lt_zero, Bool.true_eq_false, Bool.false_eq_true, Nat.reduceAdd, Nat.reduceMul, Nat.reduceSub, Nat.reduceEqDiff, Nat.reduceLeDiff, Nat.reduceLT, Nat.reduceDiv, Nat.reduceMod, zb_0, zb_1, zb_b, on_nI, ml_l, rl_sl1, rl_sl2, rl_eq, rl_nj, rl_nk, qL_0, qL_1, qL_11, qL_10000, nI_lL, lN_add, lN_mul, Nat.zero_add, Nat.add_zero, mm_zr0n, mm_zr1n, mm_zrb, b2_0, b2_1, pk_mul, tn_nI, in_nI, mi_lt, rd_eq, rd_nj, rd_nk, rs_eq, rs_nk, rl_si, rl_sA, nI_add, nI_eqI, nI_leI2, nI_ltI2, ql_0, ql_1, ql_2, ql_3, ql_4, ql_5, ql_6, ql_7, ql_8, ql_9, ql_10, ql_11, ql_12, ql_13, ql_14, ql_15, ql_16, ql_17, ql_18, ql_19, ql_20, ql_24, ql_25, ql_26, ql_27, ql_31, ql_32, ql_33, ql_36, ql_45, ql_46, ql_47, ql_48, ql_49, ql_50, ql_57, ql_63, ql_64, ql_65, ql_66, ql_67, ql_68, ql_69, ql_70, ql_71, ql_72, ql_73, ql_74, ql_75, ql_76, ql_77, ql_78, ql_79, ql_80, ql_81, ql_82, ql_83, ql_84, ql_85, ql_86, ql_87, ql_93, ql_96, ql_97, ql_100, ql_101, ql_120, ql_255, ql_256, ql_257, ql_511, ql_672, ql_900, ql_1000, ql_65536, hvx, x_hasThree, show h3_ 3 = false from rfl]
      simp
    · simp (disch := omega) only [vX9_flow, rX9_flow_151, rX9_flow_153, rX9_flow_155, rX9_flow_158, rX9_flow_160, rX9_flow_163, rX9_flow_164, rX9_flow_167, rX9_flow_168, rX9_flow_170, rX9_flow_173, rX9_flow_175, rX9_flow_178, rX9_flow_179, rX9_flow_182, rX9_flow_185, rX9_flow_187, rX9_flow_189, rX9_flow_190, rX9_flow_193, rX9_flow_195, mm_gd_t, mm_kc_v, mm_kc_n, mm_rfs, kl_n, kl_i, kl_r, kl_l, so_0, so_1, so_2, so_3, so_4, beq_self_eq_true, Bool.true_and, Bool.and_true, Bool.or_true, Bool.true_or, Bool.false_or, Bool.or_false, if_true, if_false, ↓reduceIte, decide_true, decide_false, Bool.not_false, Bool.not_true, not_true_eq_false, not_false_eq_true, eq_self, Nat.not_lt_zero, Bool.true_eq_false, Bool.false_eq_true, Nat.reduceAdd, Nat.reduceMul, Nat.reduceSub, Nat.reduceEqDiff, Nat.reduceLeDiff, Nat.reduceLT, Nat.reduceDiv, Nat.reduceMod, zb_0, zb_1, zb_b, on_nI, ml_l, rl_sl1, rl_sl2, rl_eq, rl_nj, rl_nk, qL_0, qL_1, qL_11, qL_10000, nI_lL, lN_add, lN_mul, Nat.zero_add, Nat.add_zero, mm_zr0n, mm_zr1n, mm_zrb, b2_0, b2_1, pk_mul, tn_nI, in_nI, mi_lt, rd_eq, rd_nj, rd_nk, rs_eq, rs_nk, rl_si, rl_sA, nI_add, nI_eqI, nI_leI2, nI_ltI2, ql_0, ql_1, ql_2, ql_3, ql_4, ql_5, ql_6, ql_7, ql_8, ql_9, ql_10, ql_11, ql_12, ql_13, ql_14, ql_15, ql_16, ql_17, ql_18, ql_19, ql_20, ql_24, ql_25, ql_26, ql_27, ql_31, ql_32, ql_33, ql_36, ql_45, ql_46, ql_47, ql_48, ql_49, ql_50, ql_57, ql_63, ql_64, ql_65, ql_66, ql_67, ql_68, ql_69, ql_70, ql_71, ql_72, ql_73, ql_74, ql_75, ql_76, ql_77, ql_78, ql_79, ql_80, ql_81, ql_82, ql_83, ql_84, ql_85, ql_86, ql_87, ql_93, ql_96, ql_97, ql_100, ql_101, ql_120, ql_255, ql_256, ql_257, ql_511, ql_672, ql_900, ql_1000, ql_65536, hvx, x_hasThree, show h3_ 4 = false from rfl]
      simp
    · simp (disch := omega) only [vX9_flow, rX9_flow_151, rX9_flow_153, rX9_flow_155, rX9_flow_158, rX9_flow_160, rX9_flow_163, rX9_flow_164, rX9_flow_167, rX9_flow_168, rX9_flow_170, rX9_flow_173, rX9_flow_175, rX9_flow_178, rX9_flow_179, rX9_flow_182, rX9_flow_185, rX9_flow_187, rX9_flow_189, rX9_flow_190, rX9_flow_193, rX9_flow_195, mm_gd_t, mm_kc_v, mm_kc_n, mm_rfs, kl_n, kl_i, kl_r, kl_l, so_0, so_1, so_2, so_3, so_4, beq_self_eq_true, Bool.true_and, Bool.and_true, Bool.or_true, Bool.true_or, Bool.false_or, Bool.or_false, if_true, if_false, ↓reduceIte, decide_true, decide_false, Bool.not_false, Bool.not_true, not_true_eq_false, not_false_eq_true, eq_self, Nat.not_lt_zero, Bool.true_eq_false, Bool.false_eq_true, Nat.reduceAdd, Nat.reduceMul, Nat.reduceSub, Nat.reduceEqDiff, Nat.reduceLeDiff, Nat.reduceLT, Nat.reduceDiv, Nat.reduceMod, zb_0, zb_1, zb_b, on_nI, ml_l, rl_sl1, rl_sl2, rl_eq, rl_nj, rl_nk, qL_0, qL_1, qL_11, qL_10000, nI_lL, lN_add, lN_mul, Nat.zero_add, Nat.add_zero, mm_zr0n, mm_zr1n, mm_zrb, b2_0, b2_1, pk_mul, tn_nI, in_nI, mi_lt, rd_eq, rd_nj, rd_nk, rs_eq, rs_nk, rl_si, rl_sA, nI_add, nI_eqI, nI_leI2, nI_ltI2, ql_0, ql_1, ql_2, ql_3, ql_4, ql_5, ql_6, ql_7, ql_8, ql_9, ql_10, ql_11, ql_12, ql_13, ql_14, ql_15, ql_16, ql_17, ql_18, ql_19, ql_20, ql_24, ql_25, ql_26, ql_27, ql_31, ql_32, ql_33, ql_36, ql_45, ql_46, ql_47, ql_48, ql_49, ql_50, ql_57, ql_63, ql_64, ql_65, ql_66, ql_67, ql_68, ql_69, ql_70, ql_71, ql_72, ql_73, ql_74, ql_75, ql_76, ql_77, ql_78, ql_79, ql_80, ql_81, ql_82, ql_83, ql_84, ql_85, ql_86, ql_87, ql_93, ql_96, ql_97, ql_100, ql_101, ql_120, ql_255, ql_256, ql_257, ql_511, ql_672, ql_900, ql_1000, ql_65536, hvx, x_hasThree, show h3_ 5 = false from rfl]
      simp
    · simp (disch := omega) only [vX9_flow, rX9_flow_151, rX9_flow_153, rX9_flow_155, rX9_flow_158, rX9_flow_160, rX9_flow_163, rX9_flow_164, rX9_flow_167, rX9_flow_168, rX9_flow_170, rX9_flow_173, rX9_flow_175, rX9_flow_178, rX9_flow_179, rX9_flow_182, rX9_flow_185, rX9_flow_187, rX9_flow_189, rX9_flow_190, rX9_flow_193, rX9_flow_195, mm_gd_t, mm_kc_v, mm_kc_n, mm_rfs, kl_n, kl_i, kl_r, kl_l, so_0, so_1, so_2, so_3, so_4, beq_self_eq_true, Bool.true_and, Bool.and_true, Bool.or_true, Bool.true_or, Bool.false_or, Bool.or_false, if_true, if_false, ↓reduceIte, decide_true, decide_false, Bool.not_false, Bool.not_true, not_true_eq_false, not_false_eq_true, eq_self, Nat.not_lt_zero, Bool.true_eq_false, Bool.false_eq_true, Nat.reduceAdd, Nat.reduceMul, Nat.reduceSub, Nat.reduceEqDiff, Nat.reduceLeDiff, Nat.reduceLT, Nat.reduceDiv, Nat.reduceMod, zb_0, zb_1, zb_b, on_nI, ml_l, rl_sl1, rl_sl2, rl_eq, rl_nj, rl_nk, qL_0, qL_1, qL_11, qL_10000, nI_lL, lN_add, lN_mul, Nat.zero_add, Nat.add_zero, mm_zr0n, mm_zr1n, mm_zrb, b2_0, b2_1, pk_mul, tn_nI, in_nI, mi_lt, rd_eq, rd_nj, rd_nk, rs_eq, rs_nk, rl_si, rl_sA, nI_add, nI_eqI, nI_leI2, nI_ltI2, ql_0, ql_1, ql_2, ql_3, ql_4, ql_5, ql_6, ql_7, ql_8, ql_9, ql_10, ql_11, ql_12, ql_13, ql_14, ql_15, ql_16, ql_17, ql_18, ql_19, ql_20, ql_24, ql_25, ql_26, ql_27, ql_31, ql_32, ql_33, ql_36, ql_45, ql_46, ql_47, ql_48, ql_49, ql_50, ql_57, ql_63, ql_64, ql_65, ql_66, ql_67, ql_68, ql_69, ql_70, ql_71, ql_72, ql_73, ql_74, ql_75, ql_76, ql_77, ql_78, ql_79, ql_80, ql_81, ql_82, ql_83, ql_84, ql_85, ql_86, ql_87, ql_93, ql_96, ql_97, ql_100, ql_101, ql_120, ql_255, ql_256, ql_257, ql_511, ql_672, ql_900, ql_1000, ql_65536, hvx, x_hasThree]
      simp
  · rw [if_neg hvx]
    simp (disch := omega) only [vX9_flow, rX9_flow_151, rX9_flow_153, rX9_flow_155, rX9_flow_158, rX9_flow_160, rX9_flow_163, rX9_flow_164, rX9_flow_167, rX9_flow_168, rX9_flow_170, rX9_flow_173, rX9_flow_175, rX9_flow_178, rX9_flow_179, rX9_flow_182, rX9_flow_185, rX9_flow_187, rX9_flow_189, rX9_flow_190, rX9_flow_193, rX9_flow_195, mm_gd_t, mm_kc_v, mm_kc_n, mm_rfs, kl_n, kl_i, kl_r, kl_l, so_0, so_1, so_2, so_3, so_4, beq_self_eq_true, Bool.true_and, Bool.and_true, Bool.or_true, Bool.true_or, Bool.false_or, Bool.or_false, if_true, if_false, ↓reduceIte, decide_true, decide_false, Bool.not_false, Bool.not_true, not_true_eq_false, not_false_eq_true, eq_self, Nat.not_lt_zero, Bool.true_eq_false, Bool.false_eq_true, Nat.reduceAdd, Nat.reduceMul, Nat.reduceSub, Nat.reduceEqDiff, Nat.reduceLeDiff, Nat.reduceLT, Nat.reduceDiv, Nat.reduceMod, zb_0, zb_1, zb_b, on_nI, ml_l, rl_sl1, rl_sl2, rl_eq, rl_nj, rl_nk, qL_0, qL_1, qL_11, qL_10000, nI_lL, lN_add, lN_mul, Nat.zero_add, Nat.add_zero, mm_zr0n, mm_zr1n, mm_zrb, b2_0, b2_1, pk_mul, tn_nI, in_nI, mi_lt, rd_eq, rd_nj, rd_nk, rs_eq, rs_nk, rl_si, rl_sA, nI_add, nI_eqI, nI_leI2, nI_ltI2, ql_0, ql_1, ql_2, ql_3, ql_4, ql_5, ql_6, ql_7, ql_8, ql_9, ql_10, ql_11, ql_12, ql_13, ql_14, ql_15, ql_16, ql_17, ql_18, ql_19, ql_20, ql_24, ql_25, ql_26, ql_27, ql_31, ql_32, ql_33, ql_36, ql_45, ql_46, ql_47, ql_48, ql_49, ql_50, ql_57, ql_63, ql_64, ql_65, ql_66, ql_67, ql_68, ql_69, ql_70, ql_71, ql_72, ql_73, ql_74, ql_75, ql_76, ql_77, ql_78, ql_79, ql_80, ql_81, ql_82, ql_83, ql_84, ql_85, ql_86, ql_87, ql_93, ql_96, ql_97, ql_100, ql_101, ql_120, ql_255, ql_256, ql_257, ql_511, ql_672, ql_900, ql_1000, ql_65536, hvx]
theorem x_flowL {P : pp_} {lv i : Nat} {s : fw_} {own two : Int32} (hP : wf_ P) (hl : lv < 2) (hi : i < P.1) (hR : s.1 i = true) (ho : own = cx_ P s i i) (h2 : h3_ (P.2 i 0) = true → two = s.2 i (P.2 i 2) ||| s.2 i (P.2 i 3)) : ∀ (d v : Nat) (σ : mm_M) (x9 x10 x11 : Option Value), v + d = 5 → rq_ lv σ P → mv2_ σ s (fp2_ P i s) v →
    ∃ σ', mm_run mX9_flow mm_H 132 [some (.ref 120), some (.int (nI lv)), some (.int (nI i)), some (.int (nI (P.2 i 0))), some (.int (nI (tg_ P i))), some (.int (nI (P.2 i 1))), some (.int own), some (.int two), some (.int (nI v)), x9, x10, x11] [] σ = some (none, mm_H, σ') ∧ fr_ 123 124 σ σ' ∧ mv2_ σ' s (fp2_ P i s) 5
  | 0, v, σ, x9, x10, x11, h, hr, hm => by
    have hv : v = 5 := by omega
    subst hv
    refine ⟨σ, ?_, fr_refl _ _ _, hm⟩
    rw [rX9_flow_132]
    simp (disch := omega) only [vX9_flow, rX9_flow_134, rX9_flow_135, rX9_flow_138, rX9_flow_139, rX9_flow_142, rX9_flow_143, rX9_flow_144, rX9_flow_145, rX9_flow_147, rX9_flow_148, rX9_flow_149, rX9_flow_275, mm_gd_t, mm_kc_v, mm_kc_n, mm_rfs, kl_n, kl_i, kl_r, kl_l, so_0, so_1, so_2, so_3, so_4, beq_self_eq_true, Bool.true_and, Bool.and_true, Bool.or_true, Bool.true_or, Bool.false_or, Bool.or_false, if_true, if_false, ↓reduceIte, decide_true, decide_false, Bool.not_false, Bool.not_true, not_true_eq_false, not_false_eq_true, eq_self, Nat.not_lt_zero, Bool.true_eq_false, Bool.false_eq_true, Nat.reduceAdd, Nat.reduceMul, Nat.reduceSub, Nat.reduceEqDiff, Nat.reduceLeDiff, Nat.reduceLT, Nat.reduceDiv, Nat.reduceMod, zb_0, zb_1, zb_b, on_nI, ml_l, rl_sl1, rl_sl2, rl_eq, rl_nj, rl_nk, qL_0, qL_1, qL_11, qL_10000, nI_lL, lN_add, lN_mul, Nat.zero_add, Nat.add_zero, mm_zr0n, mm_zr1n, mm_zrb, b2_0, b2_1, pk_mul, tn_nI, in_nI, mi_lt, rd_eq, rd_nj, rd_nk, rs_eq, rs_nk, rl_si, rl_sA, nI_add, nI_eqI, nI_leI2, nI_ltI2, ql_0, ql_1, ql_2, ql_3, ql_4, ql_5, ql_6, ql_7, ql_8, ql_9, ql_10, ql_11, ql_12, ql_13, ql_14, ql_15, ql_16, ql_17, ql_18, ql_19, ql_20, ql_24, ql_25, ql_26, ql_27, ql_31, ql_32, ql_33, ql_36, ql_45, ql_46, ql_47, ql_48, ql_49, ql_50, ql_57, ql_63, ql_64, ql_65, ql_66, ql_67, ql_68, ql_69, ql_70, ql_71, ql_72, ql_73, ql_74, ql_75, ql_76, ql_77, ql_78, ql_79, ql_80, ql_81, ql_82, ql_83, ql_84, ql_85, ql_86, ql_87, ql_93, ql_96, ql_97, ql_100, ql_101, ql_120, ql_255, ql_256, ql_257, ql_511, ql_672, ql_900, ql_1000, ql_65536]
  | d + 1, v, σ, x9, x10, x11, h, hr, hm => by
    have h9 := hP.1
    have ht := tg_gt hP hi
    obtain ⟨w0, w1, w2, w3, w4⟩ := hP.2 i hi
    have hv : v < 5 := by omega
    have g : ¬ 4 < v := by omega
    have hlo := fp2_lo hP hi (s := s) (j := i) (Nat.le_refl _)
    have hrow : ∀ u, u < 5 → σ.1 123 (5 * i + u) = s.2 i u := fun u hu => by
      rw [hm i (by omega) u hu]
      split
      · rw [hlo.2]
      · rfl
    have hwas := hrow v hv
    have eT := fun x4 x10 x11 => x_flowT (σ := σ) (i := i) (v := v) (s := s) (lvv := nI lv) (own := own) (two := two) (x4 := x4) (x10 := x10) (x11 := x11) hP hi hv h2
    have eJ := x_join' (t := i + 1) (v := v) (w := ln_ P s i own v) h9 (by omega) hv hr.1
    have F1 := jo_fr P.1 (i + 1) v (ln_ P s i own v) σ
    have r1 := fm_123 hr h9 F1
    have rd1 : ∀ j u, u < 5 → (jo_ P.1 (i + 1) v (ln_ P s i own v) σ).1 123 (5 * j + u) = if i + 1 < P.1 ∧ j = i + 1 ∧ u = v then σ.1 123 (5 * j + u) ||| ln_ P s i own v else σ.1 123 (5 * j + u) := fun j u hu => jo_rd hv hu
    have hs1 : ∀ j u, (cm_ P.1 (i + 1) (ln_ P s i own) s).2 j u = if i + 1 < P.1 ∧ j = i + 1 then s.2 j u ||| ln_ P s i own u else s.2 j u := fun j u => cm_2
    cases hH : hw_ (P.2 i 0)
    · -- no way
      have hfp : fp2_ P i s = cm_ P.1 (i + 1) (ln_ P s i own) s := by unfold fp2_; rw [hR, if_pos rfl, hH, if_neg (by decide), ho]
      obtain ⟨σ', e, f', m'⟩ := x_flowL hP hl hi hR ho h2 d (v + 1) _ (some (.int (s.2 i v))) (some (.int (ln_ P s i own v))) x11 (by omega) r1 (fun j hj u hu => by
        rw [rd1 j u hu, hm j hj u hu, hfp, hs1]
        by_cases huv : u = v
        · subst huv
          rw [if_neg (Nat.lt_irrefl _), if_pos (show u < u + 1 by omega)]
          by_cases hc : i + 1 < P.1 ∧ j = i + 1
          · rw [if_pos ⟨hc.1, hc.2, rfl⟩, if_pos hc]
          · rw [if_neg (fun hh => hc ⟨hh.1, hh.2.1⟩), if_neg hc]
        · rw [if_neg (fun hh => huv hh.2.2)]
          by_cases hlt : u < v
          · rw [if_pos hlt, if_pos (show u < v + 1 by omega)]
          · rw [if_neg hlt, if_neg (show ¬ u < v + 1 by omega)])
      refine ⟨σ', ?_, fr_tr F1 f', m'⟩
      rw [rX9_flow_132]
      simp (disch := omega) only [vX9_flow, rX9_flow_134, rX9_flow_135, rX9_flow_138, rX9_flow_139, rX9_flow_142, rX9_flow_143, rX9_flow_144, rX9_flow_145, rX9_flow_147, rX9_flow_148, rX9_flow_149, rX9_flow_197, rX9_flow_198, rX9_flow_199, rX9_flow_200, rX9_flow_201, rX9_flow_203, rX9_flow_205, rX9_flow_208, rX9_flow_209, rX9_flow_212, rX9_flow_215, rX9_flow_217, rX9_flow_218, rX9_flow_221, rX9_flow_222, rX9_flow_223, rX9_flow_226, rX9_flow_227, rX9_flow_230, rX9_flow_231, rX9_flow_233, rX9_flow_234, rX9_flow_236, rX9_flow_238, rX9_flow_240, rX9_flow_243, rX9_flow_244, rX9_flow_247, rX9_flow_248, rX9_flow_249, rX9_flow_250, rX9_flow_251, rX9_flow_252, rX9_flow_253, rX9_flow_256, rX9_flow_257, rX9_flow_258, rX9_flow_260, rX9_flow_261, rX9_flow_264, rX9_flow_266, rX9_flow_269, rX9_flow_272, rX9_flow_275, mm_gd_t, mm_kc_v, mm_kc_n, mm_rfs, kl_n, kl_i, kl_r, kl_l, so_0, so_1, so_2, so_3, so_4, beq_self_eq_true, Bool.true_and, Bool.and_true, Bool.or_true, Bool.true_or, Bool.false_or, Bool.or_false, if_true, if_false, ↓reduceIte, decide_true, decide_false, Bool.not_false, Bool.not_true, not_true_eq_false, not_false_eq_true, eq_self, Nat.not_lt_zero, Bool.true_eq_false, Bool.false_eq_true, Nat.reduceAdd, Nat.reduceMul, Nat.reduceSub, Nat.reduceEqDiff, Nat.reduceLeDiff, Nat.reduceLT, Nat.reduceDiv, Nat.reduceMod, zb_0, zb_1, zb_b, on_nI, ml_l, rl_sl1, rl_sl2, rl_eq, rl_nj, rl_nk, qL_0, qL_1, qL_11, qL_10000, nI_lL, lN_add, lN_mul, Nat.zero_add, Nat.add_zero, mm_zr0n, mm_zr1n, mm_zrb, b2_0, b2_1, pk_mul, tn_nI, in_nI, mi_lt, rd_eq, rd_nj, rd_nk, rs_eq, rs_nk, rl_si, rl_sA, nI_add, nI_eqI, nI_leI2, nI_ltI2, ql_0, ql_1, ql_2, ql_3, ql_4, ql_5, ql_6, ql_7, ql_8, ql_9, ql_10, ql_11, ql_12, ql_13, ql_14, ql_15, ql_16, ql_17, ql_18, ql_19, ql_20, ql_24, ql_25, ql_26, ql_27, ql_31, ql_32, ql_33, ql_36, ql_45, ql_46, ql_47, ql_48, ql_49, ql_50, ql_57, ql_63, ql_64, ql_65, ql_66, ql_67, ql_68, ql_69, ql_70, ql_71, ql_72, ql_73, ql_74, ql_75, ql_76, ql_77, ql_78, ql_79, ql_80, ql_81, ql_82, ql_83, ql_84, ql_85, ql_86, ql_87, ql_93, ql_96, ql_97, ql_100, ql_101, ql_120, ql_255, ql_256, ql_257, ql_511, ql_672, ql_900, ql_1000, ql_65536, rho_120_1, rho_120_3, rho_120_5, rho_120_6, rho_120_10, rho_120_11, rho_120_12, rho_120_15, rho_120_17, rho_120_18, rho_120_19, rho_120_20, rho_120_22, rho_120_23, kd_120, kd_123, ir_123, iw_123, al_123, g, hwas, eT, eJ, x_hasWay, hH, e]
    · -- a way
      have hw' := hH
      unfold hw_ at hw'
      simp only [Bool.and_eq_true, decide_eq_true_eq] at hw'
      have hfp : fp2_ P i s = cm_ P.1 (tg_ P i) (lt_ P s i own) (cm_ P.1 (i + 1) (ln_ P s i own) s) := by unfold fp2_; rw [hR, if_pos rfl, hH, if_pos rfl, ho]
      have eJ2 := x_join' (σ := jo_ P.1 (i + 1) v (ln_ P s i own v) σ) (t := tg_ P i) (v := v) (w := lt_ P s i own v) h9 (by omega) hv r1.1
      have F2 := jo_fr P.1 (tg_ P i) v (lt_ P s i own v) (jo_ P.1 (i + 1) v (ln_ P s i own v) σ)
      have r2 := fm_123 r1 h9 F2
      have rd2 : ∀ j u, u < 5 → (jo_ P.1 (tg_ P i) v (lt_ P s i own v) (jo_ P.1 (i + 1) v (ln_ P s i own v) σ)).1 123 (5 * j + u) = if tg_ P i < P.1 ∧ j = tg_ P i ∧ u = v then (jo_ P.1 (i + 1) v (ln_ P s i own v) σ).1 123 (5 * j + u) ||| lt_ P s i own v else (jo_ P.1 (i + 1) v (ln_ P s i own v) σ).1 123 (5 * j + u) := fun j u hu => jo_rd hv hu
      obtain ⟨σ', e, f', m'⟩ := x_flowL hP hl hi hR ho h2 d (v + 1) _ (some (.int (s.2 i v))) (some (.int (ln_ P s i own v))) (some (.int (nI (b2 (decide (v = 4) && !decide (P.2 i 0 = 3)))))) (by omega) r2 (fun j hj u hu => by
        rw [rd2 j u hu, rd1 j u hu, hm j hj u hu, hfp, cm_2, hs1]
        by_cases huv : u = v
        · subst huv
          rw [if_neg (Nat.lt_irrefl _), if_pos (show u < u + 1 by omega)]
          by_cases hc2 : tg_ P i < P.1 ∧ j = tg_ P i
          · rw [if_pos ⟨hc2.1, hc2.2, rfl⟩, if_pos hc2]
            by_cases hc : i + 1 < P.1 ∧ j = i + 1
            · rw [if_pos ⟨hc.1, hc.2, rfl⟩, if_pos hc]
            · rw [if_neg (fun hh => hc ⟨hh.1, hh.2.1⟩), if_neg hc]
          · rw [if_neg (fun hh => hc2 ⟨hh.1, hh.2.1⟩), if_neg hc2]
            by_cases hc : i + 1 < P.1 ∧ j = i + 1
            · rw [if_pos ⟨hc.1, hc.2, rfl⟩, if_pos hc]
            · rw [if_neg (fun hh => hc ⟨hh.1, hh.2.1⟩), if_neg hc]
        · rw [if_neg (fun hh => huv hh.2.2), if_neg (fun hh => huv hh.2.2)]
          by_cases hlt : u < v
          · rw [if_pos hlt, if_pos (show u < v + 1 by omega)]
          · rw [if_neg hlt, if_neg (show ¬ u < v + 1 by omega)])
      refine ⟨σ', ?_, fr_tr F1 (fr_tr F2 f'), m'⟩
      have eL := x_looksAt hP hl r1 hi hH
      have hx5 : (if P.2 i 0 = 2 then P.2 i 3 else P.2 i 1) < 5 := by
        split
        · rename_i h2; have := w3 (Or.inr h2); omega
        · omega
      have hlk : lk_ P s.2 i = s.2 i (if P.2 i 0 = 2 then P.2 i 3 else P.2 i 1) := by
        unfold lk_
        by_cases h2 : P.2 i 0 = 2
        · rw [if_pos h2, if_pos h2]
        · rw [if_neg h2, if_pos (by omega), if_neg h2]
      have hlab : (jo_ P.1 (i + 1) v (ln_ P s i own v) σ).1 123 (5 * i + (if P.2 i 0 = 2 then P.2 i 3 else P.2 i 1)) = lk_ P s.2 i := by
        rw [rd1 i _ hx5, if_neg (by omega), hrow _ hx5, hlk]
      generalize (if P.2 i 0 = 2 then P.2 i 3 else P.2 i 1) = X at eL hx5 hlab
      generalize jo_ P.1 (i + 1) v (ln_ P s i own v) σ = σ1 at *
      unfold lt_ at eJ2 e
      rw [rX9_flow_132]
      by_cases hv4 : v = 4
      · subst hv4
        by_cases hK3 : P.2 i 0 = 3
        · rw [if_neg (by omega)] at eJ2 e
          rw [decide_eq_true hK3] at e
          simp only [Bool.not_true, Bool.and_false, b2_f] at e
          rw [hK3] at eT e ⊢
          simp (disch := omega) only [vX9_flow, rX9_flow_134, rX9_flow_135, rX9_flow_138, rX9_flow_139, rX9_flow_142, rX9_flow_143, rX9_flow_144, rX9_flow_145, rX9_flow_147, rX9_flow_148, rX9_flow_149, rX9_flow_197, rX9_flow_198, rX9_flow_199, rX9_flow_200, rX9_flow_201, rX9_flow_203, rX9_flow_205, rX9_flow_208, rX9_flow_209, rX9_flow_212, rX9_flow_215, rX9_flow_217, rX9_flow_218, rX9_flow_221, rX9_flow_222, rX9_flow_223, rX9_flow_226, rX9_flow_227, rX9_flow_230, rX9_flow_231, rX9_flow_233, rX9_flow_234, rX9_flow_236, rX9_flow_238, rX9_flow_240, rX9_flow_243, rX9_flow_244, rX9_flow_247, rX9_flow_248, rX9_flow_249, rX9_flow_250, rX9_flow_251, rX9_flow_252, rX9_flow_253, rX9_flow_256, rX9_flow_257, rX9_flow_258, rX9_flow_260, rX9_flow_261, rX9_flow_264, rX9_flow_266, rX9_flow_269, rX9_flow_272, rX9_flow_275, mm_gd_t, mm_kc_v, mm_kc_n, mm_rfs, kl_n, kl_i, kl_r, kl_l, so_0, so_1, so_2, so_3, so_4, beq_self_eq_true, Bool.true_and, Bool.and_true, Bool.or_true, Bool.true_or, Bool.false_or, Bool.or_false, if_true, if_false, ↓reduceIte, decide_true, decide_false, Bool.not_false, Bool.not_true, not_true_eq_false, not_false_eq_true, eq_self, Nat.not_lt_zero, Bool.true_eq_false, Bool.false_eq_true, Nat.reduceAdd, Nat.reduceMul, Nat.reduceSub, Nat.reduceEqDiff, Nat.reduceLeDiff, Nat.reduceLT, Nat.reduceDiv, Nat.reduceMod, zb_0, zb_1, zb_b, on_nI, ml_l, rl_sl1, rl_sl2, rl_eq, rl_nj, rl_nk, qL_0, qL_1, qL_11, qL_10000, nI_lL, lN_add, lN_mul, Nat.zero_add, Nat.add_zero, mm_zr0n, mm_zr1n, mm_zrb, b2_0, b2_1, pk_mul, tn_nI, in_nI, mi_lt, rd_eq, rd_nj, rd_nk, rs_eq, rs_nk, rl_si, rl_sA, nI_add, nI_eqI, nI_leI2, nI_ltI2, ql_0, ql_1, ql_2, ql_3, ql_4, ql_5, ql_6, ql_7, ql_8, ql_9, ql_10, ql_11, ql_12, ql_13, ql_14, ql_15, ql_16, ql_17, ql_18, ql_19, ql_20, ql_24, ql_25, ql_26, ql_27, ql_31, ql_32, ql_33, ql_36, ql_45, ql_46, ql_47, ql_48, ql_49, ql_50, ql_57, ql_63, ql_64, ql_65, ql_66, ql_67, ql_68, ql_69, ql_70, ql_71, ql_72, ql_73, ql_74, ql_75, ql_76, ql_77, ql_78, ql_79, ql_80, ql_81, ql_82, ql_83, ql_84, ql_85, ql_86, ql_87, ql_93, ql_96, ql_97, ql_100, ql_101, ql_120, ql_255, ql_256, ql_257, ql_511, ql_672, ql_900, ql_1000, ql_65536, rho_120_1, rho_120_3, rho_120_5, rho_120_6, rho_120_10, rho_120_11, rho_120_12, rho_120_15, rho_120_17, rho_120_18, rho_120_19, rho_120_20, rho_120_22, rho_120_23, kd_120, kd_123, ir_123, iw_123, al_123, hwas, eT, eJ, x_hasWay, show hw_ 3 = true from rfl, eJ2, e]
        · rw [if_pos ⟨rfl, hK3⟩] at eJ2 e
          rw [decide_eq_false hK3] at e
          simp only [decide_true, Bool.not_false, Bool.and_true, b2_t] at e
          simp (disch := omega) only [vX9_flow, rX9_flow_134, rX9_flow_135, rX9_flow_138, rX9_flow_139, rX9_flow_142, rX9_flow_143, rX9_flow_144, rX9_flow_145, rX9_flow_147, rX9_flow_148, rX9_flow_149, rX9_flow_197, rX9_flow_198, rX9_flow_199, rX9_flow_200, rX9_flow_201, rX9_flow_203, rX9_flow_205, rX9_flow_208, rX9_flow_209, rX9_flow_212, rX9_flow_215, rX9_flow_217, rX9_flow_218, rX9_flow_221, rX9_flow_222, rX9_flow_223, rX9_flow_226, rX9_flow_227, rX9_flow_230, rX9_flow_231, rX9_flow_233, rX9_flow_234, rX9_flow_236, rX9_flow_238, rX9_flow_240, rX9_flow_243, rX9_flow_244, rX9_flow_247, rX9_flow_248, rX9_flow_249, rX9_flow_250, rX9_flow_251, rX9_flow_252, rX9_flow_253, rX9_flow_256, rX9_flow_257, rX9_flow_258, rX9_flow_260, rX9_flow_261, rX9_flow_264, rX9_flow_266, rX9_flow_269, rX9_flow_272, rX9_flow_275, mm_gd_t, mm_kc_v, mm_kc_n, mm_rfs, kl_n, kl_i, kl_r, kl_l, so_0, so_1, so_2, so_3, so_4, beq_self_eq_true, Bool.true_and, Bool.and_true, Bool.or_true, Bool.true_or, Bool.false_or, Bool.or_false, if_true, if_false, ↓reduceIte, decide_true, decide_false, Bool.not_false, Bool.not_true, not_true_eq_false, not_false_eq_true, eq_self, Nat.not_lt_zero, Bool.true_eq_false, Bool.false_eq_true, Nat.reduceAdd, Nat.reduceMul, Nat.reduceSub, Nat.reduceEqDiff, Nat.reduceLeDiff, Nat.reduceLT, Nat.reduceDiv, Nat.reduceMod, zb_0, zb_1, zb_b, on_nI, ml_l, rl_sl1, rl_sl2, rl_eq, rl_nj, rl_nk, qL_0, qL_1, qL_11, qL_10000, nI_lL, lN_add, lN_mul, Nat.zero_add, Nat.add_zero, mm_zr0n, mm_zr1n, mm_zrb, b2_0, b2_1, pk_mul, tn_nI, in_nI, mi_lt, rd_eq, rd_nj, rd_nk, rs_eq, rs_nk, rl_si, rl_sA, nI_add, nI_eqI, nI_leI2, nI_ltI2, ql_0, ql_1, ql_2, ql_3, ql_4, ql_5, ql_6, ql_7, ql_8, ql_9, ql_10, ql_11, ql_12, ql_13, ql_14, ql_15, ql_16, ql_17, ql_18, ql_19, ql_20, ql_24, ql_25, ql_26, ql_27, ql_31, ql_32, ql_33, ql_36, ql_45, ql_46, ql_47, ql_48, ql_49, ql_50, ql_57, ql_63, ql_64, ql_65, ql_66, ql_67, ql_68, ql_69, ql_70, ql_71, ql_72, ql_73, ql_74, ql_75, ql_76, ql_77, ql_78, ql_79, ql_80, ql_81, ql_82, ql_83, ql_84, ql_85, ql_86, ql_87, ql_93, ql_96, ql_97, ql_100, ql_101, ql_120, ql_255, ql_256, ql_257, ql_511, ql_672, ql_900, ql_1000, ql_65536, rho_120_1, rho_120_3, rho_120_5, rho_120_6, rho_120_10, rho_120_11, rho_120_12, rho_120_15, rho_120_17, rho_120_18, rho_120_19, rho_120_20, rho_120_22, rho_120_23, kd_120, kd_123, ir_123, iw_123, al_123, hwas, eT, eJ, x_hasWay, hH, hK3, eL, so_5a, hlab, eJ2, e]
      · rw [if_neg (by omega)] at eJ2 e
        rw [decide_eq_false hv4] at e
        simp only [Bool.false_and, b2_f] at e
        simp (disch := omega) only [vX9_flow, rX9_flow_134, rX9_flow_135, rX9_flow_138, rX9_flow_139, rX9_flow_142, rX9_flow_143, rX9_flow_144, rX9_flow_145, rX9_flow_147, rX9_flow_148, rX9_flow_149, rX9_flow_197, rX9_flow_198, rX9_flow_199, rX9_flow_200, rX9_flow_201, rX9_flow_203, rX9_flow_205, rX9_flow_208, rX9_flow_209, rX9_flow_212, rX9_flow_215, rX9_flow_217, rX9_flow_218, rX9_flow_221, rX9_flow_222, rX9_flow_223, rX9_flow_226, rX9_flow_227, rX9_flow_230, rX9_flow_231, rX9_flow_233, rX9_flow_234, rX9_flow_236, rX9_flow_238, rX9_flow_240, rX9_flow_243, rX9_flow_244, rX9_flow_247, rX9_flow_248, rX9_flow_249, rX9_flow_250, rX9_flow_251, rX9_flow_252, rX9_flow_253, rX9_flow_256, rX9_flow_257, rX9_flow_258, rX9_flow_260, rX9_flow_261, rX9_flow_264, rX9_flow_266, rX9_flow_269, rX9_flow_272, rX9_flow_275, mm_gd_t, mm_kc_v, mm_kc_n, mm_rfs, kl_n, kl_i, kl_r, kl_l, so_0, so_1, so_2, so_3, so_4, beq_self_eq_true, Bool.true_and, Bool.and_true, Bool.or_true, Bool.true_or, Bool.false_or, Bool.or_false, if_true, if_false, ↓reduceIte, decide_true, decide_false, Bool.not_false, Bool.not_true, not_true_eq_false, not_false_eq_true, eq_self, Nat.not_lt_zero, Bool.true_eq_false, Bool.false_eq_true, Nat.reduceAdd, Nat.reduceMul, Nat.reduceSub, Nat.reduceEqDiff, Nat.reduceLeDiff, Nat.reduceLT, Nat.reduceDiv, Nat.reduceMod, zb_0, zb_1, zb_b, on_nI, ml_l, rl_sl1, rl_sl2, rl_eq, rl_nj, rl_nk, qL_0, qL_1, qL_11, qL_10000, nI_lL, lN_add, lN_mul, Nat.zero_add, Nat.add_zero, mm_zr0n, mm_zr1n, mm_zrb, b2_0, b2_1, pk_mul, tn_nI, in_nI, mi_lt, rd_eq, rd_nj, rd_nk, rs_eq, rs_nk, rl_si, rl_sA, nI_add, nI_eqI, nI_leI2, nI_ltI2, ql_0, ql_1, ql_2, ql_3, ql_4, ql_5, ql_6, ql_7, ql_8, ql_9, ql_10, ql_11, ql_12, ql_13, ql_14, ql_15, ql_16, ql_17, ql_18, ql_19, ql_20, ql_24, ql_25, ql_26, ql_27, ql_31, ql_32, ql_33, ql_36, ql_45, ql_46, ql_47, ql_48, ql_49, ql_50, ql_57, ql_63, ql_64, ql_65, ql_66, ql_67, ql_68, ql_69, ql_70, ql_71, ql_72, ql_73, ql_74, ql_75, ql_76, ql_77, ql_78, ql_79, ql_80, ql_81, ql_82, ql_83, ql_84, ql_85, ql_86, ql_87, ql_93, ql_96, ql_97, ql_100, ql_101, ql_120, ql_255, ql_256, ql_257, ql_511, ql_672, ql_900, ql_1000, ql_65536, rho_120_1, rho_120_3, rho_120_5, rho_120_6, rho_120_10, rho_120_11, rho_120_12, rho_120_15, rho_120_17, rho_120_18, rho_120_19, rho_120_20, rho_120_22, rho_120_23, kd_120, kd_123, ir_123, iw_123, al_123, g, hwas, eT, eJ, x_hasWay, hH, hv4, eJ2, e]
/-- flow: the whole of it -/
theorem fp2_R {P : pp_} (hP : wf_ P) {i : Nat} (hi : i < P.1) {s : fw_} (hR : s.1 i = true) (hhi : ∀ j, P.1 ≤ j → s.1 j = false) (j : Nat) : (fp2_ P i s).1 j = ((s.1 j || (decide (j = i + 1) || decide (j = tg_ P i))) && decide (j < P.1)) := by
  have ht := tg_gt hP hi
  have hcm : ∀ (t : Nat) (lv : Nat → Int32) (s : fw_), (cm_ P.1 t lv s).1 j = (s.1 j || (decide (j = t) && decide (t < P.1))) := fun t lv s => by
    unfold cm_
    by_cases h : t < P.1
    · rw [if_pos h, decide_eq_true h, Bool.and_true]
    · rw [if_neg h, decide_eq_false h, Bool.and_false, Bool.or_false]
  unfold fp2_
  rw [hR, if_pos rfl]
  by_cases hj : j < P.1
  · rw [decide_eq_true hj, Bool.and_true]
    cases hH : hw_ (P.2 i 0)
    · have htg : tg_ P i = i + 1 := by unfold tg_; rw [hH, if_neg (by decide)]
      rw [if_neg (by decide), hcm, htg, Bool.or_self]
      by_cases hji : j = i + 1
      · rw [decide_eq_true hji, decide_eq_true (show i + 1 < P.1 by omega)]; rfl
      · rw [decide_eq_false hji, Bool.false_and]
    · rw [if_pos rfl, hcm, hcm]
      have e1 : (decide (j = i + 1) && decide (i + 1 < P.1)) = decide (j = i + 1) := by
        by_cases hji : j = i + 1
        · rw [decide_eq_true hji, decide_eq_true (show i + 1 < P.1 by omega)]; rfl
        · rw [decide_eq_false hji, Bool.false_and]
      have e2 : (decide (j = tg_ P i) && decide (tg_ P i < P.1)) = decide (j = tg_ P i) := by
        by_cases hji : j = tg_ P i
        · rw [decide_eq_true hji, decide_eq_true (show tg_ P i < P.1 by omega)]; rfl
        · rw [decide_eq_false hji, Bool.false_and]
      rw [e1, e2, Bool.or_assoc]
  · rw [decide_eq_false hj, Bool.and_false]
    have h0 := hhi j (by omega)
    split
    · rw [hcm, hcm, h0]
      rw [show (decide (j = i + 1) && decide (i + 1 < P.1)) = false by simp; omega, show (decide (j = tg_ P i) && decide (tg_ P i < P.1)) = false by simp; omega]; rfl
    · rw [hcm, h0, show (decide (j = i + 1) && decide (i + 1 < P.1)) = false by simp; omega]; rfl
theorem m_sub1 {n : Nat} (hn : n < 30) : nI (2 ^ n) - nI 1 = nI (2 ^ n - 1) := pk_sub (Nat.one_le_two_pow)
theorem x_flow {σ : mm_M} {P : pp_} {lv i : Nat} {s : fw_} (hP : wf_ P) (hl : lv < 2) (hi : i < P.1) (hR : s.1 i = true) (hhi : ∀ j, P.1 ≤ j → s.1 j = false) (hr : rq_ lv σ P) (hm : mx_ σ s) (hc : σ.1 124 i = cx_ P s i i) :
    ∃ σ', mm_ev mX9_flow [.ref 120, .int (nI lv), .int (nI i)] mm_H σ = some (none, mm_H, σ') ∧ (∀ k j, (k ≠ 123 ∧ (k ≠ 120 ∨ j ≠ 7)) → σ'.1 k j = σ.1 k j) ∧ σ'.2 = σ.2 ∧ mx_ σ' (fp2_ P i s) := by
  have h9 := hP.1
  have ht := tg_gt hP hi
  obtain ⟨w0, w1, w2, w3, w4⟩ := hP.2 i hi
  have a0 := rm_0 hP hr.2 hi
  have a1 := rm_1 hP hr.2 hi
  have a2 := rm_2 hr.2 hi
  have a3 := rm_3 hr.2 hi
  have eW := x_wayOf hP hl hr.2 hr.1 hi
  have b9 := bm_9 s.1
  have hb10 : bm_ s.1 9 = bm_ s.1 10 := by
    apply Nat.eq_of_testBit_eq
    intro m
    rw [bm_bit, bm_bit]
    by_cases h : m < 9
    · rw [decide_eq_true h, decide_eq_true (show m < 10 by omega)]
    · rw [decide_eq_false h, Bool.false_and]
      by_cases h2 : m = 9
      · rw [h2, hhi 9 (by omega), Bool.and_false]
      · rw [decide_eq_false (by omega), Bool.false_and]
  have hmask : (bm_ s.1 9 ||| (2 ^ (i + 1) ||| 2 ^ tg_ P i)) &&& (2 ^ P.1 - 1) = bm_ (fp2_ P i s).1 9 := by
    rw [hb10, ← Nat.or_assoc, bm_orone (show i + 1 < 10 by omega), bm_orone (show tg_ P i < 10 by omega)]
    apply Nat.eq_of_testBit_eq
    intro m
    rw [Nat.testBit_and, Nat.testBit_two_pow_sub_one, bm_bit, bm_bit, fp2_R hP hi hR hhi m]
    by_cases hmn : m < P.1
    · rw [decide_eq_true hmn, decide_eq_true (show m < 10 by omega), decide_eq_true (show m < 9 by omega)]
      simp [Bool.or_assoc]
    · rw [decide_eq_false hmn]; simp
  have hor : nI (bm_ s.1 9) ||| (nI (2 ^ (i + 1)) ||| nI (2 ^ tg_ P i)) = nI (bm_ s.1 9 ||| (2 ^ (i + 1) ||| 2 ^ tg_ P i)) := by rw [fa_or, fa_or]
  have hand : nI (bm_ s.1 9 ||| (2 ^ (i + 1) ||| 2 ^ tg_ P i)) &&& nI (2 ^ P.1 - 1) = nI (bm_ (fp2_ P i s).1 9) := by rw [fa_and, hmask]
  let σ1 := mm_si (mm_si σ 120 7 (nI (bm_ s.1 9 ||| (2 ^ (i + 1) ||| 2 ^ tg_ P i)))) 120 7 (nI (bm_ (fp2_ P i s).1 9))
  have hq1 : ∀ k j, (k ≠ 120 ∨ j ≠ 7) → σ1.1 k j = σ.1 k j := fun k j hk => by
    by_cases h120 : k = 120
    · subst h120; simp (disch := omega) only [σ1, rd_nj]
    · simp (disch := omega) only [σ1, rd_nk]
  have r1 : rq_ lv σ1 P := ⟨by rw [hq1 120 0 (by omega)]; exact hr.1, rm_cg hr.2 h9 (fun j _ _ => hq1 121 j (by omega))⟩
  have hlab : ∀ u, u < 5 → σ.1 123 (5 * i + u) = s.2 i u := fun u hu => hm.2 i (by omega) u hu
  have hthree : ∃ two : Int32, (h3_ (P.2 i 0) = true → two = s.2 i (P.2 i 2) ||| s.2 i (P.2 i 3)) ∧ mm_ev mX9_flow [.ref 120, .int (nI lv), .int (nI i)] mm_H σ = mm_run mX9_flow mm_H 132 [some (.ref 120), some (.int (nI lv)), some (.int (nI i)), some (.int (nI (P.2 i 0))), some (.int (nI (tg_ P i))), some (.int (nI (P.2 i 1))), some (.int (cx_ P s i i)), some (.int two), some (.int (nI 0)), none, none, none] [] σ1 := by
    have hk2 := hp_2 (P.2 i 0) (by omega)
    have hk3 := hp_3 (P.2 i 0) (by omega)
    rw [hk2] at a2
    rw [hk3] at a3
    cases h3 : h3_ (P.2 i 0)
    · refine ⟨s.2 i 0 ||| s.2 i 0, fun h => (by cases h), ?_⟩
      have l0 := hlab 0 (by omega)
      rw [Nat.add_zero] at l0
      simp (disch := omega) only [vX9_flow, rX9_flow_0, rX9_flow_1, rX9_flow_2, rX9_flow_3, rX9_flow_4, rX9_flow_7, rX9_flow_8, rX9_flow_9, rX9_flow_10, rX9_flow_11, rX9_flow_14, rX9_flow_16, rX9_flow_17, rX9_flow_18, rX9_flow_21, rX9_flow_22, rX9_flow_23, rX9_flow_24, rX9_flow_25, rX9_flow_26, rX9_flow_27, rX9_flow_29, rX9_flow_30, rX9_flow_31, rX9_flow_32, rX9_flow_35, rX9_flow_36, rX9_flow_37, rX9_flow_40, rX9_flow_41, rX9_flow_42, rX9_flow_45, rX9_flow_46, rX9_flow_47, rX9_flow_48, rX9_flow_49, rX9_flow_52, rX9_flow_53, rX9_flow_54, rX9_flow_56, rX9_flow_57, rX9_flow_60, rX9_flow_62, rX9_flow_63, rX9_flow_66, rX9_flow_67, rX9_flow_68, rX9_flow_70, rX9_flow_71, rX9_flow_74, rX9_flow_75, rX9_flow_76, rX9_flow_77, rX9_flow_78, rX9_flow_81, rX9_flow_84, rX9_flow_85, rX9_flow_86, rX9_flow_88, rX9_flow_89, rX9_flow_92, rX9_flow_95, rX9_flow_96, rX9_flow_97, rX9_flow_98, rX9_flow_99, rX9_flow_102, rX9_flow_103, rX9_flow_104, rX9_flow_105, rX9_flow_106, rX9_flow_109, rX9_flow_112, rX9_flow_113, rX9_flow_114, rX9_flow_116, rX9_flow_117, rX9_flow_120, rX9_flow_123, rX9_flow_124, rX9_flow_125, rX9_flow_126, rX9_flow_127, rX9_flow_129, rX9_flow_130, mm_gd_t, mm_kc_v, mm_kc_n, mm_rfs, kl_n, kl_i, kl_r, kl_l, so_0, so_1, so_2, so_3, so_4, beq_self_eq_true, Bool.true_and, Bool.and_true, Bool.or_true, Bool.true_or, Bool.false_or, Bool.or_false, if_true, if_false, ↓reduceIte, decide_true, decide_false, Bool.not_false, Bool.not_true, not_true_eq_false, not_false_eq_true, eq_self, Nat.not_lt_zero, Bool.true_eq_false, Bool.false_eq_true, Nat.reduceAdd, Nat.reduceMul, Nat.reduceSub, Nat.reduceEqDiff, Nat.reduceLeDiff, Nat.reduceLT, Nat.reduceDiv, Nat.reduceMod, zb_0, zb_1, zb_b, on_nI, ml_l, rl_sl1, rl_sl2, rl_eq, rl_nj, rl_nk, qL_0, qL_1, qL_11, qL_10000, nI_lL, lN_add, lN_mul, Nat.zero_add, Nat.add_zero, mm_zr0n, mm_zr1n, mm_zrb, b2_0, b2_1, pk_mul, tn_nI, in_nI, mi_lt, rd_eq, rd_nj, rd_nk, rs_eq, rs_nk, rl_si, rl_sA, nI_add, nI_eqI, nI_leI2, nI_ltI2, ql_0, ql_1, ql_2, ql_3, ql_4, ql_5, ql_6, ql_7, ql_8, ql_9, ql_10, ql_11, ql_12, ql_13, ql_14, ql_15, ql_16, ql_17, ql_18, ql_19, ql_20, ql_24, ql_25, ql_26, ql_27, ql_31, ql_32, ql_33, ql_36, ql_45, ql_46, ql_47, ql_48, ql_49, ql_50, ql_57, ql_63, ql_64, ql_65, ql_66, ql_67, ql_68, ql_69, ql_70, ql_71, ql_72, ql_73, ql_74, ql_75, ql_76, ql_77, ql_78, ql_79, ql_80, ql_81, ql_82, ql_83, ql_84, ql_85, ql_86, ql_87, ql_93, ql_96, ql_97, ql_100, ql_101, ql_120, ql_255, ql_256, ql_257, ql_511, ql_672, ql_900, ql_1000, ql_65536, rho_120_1, rho_120_3, rho_120_5, rho_120_6, rho_120_10, rho_120_11, rho_120_12, rho_120_15, rho_120_17, rho_120_18, rho_120_19, rho_120_20, rho_120_22, rho_120_23, kd_120, kd_123, ir_123, iw_123, al_123, kd_124, ir_124, iw_124, al_124, x_at, a0, a1, eW, hm.1, hr.1, shl_nI, hor, hand, m_sub1, x_hasThree, h3, l0, hc]
      rfl
    · have hkk : P.2 i 0 = 1 ∨ P.2 i 0 = 2 := by unfold h3_ at h3; simp only [Bool.or_eq_true, decide_eq_true_eq] at h3; exact h3
      have w3 := w3 hkk
      refine ⟨s.2 i (P.2 i 2) ||| s.2 i (P.2 i 3), fun _ => rfl, ?_⟩
      rw [h3, Bool.or_true, if_pos rfl] at a2
      rw [h3, if_pos rfl] at a3
      have ly := hlab (P.2 i 2) (by omega)
      have lz := hlab (P.2 i 3) (by omega)
      simp (disch := omega) only [vX9_flow, rX9_flow_0, rX9_flow_1, rX9_flow_2, rX9_flow_3, rX9_flow_4, rX9_flow_7, rX9_flow_8, rX9_flow_9, rX9_flow_10, rX9_flow_11, rX9_flow_14, rX9_flow_16, rX9_flow_17, rX9_flow_18, rX9_flow_21, rX9_flow_22, rX9_flow_23, rX9_flow_24, rX9_flow_25, rX9_flow_26, rX9_flow_27, rX9_flow_29, rX9_flow_30, rX9_flow_31, rX9_flow_32, rX9_flow_35, rX9_flow_36, rX9_flow_37, rX9_flow_40, rX9_flow_41, rX9_flow_42, rX9_flow_45, rX9_flow_46, rX9_flow_47, rX9_flow_48, rX9_flow_49, rX9_flow_52, rX9_flow_53, rX9_flow_54, rX9_flow_56, rX9_flow_57, rX9_flow_60, rX9_flow_62, rX9_flow_63, rX9_flow_66, rX9_flow_67, rX9_flow_68, rX9_flow_70, rX9_flow_71, rX9_flow_74, rX9_flow_75, rX9_flow_76, rX9_flow_77, rX9_flow_78, rX9_flow_81, rX9_flow_84, rX9_flow_85, rX9_flow_86, rX9_flow_88, rX9_flow_89, rX9_flow_92, rX9_flow_95, rX9_flow_96, rX9_flow_97, rX9_flow_98, rX9_flow_99, rX9_flow_102, rX9_flow_103, rX9_flow_104, rX9_flow_105, rX9_flow_106, rX9_flow_109, rX9_flow_112, rX9_flow_113, rX9_flow_114, rX9_flow_116, rX9_flow_117, rX9_flow_120, rX9_flow_123, rX9_flow_124, rX9_flow_125, rX9_flow_126, rX9_flow_127, rX9_flow_129, rX9_flow_130, mm_gd_t, mm_kc_v, mm_kc_n, mm_rfs, kl_n, kl_i, kl_r, kl_l, so_0, so_1, so_2, so_3, so_4, beq_self_eq_true, Bool.true_and, Bool.and_true, Bool.or_true, Bool.true_or, Bool.false_or, Bool.or_false, if_true, if_false, ↓reduceIte, decide_true, decide_false, Bool.not_false, Bool.not_true, not_true_eq_false, not_false_eq_true, eq_self, Nat.not_lt_zero, Bool.true_eq_false, Bool.false_eq_true, Nat.reduceAdd, Nat.reduceMul, Nat.reduceSub, Nat.reduceEqDiff, Nat.reduceLeDiff, Nat.reduceLT, Nat.reduceDiv, Nat.reduceMod, zb_0, zb_1, zb_b, on_nI, ml_l, rl_sl1, rl_sl2, rl_eq, rl_nj, rl_nk, qL_0, qL_1, qL_11, qL_10000, nI_lL, lN_add, lN_mul, Nat.zero_add, Nat.add_zero, mm_zr0n, mm_zr1n, mm_zrb, b2_0, b2_1, pk_mul, tn_nI, in_nI, mi_lt, rd_eq, rd_nj, rd_nk, rs_eq, rs_nk, rl_si, rl_sA, nI_add, nI_eqI, nI_leI2, nI_ltI2, ql_0, ql_1, ql_2, ql_3, ql_4, ql_5, ql_6, ql_7, ql_8, ql_9, ql_10, ql_11, ql_12, ql_13, ql_14, ql_15, ql_16, ql_17, ql_18, ql_19, ql_20, ql_24, ql_25, ql_26, ql_27, ql_31, ql_32, ql_33, ql_36, ql_45, ql_46, ql_47, ql_48, ql_49, ql_50, ql_57, ql_63, ql_64, ql_65, ql_66, ql_67, ql_68, ql_69, ql_70, ql_71, ql_72, ql_73, ql_74, ql_75, ql_76, ql_77, ql_78, ql_79, ql_80, ql_81, ql_82, ql_83, ql_84, ql_85, ql_86, ql_87, ql_93, ql_96, ql_97, ql_100, ql_101, ql_120, ql_255, ql_256, ql_257, ql_511, ql_672, ql_900, ql_1000, ql_65536, rho_120_1, rho_120_3, rho_120_5, rho_120_6, rho_120_10, rho_120_11, rho_120_12, rho_120_15, rho_120_17, rho_120_18, rho_120_19, rho_120_20, rho_120_22, rho_120_23, kd_120, kd_123, ir_123, iw_123, al_123, kd_124, ir_124, iw_124, al_124, x_at, a0, a1, a2, a3, eW, hm.1, hr.1, shl_nI, hor, hand, m_sub1, x_hasThree, h3, ly, lz, hc]
      rfl
  obtain ⟨two, h2, e0⟩ := hthree
  obtain ⟨σ2, e2, f2, m2⟩ := x_flowL hP hl hi hR rfl h2 5 0 σ1 none none none (by omega) r1 (fun j hj u hu => by
    rw [if_neg (by omega), hq1 123 _ (by omega)]; exact hm.2 j hj u hu)
  refine ⟨σ2, e0.trans e2, fun k j hk => ?_, by rw [f2.2]; rfl, ?_, fun j hj u hu => ?_⟩
  · rw [f2.1 k (by omega), hq1 k j hk.2]
  · rw [f2.1 120 (by omega)]; simp only [σ1, rd_eq]
  · rw [m2 j hj u hu, if_pos hu]
/-- findLabels -/
def fN_ (σ σ' : mm_M) : Prop := (∀ k j, (k ≠ 123 ∧ k ≠ 124 ∧ (k ≠ 120 ∨ j ≠ 7)) → σ'.1 k j = σ.1 k j) ∧ σ'.2 = σ.2
theorem fN_refl (σ : mm_M) : fN_ σ σ := ⟨fun _ _ _ => rfl, rfl⟩
theorem fN_tr {a b c : mm_M} (h1 : fN_ a b) (h2 : fN_ b c) : fN_ a c := ⟨fun k j hk => (h2.1 k j hk).trans (h1.1 k j hk), h2.2.trans h1.2⟩
theorem rq_fN {lv : Nat} {σ σ' : mm_M} {P : pp_} (h : rq_ lv σ P) (hP : P.1 ≤ 9) (hf : fN_ σ σ') : rq_ lv σ' P := ⟨by rw [hf.1 120 0 (by omega)]; exact h.1, rm_cg h.2 hP (fun j _ _ => hf.1 121 j (by omega))⟩
def rg_ (σ : mm_M) (P : pp_) (lb : Nat → Int32) : Prop := mx_ σ (fF P lb) ∧ ∀ j, j < P.1 → σ.1 124 j = co_ P lb j
theorem x_flL1 : ∀ (d k : Nat) (σ : mm_M) {x1 : Int32}, k + d = 50 →
    ∃ σ', mm_run mX9_findLabels mm_H 2 [some (.ref 120), some (.int x1), some (.int (nI k))] [] σ = mm_run mX9_findLabels mm_H 21 [some (.ref 120), some (.int x1), some (.int (nI 50))] [] σ' ∧ fr_ 123 124 σ σ' ∧ (∀ j, k ≤ j → j < 50 → σ'.1 123 j = nI 0) ∧ (∀ j, j < k → σ'.1 123 j = σ.1 123 j)
  | 0, k, σ, x1, h => by
    have hk : k = 50 := by omega
    subst hk
    refine ⟨σ, ?_, fr_refl _ _ _, fun j h1 h2 => by omega, fun _ _ => rfl⟩
    rw [rX9_findLabels_2]
    simp (disch := omega) only [vX9_findLabels, rX9_findLabels_3, rX9_findLabels_5, rX9_findLabels_8, rX9_findLabels_9, rX9_findLabels_12, rX9_findLabels_13, rX9_findLabels_14, rX9_findLabels_15, rX9_findLabels_18, mm_gd_t, mm_kc_v, mm_kc_n, mm_rfs, kl_n, kl_i, kl_r, kl_l, so_0, so_1, so_2, so_3, so_4, beq_self_eq_true, Bool.true_and, Bool.and_true, Bool.or_true, Bool.true_or, Bool.false_or, Bool.or_false, if_true, if_false, ↓reduceIte, decide_true, decide_false, Bool.not_false, Bool.not_true, not_true_eq_false, not_false_eq_true, eq_self, Nat.not_lt_zero, Bool.true_eq_false, Bool.false_eq_true, Nat.reduceAdd, Nat.reduceMul, Nat.reduceSub, Nat.reduceEqDiff, Nat.reduceLeDiff, Nat.reduceLT, Nat.reduceDiv, Nat.reduceMod, zb_0, zb_1, zb_b, on_nI, ml_l, rl_sl1, rl_sl2, rl_eq, rl_nj, rl_nk, qL_0, qL_1, qL_11, qL_10000, nI_lL, lN_add, lN_mul, Nat.zero_add, Nat.add_zero, mm_zr0n, mm_zr1n, mm_zrb, b2_0, b2_1, pk_mul, tn_nI, in_nI, mi_lt, rd_eq, rd_nj, rd_nk, rs_eq, rs_nk, rl_si, rl_sA, nI_add, nI_eqI, nI_leI2, nI_ltI2, ql_0, ql_1, ql_2, ql_3, ql_4, ql_5, ql_6, ql_7, ql_8, ql_9, ql_10, ql_11, ql_12, ql_13, ql_14, ql_15, ql_16, ql_17, ql_18, ql_19, ql_20, ql_24, ql_25, ql_26, ql_27, ql_31, ql_32, ql_33, ql_36, ql_45, ql_46, ql_47, ql_48, ql_49, ql_50, ql_57, ql_63, ql_64, ql_65, ql_66, ql_67, ql_68, ql_69, ql_70, ql_71, ql_72, ql_73, ql_74, ql_75, ql_76, ql_77, ql_78, ql_79, ql_80, ql_81, ql_82, ql_83, ql_84, ql_85, ql_86, ql_87, ql_93, ql_96, ql_97, ql_100, ql_101, ql_120, ql_255, ql_256, ql_257, ql_511, ql_672, ql_900, ql_1000, ql_65536]
  | d + 1, k, σ, x1, h => by
    obtain ⟨σ', e, f, g1, g2⟩ := x_flL1 d (k + 1) (mm_si σ 123 k (nI 0)) (x1 := x1) (by omega)
    refine ⟨σ', ?_, fr_tr (fr_si (fr_refl _ _ _) (by omega) (by omega)) f, fun j h1 h2 => ?_, fun j hj => ?_⟩
    · rw [← e]
      have h2 : ¬ 50 ≤ k := by omega
      rw [rX9_findLabels_2]
      simp (disch := omega) only [vX9_findLabels, rX9_findLabels_3, rX9_findLabels_5, rX9_findLabels_8, rX9_findLabels_9, rX9_findLabels_12, rX9_findLabels_13, rX9_findLabels_14, rX9_findLabels_15, rX9_findLabels_18, mm_gd_t, mm_kc_v, mm_kc_n, mm_rfs, kl_n, kl_i, kl_r, kl_l, so_0, so_1, so_2, so_3, so_4, beq_self_eq_true, Bool.true_and, Bool.and_true, Bool.or_true, Bool.true_or, Bool.false_or, Bool.or_false, if_true, if_false, ↓reduceIte, decide_true, decide_false, Bool.not_false, Bool.not_true, not_true_eq_false, not_false_eq_true, eq_self, Nat.not_lt_zero, Bool.true_eq_false, Bool.false_eq_true, Nat.reduceAdd, Nat.reduceMul, Nat.reduceSub, Nat.reduceEqDiff, Nat.reduceLeDiff, Nat.reduceLT, Nat.reduceDiv, Nat.reduceMod, zb_0, zb_1, zb_b, on_nI, ml_l, rl_sl1, rl_sl2, rl_eq, rl_nj, rl_nk, qL_0, qL_1, qL_11, qL_10000, nI_lL, lN_add, lN_mul, Nat.zero_add, Nat.add_zero, mm_zr0n, mm_zr1n, mm_zrb, b2_0, b2_1, pk_mul, tn_nI, in_nI, mi_lt, rd_eq, rd_nj, rd_nk, rs_eq, rs_nk, rl_si, rl_sA, nI_add, nI_eqI, nI_leI2, nI_ltI2, ql_0, ql_1, ql_2, ql_3, ql_4, ql_5, ql_6, ql_7, ql_8, ql_9, ql_10, ql_11, ql_12, ql_13, ql_14, ql_15, ql_16, ql_17, ql_18, ql_19, ql_20, ql_24, ql_25, ql_26, ql_27, ql_31, ql_32, ql_33, ql_36, ql_45, ql_46, ql_47, ql_48, ql_49, ql_50, ql_57, ql_63, ql_64, ql_65, ql_66, ql_67, ql_68, ql_69, ql_70, ql_71, ql_72, ql_73, ql_74, ql_75, ql_76, ql_77, ql_78, ql_79, ql_80, ql_81, ql_82, ql_83, ql_84, ql_85, ql_86, ql_87, ql_93, ql_96, ql_97, ql_100, ql_101, ql_120, ql_255, ql_256, ql_257, ql_511, ql_672, ql_900, ql_1000, ql_65536, rho_120_1, rho_120_3, rho_120_5, rho_120_6, rho_120_10, rho_120_11, rho_120_12, rho_120_15, rho_120_17, rho_120_18, rho_120_19, rho_120_20, rho_120_22, rho_120_23, kd_120, kd_123, ir_123, iw_123, al_123, h2]
    · by_cases hj : j = k
      · subst hj; rw [g2 j (by omega), rd_eq]
      · exact g1 j (by omega) h2
    · rw [g2 j (by omega), rd_nj (by omega)]
theorem x_flL3 {P : pp_} {lv : Nat} {lb : Nat → Int32} (hP : wf_ P) (hl : lv < 2) : ∀ (d l : Nat) (σ : mm_M), l + d = P.1 → rq_ lv σ P → mx_ σ (fw P lb l) → (∀ j, j < l → σ.1 124 j = co_ P lb j) →
    ∃ σ', mm_run mX9_findLabels mm_H 72 [some (.ref 120), some (.int (nI lv)), some (.int (nI l))] [] σ = some (none, mm_H, σ') ∧ fN_ σ σ' ∧ rg_ σ' P lb
  | 0, l, σ, h, hr, hm, hc => by
    have h9 := hP.1
    have hl : l = P.1 := by omega
    subst hl
    refine ⟨σ, ?_, fN_refl _, hm, hc⟩
    rw [rX9_findLabels_72]
    simp (disch := omega) only [vX9_findLabels, rX9_findLabels_73, rX9_findLabels_74, rX9_findLabels_77, rX9_findLabels_80, rX9_findLabels_81, rX9_findLabels_82, rX9_findLabels_83, rX9_findLabels_86, rX9_findLabels_87, rX9_findLabels_90, rX9_findLabels_91, rX9_findLabels_94, rX9_findLabels_97, rX9_findLabels_98, rX9_findLabels_99, rX9_findLabels_100, rX9_findLabels_103, rX9_findLabels_106, rX9_findLabels_109, mm_gd_t, mm_kc_v, mm_kc_n, mm_rfs, kl_n, kl_i, kl_r, kl_l, so_0, so_1, so_2, so_3, so_4, beq_self_eq_true, Bool.true_and, Bool.and_true, Bool.or_true, Bool.true_or, Bool.false_or, Bool.or_false, if_true, if_false, ↓reduceIte, decide_true, decide_false, Bool.not_false, Bool.not_true, not_true_eq_false, not_false_eq_true, eq_self, Nat.not_lt_zero, Bool.true_eq_false, Bool.false_eq_true, Nat.reduceAdd, Nat.reduceMul, Nat.reduceSub, Nat.reduceEqDiff, Nat.reduceLeDiff, Nat.reduceLT, Nat.reduceDiv, Nat.reduceMod, zb_0, zb_1, zb_b, on_nI, ml_l, rl_sl1, rl_sl2, rl_eq, rl_nj, rl_nk, qL_0, qL_1, qL_11, qL_10000, nI_lL, lN_add, lN_mul, Nat.zero_add, Nat.add_zero, mm_zr0n, mm_zr1n, mm_zrb, b2_0, b2_1, pk_mul, tn_nI, in_nI, mi_lt, rd_eq, rd_nj, rd_nk, rs_eq, rs_nk, rl_si, rl_sA, nI_add, nI_eqI, nI_leI2, nI_ltI2, ql_0, ql_1, ql_2, ql_3, ql_4, ql_5, ql_6, ql_7, ql_8, ql_9, ql_10, ql_11, ql_12, ql_13, ql_14, ql_15, ql_16, ql_17, ql_18, ql_19, ql_20, ql_24, ql_25, ql_26, ql_27, ql_31, ql_32, ql_33, ql_36, ql_45, ql_46, ql_47, ql_48, ql_49, ql_50, ql_57, ql_63, ql_64, ql_65, ql_66, ql_67, ql_68, ql_69, ql_70, ql_71, ql_72, ql_73, ql_74, ql_75, ql_76, ql_77, ql_78, ql_79, ql_80, ql_81, ql_82, ql_83, ql_84, ql_85, ql_86, ql_87, ql_93, ql_96, ql_97, ql_100, ql_101, ql_120, ql_255, ql_256, ql_257, ql_511, ql_672, ql_900, ql_1000, ql_65536, rho_120_1, rho_120_3, rho_120_5, rho_120_6, rho_120_10, rho_120_11, rho_120_12, rho_120_15, rho_120_17, rho_120_18, rho_120_19, rho_120_20, rho_120_22, rho_120_23, kd_120, hr.1, Nat.le_refl]
  | d + 1, l, σ, h, hr, hm, hc => by
    have h9 := hP.1
    have hlt : l < P.1 := by omega
    have g : ¬ P.1 ≤ l := by omega
    have eC := x_findContext hP hl hlt hr hm
    have hco : cx_ P (fw P lb l) l l = co_ P lb l := rfl
    rw [hco] at eC
    let σ1 := mm_si σ 124 l (co_ P lb l)
    have N1 : fN_ σ σ1 := ⟨fun k j hk => by simp (disch := omega) only [σ1, rd_nk], rfl⟩
    have r1 := rq_fN hr h9 N1
    have m1 : mx_ σ1 (fw P lb l) := ⟨by simp (disch := omega) only [σ1, rd_nk]; exact hm.1, fun j hj v hv => by simp (disch := omega) only [σ1, rd_nk]; exact hm.2 j hj v hv⟩
    have c1 : σ1.1 124 l = co_ P lb l := by simp only [σ1, rd_eq]
    have cc1 : ∀ j, j < l + 1 → σ1.1 124 j = co_ P lb j := fun j hj => by
      by_cases hjl : j = l
      · subst hjl; exact c1
      · simp (disch := omega) only [σ1, rd_nj]; exact hc j (by omega)
    have b9 := bm_9 (fw P lb l).1
    have eH := s_hasX (σ := σ1) (m := bm_ (fw P lb l).1 9) (k := l) (by omega) (by omega)
    rw [bm_bit, decide_eq_true (show l < 9 by omega), Bool.true_and] at eH
    have m17 := m1.1
    simp only [σ1] at eH m17
    cases hR : (fw P lb l).1 l <;> rw [hR] at eH
    · have hst : fw P lb (l + 1) = fw P lb l := by show fp2_ P l (fw P lb l) = _; unfold fp2_; rw [hR, if_neg (by decide)]
      obtain ⟨σ', e, f', r'⟩ := x_flL3 (lb := lb) hP hl d (l + 1) σ1 (by omega) r1 (by rw [hst]; exact m1) cc1
      refine ⟨σ', ?_, fN_tr N1 f', r'⟩
      simp only [σ1] at e
      rw [rX9_findLabels_72]
      simp (disch := omega) only [vX9_findLabels, rX9_findLabels_73, rX9_findLabels_74, rX9_findLabels_77, rX9_findLabels_80, rX9_findLabels_81, rX9_findLabels_82, rX9_findLabels_83, rX9_findLabels_86, rX9_findLabels_87, rX9_findLabels_90, rX9_findLabels_91, rX9_findLabels_94, rX9_findLabels_97, rX9_findLabels_98, rX9_findLabels_99, rX9_findLabels_100, rX9_findLabels_103, rX9_findLabels_106, rX9_findLabels_109, mm_gd_t, mm_kc_v, mm_kc_n, mm_rfs, kl_n, kl_i, kl_r, kl_l, so_0, so_1, so_2, so_3, so_4, beq_self_eq_true, Bool.true_and, Bool.and_true, Bool.or_true, Bool.true_or, Bool.false_or, Bool.or_false, if_true, if_false, ↓reduceIte, decide_true, decide_false, Bool.not_false, Bool.not_true, not_true_eq_false, not_false_eq_true, eq_self, Nat.not_lt_zero, Bool.true_eq_false, Bool.false_eq_true, Nat.reduceAdd, Nat.reduceMul, Nat.reduceSub, Nat.reduceEqDiff, Nat.reduceLeDiff, Nat.reduceLT, Nat.reduceDiv, Nat.reduceMod, zb_0, zb_1, zb_b, on_nI, ml_l, rl_sl1, rl_sl2, rl_eq, rl_nj, rl_nk, qL_0, qL_1, qL_11, qL_10000, nI_lL, lN_add, lN_mul, Nat.zero_add, Nat.add_zero, mm_zr0n, mm_zr1n, mm_zrb, b2_0, b2_1, pk_mul, tn_nI, in_nI, mi_lt, rd_eq, rd_nj, rd_nk, rs_eq, rs_nk, rl_si, rl_sA, nI_add, nI_eqI, nI_leI2, nI_ltI2, ql_0, ql_1, ql_2, ql_3, ql_4, ql_5, ql_6, ql_7, ql_8, ql_9, ql_10, ql_11, ql_12, ql_13, ql_14, ql_15, ql_16, ql_17, ql_18, ql_19, ql_20, ql_24, ql_25, ql_26, ql_27, ql_31, ql_32, ql_33, ql_36, ql_45, ql_46, ql_47, ql_48, ql_49, ql_50, ql_57, ql_63, ql_64, ql_65, ql_66, ql_67, ql_68, ql_69, ql_70, ql_71, ql_72, ql_73, ql_74, ql_75, ql_76, ql_77, ql_78, ql_79, ql_80, ql_81, ql_82, ql_83, ql_84, ql_85, ql_86, ql_87, ql_93, ql_96, ql_97, ql_100, ql_101, ql_120, ql_255, ql_256, ql_257, ql_511, ql_672, ql_900, ql_1000, ql_65536, rho_120_1, rho_120_3, rho_120_5, rho_120_6, rho_120_10, rho_120_11, rho_120_12, rho_120_15, rho_120_17, rho_120_18, rho_120_19, rho_120_20, rho_120_22, rho_120_23, kd_120, hr.1, g, eC, m17, hm.1, eH, e]
    · obtain ⟨σ2, e2, f2, f2', m2⟩ := x_flow hP hl hlt hR (fun j hj => fw_hi hj l) r1 m1 c1
      have N2 : fN_ σ1 σ2 := ⟨fun k j hk => f2 k j ⟨hk.1, hk.2.2⟩, f2'⟩
      obtain ⟨σ', e, f', r'⟩ := x_flL3 (lb := lb) hP hl d (l + 1) σ2 (by omega) (rq_fN r1 h9 N2) m2 (fun j hj => by rw [f2 124 j (by omega)]; exact cc1 j hj)
      refine ⟨σ', ?_, fN_tr N1 (fN_tr N2 f'), r'⟩
      simp only [σ1] at e2
      rw [rX9_findLabels_72]
      simp (disch := omega) only [vX9_findLabels, rX9_findLabels_73, rX9_findLabels_74, rX9_findLabels_77, rX9_findLabels_80, rX9_findLabels_81, rX9_findLabels_82, rX9_findLabels_83, rX9_findLabels_86, rX9_findLabels_87, rX9_findLabels_90, rX9_findLabels_91, rX9_findLabels_94, rX9_findLabels_97, rX9_findLabels_98, rX9_findLabels_99, rX9_findLabels_100, rX9_findLabels_103, rX9_findLabels_106, rX9_findLabels_109, mm_gd_t, mm_kc_v, mm_kc_n, mm_rfs, kl_n, kl_i, kl_r, kl_l, so_0, so_1, so_2, so_3, so_4, beq_self_eq_true, Bool.true_and, Bool.and_true, Bool.or_true, Bool.true_or, Bool.false_or, Bool.or_false, if_true, if_false, ↓reduceIte, decide_true, decide_false, Bool.not_false, Bool.not_true, not_true_eq_false, not_false_eq_true, eq_self, Nat.not_lt_zero, Bool.true_eq_false, Bool.false_eq_true, Nat.reduceAdd, Nat.reduceMul, Nat.reduceSub, Nat.reduceEqDiff, Nat.reduceLeDiff, Nat.reduceLT, Nat.reduceDiv, Nat.reduceMod, zb_0, zb_1, zb_b, on_nI, ml_l, rl_sl1, rl_sl2, rl_eq, rl_nj, rl_nk, qL_0, qL_1, qL_11, qL_10000, nI_lL, lN_add, lN_mul, Nat.zero_add, Nat.add_zero, mm_zr0n, mm_zr1n, mm_zrb, b2_0, b2_1, pk_mul, tn_nI, in_nI, mi_lt, rd_eq, rd_nj, rd_nk, rs_eq, rs_nk, rl_si, rl_sA, nI_add, nI_eqI, nI_leI2, nI_ltI2, ql_0, ql_1, ql_2, ql_3, ql_4, ql_5, ql_6, ql_7, ql_8, ql_9, ql_10, ql_11, ql_12, ql_13, ql_14, ql_15, ql_16, ql_17, ql_18, ql_19, ql_20, ql_24, ql_25, ql_26, ql_27, ql_31, ql_32, ql_33, ql_36, ql_45, ql_46, ql_47, ql_48, ql_49, ql_50, ql_57, ql_63, ql_64, ql_65, ql_66, ql_67, ql_68, ql_69, ql_70, ql_71, ql_72, ql_73, ql_74, ql_75, ql_76, ql_77, ql_78, ql_79, ql_80, ql_81, ql_82, ql_83, ql_84, ql_85, ql_86, ql_87, ql_93, ql_96, ql_97, ql_100, ql_101, ql_120, ql_255, ql_256, ql_257, ql_511, ql_672, ql_900, ql_1000, ql_65536, rho_120_1, rho_120_3, rho_120_5, rho_120_6, rho_120_10, rho_120_11, rho_120_12, rho_120_15, rho_120_17, rho_120_18, rho_120_19, rho_120_20, rho_120_22, rho_120_23, kd_120, hr.1, g, eC, m17, hm.1, eH, e2, e]
theorem x_findLabels {σ : mm_M} {P : pp_} {lv : Nat} {lb : Nat → Int32} (hP : wf_ P) (hl : lv < 2) (hr : rq_ lv σ P) (hlb : ∀ k, k < 3 → σ.1 121 (48 * lv + 45 + k) = lb k) :
    ∃ σ', mm_ev mX9_findLabels [.ref 120, .int (nI lv)] mm_H σ = some (none, mm_H, σ') ∧ fN_ σ σ' ∧ rg_ σ' P lb := by
  have h9 := hP.1
  obtain ⟨σ1, e1, f1, g1, _⟩ := x_flL1 50 0 σ (x1 := nI lv) (by omega)
  have b0 := hlb 0 (by omega)
  have b1 := hlb 1 (by omega)
  have b2 := hlb 2 (by omega)
  rw [Nat.add_zero] at b0
  have q121 : ∀ j, σ1.1 121 j = σ.1 121 j := fun j => by rw [f1.1 121 (by omega)]
  let σ2 := mm_si (mm_si (mm_si σ1 123 0 (lb 0)) 123 1 (lb 1)) 123 2 (lb 2)
  let σ3 := mm_si σ2 120 7 (nI (bm_ (fs0_ P lb).1 9))
  have N3 : fN_ σ σ3 := ⟨fun k j hk => by
    by_cases h120 : k = 120
    · subst h120; simp (disch := omega) only [σ3, σ2, rd_nj, rd_nk]; rw [f1.1 120 (by omega)]
    · simp (disch := omega) only [σ3, σ2, rd_nk]; rw [f1.1 k (by omega)], by rw [← f1.2]; rfl⟩
  obtain ⟨σ4, e4, N4, r4⟩ := x_flL3 (lb := lb) hP hl P.1 0 σ3 (by omega) (rq_fN hr h9 N3) ⟨by simp only [σ3, rd_eq]; rfl, fun j hj v hv => by
    simp (disch := omega) only [σ3, rd_nk]
    show _ = if j = 0 ∧ v < 3 then lb v else nI 0
    by_cases hc : j = 0 ∧ v < 3
    · rw [if_pos hc]
      have : v = 0 ∨ v = 1 ∨ v = 2 := by omega
      rw [hc.1, Nat.mul_zero, Nat.zero_add]
      rcases this with h | h | h <;> subst h <;> simp (disch := omega) only [σ2, rd_eq, rd_nj]
    · rw [if_neg hc]
      simp (disch := omega) only [σ2, rd_nj]
      exact g1 _ (by omega) (by omega)⟩ (fun j hj => by omega)
  refine ⟨σ4, ?_, fN_tr N3 N4, r4⟩
  have n0 : σ1.1 120 0 = nI P.1 := by rw [f1.1 120 (by omega)]; exact hr.1
  have step : ∀ (k : Nat) (τ : mm_M), k < 3 → τ.1 121 (48 * lv + 45 + k) = lb k → mm_run mX9_findLabels mm_H 23 [some (.ref 120), some (.int (nI lv)), some (.int (nI k))] [] τ = mm_run mX9_findLabels mm_H 23 [some (.ref 120), some (.int (nI lv)), some (.int (nI (k + 1)))] [] (mm_si τ 123 k (lb k)) := by
    intro k τ hk ht
    have g : ¬ 3 ≤ k := by omega
    conv => lhs; rw [rX9_findLabels_23]
    simp (disch := omega) only [vX9_findLabels, rX9_findLabels_24, rX9_findLabels_25, rX9_findLabels_28, rX9_findLabels_29, rX9_findLabels_32, rX9_findLabels_33, rX9_findLabels_34, rX9_findLabels_37, rX9_findLabels_39, rX9_findLabels_40, rX9_findLabels_41, rX9_findLabels_43, rX9_findLabels_44, rX9_findLabels_45, rX9_findLabels_46, rX9_findLabels_47, rX9_findLabels_48, rX9_findLabels_51, mm_gd_t, mm_kc_v, mm_kc_n, mm_rfs, kl_n, kl_i, kl_r, kl_l, so_0, so_1, so_2, so_3, so_4, beq_self_eq_true, Bool.true_and, Bool.and_true, Bool.or_true, Bool.true_or, Bool.false_or, Bool.or_false, if_true, if_false, ↓reduceIte, decide_true, decide_false, Bool.not_false, Bool.not_true, not_true_eq_false, not_false_eq_true, eq_self, Nat.not_lt_zero, Bool.true_eq_false, Bool.false_eq_true, Nat.reduceAdd, Nat.reduceMul, Nat.reduceSub, Nat.reduceEqDiff, Nat.reduceLeDiff, Nat.reduceLT, Nat.reduceDiv, Nat.reduceMod, zb_0, zb_1, zb_b, on_nI, ml_l, rl_sl1, rl_sl2, rl_eq, rl_nj, rl_nk, qL_0, qL_1, qL_11, qL_10000, nI_lL, lN_add, lN_mul, Nat.zero_add, Nat.add_zero, mm_zr0n, mm_zr1n, mm_zrb, b2_0, b2_1, pk_mul, tn_nI, in_nI, mi_lt, rd_eq, rd_nj, rd_nk, rs_eq, rs_nk, rl_si, rl_sA, nI_add, nI_eqI, nI_leI2, nI_ltI2, ql_0, ql_1, ql_2, ql_3, ql_4, ql_5, ql_6, ql_7, ql_8, ql_9, ql_10, ql_11, ql_12, ql_13, ql_14, ql_15, ql_16, ql_17, ql_18, ql_19, ql_20, ql_24, ql_25, ql_26, ql_27, ql_31, ql_32, ql_33, ql_36, ql_45, ql_46, ql_47, ql_48, ql_49, ql_50, ql_57, ql_63, ql_64, ql_65, ql_66, ql_67, ql_68, ql_69, ql_70, ql_71, ql_72, ql_73, ql_74, ql_75, ql_76, ql_77, ql_78, ql_79, ql_80, ql_81, ql_82, ql_83, ql_84, ql_85, ql_86, ql_87, ql_93, ql_96, ql_97, ql_100, ql_101, ql_120, ql_255, ql_256, ql_257, ql_511, ql_672, ql_900, ql_1000, ql_65536, rho_120_1, rho_120_3, rho_120_5, rho_120_6, rho_120_10, rho_120_11, rho_120_12, rho_120_15, rho_120_17, rho_120_18, rho_120_19, rho_120_20, rho_120_22, rho_120_23, kd_120, kd_121, ir_121, iw_121, al_121, kd_123, ir_123, iw_123, al_123, g, ht]
  have e21 : mm_run mX9_findLabels mm_H 23 [some (.ref 120), some (.int (nI lv)), some (.int (nI 0))] [] σ1 = mm_run mX9_findLabels mm_H 23 [some (.ref 120), some (.int (nI lv)), some (.int (nI 3))] [] σ2 := by
    rw [step 0 σ1 (by omega) (by rw [q121, Nat.add_zero]; exact b0), step 1 _ (by omega) (by rw [rd_nk (by omega), q121]; exact b1), step 2 _ (by omega) (by rw [rd_nk (by omega), rd_nk (by omega), q121]; exact b2)]
  have e23 : mm_run mX9_findLabels mm_H 23 [some (.ref 120), some (.int (nI lv)), some (.int (nI 3))] [] σ2 = mm_run mX9_findLabels mm_H 72 [some (.ref 120), some (.int (nI lv)), some (.int (nI 0))] [] σ3 := by
    have n2 : σ2.1 120 0 = nI P.1 := by simp (disch := omega) only [σ2, rd_nk]; exact n0
    by_cases h0 : P.1 = 0
    · have hb0 : bm_ (fs0_ P lb).1 9 = 0 := bm_0 (fun m _ => by show (decide (m = 0) && decide (0 < P.1)) = false; rw [h0]; simp)
      rw [h0] at n2
      rw [rX9_findLabels_23]
      simp (disch := omega) only [vX9_findLabels, rX9_findLabels_24, rX9_findLabels_25, rX9_findLabels_28, rX9_findLabels_29, rX9_findLabels_32, rX9_findLabels_33, rX9_findLabels_34, rX9_findLabels_37, rX9_findLabels_39, rX9_findLabels_40, rX9_findLabels_41, rX9_findLabels_43, rX9_findLabels_44, rX9_findLabels_45, rX9_findLabels_46, rX9_findLabels_47, rX9_findLabels_48, rX9_findLabels_51, rX9_findLabels_54, rX9_findLabels_55, rX9_findLabels_56, rX9_findLabels_59, rX9_findLabels_62, rX9_findLabels_63, rX9_findLabels_66, rX9_findLabels_67, rX9_findLabels_70, rX9_findLabels_71, mm_gd_t, mm_kc_v, mm_kc_n, mm_rfs, kl_n, kl_i, kl_r, kl_l, so_0, so_1, so_2, so_3, so_4, beq_self_eq_true, Bool.true_and, Bool.and_true, Bool.or_true, Bool.true_or, Bool.false_or, Bool.or_false, if_true, if_false, ↓reduceIte, decide_true, decide_false, Bool.not_false, Bool.not_true, not_true_eq_false, not_false_eq_true, eq_self, Nat.not_lt_zero, Bool.true_eq_false, Bool.false_eq_true, Nat.reduceAdd, Nat.reduceMul, Nat.reduceSub, Nat.reduceEqDiff, Nat.reduceLeDiff, Nat.reduceLT, Nat.reduceDiv, Nat.reduceMod, zb_0, zb_1, zb_b, on_nI, ml_l, rl_sl1, rl_sl2, rl_eq, rl_nj, rl_nk, qL_0, qL_1, qL_11, qL_10000, nI_lL, lN_add, lN_mul, Nat.zero_add, Nat.add_zero, mm_zr0n, mm_zr1n, mm_zrb, b2_0, b2_1, pk_mul, tn_nI, in_nI, mi_lt, rd_eq, rd_nj, rd_nk, rs_eq, rs_nk, rl_si, rl_sA, nI_add, nI_eqI, nI_leI2, nI_ltI2, ql_0, ql_1, ql_2, ql_3, ql_4, ql_5, ql_6, ql_7, ql_8, ql_9, ql_10, ql_11, ql_12, ql_13, ql_14, ql_15, ql_16, ql_17, ql_18, ql_19, ql_20, ql_24, ql_25, ql_26, ql_27, ql_31, ql_32, ql_33, ql_36, ql_45, ql_46, ql_47, ql_48, ql_49, ql_50, ql_57, ql_63, ql_64, ql_65, ql_66, ql_67, ql_68, ql_69, ql_70, ql_71, ql_72, ql_73, ql_74, ql_75, ql_76, ql_77, ql_78, ql_79, ql_80, ql_81, ql_82, ql_83, ql_84, ql_85, ql_86, ql_87, ql_93, ql_96, ql_97, ql_100, ql_101, ql_120, ql_255, ql_256, ql_257, ql_511, ql_672, ql_900, ql_1000, ql_65536, rho_120_1, rho_120_3, rho_120_5, rho_120_6, rho_120_10, rho_120_11, rho_120_12, rho_120_15, rho_120_17, rho_120_18, rho_120_19, rho_120_20, rho_120_22, rho_120_23, kd_120, n2]
      show _ = mm_run mX9_findLabels mm_H 72 _ [] (mm_si σ2 120 7 (nI (bm_ (fs0_ P lb).1 9)))
      rw [hb0]
    · have hb1 : bm_ (fs0_ P lb).1 9 = 1 := by
        have : bm_ (fs0_ P lb).1 9 = 2 ^ 0 := by
          rw [bm_one (show 0 < 9 by omega)]
          apply bm_ext
          intro m _
          show (decide (m = 0) && decide (0 < P.1)) = _
          rw [decide_eq_true (show 0 < P.1 by omega), Bool.and_true]
        rw [this]
      rw [rX9_findLabels_23]
      simp (disch := omega) only [vX9_findLabels, rX9_findLabels_24, rX9_findLabels_25, rX9_findLabels_28, rX9_findLabels_29, rX9_findLabels_32, rX9_findLabels_33, rX9_findLabels_34, rX9_findLabels_37, rX9_findLabels_39, rX9_findLabels_40, rX9_findLabels_41, rX9_findLabels_43, rX9_findLabels_44, rX9_findLabels_45, rX9_findLabels_46, rX9_findLabels_47, rX9_findLabels_48, rX9_findLabels_51, rX9_findLabels_54, rX9_findLabels_55, rX9_findLabels_56, rX9_findLabels_59, rX9_findLabels_62, rX9_findLabels_63, rX9_findLabels_66, rX9_findLabels_67, rX9_findLabels_70, rX9_findLabels_71, mm_gd_t, mm_kc_v, mm_kc_n, mm_rfs, kl_n, kl_i, kl_r, kl_l, so_0, so_1, so_2, so_3, so_4, beq_self_eq_true, Bool.true_and, Bool.and_true, Bool.or_true, Bool.true_or, Bool.false_or, Bool.or_false, if_true, if_false, ↓reduceIte, decide_true, decide_false, Bool.not_false, Bool.not_true, not_true_eq_false, not_false_eq_true, eq_self, Nat.not_lt_zero, Bool.true_eq_false, Bool.false_eq_true, Nat.reduceAdd, Nat.reduceMul, Nat.reduceSub, Nat.reduceEqDiff, Nat.reduceLeDiff, Nat.reduceLT, Nat.reduceDiv, Nat.reduceMod, zb_0, zb_1, zb_b, on_nI, ml_l, rl_sl1, rl_sl2, rl_eq, rl_nj, rl_nk, qL_0, qL_1, qL_11, qL_10000, nI_lL, lN_add, lN_mul, Nat.zero_add, Nat.add_zero, mm_zr0n, mm_zr1n, mm_zrb, b2_0, b2_1, pk_mul, tn_nI, in_nI, mi_lt, rd_eq, rd_nj, rd_nk, rs_eq, rs_nk, rl_si, rl_sA, nI_add, nI_eqI, nI_leI2, nI_ltI2, ql_0, ql_1, ql_2, ql_3, ql_4, ql_5, ql_6, ql_7, ql_8, ql_9, ql_10, ql_11, ql_12, ql_13, ql_14, ql_15, ql_16, ql_17, ql_18, ql_19, ql_20, ql_24, ql_25, ql_26, ql_27, ql_31, ql_32, ql_33, ql_36, ql_45, ql_46, ql_47, ql_48, ql_49, ql_50, ql_57, ql_63, ql_64, ql_65, ql_66, ql_67, ql_68, ql_69, ql_70, ql_71, ql_72, ql_73, ql_74, ql_75, ql_76, ql_77, ql_78, ql_79, ql_80, ql_81, ql_82, ql_83, ql_84, ql_85, ql_86, ql_87, ql_93, ql_96, ql_97, ql_100, ql_101, ql_120, ql_255, ql_256, ql_257, ql_511, ql_672, ql_900, ql_1000, ql_65536, rho_120_1, rho_120_3, rho_120_5, rho_120_6, rho_120_10, rho_120_11, rho_120_12, rho_120_15, rho_120_17, rho_120_18, rho_120_19, rho_120_20, rho_120_22, rho_120_23, kd_120, n2, h0]
      show _ = mm_run mX9_findLabels mm_H 72 _ [] (mm_si σ2 120 7 (nI (bm_ (fs0_ P lb).1 9)))
      rw [hb1]
  simp (disch := omega) only [vX9_findLabels, rX9_findLabels_0, rX9_findLabels_1, rX9_findLabels_21, rX9_findLabels_22, mm_gd_t, mm_kc_v, mm_kc_n, mm_rfs, kl_n, kl_i, kl_r, kl_l, so_0, so_1, so_2, so_3, so_4, beq_self_eq_true, Bool.true_and, Bool.and_true, Bool.or_true, Bool.true_or, Bool.false_or, Bool.or_false, if_true, if_false, ↓reduceIte, decide_true, decide_false, Bool.not_false, Bool.not_true, not_true_eq_false, not_false_eq_true, eq_self, Nat.not_lt_zero, Bool.true_eq_false, Bool.false_eq_true, Nat.reduceAdd, Nat.reduceMul, Nat.reduceSub, Nat.reduceEqDiff, Nat.reduceLeDiff, Nat.reduceLT, Nat.reduceDiv, Nat.reduceMod, zb_0, zb_1, zb_b, on_nI, ml_l, rl_sl1, rl_sl2, rl_eq, rl_nj, rl_nk, qL_0, qL_1, qL_11, qL_10000, nI_lL, lN_add, lN_mul, Nat.zero_add, Nat.add_zero, mm_zr0n, mm_zr1n, mm_zrb, b2_0, b2_1, pk_mul, tn_nI, in_nI, mi_lt, rd_eq, rd_nj, rd_nk, rs_eq, rs_nk, rl_si, rl_sA, nI_add, nI_eqI, nI_leI2, nI_ltI2, ql_0, ql_1, ql_2, ql_3, ql_4, ql_5, ql_6, ql_7, ql_8, ql_9, ql_10, ql_11, ql_12, ql_13, ql_14, ql_15, ql_16, ql_17, ql_18, ql_19, ql_20, ql_24, ql_25, ql_26, ql_27, ql_31, ql_32, ql_33, ql_36, ql_45, ql_46, ql_47, ql_48, ql_49, ql_50, ql_57, ql_63, ql_64, ql_65, ql_66, ql_67, ql_68, ql_69, ql_70, ql_71, ql_72, ql_73, ql_74, ql_75, ql_76, ql_77, ql_78, ql_79, ql_80, ql_81, ql_82, ql_83, ql_84, ql_85, ql_86, ql_87, ql_93, ql_96, ql_97, ql_100, ql_101, ql_120, ql_255, ql_256, ql_257, ql_511, ql_672, ql_900, ql_1000, ql_65536, e1]
  rw [e21, e23]
  exact e4

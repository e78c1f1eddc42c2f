/-! ===== both constructors ===== -/
def F8_ (f : sH_) : sH_ := (sf_ (F3_ 95 (nf_ 95 (sf_ (F2_ 87 (nf_ 87 (sf_ (F5_ 80 (nf_ 80 (sf_ (F6_ 76 (nf_ 76 (sf_ (F6_ 72 (nf_ 72 (sf_ (F1_ 56 (nf_ 56 (sf_ (nf_ 55 (sf_ (nf_ 54 (sf_ (sf_ (F4_ 42 (nf_ 42 (sf_ (F4_ 30 (nf_ 30 (nf_ 29 (sf_ (F7_ 27 (nf_ 27 (sf_ (F4_ 15 (nf_ 15 (sf_ (F4_ 3 (nf_ 3 (sf_ (F7_ 1 (nf_ 1 f)) 0 0 (some 1)))) 0 1 (some 3)))) 0 2 (some 15)))) 0 3 (some 27))))) 29 0 (some 30)))) 29 1 (some 42)) 0 4 (some 29))) 0 5 (some 54))) 0 6 (some 55)))) 0 7 (some 56)))) 0 8 (some 72)))) 0 9 (some 76)))) 0 10 (some 80)))) 0 11 (some 87)))) 0 12 (some 95))
def S8_ (σ : mm_M) : mm_M := (mm_sl (S3_ 95 (nM_ 95 (S2_ 87 (nM_ 87 (S5_ 80 (nM_ 80 (S6_ 76 (nM_ 76 (S6_ 72 (nM_ 72 (S1_ 56 (nM_ 56 (nM_ 55 (nM_ 54 (S4_ 42 (nM_ 42 (S4_ 30 (nM_ 30 (nM_ 29 (S7_ 27 (nM_ 27 (S4_ 15 (nM_ 15 (S4_ 3 (nM_ 3 (S7_ 1 (nM_ 1 σ))))))))))))))))))))))))))) 0 13 (lN 0))
def F9_ (f : sH_) : sH_ := (sf_ (nf_ 134 (sf_ (nf_ 133 (sf_ (nf_ 132 (sf_ (nf_ 131 (sf_ (nf_ 130 (sf_ (nf_ 129 (sf_ (nf_ 128 (sf_ (nf_ 127 (sf_ (nf_ 126 (sf_ (nf_ 125 (sf_ (nf_ 124 (sf_ (nf_ 123 (sf_ (nf_ 122 (sf_ (nf_ 121 f) 120 1 (some 121))) 120 3 (some 122))) 120 5 (some 123))) 120 6 (some 124))) 120 10 (some 125))) 120 11 (some 126))) 120 12 (some 127))) 120 15 (some 128))) 120 17 (some 129))) 120 18 (some 130))) 120 19 (some 131))) 120 20 (some 132))) 120 22 (some 133))) 120 23 (some 134))
def S9_ (σ : mm_M) : mm_M := (nM_ 134 (nM_ 133 (nM_ 132 (nM_ 131 (nM_ 130 (nM_ 129 (nM_ 128 (nM_ 127 (nM_ 126 (nM_ 125 (nM_ 124 (nM_ 123 (nM_ 122 (nM_ 121 σ))))))))))))))
theorem i8_0 {f : sH_} {σ : mm_M} : mm_ev mX8_init [.ref 0] (1, f) σ = some (none, (120, F8_ f), S8_ σ) := by
  simp (disch := omega) only [vX8_init, rX8_init_0, rX8_init_1, rX8_init_4, rX8_init_5, rX8_init_8, rX8_init_9, rX8_init_12, rX8_init_15, rX8_init_16, rX8_init_19, rX8_init_20, rX8_init_23, rX8_init_26, rX8_init_27, rX8_init_30, rX8_init_31, rX8_init_34, rX8_init_37, rX8_init_38, rX8_init_41, rX8_init_42, rX8_init_45, rX8_init_48, rX8_init_49, rX8_init_50, rX8_init_53, rX8_init_54, rX8_init_55, rX8_init_58, rX8_init_59, rX8_init_62, rX8_init_63, rX8_init_64, rX8_init_65, rX8_init_68, rX8_init_69, rX8_init_72, rX8_init_73, rX8_init_76, rX8_init_77, rX8_init_78, rX8_init_80, rX8_init_83, rX8_init_84, rX8_init_85, rX8_init_87, rX8_init_90, rX8_init_91, rX8_init_94, rX8_init_95, rX8_init_98, rX8_init_101, rX8_init_102, rX8_init_105, rX8_init_106, rX8_init_109, rX8_init_112, rX8_init_113, rX8_init_116, rX8_init_117, rX8_init_120, rX8_init_123, rX8_init_124, rX8_init_127, rX8_init_128, rX8_init_131, rX8_init_134, rX8_init_135, rX8_init_138, rX8_init_139, rX8_init_142, rX8_init_145, rX8_init_146, rX8_init_149, rX8_init_150, rX8_init_153, rX8_init_156, rX8_init_157, rX8_init_158, rX8_init_161, mm_gd_t, mm_kc_v, mm_kc_n, mm_rfs, kl_n, kl_i, kl_r, kl_l, so_0, so_1, so_2, so_3, so_4, beq_self_eq_true, Bool.true_and, Bool.and_true, Bool.or_true, Bool.true_or, Bool.false_or, Bool.or_false, if_true, if_false, ↓reduceIte, decide_true, decide_false, Bool.not_false, Bool.not_true, not_true_eq_false, not_false_eq_true, eq_self, Nat.not_lt_zero, Bool.true_eq_false, Bool.false_eq_true, Nat.reduceAdd, Nat.reduceMul, Nat.reduceSub, Nat.reduceEqDiff, Nat.reduceLeDiff, Nat.reduceLT, Nat.reduceDiv, Nat.reduceMod, zb_0, zb_1, zb_b, on_nI, ml_l, rl_sl1, rl_sl2, rl_eq, rl_nj, rl_nk, qL_0, qL_1, qL_11, qL_10000, nI_lL, lN_add, lN_mul, Nat.zero_add, Nat.add_zero, mm_zr0n, mm_zr1n, mm_zrb, b2_0, b2_1, pk_mul, tn_nI, in_nI, mi_lt, rd_eq, rd_nj, rd_nk, rs_eq, rs_nk, rl_si, rl_sA, nI_add, nI_eqI, nI_leI2, nI_ltI2, ql_0, ql_1, ql_2, ql_3, ql_4, ql_5, ql_6, ql_7, ql_8, ql_9, ql_10, ql_11, ql_12, ql_13, ql_14, ql_15, ql_16, ql_17, ql_18, ql_19, ql_20, ql_24, ql_25, ql_26, ql_27, ql_31, ql_32, ql_33, ql_36, ql_45, ql_46, ql_47, ql_48, ql_49, ql_50, ql_57, ql_63, ql_64, ql_65, ql_66, ql_67, ql_68, ql_69, ql_70, ql_71, ql_72, ql_73, ql_74, ql_75, ql_76, ql_77, ql_78, ql_79, ql_80, ql_81, ql_82, ql_83, ql_84, ql_85, ql_86, ql_87, ql_93, ql_96, ql_97, ql_100, ql_101, ql_120, ql_255, ql_256, ql_257, ql_511, ql_672, ql_900, ql_1000, ql_65536, nT_p, sr_p, nT2_p, nM_p, nM2_p, kd_p, iw_p, ge0_nI, ge0_b, mm_al, beq_self_eq_true, Nat.reduceBEq, ql_50, ql_100, ql_96, ql_672, kt_0, kt_1, kt_2, kt_3, kt_4, kt_5, kt_6, kt_7, kt_8, kt_9, kt_10, kt_11, kt_12, kt_13, kt_14, kt_15, kt_16, kt_17, kt_18, kt_19, kt_20, kt_21, kt_22, kt_23, kt_24, kt_25, kt_26, kt_27, kt_28, kt_29, kt_30, kt_31, kt_32, kt_33, kt_34, kt_35, kt_36, kt_37, kt_38, kt_39, kt_40, kt_41, kt_42, kt_43, kt_44, kt_45, kt_46, kt_47, kt_48, kt_49, kt_50, kt_51, kt_52, kt_53, kt_54, kt_55, kt_56, kt_57, kt_58, kt_59, kt_60, kt_61, kt_62, kt_63, kt_64, kt_65, kt_66, kt_67, kt_68, kt_69, kt_70, kt_71, kt_72, kt_73, kt_74, kt_75, kt_76, kt_77, kt_78, kt_79, kt_80, kt_81, kt_82, kt_83, kt_84, kt_85, kt_86, kt_87, kt_88, kt_89, kt_90, kt_91, kt_92, kt_93, kt_94, kt_95, kt_96, kt_97, kt_98, kt_99, kt_100, kt_101, kt_102, kt_103, kt_104, kt_105, kt_106, kt_107, kt_108, kt_109, kt_110, kt_111, kt_112, kt_113, kt_114, kt_115, kt_116, kt_117, kt_118, kt_119, kt_120, kt_121, kt_122, kt_123, kt_124, kt_125, kt_126, kt_127, kt_128, kt_129, kt_130, kt_131, kt_132, kt_133, kt_134, i7_1, i4_3, i4_15, i0_27, i4_30, i4_42, i1_56, i6_72, i6_76, i5_80, i2_87, i3_95]
  rfl
theorem i9_a {f : sH_} {σ : mm_M} : mm_ev mX9_init [.ref 120] (121, f) σ = mm_run mX9_init (135, F9_ f) 115 [some (.ref 120)] [] (S9_ σ) := by
  simp (disch := omega) only [vX9_init, rX9_init_0, rX9_init_1, rX9_init_4, rX9_init_5, rX9_init_7, rX9_init_9, rX9_init_12, rX9_init_13, rX9_init_15, rX9_init_17, rX9_init_20, rX9_init_21, rX9_init_23, rX9_init_25, rX9_init_28, rX9_init_29, rX9_init_31, rX9_init_33, rX9_init_36, rX9_init_37, rX9_init_40, rX9_init_42, rX9_init_45, rX9_init_46, rX9_init_47, rX9_init_49, rX9_init_52, rX9_init_53, rX9_init_55, rX9_init_57, rX9_init_60, rX9_init_61, rX9_init_63, rX9_init_65, rX9_init_68, rX9_init_69, rX9_init_71, rX9_init_73, rX9_init_76, rX9_init_77, rX9_init_79, rX9_init_81, rX9_init_84, rX9_init_85, rX9_init_87, rX9_init_89, rX9_init_92, rX9_init_93, rX9_init_95, rX9_init_97, rX9_init_100, rX9_init_101, rX9_init_102, rX9_init_104, rX9_init_107, rX9_init_108, rX9_init_110, rX9_init_112, mm_gd_t, mm_kc_v, mm_kc_n, mm_rfs, kl_n, kl_i, kl_r, kl_l, so_0, so_1, so_2, so_3, so_4, beq_self_eq_true, Bool.true_and, Bool.and_true, Bool.or_true, Bool.true_or, Bool.false_or, Bool.or_false, if_true, if_false, ↓reduceIte, decide_true, decide_false, Bool.not_false, Bool.not_true, not_true_eq_false, not_false_eq_true, eq_self, Nat.not_lt_zero, Bool.true_eq_false, Bool.false_eq_true, Nat.reduceAdd, Nat.reduceMul, Nat.reduceSub, Nat.reduceEqDiff, Nat.reduceLeDiff, Nat.reduceLT, Nat.reduceDiv, Nat.reduceMod, zb_0, zb_1, zb_b, on_nI, ml_l, rl_sl1, rl_sl2, rl_eq, rl_nj, rl_nk, qL_0, qL_1, qL_11, qL_10000, nI_lL, lN_add, lN_mul, Nat.zero_add, Nat.add_zero, mm_zr0n, mm_zr1n, mm_zrb, b2_0, b2_1, pk_mul, tn_nI, in_nI, mi_lt, rd_eq, rd_nj, rd_nk, rs_eq, rs_nk, rl_si, rl_sA, nI_add, nI_eqI, nI_leI2, nI_ltI2, ql_0, ql_1, ql_2, ql_3, ql_4, ql_5, ql_6, ql_7, ql_8, ql_9, ql_10, ql_11, ql_12, ql_13, ql_14, ql_15, ql_16, ql_17, ql_18, ql_19, ql_20, ql_24, ql_25, ql_26, ql_27, ql_31, ql_32, ql_33, ql_36, ql_45, ql_46, ql_47, ql_48, ql_49, ql_50, ql_57, ql_63, ql_64, ql_65, ql_66, ql_67, ql_68, ql_69, ql_70, ql_71, ql_72, ql_73, ql_74, ql_75, ql_76, ql_77, ql_78, ql_79, ql_80, ql_81, ql_82, ql_83, ql_84, ql_85, ql_86, ql_87, ql_93, ql_96, ql_97, ql_100, ql_101, ql_120, ql_255, ql_256, ql_257, ql_511, ql_672, ql_900, ql_1000, ql_65536, nT_p, sr_p, nT2_p, nM_p, nM2_p, kd_p, iw_p, ge0_nI, ge0_b, mm_al, beq_self_eq_true, Nat.reduceBEq, ql_50, ql_100, ql_96, ql_672, kt_0, kt_1, kt_2, kt_3, kt_4, kt_5, kt_6, kt_7, kt_8, kt_9, kt_10, kt_11, kt_12, kt_13, kt_14, kt_15, kt_16, kt_17, kt_18, kt_19, kt_20, kt_21, kt_22, kt_23, kt_24, kt_25, kt_26, kt_27, kt_28, kt_29, kt_30, kt_31, kt_32, kt_33, kt_34, kt_35, kt_36, kt_37, kt_38, kt_39, kt_40, kt_41, kt_42, kt_43, kt_44, kt_45, kt_46, kt_47, kt_48, kt_49, kt_50, kt_51, kt_52, kt_53, kt_54, kt_55, kt_56, kt_57, kt_58, kt_59, kt_60, kt_61, kt_62, kt_63, kt_64, kt_65, kt_66, kt_67, kt_68, kt_69, kt_70, kt_71, kt_72, kt_73, kt_74, kt_75, kt_76, kt_77, kt_78, kt_79, kt_80, kt_81, kt_82, kt_83, kt_84, kt_85, kt_86, kt_87, kt_88, kt_89, kt_90, kt_91, kt_92, kt_93, kt_94, kt_95, kt_96, kt_97, kt_98, kt_99, kt_100, kt_101, kt_102, kt_103, kt_104, kt_105, kt_106, kt_107, kt_108, kt_109, kt_110, kt_111, kt_112, kt_113, kt_114, kt_115, kt_116, kt_117, kt_118, kt_119, kt_120, kt_121, kt_122, kt_123, kt_124, kt_125, kt_126, kt_127, kt_128, kt_129, kt_130, kt_131, kt_132, kt_133, kt_134]
  rfl
def okA_ (f : sH_) : Prop := ∀ k j, 135 ≤ k ∨ 24 ≤ j → f k j = none
theorem ok_nf {n : Nat} {f : sH_} (h : okA_ f) : okA_ (nf_ n f) := fun k j hk => by
  unfold nf_; split
  · rfl
  · exact h k j hk
theorem ok_sf {k' j' : Nat} {f : sH_} {v : Option Nat} (h1 : k' < 135) (h2 : j' < 24) (h : okA_ f) : okA_ (sf_ f k' j' v) := fun k j hk => by
  unfold sf_; split
  · rename_i he
    unfold va_up
    rw [if_neg (by omega)]
    exact h k' j (by omega)
  · exact h k j hk
theorem ok_nf2 {n N : Nat} {f : sH_} (h1 : n < 135) (h2 : N ≤ 24) (h : okA_ f) : okA_ (nf2_ n f N) := fun k j hk => by
  unfold nf2_; split
  · show (if j < N then some (n + 1 + j) else none) = none
    rw [if_neg (by omega)]
  · split
    · rfl
    · exact h k j hk
theorem gd_out {α : Type} {l : List α} {d : α} {n : Nat} (h : l.length ≤ n) : l.getD n d = d := by rw [List.getD_eq_getElem?_getD, List.getElem?_eq_none h]; rfl
theorem ok_rho : okA_ mm_rho := fun k j hk => by
  unfold mm_rho
  by_cases hk' : 135 ≤ k
  · rw [show mm_rtab.getD k [] = [] from gd_out (Nat.le_trans (by decide +kernel : mm_rtab.length ≤ 135) hk')]; rfl
  · have hl : ∀ k, k < 135 → (mm_rtab.getD k []).length ≤ 24 := by decide
    exact gd_out (Nat.le_trans (hl k (by omega)) (by omega))
def fA_ : sH_ := F9_ (nf_ 120 (F8_ (nf_ 0 (fun _ _ => none))))
theorem ok_A : okA_ fA_ := by
  unfold fA_ F9_ F8_ F7_ F4_ F1_ F2_ F3_ F5_ F6_
  repeat first | apply ok_nf | (apply ok_sf (by omega) (by omega)) | (apply ok_nf2 (by omega) (by omega))
  exact fun _ _ _ => rfl
theorem eq_A : fA_ = mm_rho := by
  funext k j
  by_cases h : k < 135 ∧ j < 24
  · exact (by decide +kernel : ∀ k, k < 135 → ∀ j, j < 24 → fA_ k j = mm_rho k j) k h.1 j h.2
  · rw [ok_A k j (by omega), ok_rho k j (by omega)]
theorem H_1 : mm_H.1 = 135 := rfl
theorem H_2 : mm_H.2 = mm_rho := rfl
theorem nM_nk {n k : Nat} {σ : mm_M} (h : k ≠ n) : (nM_ n σ).1 k = σ.1 k := if_neg h
theorem nM_eq {n j : Nat} {σ : mm_M} : (nM_ n σ).1 n j = nI 0 := by show (if n = n then fun _ => (0 : Int32) else σ.1 n) j = _; rw [if_pos rfl]; rfl
theorem nM2_nk {n N k : Nat} {σ : mm_M} (h : ¬ (n ≤ k ∧ k < n + 1 + N)) : (nM2_ n N σ).1 k = σ.1 k := if_neg h
theorem nM_l {n k : Nat} {σ : mm_M} (h : k ≠ n) : (nM_ n σ).2.1 k = σ.2.1 k := if_neg h
theorem nM2_l {n N k : Nat} {σ : mm_M} (h : ¬ (n ≤ k ∧ k < n + 1 + N)) : (nM2_ n N σ).2.1 k = σ.2.1 k := if_neg h
theorem nM_s {n : Nat} {σ : mm_M} : (nM_ n σ).2.2 = σ.2.2 := rfl
theorem nM2_s {n N : Nat} {σ : mm_M} : (nM2_ n N σ).2.2 = σ.2.2 := rfl
def p00_ : pp_ := (0, fun _ _ => 0)
theorem law_start (L : Nat) (xs : Nat → Int32) : ∃ S : mm_M, mm_run mL_law (0, fun _ _ => none) 0 [some (.ref 1000), none, none, none] [] (fun _ _ => 0, fun _ _ => 0, L, xs) = mm_run mL_law mm_H 18 [some (.ref 1000), some (.ref 0), some (.ref 120), some (.int (nI 0))] [] S ∧ IV S ∧ S.2.2 = (L, xs) := by
  let σ0 : mm_M := (fun _ _ => 0, fun _ _ => 0, L, xs)
  let σ1 : mm_M := S9_ (nM_ 120 (S8_ (nM_ 0 σ0)))
  let σ2 : mm_M := mm_si (mm_si σ1 121 46 (nI 1)) 121 47 (nI 2)
  have z0 : ∀ k j, σ0.1 k j = nI 0 := fun _ _ => rfl
  have l0 : ∀ k j, σ0.2.1 k j = 0 := fun _ _ => rfl
  have q120 : ∀ j, σ2.1 120 j = nI 0 := fun j => by
    simp (disch := omega) only [σ2, σ1, S9_, rd_nk, nM_nk, nM_eq]
  have q121 : ∀ k, k < 3 → σ2.1 121 (48 * 0 + 45 + k) = nI k := fun k hk => by
    have : k = 0 ∨ k = 1 ∨ k = 2 := by omega
    rcases this with h | h | h <;> subst h <;> simp (disch := omega) only [σ2, σ1, S9_, rd_nk, rd_nj, rd_eq, nM_nk, nM_eq, Nat.reduceMul, Nat.reduceAdd]
  have hw : wf_ p00_ := ⟨by decide, fun i hi => absurd hi (Nat.not_lt_zero _)⟩
  obtain ⟨σ3, e3, f3, _⟩ := x_findLabels (σ := σ2) (P := p00_) (lv := 0) (lb := fun k => nI k) hw (by omega) ⟨q120 0, fun i hi => absurd hi (Nat.not_lt_zero _)⟩ q121
  have e9 : mm_ev mX9_init [.ref 120] (121, nf_ 120 (F8_ (nf_ 0 (fun _ _ => none)))) (nM_ 120 (S8_ (nM_ 0 σ0))) = some (none, mm_H, σ3) := by
    rw [i9_a]
    have eA : ((135, F9_ (nf_ 120 (F8_ (nf_ 0 (fun _ _ => none))))) : mm_T) = mm_H := by
      show ((135, fA_) : mm_T) = mm_H
      rw [eq_A]; rfl
    rw [eA]
    have e3' := e3
    simp only [σ2, σ1] at e3'
    simp (disch := omega) only [vX9_init, rX9_init_115, rX9_init_116, rX9_init_119, rX9_init_121, rX9_init_122, rX9_init_123, rX9_init_124, rX9_init_127, rX9_init_129, rX9_init_130, rX9_init_131, rX9_init_132, rX9_init_133, rX9_init_136, mm_gd_t, mm_kc_v, mm_kc_n, mm_rfs, kl_n, kl_i, kl_r, kl_l, so_0, so_1, so_2, so_3, so_4, beq_self_eq_true, Bool.true_and, Bool.and_true, Bool.or_true, Bool.true_or, Bool.false_or, Bool.or_false, if_true, if_false, ↓reduceIte, decide_true, decide_false, Bool.not_false, Bool.not_true, not_true_eq_false, not_false_eq_true, eq_self, Nat.not_lt_zero, Bool.true_eq_false, Bool.false_eq_true, Nat.reduceAdd, Nat.reduceMul, Nat.reduceSub, Nat.reduceEqDiff, Nat.reduceLeDiff, Nat.reduceLT, Nat.reduceDiv, Nat.reduceMod, zb_0, zb_1, zb_b, on_nI, ml_l, rl_sl1, rl_sl2, rl_eq, rl_nj, rl_nk, qL_0, qL_1, qL_11, qL_10000, nI_lL, lN_add, lN_mul, Nat.zero_add, Nat.add_zero, mm_zr0n, mm_zr1n, mm_zrb, b2_0, b2_1, pk_mul, tn_nI, in_nI, mi_lt, rd_eq, rd_nj, rd_nk, rs_eq, rs_nk, rl_si, rl_sA, nI_add, nI_eqI, nI_leI2, nI_ltI2, ql_0, ql_1, ql_2, ql_3, ql_4, ql_5, ql_6, ql_7, ql_8, ql_9, ql_10, ql_11, ql_12, ql_13, ql_14, ql_15, ql_16, ql_17, ql_18, ql_19, ql_20, ql_24, ql_25, ql_26, ql_27, ql_31, ql_32, ql_33, ql_36, ql_45, ql_46, ql_47, ql_48, ql_49, ql_50, ql_57, ql_63, ql_64, ql_65, ql_66, ql_67, ql_68, ql_69, ql_70, ql_71, ql_72, ql_73, ql_74, ql_75, ql_76, ql_77, ql_78, ql_79, ql_80, ql_81, ql_82, ql_83, ql_84, ql_85, ql_86, ql_87, ql_93, ql_96, ql_97, ql_100, ql_101, ql_120, ql_255, ql_256, ql_257, ql_511, ql_672, ql_900, ql_1000, ql_65536, H_1, H_2, rho_120_1, rho_120_3, rho_120_5, rho_120_6, rho_120_10, rho_120_11, rho_120_12, rho_120_15, rho_120_17, rho_120_18, rho_120_19, rho_120_20, rho_120_22, rho_120_23, kd_120, kd_121, ir_121, iw_121, al_121, e3']
  refine ⟨σ3, ?_, ?_, ?_⟩
  · show mm_run mL_law (0, fun _ _ => none) 0 [some (.ref 1000), none, none, none] [] σ0 = _
    simp (disch := omega) only [vL_law, rL_law_0, rL_law_3, rL_law_4, rL_law_7, rL_law_8, rL_law_11, rL_law_12, rL_law_15, rL_law_16, rL_law_17, mm_gd_t, mm_kc_v, mm_kc_n, mm_rfs, kl_n, kl_i, kl_r, kl_l, so_0, so_1, so_2, so_3, so_4, beq_self_eq_true, Bool.true_and, Bool.and_true, Bool.or_true, Bool.true_or, Bool.false_or, Bool.or_false, if_true, if_false, ↓reduceIte, decide_true, decide_false, Bool.not_false, Bool.not_true, not_true_eq_false, not_false_eq_true, eq_self, Nat.not_lt_zero, Bool.true_eq_false, Bool.false_eq_true, Nat.reduceAdd, Nat.reduceMul, Nat.reduceSub, Nat.reduceEqDiff, Nat.reduceLeDiff, Nat.reduceLT, Nat.reduceDiv, Nat.reduceMod, zb_0, zb_1, zb_b, on_nI, ml_l, rl_sl1, rl_sl2, rl_eq, rl_nj, rl_nk, qL_0, qL_1, qL_11, qL_10000, nI_lL, lN_add, lN_mul, Nat.zero_add, Nat.add_zero, mm_zr0n, mm_zr1n, mm_zrb, b2_0, b2_1, pk_mul, tn_nI, in_nI, mi_lt, rd_eq, rd_nj, rd_nk, rs_eq, rs_nk, rl_si, rl_sA, nI_add, nI_eqI, nI_leI2, nI_ltI2, ql_0, ql_1, ql_2, ql_3, ql_4, ql_5, ql_6, ql_7, ql_8, ql_9, ql_10, ql_11, ql_12, ql_13, ql_14, ql_15, ql_16, ql_17, ql_18, ql_19, ql_20, ql_24, ql_25, ql_26, ql_27, ql_31, ql_32, ql_33, ql_36, ql_45, ql_46, ql_47, ql_48, ql_49, ql_50, ql_57, ql_63, ql_64, ql_65, ql_66, ql_67, ql_68, ql_69, ql_70, ql_71, ql_72, ql_73, ql_74, ql_75, ql_76, ql_77, ql_78, ql_79, ql_80, ql_81, ql_82, ql_83, ql_84, ql_85, ql_86, ql_87, ql_93, ql_96, ql_97, ql_100, ql_101, ql_120, ql_255, ql_256, ql_257, ql_511, ql_672, ql_900, ql_1000, ql_65536, nT_p, nM_p, kt_0, kt_120, i8_0, e9]
  · have oth : ∀ k j, k < 120 ∨ k = 121 ∨ 125 ≤ k → σ3.1 k j = σ2.1 k j := fun k j hk => f3.1 k j (by omega)
    have o120 : ∀ j, j ≠ 7 → σ3.1 120 j = nI 0 := fun j hj => by rw [f3.1 120 j (by omega)]; exact q120 j
    have z : ∀ k j, (k = 1 ∨ k = 15 ∨ k = 27 ∨ k = 54 ∨ k = 87) → j = 0 → σ2.1 k j = nI 0 := fun k j hk hj => by
      subst hj
      rcases hk with h | h | h | h | h <;> subst h <;> simp (disch := omega) only [σ2, σ1, S9_, S8_, S7_, S4_, S1_, S2_, S3_, S5_, S6_, rd_nk, rd_nj, rd_eq, nM_nk, nM_eq, nM2_nk, rl_sl1]
    have z54 : σ2.1 54 1 = nI 0 := by simp (disch := omega) only [σ2, σ1, S9_, S8_, S7_, S4_, S1_, S2_, S3_, S5_, S6_, rd_nk, rd_nj, rd_eq, nM_nk, nM_eq, nM2_nk, rl_sl1]
    have z133 : ∀ j, σ2.1 133 j = nI 0 := fun j => by simp (disch := omega) only [σ2, σ1, S9_, rd_nk, nM_nk, nM_eq]
    have z26 : ∀ k, k < 3 → σ2.1 26 k = nI k := fun k hk => by
      have : k = 0 ∨ k = 1 ∨ k = 2 := by omega
      rcases this with h | h | h <;> subst h <;> simp (disch := omega) only [σ2, σ1, S9_, S8_, S7_, S4_, S1_, S2_, S3_, S5_, S6_, rd_nk, rd_nj, rd_eq, nM_nk, nM_eq, nM2_nk, rl_sl1]
    refine ⟨0, fun _ => 0, p00_, fun k => nI k, 0, fun _ _ => 0, 0, ⟨⟨by omega, ?_, fun j hj => absurd hj (Nat.not_lt_zero _), fun _ => (by decide : 0 < 256)⟩, ⟨by omega, o120 4 (by omega), fun j hj => absurd hj (Nat.not_lt_zero _), fun _ => (by decide : 0 < 256)⟩⟩, ⟨hw, ⟨?_, fun i hi => absurd hi (Nat.not_lt_zero _)⟩, ⟨o120 0 (by omega), fun i hi => absurd hi (Nat.not_lt_zero _)⟩, fun k hk => ?_, fun k hk => ?_⟩, ⟨⟨by omega, fun k hk => absurd hk (Nat.not_lt_zero _), ?_, fun k hk => absurd hk (Nat.not_lt_zero _)⟩, ⟨by omega, fun k hk => absurd hk (Nat.not_lt_zero _), o120 16 (by omega), fun k hk => absurd hk (Nat.not_lt_zero _)⟩⟩, ?_, fun t ht => ⟨false, ?_, ?_, fun hb => by cases hb⟩, ⟨by omega, ?_, o120 8 (by omega), 0, fun _ => (p00_, fun k => nI k), by omega, o120 9 (by omega), rfl, fun _ _ => rfl, fun _ _ => rfl, fun j hj => absurd hj (Nat.not_lt_zero _)⟩⟩
    · rw [oth 1 0 (by omega)]; exact z 1 0 (by omega) rfl
    · rw [oth 15 0 (by omega)]; exact z 15 0 (by omega) rfl
    · rw [oth 26 k (by omega)]; exact z26 k hk
    · rw [oth 121 _ (by omega)]
      have := q121 k hk
      rwa [show 48 * 0 + 45 + k = 45 + k by omega] at this
    · rw [oth 87 0 (by omega)]; exact z 87 0 (by omega) rfl
    · show σ3.2.1 0 13 = σ3.2.1 120 21
      rw [f3.2]
      rfl
    · rw [oth 54 t (by omega)]
      have : t = 0 ∨ t = 1 := by omega
      rcases this with h | h <;> subst h
      · exact z 54 0 (by omega) rfl
      · exact z54
    · rw [oth 133 t (by omega)]; exact z133 t
    · rw [oth 27 0 (by omega)]; exact z 27 0 (by omega) rfl
  · rw [f3.2]; rfl


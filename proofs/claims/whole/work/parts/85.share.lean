/-! ===== share ===== -/
/-- a but not b -/
theorem an_e {a b : Nat} (ha : a < 1024) : nI a &&& (nI b ^^^ -nI 1) = nI (bm_ (fun j => a.testBit j && !b.testBit j) 10) := by
  apply Int32.toBitVec_inj.1
  show BitVec.ofNat 32 a &&& (BitVec.ofNat 32 b ^^^ (-nI 1).toBitVec) = BitVec.ofNat 32 _
  rw [show (-nI 1).toBitVec = BitVec.allOnes 32 from by decide]
  apply BitVec.eq_of_getLsbD_eq
  intro i hi
  simp only [BitVec.getLsbD_and, BitVec.getLsbD_xor, BitVec.getLsbD_ofNat, BitVec.getLsbD_allOnes, bm_bit, hi, decide_true, Bool.true_and]
  by_cases h10 : i < 10
  · rw [decide_eq_true h10]; simp
  · have : a.testBit i = false := Nat.testBit_lt_two_pow (Nat.lt_of_lt_of_le ha (by
      have : 2 ^ 10 ≤ 2 ^ i := Nat.pow_le_pow_right (by decide) (by omega)
      omega))
    rw [this]; simp
/-- a set within others -/
def su_ (s t : Nat) : Bool := decide (s &&& t = s)
theorem su_iff {s t : Nat} : su_ s t = true ↔ ∀ j, s.testBit j = true → t.testBit j = true := by
  unfold su_
  rw [decide_eq_true_eq]
  constructor
  · intro h j hj
    have := congrArg (fun x => x.testBit j) h
    simp only [Nat.testBit_and, hj, Bool.true_and] at this
    exact this
  · intro h
    apply Nat.eq_of_testBit_eq
    intro j
    rw [Nat.testBit_and]
    cases hj : s.testBit j
    · rfl
    · rw [h j hj]; rfl
theorem su_le {s t : Nat} (h : su_ s t = true) : s ≤ t := by
  unfold su_ at h
  rw [decide_eq_true_eq] at h
  rw [← h]
  exact Nat.and_le_right
/-- the lines O but one -/
def ot_ (P : pp_) (l : Nat) : Nat := bm_ (fun j => kb_ P 5 j && decide (j ≠ l)) 9
theorem ot_e {P : pp_} {l : Nat} (hl : l < 9) : nI (bm_ (kb_ P 5) 9) &&& (nI (2 ^ l) ^^^ -nI 1) = nI (ot_ P l) := by
  have b9 := bm_9 (kb_ P 5)
  rw [an_e (by omega)]
  congr 1
  unfold ot_
  apply Nat.eq_of_testBit_eq
  intro m
  rw [bm_bit, bm_bit, bm_bit, Nat.testBit_two_pow]
  by_cases h : m < 9
  · rw [decide_eq_true h, decide_eq_true (show m < 10 by omega)]
    by_cases hm : m = l
    · subst hm; simp
    · rw [decide_eq_false (show ¬ l = m by omega), decide_eq_true hm]; simp
  · rw [decide_eq_false h]; simp
theorem fac_tab : ∀ k, k < 6 → mm_x2 k = nI ([1, 1, 2, 6, 24, 120].getD k 0) := by decide
def fk_ (k : Nat) : Nat := ([1, 1, 2, 6, 24, 120] : List Nat).getD k 0
theorem fk_le : ∀ k, k < 6 → fk_ k ≤ 120 ∧ 0 < fk_ k := by decide
theorem mi_1002 {σ : mm_M} {k : Nat} (hk : k < 6) : mm_i σ 1002 k = nI (fk_ k) := by
  show mm_x2 k = _
  exact fac_tab k hk
/-- one set's part; all together -/
def sg_ (P : pp_) (l a s : Nat) : Int32 := if su_ s (ot_ P l) = true then nI (fk_ (pc_ s 9) * fk_ (pc_ (ot_ P l) 9 - pc_ s 9)) * (nI (dc_ (fF_ P (s ||| 2 ^ l) a) 100) - nI (dc_ (fF_ P s a) 100)) else nI 0
def sm_ (g : Nat → Int32) : Nat → Int32
  | 0 => nI 0
  | n + 1 => sm_ g n + g n
theorem ad_n0 (x : Int32) : x + nI 0 = x := Int32.add_zero x
theorem sm_tail {g : Nat → Int32} {n : Nat} (h : ∀ s, n ≤ s → g s = nI 0) : ∀ d, sm_ g (n + d) = sm_ g n
  | 0 => rfl
  | d + 1 => by
    show sm_ g (n + d) + g (n + d) = _
    rw [sm_tail h d, h (n + d) (by omega), ad_n0]
/-- fewer ones in a part of it -/
theorem pc_su {s t : Nat} (h : su_ s t = true) : ∀ k, pc_ s k ≤ pc_ t k
  | 0 => Nat.le_refl _
  | k + 1 => by
    have ih := pc_su h k
    have := su_iff.1 h k
    unfold pc_
    cases hs : s.testBit k
    · rw [b2_f]; omega
    · rw [this hs]; omega
theorem s_gainL {P : pp_} {l a : Nat} (hP : wf_ P) (hl : l < 9) (ha : a ≤ 9) (hm : pc_ (ot_ P l) 9 < 6) {x1 : Int32} : ∀ (d s : Nat) (σ : mm_M) (x8 x9 : Option Value), s + d = ot_ P l + 1 → vo_ 85 P a 100 σ →
    ∃ σ', mm_run mX8_gainInAllOrders mm_H 45 [some (.ref 0), some (.int x1), some (.int (nI l)), some (.int (nI a)), some (.int (nI (ot_ P l))), some (.int (nI (pc_ (ot_ P l) 9))), some (.int (sm_ (sg_ P l a) s)), some (.int (nI s)), x8, x9] [] σ = some (some (.int (sm_ (sg_ P l a) (ot_ P l + 1))), mm_H, σ') ∧ fr_ 80 87 σ σ'
  | 0, s, σ, x8, x9, h, hv => by
    have b9 : ot_ P l < 512 := bm_9 _
    refine ⟨σ, ?_, fr_refl _ _ _⟩
    have hs : s = ot_ P l + 1 := by omega
    subst hs
    have g : ot_ P l < ot_ P l + 1 := by omega
    have g2 : ¬ ot_ P l + 1 ≤ ot_ P l := by omega
    rw [rX8_gainInAllOrders_45]
    simp (disch := omega) only [vX8_gainInAllOrders, rX8_gainInAllOrders_47, rX8_gainInAllOrders_49, rX8_gainInAllOrders_52, rX8_gainInAllOrders_54, rX8_gainInAllOrders_56, rX8_gainInAllOrders_57, rX8_gainInAllOrders_59, rX8_gainInAllOrders_62, rX8_gainInAllOrders_64, rX8_gainInAllOrders_67, rX8_gainInAllOrders_69, rX8_gainInAllOrders_72, rX8_gainInAllOrders_74, rX8_gainInAllOrders_75, rX8_gainInAllOrders_78, rX8_gainInAllOrders_80, rX8_gainInAllOrders_82, rX8_gainInAllOrders_83, rX8_gainInAllOrders_84, rX8_gainInAllOrders_85, rX8_gainInAllOrders_87, rX8_gainInAllOrders_89, rX8_gainInAllOrders_91, rX8_gainInAllOrders_92, rX8_gainInAllOrders_95, rX8_gainInAllOrders_97, rX8_gainInAllOrders_98, rX8_gainInAllOrders_99, rX8_gainInAllOrders_100, rX8_gainInAllOrders_101, rX8_gainInAllOrders_104, rX8_gainInAllOrders_105, rX8_gainInAllOrders_108, rX8_gainInAllOrders_110, rX8_gainInAllOrders_113, rX8_gainInAllOrders_114, rX8_gainInAllOrders_115, rX8_gainInAllOrders_116, rX8_gainInAllOrders_118, rX8_gainInAllOrders_121, rX8_gainInAllOrders_124, rX8_gainInAllOrders_126, mm_gd_t, mm_kc_v, mm_kc_n, mm_rfs, kl_n, kl_i, kl_r, kl_l, so_0, so_1, so_2, so_3, so_4, beq_self_eq_true, Bool.true_and, Bool.and_true, Bool.or_true, Bool.true_or, Bool.false_or, Bool.or_false, if_true, if_false, ↓reduceIte, decide_true, decide_false, Bool.not_false, Bool.not_true, not_true_eq_false, not_false_eq_true, eq_self, Nat.not_lt_zero, Bool.true_eq_false, Bool.false_eq_true, Nat.reduceAdd, Nat.reduceMul, Nat.reduceSub, Nat.reduceEqDiff, Nat.reduceLeDiff, Nat.reduceLT, Nat.reduceDiv, Nat.reduceMod, zb_0, zb_1, zb_b, on_nI, ml_l, rl_sl1, rl_sl2, rl_eq, rl_nj, rl_nk, qL_0, qL_1, qL_11, qL_10000, nI_lL, lN_add, lN_mul, Nat.zero_add, Nat.add_zero, mm_zr0n, mm_zr1n, mm_zrb, b2_0, b2_1, pk_mul, tn_nI, in_nI, mi_lt, rd_eq, rd_nj, rd_nk, rs_eq, rs_nk, rl_si, rl_sA, nI_add, nI_eqI, nI_leI2, nI_ltI2, ql_0, ql_1, ql_2, ql_3, ql_4, ql_5, ql_6, ql_7, ql_8, ql_9, ql_10, ql_11, ql_12, ql_13, ql_14, ql_15, ql_16, ql_17, ql_18, ql_19, ql_20, ql_24, ql_25, ql_26, ql_27, ql_31, ql_32, ql_33, ql_36, ql_45, ql_46, ql_47, ql_48, ql_49, ql_50, ql_57, ql_63, ql_64, ql_65, ql_66, ql_67, ql_68, ql_69, ql_70, ql_71, ql_72, ql_73, ql_74, ql_75, ql_76, ql_77, ql_78, ql_79, ql_80, ql_81, ql_82, ql_83, ql_84, ql_85, ql_86, ql_87, ql_93, ql_96, ql_97, ql_100, ql_101, ql_120, ql_255, ql_256, ql_257, ql_511, ql_672, ql_900, ql_1000, ql_65536, g, g2]
  | d + 1, s, σ, x8, x9, h, hv => by
    have b9 : ot_ P l < 512 := bm_9 _
    have g : ¬ ot_ P l < s := by omega
    have g2 : s ≤ ot_ P l := by omega
    have hu : sm_ (sg_ P l a) (s + 1) = sm_ (sg_ P l a) s + sg_ P l a s := rfl
    have hp2 : 2 ^ l < 512 := Nat.pow_lt_pow_right (show 1 < 2 by decide) (by omega : l < 9)
    cases hc : su_ s (ot_ P l)
    · obtain ⟨σ', e, f'⟩ := s_gainL hP hl ha hm (x1 := x1) d (s + 1) σ x8 x9 (by omega) hv
      refine ⟨σ', ?_, f'⟩
      have hsg : sg_ P l a s = nI 0 := by unfold sg_; rw [hc, if_neg (by decide)]
      rw [hu, hsg, ad_n0] at e
      have hne : ¬ (s &&& ot_ P l) = s := by unfold su_ at hc; simpa using hc
      have hal : (s &&& ot_ P l) < 512 := Nat.lt_of_le_of_lt Nat.and_le_left (by omega)
      rw [rX8_gainInAllOrders_45]
      simp (disch := omega) only [vX8_gainInAllOrders, rX8_gainInAllOrders_47, rX8_gainInAllOrders_49, rX8_gainInAllOrders_52, rX8_gainInAllOrders_54, rX8_gainInAllOrders_56, rX8_gainInAllOrders_57, rX8_gainInAllOrders_59, rX8_gainInAllOrders_62, rX8_gainInAllOrders_64, rX8_gainInAllOrders_67, rX8_gainInAllOrders_69, rX8_gainInAllOrders_72, rX8_gainInAllOrders_74, rX8_gainInAllOrders_75, rX8_gainInAllOrders_78, rX8_gainInAllOrders_80, rX8_gainInAllOrders_82, rX8_gainInAllOrders_83, rX8_gainInAllOrders_84, rX8_gainInAllOrders_85, rX8_gainInAllOrders_87, rX8_gainInAllOrders_89, rX8_gainInAllOrders_91, rX8_gainInAllOrders_92, rX8_gainInAllOrders_95, rX8_gainInAllOrders_97, rX8_gainInAllOrders_98, rX8_gainInAllOrders_99, rX8_gainInAllOrders_100, rX8_gainInAllOrders_101, rX8_gainInAllOrders_104, rX8_gainInAllOrders_105, rX8_gainInAllOrders_108, rX8_gainInAllOrders_110, rX8_gainInAllOrders_113, rX8_gainInAllOrders_114, rX8_gainInAllOrders_115, rX8_gainInAllOrders_116, rX8_gainInAllOrders_118, rX8_gainInAllOrders_121, rX8_gainInAllOrders_124, rX8_gainInAllOrders_126, mm_gd_t, mm_kc_v, mm_kc_n, mm_rfs, kl_n, kl_i, kl_r, kl_l, so_0, so_1, so_2, so_3, so_4, beq_self_eq_true, Bool.true_and, Bool.and_true, Bool.or_true, Bool.true_or, Bool.false_or, Bool.or_false, if_true, if_false, ↓reduceIte, decide_true, decide_false, Bool.not_false, Bool.not_true, not_true_eq_false, not_false_eq_true, eq_self, Nat.not_lt_zero, Bool.true_eq_false, Bool.false_eq_true, Nat.reduceAdd, Nat.reduceMul, Nat.reduceSub, Nat.reduceEqDiff, Nat.reduceLeDiff, Nat.reduceLT, Nat.reduceDiv, Nat.reduceMod, zb_0, zb_1, zb_b, on_nI, ml_l, rl_sl1, rl_sl2, rl_eq, rl_nj, rl_nk, qL_0, qL_1, qL_11, qL_10000, nI_lL, lN_add, lN_mul, Nat.zero_add, Nat.add_zero, mm_zr0n, mm_zr1n, mm_zrb, b2_0, b2_1, pk_mul, tn_nI, in_nI, mi_lt, rd_eq, rd_nj, rd_nk, rs_eq, rs_nk, rl_si, rl_sA, nI_add, nI_eqI, nI_leI2, nI_ltI2, ql_0, ql_1, ql_2, ql_3, ql_4, ql_5, ql_6, ql_7, ql_8, ql_9, ql_10, ql_11, ql_12, ql_13, ql_14, ql_15, ql_16, ql_17, ql_18, ql_19, ql_20, ql_24, ql_25, ql_26, ql_27, ql_31, ql_32, ql_33, ql_36, ql_45, ql_46, ql_47, ql_48, ql_49, ql_50, ql_57, ql_63, ql_64, ql_65, ql_66, ql_67, ql_68, ql_69, ql_70, ql_71, ql_72, ql_73, ql_74, ql_75, ql_76, ql_77, ql_78, ql_79, ql_80, ql_81, ql_82, ql_83, ql_84, ql_85, ql_86, ql_87, ql_93, ql_96, ql_97, ql_100, ql_101, ql_120, ql_255, ql_256, ql_257, ql_511, ql_672, ql_900, ql_1000, ql_65536, g, g2, fa_and, hne, e]
    · have hle := pc_su hc 9
      have f1 := fk_le (pc_ s 9) (by omega)
      have f2 := fk_le (pc_ (ot_ P l) 9 - pc_ s 9) (by omega)
      have eB := fun σ : mm_M => s_bitCount (σ := σ) (show s < 512 by omega)
      have hor : s ||| 2 ^ l < 512 := Nat.or_lt_two_pow (n := 9) (by omega) hp2
      obtain ⟨σ1, e1, f1'⟩ := s_unlikeRows (s := s ||| 2 ^ l) lb_80 hP ha (by omega) hv
      have v1 := vo_fr hv f1' (show 85 < 80 + 6 ∨ 80 + 7 ≤ 85 by omega)
      obtain ⟨σ2, e2, f2'⟩ := s_unlikeRows (s := s) lb_80 hP ha (by omega) v1
      have v2 := vo_fr v1 f2' (show 85 < 80 + 6 ∨ 80 + 7 ≤ 85 by omega)
      obtain ⟨σ', e, f'⟩ := s_gainL hP hl ha hm (x1 := x1) d (s + 1) σ2 (some (.int (nI (pc_ s 9)))) (some (.int (nI (fk_ (pc_ s 9) * fk_ (pc_ (ot_ P l) 9 - pc_ s 9))))) (by omega) v2
      refine ⟨σ', ?_, fr_tr (fr_wd f1' (by omega) (by omega)) (fr_tr (fr_wd f2' (by omega) (by omega)) f')⟩
      have hsg : sg_ P l a s = nI (fk_ (pc_ s 9) * fk_ (pc_ (ot_ P l) 9 - pc_ s 9)) * (nI (dc_ (fF_ P (s ||| 2 ^ l) a) 100) - nI (dc_ (fF_ P s a) 100)) := by unfold sg_; rw [hc, if_pos rfl]
      rw [hu, hsg] at e
      have hne : (s &&& ot_ P l) = s := by unfold su_ at hc; simpa using hc
      have hand : nI s &&& nI (ot_ P l) = nI s := by rw [fa_and, hne]
      generalize dc_ (fF_ P (s ||| 2 ^ l) a) 100 = D1 at *
      generalize dc_ (fF_ P s a) 100 = D2 at *
      have hi1 := fun (σ : mm_M) => mi_1002 (σ := σ) (show pc_ s 9 < 6 by omega)
      have hi2 := fun (σ : mm_M) => mi_1002 (σ := σ) (show pc_ (ot_ P l) 9 - pc_ s 9 < 6 by omega)
      rw [rX8_gainInAllOrders_45]
      simp (disch := omega) only [vX8_gainInAllOrders, rX8_gainInAllOrders_47, rX8_gainInAllOrders_49, rX8_gainInAllOrders_52, rX8_gainInAllOrders_54, rX8_gainInAllOrders_56, rX8_gainInAllOrders_57, rX8_gainInAllOrders_59, rX8_gainInAllOrders_62, rX8_gainInAllOrders_64, rX8_gainInAllOrders_67, rX8_gainInAllOrders_69, rX8_gainInAllOrders_72, rX8_gainInAllOrders_74, rX8_gainInAllOrders_75, rX8_gainInAllOrders_78, rX8_gainInAllOrders_80, rX8_gainInAllOrders_82, rX8_gainInAllOrders_83, rX8_gainInAllOrders_84, rX8_gainInAllOrders_85, rX8_gainInAllOrders_87, rX8_gainInAllOrders_89, rX8_gainInAllOrders_91, rX8_gainInAllOrders_92, rX8_gainInAllOrders_95, rX8_gainInAllOrders_97, rX8_gainInAllOrders_98, rX8_gainInAllOrders_99, rX8_gainInAllOrders_100, rX8_gainInAllOrders_101, rX8_gainInAllOrders_104, rX8_gainInAllOrders_105, rX8_gainInAllOrders_108, rX8_gainInAllOrders_110, rX8_gainInAllOrders_113, rX8_gainInAllOrders_114, rX8_gainInAllOrders_115, rX8_gainInAllOrders_116, rX8_gainInAllOrders_118, rX8_gainInAllOrders_121, rX8_gainInAllOrders_124, rX8_gainInAllOrders_126, mm_gd_t, mm_kc_v, mm_kc_n, mm_rfs, kl_n, kl_i, kl_r, kl_l, so_0, so_1, so_2, so_3, so_4, beq_self_eq_true, Bool.true_and, Bool.and_true, Bool.or_true, Bool.true_or, Bool.false_or, Bool.or_false, if_true, if_false, ↓reduceIte, decide_true, decide_false, Bool.not_false, Bool.not_true, not_true_eq_false, not_false_eq_true, eq_self, Nat.not_lt_zero, Bool.true_eq_false, Bool.false_eq_true, Nat.reduceAdd, Nat.reduceMul, Nat.reduceSub, Nat.reduceEqDiff, Nat.reduceLeDiff, Nat.reduceLT, Nat.reduceDiv, Nat.reduceMod, zb_0, zb_1, zb_b, on_nI, ml_l, rl_sl1, rl_sl2, rl_eq, rl_nj, rl_nk, qL_0, qL_1, qL_11, qL_10000, nI_lL, lN_add, lN_mul, Nat.zero_add, Nat.add_zero, mm_zr0n, mm_zr1n, mm_zrb, b2_0, b2_1, pk_mul, tn_nI, in_nI, mi_lt, rd_eq, rd_nj, rd_nk, rs_eq, rs_nk, rl_si, rl_sA, nI_add, nI_eqI, nI_leI2, nI_ltI2, ql_0, ql_1, ql_2, ql_3, ql_4, ql_5, ql_6, ql_7, ql_8, ql_9, ql_10, ql_11, ql_12, ql_13, ql_14, ql_15, ql_16, ql_17, ql_18, ql_19, ql_20, ql_24, ql_25, ql_26, ql_27, ql_31, ql_32, ql_33, ql_36, ql_45, ql_46, ql_47, ql_48, ql_49, ql_50, ql_57, ql_63, ql_64, ql_65, ql_66, ql_67, ql_68, ql_69, ql_70, ql_71, ql_72, ql_73, ql_74, ql_75, ql_76, ql_77, ql_78, ql_79, ql_80, ql_81, ql_82, ql_83, ql_84, ql_85, ql_86, ql_87, ql_93, ql_96, ql_97, ql_100, ql_101, ql_120, ql_255, ql_256, ql_257, ql_511, ql_672, ql_900, ql_1000, ql_65536, rho_0_0, rho_0_1, rho_0_2, rho_0_3, rho_0_4, rho_0_5, rho_0_6, rho_0_7, rho_0_8, rho_0_9, rho_0_10, rho_0_11, rho_0_12, rho_80_0, rho_80_1, rho_80_2, kd_0, kd_80, ir_1002, al_1002, g, g2, hand, eB, hi1, hi2, pk_sub, shl_nI, fa_or, e1, e2, e]

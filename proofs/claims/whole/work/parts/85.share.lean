/-! ===== share ===== -/
/-- a but not b -/
theorem an_e {a b : Nat} (ha : a < 1024) : nI a &&& (nI b ^^^ -nI 1) = nI (bm_ (fun j => a.testBit j && !b.testBit j) 10) := by
  apply Int32.toBitVec_inj.1
  show BitVec.ofNat 32 a &&& (BitVec.ofNat 32 b ^^^ (-nI 1).toBitVec) = BitVec.ofNat 32 _
  rw [show (-nI 1).toBitVec = BitVec.allOnes 32 from by decide]
  apply BitVec.eq_of_getLsbD_eq
  intro i hi
  simp only [BitVec.getLsbD_and, BitVec.getLsbD_xor, BitVec.getLsbD_ofNat, BitVec.getLsbD_allOnes, bm_bit, hi, decide_true, Bool.true_and]
  by_cases h10 : i < 10
  · rw [decide_eq_true h10]; simp
  · have : a.testBit i = false := Nat.testBit_lt_two_pow (Nat.lt_of_lt_of_le ha (by
      have : 2 ^ 10 ≤ 2 ^ i := Nat.pow_le_pow_right (by decide) (by omega)
      omega))
    rw [this]; simp
/-- a set within others -/
def su_ (s t : Nat) : Bool := decide (s &&& t = s)
theorem su_iff {s t : Nat} : su_ s t = true ↔ ∀ j, s.testBit j = true → t.testBit j = true := by
  unfold su_
  rw [decide_eq_true_eq]
  constructor
  · intro h j hj
    have := congrArg (fun x => x.testBit j) h
    simp only [Nat.testBit_and, hj, Bool.true_and] at this
    exact this
  · intro h
    apply Nat.eq_of_testBit_eq
    intro j
    rw [Nat.testBit_and]
    cases hj : s.testBit j
    · rfl
    · rw [h j hj]; rfl
theorem su_le {s t : Nat} (h : su_ s t = true) : s ≤ t := by
  unfold su_ at h
  rw [decide_eq_true_eq] at h
  rw [← h]
  exact Nat.and_le_right
/-- the lines O but one -/
def ot_ (P : pp_) (l : Nat) : Nat := bm_ (fun j => kb_ P 5 j && decide (j ≠ l)) 9
theorem ot_e {P : pp_} {l : Nat} (hl : l < 9) : nI (bm_ (kb_ P 5) 9) &&& (nI (2 ^ l) ^^^ -nI 1) = nI (ot_ P l) := by
  have b9 := bm_9 (kb_ P 5)
  rw [an_e (by omega)]
  congr 1
  unfold ot_
  apply Nat.eq_of_testBit_eq
  intro m
  rw [bm_bit, bm_bit, bm_bit, Nat.testBit_two_pow]
  by_cases h : m < 9
  · rw [decide_eq_true h, decide_eq_true (show m < 10 by omega)]
    by_cases hm : m = l
    · subst hm; simp
    · rw [decide_eq_false (show ¬ l = m by omega), decide_eq_true hm]; simp
  · rw [decide_eq_false h]; simp
theorem fac_tab : ∀ k, k < 6 → mm_x2 k = nI ([1, 1, 2, 6, 24, 120].getD k 0) := by decide
def fk_ (k : Nat) : Nat := ([1, 1, 2, 6, 24, 120] : List Nat).getD k 0
theorem fk_le : ∀ k, k < 6 → fk_ k ≤ 120 ∧ 0 < fk_ k := by decide
theorem mi_1002 {σ : mm_M} {k : Nat} (hk : k < 6) : mm_i σ 1002 k = nI (fk_ k) := by
  show mm_x2 k = _
  exact fac_tab k hk
/-- one set's part; all together -/
def sg_ (P : pp_) (l a s : Nat) : Int32 := if su_ s (ot_ P l) = true then nI (fk_ (pc_ s 9) * fk_ (pc_ (ot_ P l) 9 - pc_ s 9)) * (nI (dc_ (fF_ P (s ||| 2 ^ l) a) 100) - nI (dc_ (fF_ P s a) 100)) else nI 0
def sm_ (g : Nat → Int32) : Nat → Int32
  | 0 => nI 0
  | n + 1 => sm_ g n + g n
theorem ad_n0 (x : Int32) : x + nI 0 = x := Int32.add_zero x
theorem sm_tail {g : Nat → Int32} {n : Nat} (h : ∀ s, n ≤ s → g s = nI 0) : ∀ d, sm_ g (n + d) = sm_ g n
  | 0 => rfl
  | d + 1 => by
    show sm_ g (n + d) + g (n + d) = _
    rw [sm_tail h d, h (n + d) (by omega), ad_n0]
/-- fewer ones in a part of it -/
theorem pc_su {s t : Nat} (h : su_ s t = true) : ∀ k, pc_ s k ≤ pc_ t k
  | 0 => Nat.le_refl _
  | k + 1 => by
    have ih := pc_su h k
    have := su_iff.1 h k
    unfold pc_
    cases hs : s.testBit k
    · rw [b2_f]; omega
    · rw [this hs]; omega
theorem s_gainL {P : pp_} {l a : Nat} (hP : wf_ P) (hl : l < 9) (ha : a ≤ 9) (hm : pc_ (ot_ P l) 9 < 6) {x1 : Int32} : ∀ (d s : Nat) (σ : mm_M) (x8 x9 : Option Value), s + d = ot_ P l + 1 → vo_ 85 P a 100 σ →
    ∃ σ', mm_run mX8_gainInAllOrders mm_H 45 [some (.ref 0), some (.int x1), some (.int (nI l)), some (.int (nI a)), some (.int (nI (ot_ P l))), some (.int (nI (pc_ (ot_ P l) 9))), some (.int (sm_ (sg_ P l a) s)), some (.int (nI s)), x8, x9] [] σ = some (some (.int (sm_ (sg_ P l a) (ot_ P l + 1))), mm_H, σ') ∧ fr_ 80 87 σ σ'
  | 0, s, σ, x8, x9, h, hv => by
    have b9 : ot_ P l < 512 := bm_9 _
    refine ⟨σ, ?_, fr_refl _ _ _⟩
    have hs : s = ot_ P l + 1 := by omega
    subst hs
    have g : ot_ P l < ot_ P l + 1 := by omega
    have g2 : ¬ ot_ P l + 1 ≤ ot_ P l := by omega
    rw [rX8_gainInAllOrders_45]
    simp (disch := omega) only [vX8_gainInAllOrders, rX8_gainInAllOrders_47, rX8_gainInAllOrders_49, rX8_gainInAllOrders_52, rX8_gainInAllOrders_54, rX8_gainInAllOrders_56, rX8_gainInAllOrders_57, rX8_gainInAllOrders_59, rX8_gainInAllOrders_62, rX8_gainInAllOrders_64, rX8_gainInAllOrders_67, rX8_gainInAllOrders_69, rX8_gainInAllOrders_72, rX8_gainInAllOrders_74, rX8_gainInAllOrders_75, rX8_gainInAllOrders_78, rX8_gainInAllOrders_80, rX8_gainInAllOrders_82, rX8_gainInAllOrders_83, rX8_gainInAllOrders_84, rX8_gainInAllOrders_85, rX8_gainInAllOrders_87, rX8_gainInAllOrders_89, rX8_gainInAllOrders_91, rX8_gainInAllOrders_92, rX8_gainInAllOrders_95, rX8_gainInAllOrders_97, rX8_gainInAllOrders_98, rX8_gainInAllOrders_99, rX8_gainInAllOrders_100, rX8_gainInAllOrders_101, rX8_gainInAllOrders_104, rX8_gainInAllOrders_105, rX8_gainInAllOrders_108, rX8_gainInAllOrders_110, rX8_gainInAllOrders_113, rX8_gainInAllOrders_114, rX8_gainInAllOrders_115, rX8_gainInAllOrders_116, rX8_gainInAllOrders_118, rX8_gainInAllOrders_121, rX8_gainInAllOrders_124, rX8_gainInAllOrders_126, mm_gd_t, mm_kc_v, mm_kc_n, mm_rfs, kl_n, kl_i, kl_r, kl_l, so_0, so_1, so_2, so_3, so_4, beq_self_eq_true, Bool.true_and, Bool.and_true, Bool.or_true, Bool.true_or, Bool.false_or, Bool.or_false, if_true, if_false, ↓reduceIte, decide_true, decide_false, Bool.not_false, Bool.not_true, not_true_eq_false, not_false_eq_true, eq_self, Nat.not_lt_zero, Bool.true_eq_false, Bool.false_eq_true, Nat.reduceAdd, Nat.reduceMul, Nat.reduceSub, Nat.reduceEqDiff, Nat.reduceLeDiff, Nat.reduceLT, Nat.reduceDiv, Nat.reduceMod, zb_0, zb_1, zb_b, on_nI, ml_l, rl_sl1, rl_sl2, rl_eq, rl_nj, rl_nk, qL_0, qL_1, qL_11, qL_10000, nI_lL, lN_add, lN_mul, Nat.zero_add, Nat.add_zero, mm_zr0n, mm_zr1n, mm_zrb, b2_0, b2_1, pk_mul, tn_nI, in_nI, mi_lt, rd_eq, rd_nj, rd_nk, rs_eq, rs_nk, rl_si, rl_sA, nI_add, nI_eqI, nI_leI2, nI_ltI2, ql_0, ql_1, ql_2, ql_3, ql_4, ql_5, ql_6, ql_7, ql_8, ql_9, ql_10, ql_11, ql_12, ql_13, ql_14, ql_15, ql_16, ql_17, ql_18, ql_19, ql_20, ql_24, ql_25, ql_26, ql_27, ql_31, ql_32, ql_33, ql_36, ql_45, ql_46, ql_47, ql_48, ql_49, ql_50, ql_57, ql_63, ql_64, ql_65, ql_66, ql_67, ql_68, ql_69, ql_70, ql_71, ql_72, ql_73, ql_74, ql_75, ql_76, ql_77, ql_78, ql_79, ql_80, ql_81, ql_82, ql_83, ql_84, ql_85, ql_86, ql_87, ql_93, ql_96, ql_97, ql_100, ql_101, ql_120, ql_255, ql_256, ql_257, ql_511, ql_672, ql_900, ql_1000, ql_65536, g, g2]
  | d + 1, s, σ, x8, x9, h, hv => by
    have b9 : ot_ P l < 512 := bm_9 _
    have g : ¬ ot_ P l < s := by omega
    have g2 : s ≤ ot_ P l := by omega
    have hu : sm_ (sg_ P l a) (s + 1) = sm_ (sg_ P l a) s + sg_ P l a s := rfl
    have hp2 : 2 ^ l < 512 := Nat.pow_lt_pow_right (show 1 < 2 by decide) (by omega : l < 9)
    cases hc : su_ s (ot_ P l)
    · obtain ⟨σ', e, f'⟩ := s_gainL hP hl ha hm (x1 := x1) d (s + 1) σ x8 x9 (by omega) hv
      refine ⟨σ', ?_, f'⟩
      have hsg : sg_ P l a s = nI 0 := by unfold sg_; rw [hc, if_neg (by decide)]
      rw [hu, hsg, ad_n0] at e
      have hne : ¬ (s &&& ot_ P l) = s := by unfold su_ at hc; simpa using hc
      have hal : (s &&& ot_ P l) < 512 := Nat.lt_of_le_of_lt Nat.and_le_left (by omega)
      rw [rX8_gainInAllOrders_45]
      simp (disch := omega) only [vX8_gainInAllOrders, rX8_gainInAllOrders_47, rX8_gainInAllOrders_49, rX8_gainInAllOrders_52, rX8_gainInAllOrders_54, rX8_gainInAllOrders_56, rX8_gainInAllOrders_57, rX8_gainInAllOrders_59, rX8_gainInAllOrders_62, rX8_gainInAllOrders_64, rX8_gainInAllOrders_67, rX8_gainInAllOrders_69, rX8_gainInAllOrders_72, rX8_gainInAllOrders_74, rX8_gainInAllOrders_75, rX8_gainInAllOrders_78, rX8_gainInAllOrders_80, rX8_gainInAllOrders_82, rX8_gainInAllOrders_83, rX8_gainInAllOrders_84, rX8_gainInAllOrders_85, rX8_gainInAllOrders_87, rX8_gainInAllOrders_89, rX8_gainInAllOrders_91, rX8_gainInAllOrders_92, rX8_gainInAllOrders_95, rX8_gainInAllOrders_97, rX8_gainInAllOrders_98, rX8_gainInAllOrders_99, rX8_gainInAllOrders_100, rX8_gainInAllOrders_101, rX8_gainInAllOrders_104, rX8_gainInAllOrders_105, rX8_gainInAllOrders_108, rX8_gainInAllOrders_110, rX8_gainInAllOrders_113, rX8_gainInAllOrders_114, rX8_gainInAllOrders_115, rX8_gainInAllOrders_116, rX8_gainInAllOrders_118, rX8_gainInAllOrders_121, rX8_gainInAllOrders_124, rX8_gainInAllOrders_126, mm_gd_t, mm_kc_v, mm_kc_n, mm_rfs, kl_n, kl_i, kl_r, kl_l, so_0, so_1, so_2, so_3, so_4, beq_self_eq_true, Bool.true_and, Bool.and_true, Bool.or_true, Bool.true_or, Bool.false_or, Bool.or_false, if_true, if_false, ↓reduceIte, decide_true, decide_false, Bool.not_false, Bool.not_true, not_true_eq_false, not_false_eq_true, eq_self, Nat.not_lt_zero, Bool.true_eq_false, Bool.false_eq_true, Nat.reduceAdd, Nat.reduceMul, Nat.reduceSub, Nat.reduceEqDiff, Nat.reduceLeDiff, Nat.reduceLT, Nat.reduceDiv, Nat.reduceMod, zb_0, zb_1, zb_b, on_nI, ml_l, rl_sl1, rl_sl2, rl_eq, rl_nj, rl_nk, qL_0, qL_1, qL_11, qL_10000, nI_lL, lN_add, lN_mul, Nat.zero_add, Nat.add_zero, mm_zr0n, mm_zr1n, mm_zrb, b2_0, b2_1, pk_mul, tn_nI, in_nI, mi_lt, rd_eq, rd_nj, rd_nk, rs_eq, rs_nk, rl_si, rl_sA, nI_add, nI_eqI, nI_leI2, nI_ltI2, ql_0, ql_1, ql_2, ql_3, ql_4, ql_5, ql_6, ql_7, ql_8, ql_9, ql_10, ql_11, ql_12, ql_13, ql_14, ql_15, ql_16, ql_17, ql_18, ql_19, ql_20, ql_24, ql_25, ql_26, ql_27, ql_31, ql_32, ql_33, ql_36, ql_45, ql_46, ql_47, ql_48, ql_49, ql_50, ql_57, ql_63, ql_64, ql_65, ql_66, ql_67, ql_68, ql_69, ql_70, ql_71, ql_72, ql_73, ql_74, ql_75, ql_76, ql_77, ql_78, ql_79, ql_80, ql_81, ql_82, ql_83, ql_84, ql_85, ql_86, ql_87, ql_93, ql_96, ql_97, ql_100, ql_101, ql_120, ql_255, ql_256, ql_257, ql_511, ql_672, ql_900, ql_1000, ql_65536, g, g2, fa_and, hne, e]
    · have hle := pc_su hc 9
      have f1 := fk_le (pc_ s 9) (by omega)
      have f2 := fk_le (pc_ (ot_ P l) 9 - pc_ s 9) (by omega)
      have eB := fun σ : mm_M => s_bitCount (σ := σ) (show s < 512 by omega)
      have hor : s ||| 2 ^ l < 512 := Nat.or_lt_two_pow (n := 9) (by omega) hp2
      obtain ⟨σ1, e1, f1'⟩ := s_unlikeRows (s := s ||| 2 ^ l) lb_80 hP ha (by omega) hv
      have v1 := vo_fr hv f1' (show 85 < 80 + 6 ∨ 80 + 7 ≤ 85 by omega)
      obtain ⟨σ2, e2, f2'⟩ := s_unlikeRows (s := s) lb_80 hP ha (by omega) v1
      have v2 := vo_fr v1 f2' (show 85 < 80 + 6 ∨ 80 + 7 ≤ 85 by omega)
      obtain ⟨σ', e, f'⟩ := s_gainL hP hl ha hm (x1 := x1) d (s + 1) σ2 (some (.int (nI (pc_ s 9)))) (some (.int (nI (fk_ (pc_ s 9) * fk_ (pc_ (ot_ P l) 9 - pc_ s 9))))) (by omega) v2
      refine ⟨σ', ?_, fr_tr (fr_wd f1' (by omega) (by omega)) (fr_tr (fr_wd f2' (by omega) (by omega)) f')⟩
      have hsg : sg_ P l a s = nI (fk_ (pc_ s 9) * fk_ (pc_ (ot_ P l) 9 - pc_ s 9)) * (nI (dc_ (fF_ P (s ||| 2 ^ l) a) 100) - nI (dc_ (fF_ P s a) 100)) := by unfold sg_; rw [hc, if_pos rfl]
      rw [hu, hsg] at e
      have hne : (s &&& ot_ P l) = s := by unfold su_ at hc; simpa using hc
      have hand : nI s &&& nI (ot_ P l) = nI s := by rw [fa_and, hne]
      generalize dc_ (fF_ P (s ||| 2 ^ l) a) 100 = D1 at *
      generalize dc_ (fF_ P s a) 100 = D2 at *
      have hi1 := fun (σ : mm_M) => mi_1002 (σ := σ) (show pc_ s 9 < 6 by omega)
      have hi2 := fun (σ : mm_M) => mi_1002 (σ := σ) (show pc_ (ot_ P l) 9 - pc_ s 9 < 6 by omega)
      rw [rX8_gainInAllOrders_45]
      simp (disch := omega) only [vX8_gainInAllOrders, rX8_gainInAllOrders_47, rX8_gainInAllOrders_49, rX8_gainInAllOrders_52, rX8_gainInAllOrders_54, rX8_gainInAllOrders_56, rX8_gainInAllOrders_57, rX8_gainInAllOrders_59, rX8_gainInAllOrders_62, rX8_gainInAllOrders_64, rX8_gainInAllOrders_67, rX8_gainInAllOrders_69, rX8_gainInAllOrders_72, rX8_gainInAllOrders_74, rX8_gainInAllOrders_75, rX8_gainInAllOrders_78, rX8_gainInAllOrders_80, rX8_gainInAllOrders_82, rX8_gainInAllOrders_83, rX8_gainInAllOrders_84, rX8_gainInAllOrders_85, rX8_gainInAllOrders_87, rX8_gainInAllOrders_89, rX8_gainInAllOrders_91, rX8_gainInAllOrders_92, rX8_gainInAllOrders_95, rX8_gainInAllOrders_97, rX8_gainInAllOrders_98, rX8_gainInAllOrders_99, rX8_gainInAllOrders_100, rX8_gainInAllOrders_101, rX8_gainInAllOrders_104, rX8_gainInAllOrders_105, rX8_gainInAllOrders_108, rX8_gainInAllOrders_110, rX8_gainInAllOrders_113, rX8_gainInAllOrders_114, rX8_gainInAllOrders_115, rX8_gainInAllOrders_116, rX8_gainInAllOrders_118, rX8_gainInAllOrders_121, rX8_gainInAllOrders_124, rX8_gainInAllOrders_126, mm_gd_t, mm_kc_v, mm_kc_n, mm_rfs, kl_n, kl_i, kl_r, kl_l, so_0, so_1, so_2, so_3, so_4, beq_self_eq_true, Bool.true_and, Bool.and_true, Bool.or_true, Bool.true_or, Bool.false_or, Bool.or_false, if_true, if_false, ↓reduceIte, decide_true, decide_false, Bool.not_false, Bool.not_true, not_true_eq_false, not_false_eq_true, eq_self, Nat.not_lt_zero, Bool.true_eq_false, Bool.false_eq_true, Nat.reduceAdd, Nat.reduceMul, Nat.reduceSub, Nat.reduceEqDiff, Nat.reduceLeDiff, Nat.reduceLT, Nat.reduceDiv, Nat.reduceMod, zb_0, zb_1, zb_b, on_nI, ml_l, rl_sl1, rl_sl2, rl_eq, rl_nj, rl_nk, qL_0, qL_1, qL_11, qL_10000, nI_lL, lN_add, lN_mul, Nat.zero_add, Nat.add_zero, mm_zr0n, mm_zr1n, mm_zrb, b2_0, b2_1, pk_mul, tn_nI, in_nI, mi_lt, rd_eq, rd_nj, rd_nk, rs_eq, rs_nk, rl_si, rl_sA, nI_add, nI_eqI, nI_leI2, nI_ltI2, ql_0, ql_1, ql_2, ql_3, ql_4, ql_5, ql_6, ql_7, ql_8, ql_9, ql_10, ql_11, ql_12, ql_13, ql_14, ql_15, ql_16, ql_17, ql_18, ql_19, ql_20, ql_24, ql_25, ql_26, ql_27, ql_31, ql_32, ql_33, ql_36, ql_45, ql_46, ql_47, ql_48, ql_49, ql_50, ql_57, ql_63, ql_64, ql_65, ql_66, ql_67, ql_68, ql_69, ql_70, ql_71, ql_72, ql_73, ql_74, ql_75, ql_76, ql_77, ql_78, ql_79, ql_80, ql_81, ql_82, ql_83, ql_84, ql_85, ql_86, ql_87, ql_93, ql_96, ql_97, ql_100, ql_101, ql_120, ql_255, ql_256, ql_257, ql_511, ql_672, ql_900, ql_1000, ql_65536, rho_0_0, rho_0_1, rho_0_2, rho_0_3, rho_0_4, rho_0_5, rho_0_6, rho_0_7, rho_0_8, rho_0_9, rho_0_10, rho_0_11, rho_0_12, rho_80_0, rho_80_1, rho_80_2, kd_0, kd_80, ir_1002, al_1002, g, g2, hand, eB, hi1, hi2, pk_sub, shl_nI, fa_or, e1, e2, e]
theorem ab_add {x y : Int32} {A B : Nat} (hx : ab_ x ≤ A) (hy : ab_ y ≤ B) (h : A + B < 2147483648) : ab_ (x + y) ≤ A + B := by
  unfold ab_ at *
  rw [Int32.toInt_add, Int.bmod_eq_of_le (by omega) (by omega)]
  omega
theorem ab_ds {c d e : Nat} (hd : c * d ≤ 1440000) (he : c * e ≤ 1440000) : ab_ (nI c * (nI d - nI e)) ≤ 1440000 := by
  have : nI c * (nI d - nI e) = nI (c * d) - nI (c * e) := by rw [Int32.mul_sub, pk_mul, pk_mul]
  rw [this]
  unfold ab_
  rw [pk_sub_toInt (by omega) (by omega)]
  omega
theorem sg_le {P : pp_} {l a s : Nat} (hm : pc_ (ot_ P l) 9 < 6) : ab_ (sg_ P l a s) ≤ 1440000 := by
  unfold sg_
  cases hc : su_ s (ot_ P l)
  · rw [if_neg (by decide), ab_nI (by omega)]; omega
  · rw [if_pos rfl]
    have hle := pc_su hc 9
    have f1 := (fk_le (pc_ s 9) (by omega)).1
    have f2 := (fk_le (pc_ (ot_ P l) 9 - pc_ s 9) (by omega)).1
    have d1 := dc_le (fF_ P (s ||| 2 ^ l) a) 100
    have d2 := dc_le (fF_ P s a) 100
    have hc : fk_ (pc_ s 9) * fk_ (pc_ (ot_ P l) 9 - pc_ s 9) ≤ 14400 := Nat.mul_le_mul f1 f2
    generalize dc_ (fF_ P (s ||| 2 ^ l) a) 100 = D1 at *
    generalize dc_ (fF_ P s a) 100 = D2 at *
    generalize fk_ (pc_ s 9) * fk_ (pc_ (ot_ P l) 9 - pc_ s 9) = C at *
    exact ab_ds (Nat.mul_le_mul hc d1) (Nat.mul_le_mul hc d2)
theorem sm_le {g : Nat → Int32} (hg : ∀ s, ab_ (g s) ≤ 1440000) : ∀ n, n ≤ 512 → ab_ (sm_ g n) ≤ n * 1440000
  | 0, _ => by show ab_ (nI 0) ≤ _; rw [ab_nI (by omega)]; omega
  | n + 1, h => by
    have := ab_add (sm_le hg n (by omega)) (hg n) (by omega)
    show ab_ (sm_ g n + g n) ≤ _
    omega
theorem ot_lt (P : pp_) (l : Nat) : ot_ P l < 512 := bm_9 _
theorem sm_ok {P : pp_} {l a : Nat} (hm : pc_ (ot_ P l) 9 < 6) : ab_ (sm_ (sg_ P l a) (ot_ P l + 1)) < 2147483648 := by
  have := ot_lt P l
  have := sm_le (g := sg_ P l a) (fun s => sg_le hm) (ot_ P l + 1) (by omega)
  omega
theorem pc_ot {P : pp_} {l : Nat} (hl : l < P.1) (h9 : P.1 ≤ 9) (hK : P.2 l 0 = 5) : ∀ k, k ≤ 9 → pc_ (bm_ (kb_ P 5) 9) k = pc_ (ot_ P l) k + (if l < k then 1 else 0)
  | 0, _ => rfl
  | k + 1, h => by
    have ih := pc_ot hl h9 hK k (by omega)
    have hkb : kb_ P 5 l = true := by unfold kb_; rw [decide_eq_true hl, decide_eq_true hK]; rfl
    unfold pc_
    unfold ot_ at *
    rw [ih, bm_bit, bm_bit, decide_eq_true (show k < 9 by omega), Bool.true_and, Bool.true_and]
    by_cases hkl : k = l
    · subst hkl
      rw [hkb, decide_eq_false (show ¬ k ≠ k by simp), Bool.and_false, b2_t, b2_f, if_neg (by omega), if_pos (by omega)]
    · rw [decide_eq_true hkl, Bool.and_true]
      by_cases hlt : l < k
      · rw [if_pos hlt, if_pos (by omega)]; omega
      · rw [if_neg hlt, if_neg (by omega)]; omega
def a_share (P : pp_) (x a : Int32) (u : Bool) : Int32 :=
  if bl_ x P.1 = true then (if bl_ a 10 = true then (if P.2 x.toNatClampNeg 0 = 5 then (if 5 < pc_ (bm_ (kb_ P 5) 9) 9 then -nI 4 else fc_ (sm_ (sg_ P x.toNatClampNeg a.toNatClampNeg) (ot_ P x.toNatClampNeg + 1)) (fk_ (pc_ (bm_ (kb_ P 5) 9) 9)) u) else -nI 3) else -nI 2) else -nI 1
theorem s_gain {σ : mm_M} {P : pp_} {l a : Nat} (hP : wf_ P) (hr : rc_ 15 σ P) (hl : l < 9) (ha : a ≤ 9) (hm : pc_ (ot_ P l) 9 < 6) :
    ∃ σ', mm_ev mX8_gainInAllOrders [.ref 0, .int (nI (bm_ (kb_ P 5) 9)), .int (nI l), .int (nI a)] mm_H σ = some (some (.int (sm_ (sg_ P l a) (ot_ P l + 1))), mm_H, σ') ∧ fr_ 80 87 σ σ' := by
  obtain ⟨σ1, e1, f1, v1⟩ := s_listen lb_80 hP ha hr
  obtain ⟨σ2, e2, f2⟩ := s_gainL hP hl ha hm (x1 := nI (bm_ (kb_ P 5) 9)) (ot_ P l + 1) 0 σ1 none none (by omega) v1
  refine ⟨σ2, ?_, fr_tr (fr_wd f1 (by omega) (by omega)) f2⟩
  have eB := s_bitCount (σ := σ) (ot_lt P l)
  have hoe := ot_e (P := P) hl
  have hs0 : sm_ (sg_ P l a) 0 = nI 0 := rfl
  rw [hs0] at e2
  have g : ¬ 6 ≤ pc_ (ot_ P l) 9 := by omega
  generalize sm_ (sg_ P l a) (ot_ P l + 1) = S at *
  simp (disch := omega) only [vX8_gainInAllOrders, rX8_gainInAllOrders_0, rX8_gainInAllOrders_1, rX8_gainInAllOrders_2, rX8_gainInAllOrders_3, rX8_gainInAllOrders_4, rX8_gainInAllOrders_5, rX8_gainInAllOrders_6, rX8_gainInAllOrders_7, rX8_gainInAllOrders_9, rX8_gainInAllOrders_11, rX8_gainInAllOrders_14, rX8_gainInAllOrders_16, rX8_gainInAllOrders_18, rX8_gainInAllOrders_21, rX8_gainInAllOrders_22, rX8_gainInAllOrders_25, rX8_gainInAllOrders_26, rX8_gainInAllOrders_27, rX8_gainInAllOrders_28, rX8_gainInAllOrders_30, rX8_gainInAllOrders_31, rX8_gainInAllOrders_34, rX8_gainInAllOrders_35, rX8_gainInAllOrders_38, rX8_gainInAllOrders_39, rX8_gainInAllOrders_42, rX8_gainInAllOrders_43, mm_gd_t, mm_kc_v, mm_kc_n, mm_rfs, kl_n, kl_i, kl_r, kl_l, so_0, so_1, so_2, so_3, so_4, beq_self_eq_true, Bool.true_and, Bool.and_true, Bool.or_true, Bool.true_or, Bool.false_or, Bool.or_false, if_true, if_false, ↓reduceIte, decide_true, decide_false, Bool.not_false, Bool.not_true, not_true_eq_false, not_false_eq_true, eq_self, Nat.not_lt_zero, Bool.true_eq_false, Bool.false_eq_true, Nat.reduceAdd, Nat.reduceMul, Nat.reduceSub, Nat.reduceEqDiff, Nat.reduceLeDiff, Nat.reduceLT, Nat.reduceDiv, Nat.reduceMod, zb_0, zb_1, zb_b, on_nI, ml_l, rl_sl1, rl_sl2, rl_eq, rl_nj, rl_nk, qL_0, qL_1, qL_11, qL_10000, nI_lL, lN_add, lN_mul, Nat.zero_add, Nat.add_zero, mm_zr0n, mm_zr1n, mm_zrb, b2_0, b2_1, pk_mul, tn_nI, in_nI, mi_lt, rd_eq, rd_nj, rd_nk, rs_eq, rs_nk, rl_si, rl_sA, nI_add, nI_eqI, nI_leI2, nI_ltI2, ql_0, ql_1, ql_2, ql_3, ql_4, ql_5, ql_6, ql_7, ql_8, ql_9, ql_10, ql_11, ql_12, ql_13, ql_14, ql_15, ql_16, ql_17, ql_18, ql_19, ql_20, ql_24, ql_25, ql_26, ql_27, ql_31, ql_32, ql_33, ql_36, ql_45, ql_46, ql_47, ql_48, ql_49, ql_50, ql_57, ql_63, ql_64, ql_65, ql_66, ql_67, ql_68, ql_69, ql_70, ql_71, ql_72, ql_73, ql_74, ql_75, ql_76, ql_77, ql_78, ql_79, ql_80, ql_81, ql_82, ql_83, ql_84, ql_85, ql_86, ql_87, ql_93, ql_96, ql_97, ql_100, ql_101, ql_120, ql_255, ql_256, ql_257, ql_511, ql_672, ql_900, ql_1000, ql_65536, rho_0_0, rho_0_1, rho_0_2, rho_0_3, rho_0_4, rho_0_5, rho_0_6, rho_0_7, rho_0_8, rho_0_9, rho_0_10, rho_0_11, rho_0_12, rho_80_0, rho_80_1, rho_80_2, kd_0, kd_80, ir_1002, al_1002, shl_nI, hoe, eB, hm, g, e1]
  exact e2
theorem s_share {σ : mm_M} {P : pp_} {x a : Int32} {u : Bool} (hP : wf_ P) (hr : rc_ 15 σ P) :
    ∃ σ', mm_ev mX8_share [.ref 0, .int x, .int a, .int (nI (b2 u))] mm_H σ = some (some (.int (a_share P x a u)), mm_H, σ') ∧ cs_ σ σ' := by
  have h9 := hP.1
  have eh := s_has (x := x) (show P.1 < 2147483648 by omega) hr.1
  unfold a_share
  rcases bl_ix (x := x) (n := P.1) (by omega) with h | ⟨l, hl, rfl⟩
  · rw [h] at eh
    refine ⟨σ, ?_, cs_refl _⟩
    simp (disch := omega) only [vX8_share, rX8_share_0, rX8_share_1, rX8_share_4, rX8_share_5, rX8_share_8, rX8_share_11, rX8_share_12, rX8_share_13, rX8_share_14, rX8_share_16, rX8_share_19, rX8_share_22, rX8_share_24, rX8_share_25, rX8_share_26, rX8_share_29, rX8_share_32, rX8_share_33, rX8_share_34, rX8_share_35, rX8_share_36, rX8_share_37, rX8_share_40, rX8_share_42, rX8_share_43, rX8_share_44, rX8_share_47, rX8_share_48, rX8_share_51, rX8_share_53, rX8_share_55, rX8_share_58, rX8_share_60, rX8_share_62, rX8_share_63, rX8_share_66, rX8_share_68, rX8_share_69, rX8_share_70, rX8_share_72, rX8_share_73, rX8_share_74, rX8_share_77, rX8_share_80, rX8_share_82, rX8_share_83, rX8_share_84, rX8_share_87, mm_gd_t, mm_kc_v, mm_kc_n, mm_rfs, kl_n, kl_i, kl_r, kl_l, so_0, so_1, so_2, so_3, so_4, beq_self_eq_true, Bool.true_and, Bool.and_true, Bool.or_true, Bool.true_or, Bool.false_or, Bool.or_false, if_true, if_false, ↓reduceIte, decide_true, decide_false, Bool.not_false, Bool.not_true, not_true_eq_false, not_false_eq_true, eq_self, Nat.not_lt_zero, Bool.true_eq_false, Bool.false_eq_true, Nat.reduceAdd, Nat.reduceMul, Nat.reduceSub, Nat.reduceEqDiff, Nat.reduceLeDiff, Nat.reduceLT, Nat.reduceDiv, Nat.reduceMod, zb_0, zb_1, zb_b, on_nI, ml_l, rl_sl1, rl_sl2, rl_eq, rl_nj, rl_nk, qL_0, qL_1, qL_11, qL_10000, nI_lL, lN_add, lN_mul, Nat.zero_add, Nat.add_zero, mm_zr0n, mm_zr1n, mm_zrb, b2_0, b2_1, pk_mul, tn_nI, in_nI, mi_lt, rd_eq, rd_nj, rd_nk, rs_eq, rs_nk, rl_si, rl_sA, nI_add, nI_eqI, nI_leI2, nI_ltI2, ql_0, ql_1, ql_2, ql_3, ql_4, ql_5, ql_6, ql_7, ql_8, ql_9, ql_10, ql_11, ql_12, ql_13, ql_14, ql_15, ql_16, ql_17, ql_18, ql_19, ql_20, ql_24, ql_25, ql_26, ql_27, ql_31, ql_32, ql_33, ql_36, ql_45, ql_46, ql_47, ql_48, ql_49, ql_50, ql_57, ql_63, ql_64, ql_65, ql_66, ql_67, ql_68, ql_69, ql_70, ql_71, ql_72, ql_73, ql_74, ql_75, ql_76, ql_77, ql_78, ql_79, ql_80, ql_81, ql_82, ql_83, ql_84, ql_85, ql_86, ql_87, ql_93, ql_96, ql_97, ql_100, ql_101, ql_120, ql_255, ql_256, ql_257, ql_511, ql_672, ql_900, ql_1000, ql_65536, rho_0_0, rho_0_1, rho_0_2, rho_0_3, rho_0_4, rho_0_5, rho_0_6, rho_0_7, rho_0_8, rho_0_9, rho_0_10, rho_0_11, rho_0_12, rho_15_1, rho_15_2, kd_0, kd_15, eh, h]
  · have hb : bl_ (nI l) P.1 = true := by rw [bl_nI (by omega), decide_eq_true hl]
    rw [hb] at eh
    rcases bl_ix (x := a) (n := 10) (by omega) with h | ⟨a', ha, rfl⟩
    · refine ⟨σ, ?_, cs_refl _⟩
      simp (disch := omega) only [vX8_share, rX8_share_0, rX8_share_1, rX8_share_4, rX8_share_5, rX8_share_8, rX8_share_11, rX8_share_12, rX8_share_13, rX8_share_14, rX8_share_16, rX8_share_19, rX8_share_22, rX8_share_24, rX8_share_25, rX8_share_26, rX8_share_29, rX8_share_32, rX8_share_33, rX8_share_34, rX8_share_35, rX8_share_36, rX8_share_37, rX8_share_40, rX8_share_42, rX8_share_43, rX8_share_44, rX8_share_47, rX8_share_48, rX8_share_51, rX8_share_53, rX8_share_55, rX8_share_58, rX8_share_60, rX8_share_62, rX8_share_63, rX8_share_66, rX8_share_68, rX8_share_69, rX8_share_70, rX8_share_72, rX8_share_73, rX8_share_74, rX8_share_77, rX8_share_80, rX8_share_82, rX8_share_83, rX8_share_84, rX8_share_87, mm_gd_t, mm_kc_v, mm_kc_n, mm_rfs, kl_n, kl_i, kl_r, kl_l, so_0, so_1, so_2, so_3, so_4, beq_self_eq_true, Bool.true_and, Bool.and_true, Bool.or_true, Bool.true_or, Bool.false_or, Bool.or_false, if_true, if_false, ↓reduceIte, decide_true, decide_false, Bool.not_false, Bool.not_true, not_true_eq_false, not_false_eq_true, eq_self, Nat.not_lt_zero, Bool.true_eq_false, Bool.false_eq_true, Nat.reduceAdd, Nat.reduceMul, Nat.reduceSub, Nat.reduceEqDiff, Nat.reduceLeDiff, Nat.reduceLT, Nat.reduceDiv, Nat.reduceMod, zb_0, zb_1, zb_b, on_nI, ml_l, rl_sl1, rl_sl2, rl_eq, rl_nj, rl_nk, qL_0, qL_1, qL_11, qL_10000, nI_lL, lN_add, lN_mul, Nat.zero_add, Nat.add_zero, mm_zr0n, mm_zr1n, mm_zrb, b2_0, b2_1, pk_mul, tn_nI, in_nI, mi_lt, rd_eq, rd_nj, rd_nk, rs_eq, rs_nk, rl_si, rl_sA, nI_add, nI_eqI, nI_leI2, nI_ltI2, ql_0, ql_1, ql_2, ql_3, ql_4, ql_5, ql_6, ql_7, ql_8, ql_9, ql_10, ql_11, ql_12, ql_13, ql_14, ql_15, ql_16, ql_17, ql_18, ql_19, ql_20, ql_24, ql_25, ql_26, ql_27, ql_31, ql_32, ql_33, ql_36, ql_45, ql_46, ql_47, ql_48, ql_49, ql_50, ql_57, ql_63, ql_64, ql_65, ql_66, ql_67, ql_68, ql_69, ql_70, ql_71, ql_72, ql_73, ql_74, ql_75, ql_76, ql_77, ql_78, ql_79, ql_80, ql_81, ql_82, ql_83, ql_84, ql_85, ql_86, ql_87, ql_93, ql_96, ql_97, ql_100, ql_101, ql_120, ql_255, ql_256, ql_257, ql_511, ql_672, ql_900, ql_1000, ql_65536, rho_0_0, rho_0_1, rho_0_2, rho_0_3, rho_0_4, rho_0_5, rho_0_6, rho_0_7, rho_0_8, rho_0_9, rho_0_10, rho_0_11, rho_0_12, rho_15_1, rho_15_2, kd_0, kd_15, eh, hb, s_isBelow, h]
    · have hb2 : bl_ (nI a') 10 = true := by rw [bl_nI (by omega), decide_eq_true ha]
      have c0 := rc_0 hP hr hl
      have w0 := (hP.2 l hl).1
      rw [if_pos hb, if_pos hb2, tn_nI (by omega), tn_nI (by omega)]
      by_cases hK : P.2 l 0 = 5
      · rw [if_pos hK]
        have eK := s_linesOfKind (k := 5) hP (by omega) hr
        have b5 := bm_9 (kb_ P 5)
        have eB := s_bitCount (σ := σ) b5
        have hpo := pc_ot hl h9 hK 9 (by omega)
        rw [if_pos (show l < 9 by omega)] at hpo
        rw [hK] at c0
        by_cases h5 : 5 < pc_ (bm_ (kb_ P 5) 9) 9
        · rw [if_pos h5]
          have hle : pc_ (bm_ (kb_ P 5) 9) 9 ≤ 9 := pc_le _ 9
          have h5' : ¬ pc_ (bm_ (kb_ P 5) 9) 9 ≤ 5 := by omega
          refine ⟨σ, ?_, cs_refl _⟩
          simp (disch := omega) only [vX8_share, rX8_share_0, rX8_share_1, rX8_share_4, rX8_share_5, rX8_share_8, rX8_share_11, rX8_share_12, rX8_share_13, rX8_share_14, rX8_share_16, rX8_share_19, rX8_share_22, rX8_share_24, rX8_share_25, rX8_share_26, rX8_share_29, rX8_share_32, rX8_share_33, rX8_share_34, rX8_share_35, rX8_share_36, rX8_share_37, rX8_share_40, rX8_share_42, rX8_share_43, rX8_share_44, rX8_share_47, rX8_share_48, rX8_share_51, rX8_share_53, rX8_share_55, rX8_share_58, rX8_share_60, rX8_share_62, rX8_share_63, rX8_share_66, rX8_share_68, rX8_share_69, rX8_share_70, rX8_share_72, rX8_share_73, rX8_share_74, rX8_share_77, rX8_share_80, rX8_share_82, rX8_share_83, rX8_share_84, rX8_share_87, mm_gd_t, mm_kc_v, mm_kc_n, mm_rfs, kl_n, kl_i, kl_r, kl_l, so_0, so_1, so_2, so_3, so_4, beq_self_eq_true, Bool.true_and, Bool.and_true, Bool.or_true, Bool.true_or, Bool.false_or, Bool.or_false, if_true, if_false, ↓reduceIte, decide_true, decide_false, Bool.not_false, Bool.not_true, not_true_eq_false, not_false_eq_true, eq_self, Nat.not_lt_zero, Bool.true_eq_false, Bool.false_eq_true, Nat.reduceAdd, Nat.reduceMul, Nat.reduceSub, Nat.reduceEqDiff, Nat.reduceLeDiff, Nat.reduceLT, Nat.reduceDiv, Nat.reduceMod, zb_0, zb_1, zb_b, on_nI, ml_l, rl_sl1, rl_sl2, rl_eq, rl_nj, rl_nk, qL_0, qL_1, qL_11, qL_10000, nI_lL, lN_add, lN_mul, Nat.zero_add, Nat.add_zero, mm_zr0n, mm_zr1n, mm_zrb, b2_0, b2_1, pk_mul, tn_nI, in_nI, mi_lt, rd_eq, rd_nj, rd_nk, rs_eq, rs_nk, rl_si, rl_sA, nI_add, nI_eqI, nI_leI2, nI_ltI2, ql_0, ql_1, ql_2, ql_3, ql_4, ql_5, ql_6, ql_7, ql_8, ql_9, ql_10, ql_11, ql_12, ql_13, ql_14, ql_15, ql_16, ql_17, ql_18, ql_19, ql_20, ql_24, ql_25, ql_26, ql_27, ql_31, ql_32, ql_33, ql_36, ql_45, ql_46, ql_47, ql_48, ql_49, ql_50, ql_57, ql_63, ql_64, ql_65, ql_66, ql_67, ql_68, ql_69, ql_70, ql_71, ql_72, ql_73, ql_74, ql_75, ql_76, ql_77, ql_78, ql_79, ql_80, ql_81, ql_82, ql_83, ql_84, ql_85, ql_86, ql_87, ql_93, ql_96, ql_97, ql_100, ql_101, ql_120, ql_255, ql_256, ql_257, ql_511, ql_672, ql_900, ql_1000, ql_65536, rho_0_0, rho_0_1, rho_0_2, rho_0_3, rho_0_4, rho_0_5, rho_0_6, rho_0_7, rho_0_8, rho_0_9, rho_0_10, rho_0_11, rho_0_12, rho_15_1, rho_15_2, rho_16_0, rho_16_1, rho_16_2, rho_16_3, rho_16_4, rho_16_5, rho_16_6, rho_16_7, rho_16_8, kd_0, kd_15, kd_16, al_16, rho_16r, ir_17r, al_17s, eh, s_isBelow, hb2, c0, eK, eB, h5, h5']
        · rw [if_neg h5]
          have h5' : pc_ (bm_ (kb_ P 5) 9) 9 ≤ 5 := by omega
          have hm : pc_ (ot_ P l) 9 < 6 := by omega
          obtain ⟨σ1, e1, f1⟩ := s_gain hP hr (show l < 9 by omega) (show a' ≤ 9 by omega) hm
          refine ⟨σ1, ?_, cs_fr f1 (by omega)⟩
          have hfk := fk_le (pc_ (bm_ (kb_ P 5) 9) 9) (by omega)
          have eF := s_fraction (σ := σ1) (u := u) (sm_ok (P := P) (l := l) (a := a') hm) hfk.2 (by omega)
          have hi1 := fun (σ : mm_M) => mi_1002 (σ := σ) (show pc_ (bm_ (kb_ P 5) 9) 9 < 6 by omega)
          generalize sm_ (sg_ P l a') (ot_ P l + 1) = S at *
          simp (disch := omega) only [vX8_share, rX8_share_0, rX8_share_1, rX8_share_4, rX8_share_5, rX8_share_8, rX8_share_11, rX8_share_12, rX8_share_13, rX8_share_14, rX8_share_16, rX8_share_19, rX8_share_22, rX8_share_24, rX8_share_25, rX8_share_26, rX8_share_29, rX8_share_32, rX8_share_33, rX8_share_34, rX8_share_35, rX8_share_36, rX8_share_37, rX8_share_40, rX8_share_42, rX8_share_43, rX8_share_44, rX8_share_47, rX8_share_48, rX8_share_51, rX8_share_53, rX8_share_55, rX8_share_58, rX8_share_60, rX8_share_62, rX8_share_63, rX8_share_66, rX8_share_68, rX8_share_69, rX8_share_70, rX8_share_72, rX8_share_73, rX8_share_74, rX8_share_77, rX8_share_80, rX8_share_82, rX8_share_83, rX8_share_84, rX8_share_87, mm_gd_t, mm_kc_v, mm_kc_n, mm_rfs, kl_n, kl_i, kl_r, kl_l, so_0, so_1, so_2, so_3, so_4, beq_self_eq_true, Bool.true_and, Bool.and_true, Bool.or_true, Bool.true_or, Bool.false_or, Bool.or_false, if_true, if_false, ↓reduceIte, decide_true, decide_false, Bool.not_false, Bool.not_true, not_true_eq_false, not_false_eq_true, eq_self, Nat.not_lt_zero, Bool.true_eq_false, Bool.false_eq_true, Nat.reduceAdd, Nat.reduceMul, Nat.reduceSub, Nat.reduceEqDiff, Nat.reduceLeDiff, Nat.reduceLT, Nat.reduceDiv, Nat.reduceMod, zb_0, zb_1, zb_b, on_nI, ml_l, rl_sl1, rl_sl2, rl_eq, rl_nj, rl_nk, qL_0, qL_1, qL_11, qL_10000, nI_lL, lN_add, lN_mul, Nat.zero_add, Nat.add_zero, mm_zr0n, mm_zr1n, mm_zrb, b2_0, b2_1, pk_mul, tn_nI, in_nI, mi_lt, rd_eq, rd_nj, rd_nk, rs_eq, rs_nk, rl_si, rl_sA, nI_add, nI_eqI, nI_leI2, nI_ltI2, ql_0, ql_1, ql_2, ql_3, ql_4, ql_5, ql_6, ql_7, ql_8, ql_9, ql_10, ql_11, ql_12, ql_13, ql_14, ql_15, ql_16, ql_17, ql_18, ql_19, ql_20, ql_24, ql_25, ql_26, ql_27, ql_31, ql_32, ql_33, ql_36, ql_45, ql_46, ql_47, ql_48, ql_49, ql_50, ql_57, ql_63, ql_64, ql_65, ql_66, ql_67, ql_68, ql_69, ql_70, ql_71, ql_72, ql_73, ql_74, ql_75, ql_76, ql_77, ql_78, ql_79, ql_80, ql_81, ql_82, ql_83, ql_84, ql_85, ql_86, ql_87, ql_93, ql_96, ql_97, ql_100, ql_101, ql_120, ql_255, ql_256, ql_257, ql_511, ql_672, ql_900, ql_1000, ql_65536, rho_0_0, rho_0_1, rho_0_2, rho_0_3, rho_0_4, rho_0_5, rho_0_6, rho_0_7, rho_0_8, rho_0_9, rho_0_10, rho_0_11, rho_0_12, rho_15_1, rho_15_2, rho_16_0, rho_16_1, rho_16_2, rho_16_3, rho_16_4, rho_16_5, rho_16_6, rho_16_7, rho_16_8, kd_0, kd_15, kd_16, al_16, ir_1002, al_1002, rho_16r, ir_17r, al_17s, eh, s_isBelow, hb2, c0, eK, eB, h5, h5', e1, hi1, eF]
      · rw [if_neg hK]
        refine ⟨σ, ?_, cs_refl _⟩
        simp (disch := omega) only [vX8_share, rX8_share_0, rX8_share_1, rX8_share_4, rX8_share_5, rX8_share_8, rX8_share_11, rX8_share_12, rX8_share_13, rX8_share_14, rX8_share_16, rX8_share_19, rX8_share_22, rX8_share_24, rX8_share_25, rX8_share_26, rX8_share_29, rX8_share_32, rX8_share_33, rX8_share_34, rX8_share_35, rX8_share_36, rX8_share_37, rX8_share_40, rX8_share_42, rX8_share_43, rX8_share_44, rX8_share_47, rX8_share_48, rX8_share_51, rX8_share_53, rX8_share_55, rX8_share_58, rX8_share_60, rX8_share_62, rX8_share_63, rX8_share_66, rX8_share_68, rX8_share_69, rX8_share_70, rX8_share_72, rX8_share_73, rX8_share_74, rX8_share_77, rX8_share_80, rX8_share_82, rX8_share_83, rX8_share_84, rX8_share_87, mm_gd_t, mm_kc_v, mm_kc_n, mm_rfs, kl_n, kl_i, kl_r, kl_l, so_0, so_1, so_2, so_3, so_4, beq_self_eq_true, Bool.true_and, Bool.and_true, Bool.or_true, Bool.true_or, Bool.false_or, Bool.or_false, if_true, if_false, ↓reduceIte, decide_true, decide_false, Bool.not_false, Bool.not_true, not_true_eq_false, not_false_eq_true, eq_self, Nat.not_lt_zero, Bool.true_eq_false, Bool.false_eq_true, Nat.reduceAdd, Nat.reduceMul, Nat.reduceSub, Nat.reduceEqDiff, Nat.reduceLeDiff, Nat.reduceLT, Nat.reduceDiv, Nat.reduceMod, zb_0, zb_1, zb_b, on_nI, ml_l, rl_sl1, rl_sl2, rl_eq, rl_nj, rl_nk, qL_0, qL_1, qL_11, qL_10000, nI_lL, lN_add, lN_mul, Nat.zero_add, Nat.add_zero, mm_zr0n, mm_zr1n, mm_zrb, b2_0, b2_1, pk_mul, tn_nI, in_nI, mi_lt, rd_eq, rd_nj, rd_nk, rs_eq, rs_nk, rl_si, rl_sA, nI_add, nI_eqI, nI_leI2, nI_ltI2, ql_0, ql_1, ql_2, ql_3, ql_4, ql_5, ql_6, ql_7, ql_8, ql_9, ql_10, ql_11, ql_12, ql_13, ql_14, ql_15, ql_16, ql_17, ql_18, ql_19, ql_20, ql_24, ql_25, ql_26, ql_27, ql_31, ql_32, ql_33, ql_36, ql_45, ql_46, ql_47, ql_48, ql_49, ql_50, ql_57, ql_63, ql_64, ql_65, ql_66, ql_67, ql_68, ql_69, ql_70, ql_71, ql_72, ql_73, ql_74, ql_75, ql_76, ql_77, ql_78, ql_79, ql_80, ql_81, ql_82, ql_83, ql_84, ql_85, ql_86, ql_87, ql_93, ql_96, ql_97, ql_100, ql_101, ql_120, ql_255, ql_256, ql_257, ql_511, ql_672, ql_900, ql_1000, ql_65536, rho_0_0, rho_0_1, rho_0_2, rho_0_3, rho_0_4, rho_0_5, rho_0_6, rho_0_7, rho_0_8, rho_0_9, rho_0_10, rho_0_11, rho_0_12, rho_15_1, rho_15_2, rho_16_0, rho_16_1, rho_16_2, rho_16_3, rho_16_4, rho_16_5, rho_16_6, rho_16_7, rho_16_8, kd_0, kd_15, kd_16, al_16, rho_16r, ir_17r, al_17s, eh, s_isBelow, hb2, c0, hK]
/-! the reference -/
theorem x_factorial {σ : mm_M} {n : Nat} (hn : n < 6) : mm_ev mX9_factorial [.int (nI n)] mm_H σ = some (some (.int (nI (fk_ n))), mm_H, σ) := by
  have : n = 0 ∨ n = 1 ∨ n = 2 ∨ n = 3 ∨ n = 4 ∨ n = 5 := by omega
  rcases this with h | h | h | h | h | h <;> subst h <;> simp (disch := omega) only [vX9_factorial, rX9_factorial_0, rX9_factorial_1, rX9_factorial_2, rX9_factorial_3, rX9_factorial_4, rX9_factorial_5, rX9_factorial_6, rX9_factorial_9, rX9_factorial_10, rX9_factorial_11, rX9_factorial_12, rX9_factorial_13, rX9_factorial_16, rX9_factorial_19, rX9_factorial_20, mm_gd_t, mm_kc_v, mm_kc_n, mm_rfs, kl_n, kl_i, kl_r, kl_l, so_0, so_1, so_2, so_3, so_4, beq_self_eq_true, Bool.true_and, Bool.and_true, Bool.or_true, Bool.true_or, Bool.false_or, Bool.or_false, if_true, if_false, ↓reduceIte, decide_true, decide_false, Bool.not_false, Bool.not_true, not_true_eq_false, not_false_eq_true, eq_self, Nat.not_lt_zero, Bool.true_eq_false, Bool.false_eq_true, Nat.reduceAdd, Nat.reduceMul, Nat.reduceSub, Nat.reduceEqDiff, Nat.reduceLeDiff, Nat.reduceLT, Nat.reduceDiv, Nat.reduceMod, zb_0, zb_1, zb_b, on_nI, ml_l, rl_sl1, rl_sl2, rl_eq, rl_nj, rl_nk, qL_0, qL_1, qL_11, qL_10000, nI_lL, lN_add, lN_mul, Nat.zero_add, Nat.add_zero, mm_zr0n, mm_zr1n, mm_zrb, b2_0, b2_1, pk_mul, tn_nI, in_nI, mi_lt, rd_eq, rd_nj, rd_nk, rs_eq, rs_nk, rl_si, rl_sA, nI_add, nI_eqI, nI_leI2, nI_ltI2, ql_0, ql_1, ql_2, ql_3, ql_4, ql_5, ql_6, ql_7, ql_8, ql_9, ql_10, ql_11, ql_12, ql_13, ql_14, ql_15, ql_16, ql_17, ql_18, ql_19, ql_20, ql_24, ql_25, ql_26, ql_27, ql_31, ql_32, ql_33, ql_36, ql_45, ql_46, ql_47, ql_48, ql_49, ql_50, ql_57, ql_63, ql_64, ql_65, ql_66, ql_67, ql_68, ql_69, ql_70, ql_71, ql_72, ql_73, ql_74, ql_75, ql_76, ql_77, ql_78, ql_79, ql_80, ql_81, ql_82, ql_83, ql_84, ql_85, ql_86, ql_87, ql_93, ql_96, ql_97, ql_100, ql_101, ql_120, ql_255, ql_256, ql_257, ql_511, ql_672, ql_900, ql_1000, ql_65536] <;> rfl
theorem su_ref {P : pp_} {l s : Nat} (hs : s < 512) : (bm_ (fun j => s.testBit j && !(bm_ (kb_ P 5) 9).testBit j) 10 = 0 ∧ s.testBit l = false) ↔ su_ s (ot_ P l) = true := by
  rw [su_iff]
  have hs9 : ∀ j, s.testBit j = true → j < 9 := fun j hj => by
    apply Classical.byContradiction
    intro hn
    have : s.testBit j = false := Nat.testBit_lt_two_pow (Nat.lt_of_lt_of_le hs (by
      have : 2 ^ 9 ≤ 2 ^ j := Nat.pow_le_pow_right (by decide) (by omega)
      omega))
    rw [this] at hj; cases hj
  constructor
  · rintro ⟨h0, hl⟩ j hj
    have hj9 := hs9 j hj
    have h1 := bm_z h0 j (by omega)
    simp only [hj, Bool.true_and, Bool.not_eq_false'] at h1
    unfold ot_
    rw [bm_bit, decide_eq_true hj9, Bool.true_and]
    rw [bm_bit, decide_eq_true hj9, Bool.true_and] at h1
    rw [h1, Bool.true_and, decide_eq_true]
    intro h; subst h; rw [hl] at hj; cases hj
  · intro h
    refine ⟨bm_0 (fun j _ => ?_), ?_⟩
    · cases hj : s.testBit j
      · rfl
      · have := h j hj
        unfold ot_ at this
        rw [bm_bit] at this
        rw [bm_bit]
        simp only [Bool.and_eq_true] at this
        rw [this.1, this.2.1]; rfl
    · cases hl : s.testBit l
      · rfl
      · have := h l hl
        unfold ot_ at this
        rw [bm_bit] at this
        simp at this
theorem x_shareL {P : pp_} {l a : Nat} (hP : wf_ P) (hl : l < 9) (ha : a ≤ 9) (hm : pc_ (ot_ P l) 9 < 6) {x3 : Int32} : ∀ (d s : Nat) (σ : mm_M) (x8 : Option Value), s + d = bm_ (kb_ P 5) 9 + 1 → rq_ 0 σ P →
    ∃ σ' x8', mm_run mX9_share mm_H 65 [some (.ref 120), some (.int (nI l)), some (.int (nI a)), some (.int x3), some (.int (nI (bm_ (kb_ P 5) 9))), some (.int (nI (pc_ (ot_ P l) 9 + 1))), some (.int (sm_ (sg_ P l a) s)), some (.int (nI s)), x8] [] σ = mm_run mX9_share mm_H 148 [some (.ref 120), some (.int (nI l)), some (.int (nI a)), some (.int x3), some (.int (nI (bm_ (kb_ P 5) 9))), some (.int (nI (pc_ (ot_ P l) 9 + 1))), some (.int (sm_ (sg_ P l a) (bm_ (kb_ P 5) 9 + 1))), some (.int (nI (bm_ (kb_ P 5) 9 + 1))), x8'] [] σ' ∧ fT_ σ σ'
  | 0, s, σ, x8, h, hr => by
    have b5 := bm_9 (kb_ P 5)
    have hs : s = bm_ (kb_ P 5) 9 + 1 := by omega
    subst hs
    have g : bm_ (kb_ P 5) 9 < bm_ (kb_ P 5) 9 + 1 := by omega
    refine ⟨σ, x8, ?_, fT_refl _⟩
    generalize sm_ (sg_ P l a) (bm_ (kb_ P 5) 9 + 1) = S at *
    rw [rX9_share_65]
    simp (disch := omega) only [vX9_share, rX9_share_67, rX9_share_69, rX9_share_72, rX9_share_74, rX9_share_76, rX9_share_77, rX9_share_78, rX9_share_79, rX9_share_82, rX9_share_84, rX9_share_85, rX9_share_88, rX9_share_91, rX9_share_93, rX9_share_96, rX9_share_99, rX9_share_101, rX9_share_102, rX9_share_103, rX9_share_105, rX9_share_108, rX9_share_109, rX9_share_112, rX9_share_113, rX9_share_115, rX9_share_117, rX9_share_119, rX9_share_120, rX9_share_121, rX9_share_123, rX9_share_124, rX9_share_125, rX9_share_126, rX9_share_127, rX9_share_130, rX9_share_131, rX9_share_132, rX9_share_134, rX9_share_137, rX9_share_138, rX9_share_139, rX9_share_140, rX9_share_142, rX9_share_145, mm_gd_t, mm_kc_v, mm_kc_n, mm_rfs, kl_n, kl_i, kl_r, kl_l, so_0, so_1, so_2, so_3, so_4, beq_self_eq_true, Bool.true_and, Bool.and_true, Bool.or_true, Bool.true_or, Bool.false_or, Bool.or_false, if_true, if_false, ↓reduceIte, decide_true, decide_false, Bool.not_false, Bool.not_true, not_true_eq_false, not_false_eq_true, eq_self, Nat.not_lt_zero, Bool.true_eq_false, Bool.false_eq_true, Nat.reduceAdd, Nat.reduceMul, Nat.reduceSub, Nat.reduceEqDiff, Nat.reduceLeDiff, Nat.reduceLT, Nat.reduceDiv, Nat.reduceMod, zb_0, zb_1, zb_b, on_nI, ml_l, rl_sl1, rl_sl2, rl_eq, rl_nj, rl_nk, qL_0, qL_1, qL_11, qL_10000, nI_lL, lN_add, lN_mul, Nat.zero_add, Nat.add_zero, mm_zr0n, mm_zr1n, mm_zrb, b2_0, b2_1, pk_mul, tn_nI, in_nI, mi_lt, rd_eq, rd_nj, rd_nk, rs_eq, rs_nk, rl_si, rl_sA, nI_add, nI_eqI, nI_leI2, nI_ltI2, ql_0, ql_1, ql_2, ql_3, ql_4, ql_5, ql_6, ql_7, ql_8, ql_9, ql_10, ql_11, ql_12, ql_13, ql_14, ql_15, ql_16, ql_17, ql_18, ql_19, ql_20, ql_24, ql_25, ql_26, ql_27, ql_31, ql_32, ql_33, ql_36, ql_45, ql_46, ql_47, ql_48, ql_49, ql_50, ql_57, ql_63, ql_64, ql_65, ql_66, ql_67, ql_68, ql_69, ql_70, ql_71, ql_72, ql_73, ql_74, ql_75, ql_76, ql_77, ql_78, ql_79, ql_80, ql_81, ql_82, ql_83, ql_84, ql_85, ql_86, ql_87, ql_93, ql_96, ql_97, ql_100, ql_101, ql_120, ql_255, ql_256, ql_257, ql_511, ql_672, ql_900, ql_1000, ql_65536, g]
  | d + 1, s, σ, x8, h, hr => by
    have h9 := hP.1
    have b5 := bm_9 (kb_ P 5)
    have g : ¬ bm_ (kb_ P 5) 9 < s := by omega
    have hu : sm_ (sg_ P l a) (s + 1) = sm_ (sg_ P l a) s + sg_ P l a s := rfl
    have hp2 : 2 ^ l < 512 := Nat.pow_lt_pow_right (show 1 < 2 by decide) (by omega : l < 9)
    have hsu := su_ref (P := P) (l := l) (s := s) (by omega)
    have hae := an_e (a := s) (b := bm_ (kb_ P 5) 9) (by omega)
    have b10 := bm_10 (fun j => s.testBit j && !(bm_ (kb_ P 5) 9).testBit j)
    have eH := s_hasX (σ := σ) (m := s) (k := l) (by omega) (by omega)
    cases hc : su_ s (ot_ P l)
    · obtain ⟨σ', x8', e, f'⟩ := x_shareL hP hl ha hm (x3 := x3) d (s + 1) σ x8 (by omega) hr
      refine ⟨σ', x8', ?_, f'⟩
      have hsg : sg_ P l a s = nI 0 := by unfold sg_; rw [hc, if_neg (by decide)]
      rw [hu, hsg, ad_n0] at e
      rw [← e]
      generalize bm_ (fun j => s.testBit j && !(bm_ (kb_ P 5) 9).testBit j) 10 = Z at *
      generalize sm_ (sg_ P l a) s = S at *
      rw [rX9_share_65]
      by_cases hz : Z = 0
      · subst hz
        have hbl : s.testBit l = true := by
          cases hb : s.testBit l
          · rw [hsu.1 ⟨rfl, hb⟩] at hc; cases hc
          · rfl
        rw [hbl] at eH
        simp (disch := omega) only [vX9_share, rX9_share_67, rX9_share_69, rX9_share_72, rX9_share_74, rX9_share_76, rX9_share_77, rX9_share_78, rX9_share_79, rX9_share_82, rX9_share_84, rX9_share_85, rX9_share_88, rX9_share_91, rX9_share_93, rX9_share_96, rX9_share_99, rX9_share_101, rX9_share_102, rX9_share_103, rX9_share_105, rX9_share_108, rX9_share_109, rX9_share_112, rX9_share_113, rX9_share_115, rX9_share_117, rX9_share_119, rX9_share_120, rX9_share_121, rX9_share_123, rX9_share_124, rX9_share_125, rX9_share_126, rX9_share_127, rX9_share_130, rX9_share_131, rX9_share_132, rX9_share_134, rX9_share_137, rX9_share_138, rX9_share_139, rX9_share_140, rX9_share_142, rX9_share_145, mm_gd_t, mm_kc_v, mm_kc_n, mm_rfs, kl_n, kl_i, kl_r, kl_l, so_0, so_1, so_2, so_3, so_4, beq_self_eq_true, Bool.true_and, Bool.and_true, Bool.or_true, Bool.true_or, Bool.false_or, Bool.or_false, if_true, if_false, ↓reduceIte, decide_true, decide_false, Bool.not_false, Bool.not_true, not_true_eq_false, not_false_eq_true, eq_self, Nat.not_lt_zero, Bool.true_eq_false, Bool.false_eq_true, Nat.reduceAdd, Nat.reduceMul, Nat.reduceSub, Nat.reduceEqDiff, Nat.reduceLeDiff, Nat.reduceLT, Nat.reduceDiv, Nat.reduceMod, zb_0, zb_1, zb_b, on_nI, ml_l, rl_sl1, rl_sl2, rl_eq, rl_nj, rl_nk, qL_0, qL_1, qL_11, qL_10000, nI_lL, lN_add, lN_mul, Nat.zero_add, Nat.add_zero, mm_zr0n, mm_zr1n, mm_zrb, b2_0, b2_1, pk_mul, tn_nI, in_nI, mi_lt, rd_eq, rd_nj, rd_nk, rs_eq, rs_nk, rl_si, rl_sA, nI_add, nI_eqI, nI_leI2, nI_ltI2, ql_0, ql_1, ql_2, ql_3, ql_4, ql_5, ql_6, ql_7, ql_8, ql_9, ql_10, ql_11, ql_12, ql_13, ql_14, ql_15, ql_16, ql_17, ql_18, ql_19, ql_20, ql_24, ql_25, ql_26, ql_27, ql_31, ql_32, ql_33, ql_36, ql_45, ql_46, ql_47, ql_48, ql_49, ql_50, ql_57, ql_63, ql_64, ql_65, ql_66, ql_67, ql_68, ql_69, ql_70, ql_71, ql_72, ql_73, ql_74, ql_75, ql_76, ql_77, ql_78, ql_79, ql_80, ql_81, ql_82, ql_83, ql_84, ql_85, ql_86, ql_87, ql_93, ql_96, ql_97, ql_100, ql_101, ql_120, ql_255, ql_256, ql_257, ql_511, ql_672, ql_900, ql_1000, ql_65536, g, hae, eH]
      · simp (disch := omega) only [vX9_share, rX9_share_67, rX9_share_69, rX9_share_72, rX9_share_74, rX9_share_76, rX9_share_77, rX9_share_78, rX9_share_79, rX9_share_82, rX9_share_84, rX9_share_85, rX9_share_88, rX9_share_91, rX9_share_93, rX9_share_96, rX9_share_99, rX9_share_101, rX9_share_102, rX9_share_103, rX9_share_105, rX9_share_108, rX9_share_109, rX9_share_112, rX9_share_113, rX9_share_115, rX9_share_117, rX9_share_119, rX9_share_120, rX9_share_121, rX9_share_123, rX9_share_124, rX9_share_125, rX9_share_126, rX9_share_127, rX9_share_130, rX9_share_131, rX9_share_132, rX9_share_134, rX9_share_137, rX9_share_138, rX9_share_139, rX9_share_140, rX9_share_142, rX9_share_145, mm_gd_t, mm_kc_v, mm_kc_n, mm_rfs, kl_n, kl_i, kl_r, kl_l, so_0, so_1, so_2, so_3, so_4, beq_self_eq_true, Bool.true_and, Bool.and_true, Bool.or_true, Bool.true_or, Bool.false_or, Bool.or_false, if_true, if_false, ↓reduceIte, decide_true, decide_false, Bool.not_false, Bool.not_true, not_true_eq_false, not_false_eq_true, eq_self, Nat.not_lt_zero, Bool.true_eq_false, Bool.false_eq_true, Nat.reduceAdd, Nat.reduceMul, Nat.reduceSub, Nat.reduceEqDiff, Nat.reduceLeDiff, Nat.reduceLT, Nat.reduceDiv, Nat.reduceMod, zb_0, zb_1, zb_b, on_nI, ml_l, rl_sl1, rl_sl2, rl_eq, rl_nj, rl_nk, qL_0, qL_1, qL_11, qL_10000, nI_lL, lN_add, lN_mul, Nat.zero_add, Nat.add_zero, mm_zr0n, mm_zr1n, mm_zrb, b2_0, b2_1, pk_mul, tn_nI, in_nI, mi_lt, rd_eq, rd_nj, rd_nk, rs_eq, rs_nk, rl_si, rl_sA, nI_add, nI_eqI, nI_leI2, nI_ltI2, ql_0, ql_1, ql_2, ql_3, ql_4, ql_5, ql_6, ql_7, ql_8, ql_9, ql_10, ql_11, ql_12, ql_13, ql_14, ql_15, ql_16, ql_17, ql_18, ql_19, ql_20, ql_24, ql_25, ql_26, ql_27, ql_31, ql_32, ql_33, ql_36, ql_45, ql_46, ql_47, ql_48, ql_49, ql_50, ql_57, ql_63, ql_64, ql_65, ql_66, ql_67, ql_68, ql_69, ql_70, ql_71, ql_72, ql_73, ql_74, ql_75, ql_76, ql_77, ql_78, ql_79, ql_80, ql_81, ql_82, ql_83, ql_84, ql_85, ql_86, ql_87, ql_93, ql_96, ql_97, ql_100, ql_101, ql_120, ql_255, ql_256, ql_257, ql_511, ql_672, ql_900, ql_1000, ql_65536, g, hae, hz]
    · obtain ⟨hz, hbl⟩ := hsu.2 hc
      rw [hbl] at eH
      have hle := pc_su hc 9
      have f1 := fk_le (pc_ s 9) (by omega)
      have f2 := fk_le (pc_ (ot_ P l) 9 - pc_ s 9) (by omega)
      have eO := fun σ : mm_M => x_ones (σ := σ) (show s < 2147483648 by omega)
      have eF1 := fun σ : mm_M => x_factorial (σ := σ) (show pc_ s 9 < 6 by omega)
      have eF2 := fun σ : mm_M => x_factorial (σ := σ) (show pc_ (ot_ P l) 9 - pc_ s 9 < 6 by omega)
      have hor : s ||| 2 ^ l < 512 := Nat.or_lt_two_pow (n := 9) (by omega) hp2
      obtain ⟨σ1, e1, f1'⟩ := x_worldsBy (s := s ||| 2 ^ l) hP (by omega) ha hr
      have r1 := rq_fT hr h9 f1'
      obtain ⟨σ2, e2, f2'⟩ := x_worldsBy (s := s) hP (by omega) ha r1
      have r2 := rq_fT r1 h9 f2'
      obtain ⟨σ', x8', e, f'⟩ := x_shareL hP hl ha hm (x3 := x3) d (s + 1) σ2 (some (.int (nI (fk_ (pc_ s 9) * fk_ (pc_ (ot_ P l) 9 - pc_ s 9))))) (by omega) r2
      refine ⟨σ', x8', ?_, fT_tr f1' (fT_tr f2' f')⟩
      have hsg : sg_ P l a s = nI (fk_ (pc_ s 9) * fk_ (pc_ (ot_ P l) 9 - pc_ s 9)) * (nI (dc_ (fF_ P (s ||| 2 ^ l) a) 100) - nI (dc_ (fF_ P s a) 100)) := by unfold sg_; rw [hc, if_pos rfl]
      rw [hu, hsg] at e
      rw [← e]
      have hs1 : nI (pc_ (ot_ P l) 9 + 1) - nI 1 = nI (pc_ (ot_ P l) 9) := nI_pred _
      generalize dc_ (fF_ P (s ||| 2 ^ l) a) 100 = D1 at *
      generalize dc_ (fF_ P s a) 100 = D2 at *
      generalize sm_ (sg_ P l a) s = S at *
      rw [hz] at hae
      rw [rX9_share_65]
      simp (disch := omega) only [vX9_share, rX9_share_67, rX9_share_69, rX9_share_72, rX9_share_74, rX9_share_76, rX9_share_77, rX9_share_78, rX9_share_79, rX9_share_82, rX9_share_84, rX9_share_85, rX9_share_88, rX9_share_91, rX9_share_93, rX9_share_96, rX9_share_99, rX9_share_101, rX9_share_102, rX9_share_103, rX9_share_105, rX9_share_108, rX9_share_109, rX9_share_112, rX9_share_113, rX9_share_115, rX9_share_117, rX9_share_119, rX9_share_120, rX9_share_121, rX9_share_123, rX9_share_124, rX9_share_125, rX9_share_126, rX9_share_127, rX9_share_130, rX9_share_131, rX9_share_132, rX9_share_134, rX9_share_137, rX9_share_138, rX9_share_139, rX9_share_140, rX9_share_142, rX9_share_145, mm_gd_t, mm_kc_v, mm_kc_n, mm_rfs, kl_n, kl_i, kl_r, kl_l, so_0, so_1, so_2, so_3, so_4, beq_self_eq_true, Bool.true_and, Bool.and_true, Bool.or_true, Bool.true_or, Bool.false_or, Bool.or_false, if_true, if_false, ↓reduceIte, decide_true, decide_false, Bool.not_false, Bool.not_true, not_true_eq_false, not_false_eq_true, eq_self, Nat.not_lt_zero, Bool.true_eq_false, Bool.false_eq_true, Nat.reduceAdd, Nat.reduceMul, Nat.reduceSub, Nat.reduceEqDiff, Nat.reduceLeDiff, Nat.reduceLT, Nat.reduceDiv, Nat.reduceMod, zb_0, zb_1, zb_b, on_nI, ml_l, rl_sl1, rl_sl2, rl_eq, rl_nj, rl_nk, qL_0, qL_1, qL_11, qL_10000, nI_lL, lN_add, lN_mul, Nat.zero_add, Nat.add_zero, mm_zr0n, mm_zr1n, mm_zrb, b2_0, b2_1, pk_mul, tn_nI, in_nI, mi_lt, rd_eq, rd_nj, rd_nk, rs_eq, rs_nk, rl_si, rl_sA, nI_add, nI_eqI, nI_leI2, nI_ltI2, ql_0, ql_1, ql_2, ql_3, ql_4, ql_5, ql_6, ql_7, ql_8, ql_9, ql_10, ql_11, ql_12, ql_13, ql_14, ql_15, ql_16, ql_17, ql_18, ql_19, ql_20, ql_24, ql_25, ql_26, ql_27, ql_31, ql_32, ql_33, ql_36, ql_45, ql_46, ql_47, ql_48, ql_49, ql_50, ql_57, ql_63, ql_64, ql_65, ql_66, ql_67, ql_68, ql_69, ql_70, ql_71, ql_72, ql_73, ql_74, ql_75, ql_76, ql_77, ql_78, ql_79, ql_80, ql_81, ql_82, ql_83, ql_84, ql_85, ql_86, ql_87, ql_93, ql_96, ql_97, ql_100, ql_101, ql_120, ql_255, ql_256, ql_257, ql_511, ql_672, ql_900, ql_1000, ql_65536, rho_120_1, rho_120_3, rho_120_5, rho_120_6, rho_120_10, rho_120_11, rho_120_12, rho_120_15, rho_120_17, rho_120_18, rho_120_19, rho_120_20, rho_120_22, rho_120_23, kd_120, g, hae, eH, eO, eF1, hs1, pk_sub, eF2, shl_nI, fa_or, e1, e2]
theorem x_share {σ : mm_M} {P : pp_} {x a : Int32} {u : Bool} (hP : wf_ P) (hr : rq_ 0 σ P) :
    ∃ σ', mm_ev mX9_share [.ref 120, .int x, .int a, .int (nI (b2 u))] mm_H σ = some (some (.int (a_share P x a u)), mm_H, σ') ∧ ms_ σ σ' := by
  have h9 := hP.1
  have eh := x_isLine (x := x) h9 hr.1
  have hy := in_0 a (hi := 9) (n := 10) (by decide)
  unfold a_share
  rcases bl_ix (x := x) (n := P.1) (by omega) with h | ⟨l, hl, rfl⟩
  · rw [h] at eh
    refine ⟨σ, ?_, ms_refl _⟩
    simp (disch := omega) only [vX9_share, rX9_share_0, rX9_share_1, rX9_share_2, rX9_share_5, rX9_share_8, rX9_share_9, rX9_share_10, rX9_share_11, rX9_share_12, rX9_share_13, rX9_share_16, rX9_share_19, rX9_share_22, rX9_share_24, rX9_share_25, rX9_share_26, rX9_share_29, rX9_share_31, rX9_share_33, rX9_share_36, rX9_share_38, rX9_share_40, rX9_share_41, rX9_share_44, rX9_share_47, rX9_share_49, rX9_share_50, rX9_share_52, rX9_share_53, rX9_share_56, rX9_share_58, rX9_share_59, rX9_share_60, rX9_share_62, rX9_share_63, mm_gd_t, mm_kc_v, mm_kc_n, mm_rfs, kl_n, kl_i, kl_r, kl_l, so_0, so_1, so_2, so_3, so_4, beq_self_eq_true, Bool.true_and, Bool.and_true, Bool.or_true, Bool.true_or, Bool.false_or, Bool.or_false, if_true, if_false, ↓reduceIte, decide_true, decide_false, Bool.not_false, Bool.not_true, not_true_eq_false, not_false_eq_true, eq_self, Nat.not_lt_zero, Bool.true_eq_false, Bool.false_eq_true, Nat.reduceAdd, Nat.reduceMul, Nat.reduceSub, Nat.reduceEqDiff, Nat.reduceLeDiff, Nat.reduceLT, Nat.reduceDiv, Nat.reduceMod, zb_0, zb_1, zb_b, on_nI, ml_l, rl_sl1, rl_sl2, rl_eq, rl_nj, rl_nk, qL_0, qL_1, qL_11, qL_10000, nI_lL, lN_add, lN_mul, Nat.zero_add, Nat.add_zero, mm_zr0n, mm_zr1n, mm_zrb, b2_0, b2_1, pk_mul, tn_nI, in_nI, mi_lt, rd_eq, rd_nj, rd_nk, rs_eq, rs_nk, rl_si, rl_sA, nI_add, nI_eqI, nI_leI2, nI_ltI2, ql_0, ql_1, ql_2, ql_3, ql_4, ql_5, ql_6, ql_7, ql_8, ql_9, ql_10, ql_11, ql_12, ql_13, ql_14, ql_15, ql_16, ql_17, ql_18, ql_19, ql_20, ql_24, ql_25, ql_26, ql_27, ql_31, ql_32, ql_33, ql_36, ql_45, ql_46, ql_47, ql_48, ql_49, ql_50, ql_57, ql_63, ql_64, ql_65, ql_66, ql_67, ql_68, ql_69, ql_70, ql_71, ql_72, ql_73, ql_74, ql_75, ql_76, ql_77, ql_78, ql_79, ql_80, ql_81, ql_82, ql_83, ql_84, ql_85, ql_86, ql_87, ql_93, ql_96, ql_97, ql_100, ql_101, ql_120, ql_255, ql_256, ql_257, ql_511, ql_672, ql_900, ql_1000, ql_65536, rho_120_1, rho_120_3, rho_120_5, rho_120_6, rho_120_10, rho_120_11, rho_120_12, rho_120_15, rho_120_17, rho_120_18, rho_120_19, rho_120_20, rho_120_22, rho_120_23, kd_120, eh, h]
  · have hb : bl_ (nI l) P.1 = true := by rw [bl_nI (by omega), decide_eq_true hl]
    rw [hb] at eh
    rcases bl_ix (x := a) (n := 10) (by omega) with h | ⟨a', ha, rfl⟩
    · refine ⟨σ, ?_, ms_refl _⟩
      simp (disch := omega) only [vX9_share, rX9_share_0, rX9_share_1, rX9_share_2, rX9_share_5, rX9_share_8, rX9_share_9, rX9_share_10, rX9_share_11, rX9_share_12, rX9_share_13, rX9_share_16, rX9_share_19, rX9_share_22, rX9_share_24, rX9_share_25, rX9_share_26, rX9_share_29, rX9_share_31, rX9_share_33, rX9_share_36, rX9_share_38, rX9_share_40, rX9_share_41, rX9_share_44, rX9_share_47, rX9_share_49, rX9_share_50, rX9_share_52, rX9_share_53, rX9_share_56, rX9_share_58, rX9_share_59, rX9_share_60, rX9_share_62, rX9_share_63, mm_gd_t, mm_kc_v, mm_kc_n, mm_rfs, kl_n, kl_i, kl_r, kl_l, so_0, so_1, so_2, so_3, so_4, beq_self_eq_true, Bool.true_and, Bool.and_true, Bool.or_true, Bool.true_or, Bool.false_or, Bool.or_false, if_true, if_false, ↓reduceIte, decide_true, decide_false, Bool.not_false, Bool.not_true, not_true_eq_false, not_false_eq_true, eq_self, Nat.not_lt_zero, Bool.true_eq_false, Bool.false_eq_true, Nat.reduceAdd, Nat.reduceMul, Nat.reduceSub, Nat.reduceEqDiff, Nat.reduceLeDiff, Nat.reduceLT, Nat.reduceDiv, Nat.reduceMod, zb_0, zb_1, zb_b, on_nI, ml_l, rl_sl1, rl_sl2, rl_eq, rl_nj, rl_nk, qL_0, qL_1, qL_11, qL_10000, nI_lL, lN_add, lN_mul, Nat.zero_add, Nat.add_zero, mm_zr0n, mm_zr1n, mm_zrb, b2_0, b2_1, pk_mul, tn_nI, in_nI, mi_lt, rd_eq, rd_nj, rd_nk, rs_eq, rs_nk, rl_si, rl_sA, nI_add, nI_eqI, nI_leI2, nI_ltI2, ql_0, ql_1, ql_2, ql_3, ql_4, ql_5, ql_6, ql_7, ql_8, ql_9, ql_10, ql_11, ql_12, ql_13, ql_14, ql_15, ql_16, ql_17, ql_18, ql_19, ql_20, ql_24, ql_25, ql_26, ql_27, ql_31, ql_32, ql_33, ql_36, ql_45, ql_46, ql_47, ql_48, ql_49, ql_50, ql_57, ql_63, ql_64, ql_65, ql_66, ql_67, ql_68, ql_69, ql_70, ql_71, ql_72, ql_73, ql_74, ql_75, ql_76, ql_77, ql_78, ql_79, ql_80, ql_81, ql_82, ql_83, ql_84, ql_85, ql_86, ql_87, ql_93, ql_96, ql_97, ql_100, ql_101, ql_120, ql_255, ql_256, ql_257, ql_511, ql_672, ql_900, ql_1000, ql_65536, rho_120_1, rho_120_3, rho_120_5, rho_120_6, rho_120_10, rho_120_11, rho_120_12, rho_120_15, rho_120_17, rho_120_18, rho_120_19, rho_120_20, rho_120_22, rho_120_23, kd_120, eh, hb, s_in, hy, h]
    · have hb2 : bl_ (nI a') 10 = true := by rw [bl_nI (by omega), decide_eq_true ha]
      rw [nI_lL (by omega), hb2] at hy
      rw [if_pos hb, if_pos hb2, tn_nI (by omega), tn_nI (by omega)]
      have eS := x_speakers hP hr
      have b5 := bm_9 (kb_ P 5)
      have eO := x_ones (σ := σ) (show bm_ (kb_ P 5) 9 < 2147483648 by omega)
      have eH := s_hasX (σ := σ) (m := bm_ (kb_ P 5) 9) (k := l) (by omega) (by omega)
      rw [bm_bit, decide_eq_true (show l < 9 by omega), Bool.true_and] at eH
      have hkb : kb_ P 5 l = decide (P.2 l 0 = 5) := by unfold kb_; rw [decide_eq_true hl, Bool.true_and]
      rw [hkb] at eH
      by_cases hK : P.2 l 0 = 5
      · rw [if_pos hK]
        rw [decide_eq_true hK] at eH
        have hpo := pc_ot hl h9 hK 9 (by omega)
        rw [if_pos (show l < 9 by omega)] at hpo
        have hle : pc_ (bm_ (kb_ P 5) 9) 9 ≤ 9 := pc_le _ 9
        by_cases h5 : 5 < pc_ (bm_ (kb_ P 5) 9) 9
        · rw [if_pos h5]
          have h5' : ¬ pc_ (bm_ (kb_ P 5) 9) 9 ≤ 5 := by omega
          refine ⟨σ, ?_, ms_refl _⟩
          simp (disch := omega) only [vX9_share, rX9_share_0, rX9_share_1, rX9_share_2, rX9_share_5, rX9_share_8, rX9_share_9, rX9_share_10, rX9_share_11, rX9_share_12, rX9_share_13, rX9_share_16, rX9_share_19, rX9_share_22, rX9_share_24, rX9_share_25, rX9_share_26, rX9_share_29, rX9_share_31, rX9_share_33, rX9_share_36, rX9_share_38, rX9_share_40, rX9_share_41, rX9_share_44, rX9_share_47, rX9_share_49, rX9_share_50, rX9_share_52, rX9_share_53, rX9_share_56, rX9_share_58, rX9_share_59, rX9_share_60, rX9_share_62, rX9_share_63, mm_gd_t, mm_kc_v, mm_kc_n, mm_rfs, kl_n, kl_i, kl_r, kl_l, so_0, so_1, so_2, so_3, so_4, beq_self_eq_true, Bool.true_and, Bool.and_true, Bool.or_true, Bool.true_or, Bool.false_or, Bool.or_false, if_true, if_false, ↓reduceIte, decide_true, decide_false, Bool.not_false, Bool.not_true, not_true_eq_false, not_false_eq_true, eq_self, Nat.not_lt_zero, Bool.true_eq_false, Bool.false_eq_true, Nat.reduceAdd, Nat.reduceMul, Nat.reduceSub, Nat.reduceEqDiff, Nat.reduceLeDiff, Nat.reduceLT, Nat.reduceDiv, Nat.reduceMod, zb_0, zb_1, zb_b, on_nI, ml_l, rl_sl1, rl_sl2, rl_eq, rl_nj, rl_nk, qL_0, qL_1, qL_11, qL_10000, nI_lL, lN_add, lN_mul, Nat.zero_add, Nat.add_zero, mm_zr0n, mm_zr1n, mm_zrb, b2_0, b2_1, pk_mul, tn_nI, in_nI, mi_lt, rd_eq, rd_nj, rd_nk, rs_eq, rs_nk, rl_si, rl_sA, nI_add, nI_eqI, nI_leI2, nI_ltI2, ql_0, ql_1, ql_2, ql_3, ql_4, ql_5, ql_6, ql_7, ql_8, ql_9, ql_10, ql_11, ql_12, ql_13, ql_14, ql_15, ql_16, ql_17, ql_18, ql_19, ql_20, ql_24, ql_25, ql_26, ql_27, ql_31, ql_32, ql_33, ql_36, ql_45, ql_46, ql_47, ql_48, ql_49, ql_50, ql_57, ql_63, ql_64, ql_65, ql_66, ql_67, ql_68, ql_69, ql_70, ql_71, ql_72, ql_73, ql_74, ql_75, ql_76, ql_77, ql_78, ql_79, ql_80, ql_81, ql_82, ql_83, ql_84, ql_85, ql_86, ql_87, ql_93, ql_96, ql_97, ql_100, ql_101, ql_120, ql_255, ql_256, ql_257, ql_511, ql_672, ql_900, ql_1000, ql_65536, rho_120_1, rho_120_3, rho_120_5, rho_120_6, rho_120_10, rho_120_11, rho_120_12, rho_120_15, rho_120_17, rho_120_18, rho_120_19, rho_120_20, rho_120_22, rho_120_23, kd_120, eh, s_in, hy, eS, eO, eH, h5, h5']
        · rw [if_neg h5]
          have h5' : pc_ (bm_ (kb_ P 5) 9) 9 ≤ 5 := by omega
          have hm : pc_ (ot_ P l) 9 < 6 := by omega
          obtain ⟨σ1, x8', e1, f1⟩ := x_shareL hP (show l < 9 by omega) (show a' ≤ 9 by omega) hm (x3 := nI (b2 u)) (bm_ (kb_ P 5) 9 + 1) 0 σ none (by omega) hr
          refine ⟨σ1, ?_, ms_T f1⟩
          have hole : ot_ P l ≤ bm_ (kb_ P 5) 9 := su_le (su_iff.2 (fun j hj => by
            unfold ot_ at hj
            rw [bm_bit] at hj ⊢
            simp only [Bool.and_eq_true] at hj ⊢
            exact ⟨hj.1, hj.2.1⟩))
          have htail := sm_tail (g := sg_ P l a') (n := ot_ P l + 1) (fun s hs => by
            unfold sg_
            cases hc : su_ s (ot_ P l)
            · rw [if_neg (by decide)]
            · have := su_le hc; omega) (bm_ (kb_ P 5) 9 - ot_ P l)
          rw [show ot_ P l + 1 + (bm_ (kb_ P 5) 9 - ot_ P l) = bm_ (kb_ P 5) 9 + 1 by omega] at htail
          rw [htail, show sm_ (sg_ P l a') 0 = nI 0 from rfl] at e1
          have hfk := fk_le (pc_ (bm_ (kb_ P 5) 9) 9) (by omega)
          have hok := sm_ok (P := P) (l := l) (a := a') hm
          have eC := x_common (σ := σ1) hok (show fk_ (pc_ (bm_ (kb_ P 5) 9) 9) < 2147483648 by omega)
          have eF := fun σ : mm_M => x_factorial (σ := σ) (show pc_ (bm_ (kb_ P 5) 9) 9 < 6 by omega)
          unfold fc_
          rw [← hpo] at e1
          generalize sm_ (sg_ P l a') (ot_ P l + 1) = S at *
          have hg : 0 < Nat.gcd (ab_ S) (fk_ (pc_ (bm_ (kb_ P 5) 9) 9)) := Nat.gcd_pos_of_pos_right _ hfk.2
          have hg2 : Nat.gcd (ab_ S) (fk_ (pc_ (bm_ (kb_ P 5) 9) 9)) ≤ fk_ (pc_ (bm_ (kb_ P 5) 9) 9) := Nat.gcd_le_right _ hfk.2
          generalize Nat.gcd (ab_ S) (fk_ (pc_ (bm_ (kb_ P 5) 9) 9)) = G at *
          have hgz : ¬ G = 0 := by omega
          cases u <;> simp only [b2_t, b2_f] at e1 ⊢ <;> simp (disch := omega) only [vX9_share, rX9_share_0, rX9_share_1, rX9_share_2, rX9_share_5, rX9_share_8, rX9_share_9, rX9_share_10, rX9_share_11, rX9_share_12, rX9_share_13, rX9_share_16, rX9_share_19, rX9_share_22, rX9_share_24, rX9_share_25, rX9_share_26, rX9_share_29, rX9_share_31, rX9_share_33, rX9_share_36, rX9_share_38, rX9_share_40, rX9_share_41, rX9_share_44, rX9_share_47, rX9_share_49, rX9_share_50, rX9_share_52, rX9_share_53, rX9_share_56, rX9_share_58, rX9_share_59, rX9_share_60, rX9_share_62, rX9_share_63, rX9_share_148, rX9_share_150, rX9_share_152, rX9_share_155, rX9_share_158, rX9_share_160, rX9_share_161, rX9_share_164, rX9_share_166, rX9_share_168, rX9_share_169, rX9_share_172, rX9_share_174, rX9_share_177, rX9_share_179, rX9_share_180, mm_gd_t, mm_kc_v, mm_kc_n, mm_rfs, kl_n, kl_i, kl_r, kl_l, so_0, so_1, so_2, so_3, so_4, beq_self_eq_true, Bool.true_and, Bool.and_true, Bool.or_true, Bool.true_or, Bool.false_or, Bool.or_false, if_true, if_false, ↓reduceIte, decide_true, decide_false, Bool.not_false, Bool.not_true, not_true_eq_false, not_false_eq_true, eq_self, Nat.not_lt_zero, Bool.true_eq_false, Bool.false_eq_true, Nat.reduceAdd, Nat.reduceMul, Nat.reduceSub, Nat.reduceEqDiff, Nat.reduceLeDiff, Nat.reduceLT, Nat.reduceDiv, Nat.reduceMod, zb_0, zb_1, zb_b, on_nI, ml_l, rl_sl1, rl_sl2, rl_eq, rl_nj, rl_nk, qL_0, qL_1, qL_11, qL_10000, nI_lL, lN_add, lN_mul, Nat.zero_add, Nat.add_zero, mm_zr0n, mm_zr1n, mm_zrb, b2_0, b2_1, pk_mul, tn_nI, in_nI, mi_lt, rd_eq, rd_nj, rd_nk, rs_eq, rs_nk, rl_si, rl_sA, nI_add, nI_eqI, nI_leI2, nI_ltI2, ql_0, ql_1, ql_2, ql_3, ql_4, ql_5, ql_6, ql_7, ql_8, ql_9, ql_10, ql_11, ql_12, ql_13, ql_14, ql_15, ql_16, ql_17, ql_18, ql_19, ql_20, ql_24, ql_25, ql_26, ql_27, ql_31, ql_32, ql_33, ql_36, ql_45, ql_46, ql_47, ql_48, ql_49, ql_50, ql_57, ql_63, ql_64, ql_65, ql_66, ql_67, ql_68, ql_69, ql_70, ql_71, ql_72, ql_73, ql_74, ql_75, ql_76, ql_77, ql_78, ql_79, ql_80, ql_81, ql_82, ql_83, ql_84, ql_85, ql_86, ql_87, ql_93, ql_96, ql_97, ql_100, ql_101, ql_120, ql_255, ql_256, ql_257, ql_511, ql_672, ql_900, ql_1000, ql_65536, rho_120_1, rho_120_3, rho_120_5, rho_120_6, rho_120_10, rho_120_11, rho_120_12, rho_120_15, rho_120_17, rho_120_18, rho_120_19, rho_120_20, rho_120_22, rho_120_23, kd_120, eh, s_in, hy, eS, eO, eH, h5, h5', e1, eF, eC, hgz]
      · rw [if_neg hK]
        rw [decide_eq_false hK] at eH
        refine ⟨σ, ?_, ms_refl _⟩
        simp (disch := omega) only [vX9_share, rX9_share_0, rX9_share_1, rX9_share_2, rX9_share_5, rX9_share_8, rX9_share_9, rX9_share_10, rX9_share_11, rX9_share_12, rX9_share_13, rX9_share_16, rX9_share_19, rX9_share_22, rX9_share_24, rX9_share_25, rX9_share_26, rX9_share_29, rX9_share_31, rX9_share_33, rX9_share_36, rX9_share_38, rX9_share_40, rX9_share_41, rX9_share_44, rX9_share_47, rX9_share_49, rX9_share_50, rX9_share_52, rX9_share_53, rX9_share_56, rX9_share_58, rX9_share_59, rX9_share_60, rX9_share_62, rX9_share_63, mm_gd_t, mm_kc_v, mm_kc_n, mm_rfs, kl_n, kl_i, kl_r, kl_l, so_0, so_1, so_2, so_3, so_4, beq_self_eq_true, Bool.true_and, Bool.and_true, Bool.or_true, Bool.true_or, Bool.false_or, Bool.or_false, if_true, if_false, ↓reduceIte, decide_true, decide_false, Bool.not_false, Bool.not_true, not_true_eq_false, not_false_eq_true, eq_self, Nat.not_lt_zero, Bool.true_eq_false, Bool.false_eq_true, Nat.reduceAdd, Nat.reduceMul, Nat.reduceSub, Nat.reduceEqDiff, Nat.reduceLeDiff, Nat.reduceLT, Nat.reduceDiv, Nat.reduceMod, zb_0, zb_1, zb_b, on_nI, ml_l, rl_sl1, rl_sl2, rl_eq, rl_nj, rl_nk, qL_0, qL_1, qL_11, qL_10000, nI_lL, lN_add, lN_mul, Nat.zero_add, Nat.add_zero, mm_zr0n, mm_zr1n, mm_zrb, b2_0, b2_1, pk_mul, tn_nI, in_nI, mi_lt, rd_eq, rd_nj, rd_nk, rs_eq, rs_nk, rl_si, rl_sA, nI_add, nI_eqI, nI_leI2, nI_ltI2, ql_0, ql_1, ql_2, ql_3, ql_4, ql_5, ql_6, ql_7, ql_8, ql_9, ql_10, ql_11, ql_12, ql_13, ql_14, ql_15, ql_16, ql_17, ql_18, ql_19, ql_20, ql_24, ql_25, ql_26, ql_27, ql_31, ql_32, ql_33, ql_36, ql_45, ql_46, ql_47, ql_48, ql_49, ql_50, ql_57, ql_63, ql_64, ql_65, ql_66, ql_67, ql_68, ql_69, ql_70, ql_71, ql_72, ql_73, ql_74, ql_75, ql_76, ql_77, ql_78, ql_79, ql_80, ql_81, ql_82, ql_83, ql_84, ql_85, ql_86, ql_87, ql_93, ql_96, ql_97, ql_100, ql_101, ql_120, ql_255, ql_256, ql_257, ql_511, ql_672, ql_900, ql_1000, ql_65536, rho_120_1, rho_120_3, rho_120_5, rho_120_6, rho_120_10, rho_120_11, rho_120_12, rho_120_15, rho_120_17, rho_120_18, rho_120_19, rho_120_20, rho_120_22, rho_120_23, kd_120, eh, s_in, hy, eS, eO, eH]

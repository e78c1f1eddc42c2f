/-! ===== the class's flow: read ===== -/
def li_ : Nat → Int32
  | 0 => -nI 1
  | k + 1 => nI k
theorem li_0 : li_ 0 = -nI 1 := rfl
theorem li_s (k : Nat) : li_ (k + 1) = nI k := rfl
theorem li_step (k : Nat) : nI k + -nI 1 = li_ k := by
  cases k with
  | zero => decide
  | succ k => exact pk_m1 k
theorem li_sub (k : Nat) : nI k - nI 1 = li_ k := by
  cases k with
  | zero => decide
  | succ k => exact nI_pred k
theorem me_H {P : pp_} (hP : wf_ P) {l : Nat} (hl : l < P.1) : (ee_ P (l + 1) (me_ P l) && ee_ P (tg_ P l) (me_ P l)) = true ∧ ∀ r, r < me_ P l → (ee_ P (l + 1) r && ee_ P (tg_ P l) r) = false := by
  have ht := tg_gt hP hl
  have hm := me_gt (P := P) hl
  have sp := mt_spec (P := P) (i := l) (P.1 - (l + 1)) (l + 1)
  refine ⟨?_, fun r hr => ?_⟩
  · by_cases h : me_ P l < P.1
    · exact sp.2.2.2 (by unfold me_ at h; omega)
    · have : me_ P l = P.1 := by omega
      rw [this, ee_end hP P.1 (l + 1) (by omega) (by omega), ee_end hP P.1 (tg_ P l) (by omega) (by omega)]; rfl
  · by_cases h : l + 1 ≤ r
    · exact sp.2.2.1 r h hr
    · cases hc : ee_ P (l + 1) r
      · rfl
      · have := ee_le hP P.1 (l + 1) r (by omega) hc; omega
def wq_ (f : Nat) (σ : mm_M) (P : pp_) (k : Nat) : Prop := (∀ j, k ≤ j → j ≤ P.1 → σ.1 (f + 14) j = nI (bm_ (ee_ P j) 10) ∧ σ.1 (f + 13) j = nI (bm_ (ww_ P 99 j) 10)) ∧ ∀ j, k ≤ j → j < P.1 → σ.1 (f + 1) j = nI (me_ P j)
/-- only meetings, someRow and eachRow have changed -/
def fM_ (f : Nat) (σ σ' : mm_M) : Prop := (∀ k, k ≠ f + 1 → k ≠ f + 13 → k ≠ f + 14 → σ'.1 k = σ.1 k) ∧ σ'.2 = σ.2
theorem s_waysL {f : Nat} {P : pp_} (hf : fb_ f) (hP : wf_ P) {w2 : Int32} : ∀ (k : Nat) (σ : mm_M) (x4 x5 : Option Value), k ≤ P.1 → rc_ 15 σ P → wq_ f σ P k →
    ∃ σ', mm_run mX1_readWays mm_H 27 [some (.ref f), some (.ref 15), some (.int w2), some (.int (li_ k)), x4, x5] [] σ = some (none, mm_H, σ') ∧ fM_ f σ σ' ∧ wq_ f σ' P 0
  | 0, σ, x4, x5, hk, hr, hq => by
    refine ⟨σ, ?_, ⟨fun _ _ _ _ => rfl, rfl⟩, hq⟩
    rw [rX1_readWays_27]
    simp (disch := omega) only [vX1_readWays, rX1_readWays_0, rX1_readWays_1, rX1_readWays_4, rX1_readWays_5, rX1_readWays_6, rX1_readWays_9, rX1_readWays_10, rX1_readWays_11, rX1_readWays_12, rX1_readWays_13, rX1_readWays_14, rX1_readWays_15, rX1_readWays_18, rX1_readWays_19, rX1_readWays_20, rX1_readWays_21, rX1_readWays_22, rX1_readWays_23, rX1_readWays_24, rX1_readWays_25, rX1_readWays_26, rX1_readWays_28, rX1_readWays_31, rX1_readWays_32, rX1_readWays_33, rX1_readWays_36, rX1_readWays_38, rX1_readWays_39, rX1_readWays_42, rX1_readWays_43, rX1_readWays_44, rX1_readWays_45, rX1_readWays_46, rX1_readWays_47, rX1_readWays_50, rX1_readWays_52, rX1_readWays_53, rX1_readWays_54, rX1_readWays_56, rX1_readWays_57, rX1_readWays_60, rX1_readWays_61, rX1_readWays_63, rX1_readWays_66, rX1_readWays_67, rX1_readWays_68, rX1_readWays_71, rX1_readWays_72, rX1_readWays_74, rX1_readWays_75, rX1_readWays_76, rX1_readWays_77, rX1_readWays_78, rX1_readWays_79, rX1_readWays_80, rX1_readWays_83, rX1_readWays_84, rX1_readWays_85, rX1_readWays_88, rX1_readWays_89, rX1_readWays_90, rX1_readWays_91, rX1_readWays_92, rX1_readWays_93, rX1_readWays_96, rX1_readWays_98, rX1_readWays_99, rX1_readWays_100, rX1_readWays_101, rX1_readWays_102, rX1_readWays_103, rX1_readWays_104, rX1_readWays_105, rX1_readWays_108, rX1_readWays_111, mm_gd_t, mm_kc_v, mm_kc_n, mm_rfs, kl_n, kl_i, kl_r, kl_l, so_0, so_1, so_2, so_3, so_4, beq_self_eq_true, Bool.true_and, Bool.and_true, Bool.or_true, Bool.true_or, Bool.false_or, Bool.or_false, if_true, if_false, ↓reduceIte, decide_true, decide_false, Bool.not_false, Bool.not_true, not_true_eq_false, not_false_eq_true, eq_self, Nat.not_lt_zero, Bool.true_eq_false, Bool.false_eq_true, Nat.reduceAdd, Nat.reduceMul, Nat.reduceSub, Nat.reduceEqDiff, Nat.reduceLeDiff, Nat.reduceLT, Nat.reduceDiv, Nat.reduceMod, zb_0, zb_1, zb_b, on_nI, ml_l, rl_sl1, rl_sl2, rl_eq, rl_nj, rl_nk, qL_0, qL_1, qL_11, qL_10000, nI_lL, lN_add, lN_mul, Nat.zero_add, Nat.add_zero, mm_zr0n, mm_zr1n, mm_zrb, b2_0, b2_1, pk_mul, tn_nI, in_nI, mi_lt, rd_eq, rd_nj, rd_nk, rs_eq, rs_nk, rl_si, rl_sA, nI_add, nI_eqI, nI_leI2, nI_ltI2, ql_0, ql_1, ql_2, ql_3, ql_4, ql_5, ql_6, ql_7, ql_8, ql_9, ql_10, ql_11, ql_12, ql_13, ql_14, ql_15, ql_16, ql_17, ql_18, ql_19, ql_20, ql_24, ql_25, ql_26, ql_27, ql_31, ql_32, ql_33, ql_36, ql_45, ql_46, ql_47, ql_48, ql_49, ql_50, ql_57, ql_63, ql_64, ql_65, ql_66, ql_67, ql_68, ql_69, ql_70, ql_71, ql_72, ql_73, ql_74, ql_75, ql_76, ql_77, ql_78, ql_79, ql_80, ql_81, ql_82, ql_83, ql_84, ql_85, ql_86, ql_87, ql_93, ql_96, ql_97, ql_100, ql_101, ql_120, ql_255, ql_256, ql_257, ql_511, ql_672, ql_900, ql_1000, ql_65536, li_0, nI_n4]
  | k + 1, σ, x4, x5, hk, hr, hq => by
    have hf' := hf
    obtain ⟨k0, k1, k2, k3, k4, k5, k6, k7, k8, kr, kw, a1, a2, a3, a4, a5, a6, a7, h26, h16⟩ := hf
    have h9 := hP.1
    have ht := tg_gt hP (show k < P.1 by omega)
    have hm := me_gt (P := P) (show k < P.1 by omega)
    obtain ⟨q1, q2⟩ := hq
    have p1 := q1 (k + 1) (by omega) (by omega)
    have p2 := q1 (tg_ P k) (by omega) (by omega)
    have eT := s_targetOf hP hr (show k < P.1 by omega)
    obtain ⟨mH1, mH2⟩ := me_H hP (show k < P.1 by omega)
    have hbit : ∀ m, m < 10 → (bm_ (fun m => ee_ P (k + 1) m && ee_ P (tg_ P k) m) 10).testBit m = (ee_ P (k + 1) m && ee_ P (tg_ P k) m) := fun m hm => by rw [bm_bit, decide_eq_true hm, Bool.true_and]
    have htz : tz_ (bm_ (fun m => ee_ P (k + 1) m && ee_ P (tg_ P k) m) 10) 10 0 = me_ P k := tz_at 10 0 (me_ P k) (by omega) (by omega) (by rw [hbit _ (by omega)]; exact mH1) (fun r _ hr => by rw [hbit _ (by omega)]; exact mH2 r hr)
    have hne : bm_ (fun m => ee_ P (k + 1) m && ee_ P (tg_ P k) m) 10 ≠ 0 := fun h => by
      have := bm_z h (me_ P k) (by omega)
      rw [mH1] at this; cases this
    have eN := fun σ => s_ntz (σ := σ) (bm_10 (fun m => ee_ P (k + 1) m && ee_ P (tg_ P k) m)) hne
    rw [htz] at eN
    have hee : bm_ (fun m => ee_ P (k + 1) m && ee_ P (tg_ P k) m) 10 ||| 2 ^ k = bm_ (ee_ P k) 10 := by
      rw [bm_orone (by omega)]
      apply bm_ext
      intro m _
      rw [ee_eq hP k m, decide_eq_true (show k < P.1 by omega), Bool.true_and, Bool.or_comm]
      congr 1
      exact decide_eq_decide.2 (by omega)
    have hww : bm_ (ww_ P 99 (k + 1)) 10 ||| bm_ (ww_ P 99 (tg_ P k)) 10 ||| 2 ^ k = bm_ (ww_ P 99 k) 10 := by
      rw [bm_or, bm_orone (by omega)]
      apply bm_ext
      intro m _
      rw [ww_eq hP 99 k m, decide_eq_true (show k < P.1 by omega), Bool.true_and, decide_eq_true (show k ≠ 99 by omega), Bool.true_and, Bool.or_comm]
      congr 1
      exact decide_eq_decide.2 (by omega)
    have hA : nI (bm_ (ee_ P (k + 1)) 10) &&& nI (bm_ (ee_ P (tg_ P k)) 10) = nI (bm_ (fun m => ee_ P (k + 1) m && ee_ P (tg_ P k) m) 10) := by rw [fa_and, bm_and]
    let σ1 := mm_si (mm_si (mm_si σ (f + 1) k (nI (me_ P k))) (f + 14) k (nI (bm_ (ee_ P k) 10))) (f + 13) k (nI (bm_ (ww_ P 99 k) 10))
    have M1 : fM_ f σ σ1 := ⟨fun k' h1 h2 h3 => by simp (disch := omega) only [σ1, rd_nk], rfl⟩
    have hr1 : rc_ 15 σ1 P := ⟨by rw [M1.1 15 (by omega) (by omega) (by omega)]; exact hr.1, fun i hi p hp => by rw [M1.1 _ (by omega) (by omega) (by omega)]; exact hr.2 i hi p hp⟩
    obtain ⟨σ2, e2, M2, w2'⟩ := s_waysL hf' hP (w2 := w2) k σ1 (some (.int (nI (tg_ P k)))) (some (.int (nI (bm_ (fun m => ee_ P (k + 1) m && ee_ P (tg_ P k) m) 10)))) (by omega) hr1 ⟨fun j h1 h2 => by
      by_cases hj : j = k
      · subst hj
        constructor <;> simp (disch := omega) only [σ1, rd_nk, rd_eq]
      · have := q1 j (by omega) h2
        constructor <;> simp (disch := omega) only [σ1, rd_nk, rd_nj, this.1, this.2], fun j h1 h2 => by
      by_cases hj : j = k
      · subst hj; simp (disch := omega) only [σ1, rd_nk, rd_eq]
      · have := q2 j (by omega) h2
        simp (disch := omega) only [σ1, rd_nk, rd_nj, this]⟩
    refine ⟨σ2, ?_, ⟨fun k' h1 h2 h3 => (M2.1 k' h1 h2 h3).trans (M1.1 k' h1 h2 h3), M2.2.trans M1.2⟩, w2'⟩
    rw [rX1_readWays_27]
    simp (disch := omega) only [vX1_readWays, rX1_readWays_0, rX1_readWays_1, rX1_readWays_4, rX1_readWays_5, rX1_readWays_6, rX1_readWays_9, rX1_readWays_10, rX1_readWays_11, rX1_readWays_12, rX1_readWays_13, rX1_readWays_14, rX1_readWays_15, rX1_readWays_18, rX1_readWays_19, rX1_readWays_20, rX1_readWays_21, rX1_readWays_22, rX1_readWays_23, rX1_readWays_24, rX1_readWays_25, rX1_readWays_26, rX1_readWays_28, rX1_readWays_31, rX1_readWays_32, rX1_readWays_33, rX1_readWays_36, rX1_readWays_38, rX1_readWays_39, rX1_readWays_42, rX1_readWays_43, rX1_readWays_44, rX1_readWays_45, rX1_readWays_46, rX1_readWays_47, rX1_readWays_50, rX1_readWays_52, rX1_readWays_53, rX1_readWays_54, rX1_readWays_56, rX1_readWays_57, rX1_readWays_60, rX1_readWays_61, rX1_readWays_63, rX1_readWays_66, rX1_readWays_67, rX1_readWays_68, rX1_readWays_71, rX1_readWays_72, rX1_readWays_74, rX1_readWays_75, rX1_readWays_76, rX1_readWays_77, rX1_readWays_78, rX1_readWays_79, rX1_readWays_80, rX1_readWays_83, rX1_readWays_84, rX1_readWays_85, rX1_readWays_88, rX1_readWays_89, rX1_readWays_90, rX1_readWays_91, rX1_readWays_92, rX1_readWays_93, rX1_readWays_96, rX1_readWays_98, rX1_readWays_99, rX1_readWays_100, rX1_readWays_101, rX1_readWays_102, rX1_readWays_103, rX1_readWays_104, rX1_readWays_105, rX1_readWays_108, rX1_readWays_111, mm_gd_t, mm_kc_v, mm_kc_n, mm_rfs, kl_n, kl_i, kl_r, kl_l, so_0, so_1, so_2, so_3, so_4, beq_self_eq_true, Bool.true_and, Bool.and_true, Bool.or_true, Bool.true_or, Bool.false_or, Bool.or_false, if_true, if_false, ↓reduceIte, decide_true, decide_false, Bool.not_false, Bool.not_true, not_true_eq_false, not_false_eq_true, eq_self, Nat.not_lt_zero, Bool.true_eq_false, Bool.false_eq_true, Nat.reduceAdd, Nat.reduceMul, Nat.reduceSub, Nat.reduceEqDiff, Nat.reduceLeDiff, Nat.reduceLT, Nat.reduceDiv, Nat.reduceMod, zb_0, zb_1, zb_b, on_nI, ml_l, rl_sl1, rl_sl2, rl_eq, rl_nj, rl_nk, qL_0, qL_1, qL_11, qL_10000, nI_lL, lN_add, lN_mul, Nat.zero_add, Nat.add_zero, mm_zr0n, mm_zr1n, mm_zrb, b2_0, b2_1, pk_mul, tn_nI, in_nI, mi_lt, rd_eq, rd_nj, rd_nk, rs_eq, rs_nk, rl_si, rl_sA, nI_add, nI_eqI, nI_leI2, nI_ltI2, ql_0, ql_1, ql_2, ql_3, ql_4, ql_5, ql_6, ql_7, ql_8, ql_9, ql_10, ql_11, ql_12, ql_13, ql_14, ql_15, ql_16, ql_17, ql_18, ql_19, ql_20, ql_24, ql_25, ql_26, ql_27, ql_31, ql_32, ql_33, ql_36, ql_45, ql_46, ql_47, ql_48, ql_49, ql_50, ql_57, ql_63, ql_64, ql_65, ql_66, ql_67, ql_68, ql_69, ql_70, ql_71, ql_72, ql_73, ql_74, ql_75, ql_76, ql_77, ql_78, ql_79, ql_80, ql_81, ql_82, ql_83, ql_84, ql_85, ql_86, ql_87, ql_93, ql_96, ql_97, ql_100, ql_101, ql_120, ql_255, ql_256, ql_257, ql_511, ql_672, ql_900, ql_1000, ql_65536, rho_15_1, rho_15_2, kd_15, li_s, k0, k1, k4, k5, kr, kw, a1, a4, a5, eT, p1.1, p1.2, p2.1, p2.2, hA, fa_or, eN, shl_nI, hee, hww, li_step]
    exact e2
theorem s_readWays {σ : mm_M} {f : Nat} {P : pp_} (hf : fb_ f) (hP : wf_ P) (hr : rc_ 15 σ P) :
    ∃ σ', mm_ev mX1_readWays [.ref f, .ref 15] mm_H σ = some (none, mm_H, σ') ∧ fM_ f σ σ' ∧ wz_ f σ' P := by
  have hf' := hf
  obtain ⟨k0, k1, k2, k3, k4, k5, k6, k7, k8, kr, kw, a1, a2, a3, a4, a5, a6, a7, h26, h16⟩ := hf
  have h9 := hP.1
  have hn := rc_n hr
  have he : 2 ^ P.1 = bm_ (ee_ P P.1) 10 := by
    rw [bm_one (show P.1 < 10 by omega)]
    apply bm_ext
    intro m _
    rw [ee_eq hP, decide_eq_false (Nat.lt_irrefl _), Bool.false_and, Bool.or_false]
    exact decide_eq_decide.2 (by omega)
  have hw : 2 ^ P.1 = bm_ (ww_ P 99 P.1) 10 := by
    rw [bm_one (show P.1 < 10 by omega)]
    apply bm_ext
    intro m _
    rw [ww_eq hP, decide_eq_false (Nat.lt_irrefl _), Bool.false_and, Bool.or_false]
    exact decide_eq_decide.2 (by omega)
  let σ1 := mm_si (mm_si σ (f + 13) P.1 (nI (2 ^ P.1))) (f + 14) P.1 (nI (2 ^ P.1))
  have M1 : fM_ f σ σ1 := ⟨fun k' h1 h2 h3 => by simp (disch := omega) only [σ1, rd_nk], rfl⟩
  have hr1 : rc_ 15 σ1 P := ⟨by rw [M1.1 15 (by omega) (by omega) (by omega)]; exact hr.1, fun i hi p hp => by rw [M1.1 _ (by omega) (by omega) (by omega)]; exact hr.2 i hi p hp⟩
  obtain ⟨σ2, e2, M2, w2'⟩ := s_waysL hf' hP (w2 := nI P.1) P.1 σ1 none none (Nat.le_refl _) hr1 ⟨fun j h1 h2 => by
    have : j = P.1 := by omega
    subst this
    constructor
    · rw [← he]; simp (disch := omega) only [σ1, rd_eq]
    · rw [← hw]; simp (disch := omega) only [σ1, rd_eq, rd_nk], fun j h1 h2 => by omega⟩
  refine ⟨σ2, ?_, ⟨fun k' h1 h2 h3 => (M2.1 k' h1 h2 h3).trans (M1.1 k' h1 h2 h3), M2.2.trans M1.2⟩, fun j hj => ⟨w2'.2 j (by omega) hj, (w2'.1 j (by omega) (by omega)).2⟩⟩
  simp (disch := omega) only [vX1_readWays, rX1_readWays_0, rX1_readWays_1, rX1_readWays_4, rX1_readWays_5, rX1_readWays_6, rX1_readWays_9, rX1_readWays_10, rX1_readWays_11, rX1_readWays_12, rX1_readWays_13, rX1_readWays_14, rX1_readWays_15, rX1_readWays_18, rX1_readWays_19, rX1_readWays_20, rX1_readWays_21, rX1_readWays_22, rX1_readWays_23, rX1_readWays_24, rX1_readWays_25, rX1_readWays_26, rX1_readWays_28, rX1_readWays_31, rX1_readWays_32, rX1_readWays_33, rX1_readWays_36, rX1_readWays_38, rX1_readWays_39, rX1_readWays_42, rX1_readWays_43, rX1_readWays_44, rX1_readWays_45, rX1_readWays_46, rX1_readWays_47, rX1_readWays_50, rX1_readWays_52, rX1_readWays_53, rX1_readWays_54, rX1_readWays_56, rX1_readWays_57, rX1_readWays_60, rX1_readWays_61, rX1_readWays_63, rX1_readWays_66, rX1_readWays_67, rX1_readWays_68, rX1_readWays_71, rX1_readWays_72, rX1_readWays_74, rX1_readWays_75, rX1_readWays_76, rX1_readWays_77, rX1_readWays_78, rX1_readWays_79, rX1_readWays_80, rX1_readWays_83, rX1_readWays_84, rX1_readWays_85, rX1_readWays_88, rX1_readWays_89, rX1_readWays_90, rX1_readWays_91, rX1_readWays_92, rX1_readWays_93, rX1_readWays_96, rX1_readWays_98, rX1_readWays_99, rX1_readWays_100, rX1_readWays_101, rX1_readWays_102, rX1_readWays_103, rX1_readWays_104, rX1_readWays_105, rX1_readWays_108, rX1_readWays_111, mm_gd_t, mm_kc_v, mm_kc_n, mm_rfs, kl_n, kl_i, kl_r, kl_l, so_0, so_1, so_2, so_3, so_4, beq_self_eq_true, Bool.true_and, Bool.and_true, Bool.or_true, Bool.true_or, Bool.false_or, Bool.or_false, if_true, if_false, ↓reduceIte, decide_true, decide_false, Bool.not_false, Bool.not_true, not_true_eq_false, not_false_eq_true, eq_self, Nat.not_lt_zero, Bool.true_eq_false, Bool.false_eq_true, Nat.reduceAdd, Nat.reduceMul, Nat.reduceSub, Nat.reduceEqDiff, Nat.reduceLeDiff, Nat.reduceLT, Nat.reduceDiv, Nat.reduceMod, zb_0, zb_1, zb_b, on_nI, ml_l, rl_sl1, rl_sl2, rl_eq, rl_nj, rl_nk, qL_0, qL_1, qL_11, qL_10000, nI_lL, lN_add, lN_mul, Nat.zero_add, Nat.add_zero, mm_zr0n, mm_zr1n, mm_zrb, b2_0, b2_1, pk_mul, tn_nI, in_nI, mi_lt, rd_eq, rd_nj, rd_nk, rs_eq, rs_nk, rl_si, rl_sA, nI_add, nI_eqI, nI_leI2, nI_ltI2, ql_0, ql_1, ql_2, ql_3, ql_4, ql_5, ql_6, ql_7, ql_8, ql_9, ql_10, ql_11, ql_12, ql_13, ql_14, ql_15, ql_16, ql_17, ql_18, ql_19, ql_20, ql_24, ql_25, ql_26, ql_27, ql_31, ql_32, ql_33, ql_36, ql_45, ql_46, ql_47, ql_48, ql_49, ql_50, ql_57, ql_63, ql_64, ql_65, ql_66, ql_67, ql_68, ql_69, ql_70, ql_71, ql_72, ql_73, ql_74, ql_75, ql_76, ql_77, ql_78, ql_79, ql_80, ql_81, ql_82, ql_83, ql_84, ql_85, ql_86, ql_87, ql_93, ql_96, ql_97, ql_100, ql_101, ql_120, ql_255, ql_256, ql_257, ql_511, ql_672, ql_900, ql_1000, ql_65536, rho_15_1, rho_15_2, kd_15, k0, k4, k5, kw, a4, a5, hn, shl_nI, li_sub]
  exact e2
theorem s_clearL {f c : Nat} (hf : fb_ f) : ∀ (d i : Nat) (σ : mm_M), i + d = 9 →
    ∃ σ', mm_run mX1_clearLabels mm_H 2 [some (.ref f), some (.ref c), some (.int (nI i))] [] σ = mm_run mX1_clearLabels mm_H 24 [some (.ref f), some (.ref c), some (.int (nI 9))] [] σ' ∧ fr_ (f + 4) (f + 13) σ σ' ∧ (∀ j, i ≤ j → j < 9 → ∀ v, v < 5 → σ'.1 (f + 4 + j) v = nI 0) ∧ (∀ j, j < i → σ'.1 (f + 4 + j) = σ.1 (f + 4 + j))
  | 0, i, σ, h => by
    refine ⟨σ, ?_, fr_refl _ _ _, fun j h1 h2 => by omega, fun _ _ => rfl⟩
    have h3 : i = 9 := by omega
    subst h3
    rw [rX1_clearLabels_2]
    simp (disch := omega) only [vX1_clearLabels, rX1_clearLabels_3, rX1_clearLabels_5, rX1_clearLabels_8, rX1_clearLabels_9, rX1_clearLabels_12, rX1_clearLabels_13, rX1_clearLabels_14, rX1_clearLabels_15, rX1_clearLabels_18, rX1_clearLabels_21, mm_gd_t, mm_kc_v, mm_kc_n, mm_rfs, kl_n, kl_i, kl_r, kl_l, so_0, so_1, so_2, so_3, so_4, beq_self_eq_true, Bool.true_and, Bool.and_true, Bool.or_true, Bool.true_or, Bool.false_or, Bool.or_false, if_true, if_false, ↓reduceIte, decide_true, decide_false, Bool.not_false, Bool.not_true, not_true_eq_false, not_false_eq_true, eq_self, Nat.not_lt_zero, Bool.true_eq_false, Bool.false_eq_true, Nat.reduceAdd, Nat.reduceMul, Nat.reduceSub, Nat.reduceEqDiff, Nat.reduceLeDiff, Nat.reduceLT, Nat.reduceDiv, Nat.reduceMod, zb_0, zb_1, zb_b, on_nI, ml_l, rl_sl1, rl_sl2, rl_eq, rl_nj, rl_nk, qL_0, qL_1, qL_11, qL_10000, nI_lL, lN_add, lN_mul, Nat.zero_add, Nat.add_zero, mm_zr0n, mm_zr1n, mm_zrb, b2_0, b2_1, pk_mul, tn_nI, in_nI, mi_lt, rd_eq, rd_nj, rd_nk, rs_eq, rs_nk, rl_si, rl_sA, nI_add, nI_eqI, nI_leI2, nI_ltI2, ql_0, ql_1, ql_2, ql_3, ql_4, ql_5, ql_6, ql_7, ql_8, ql_9, ql_10, ql_11, ql_12, ql_13, ql_14, ql_15, ql_16, ql_17, ql_18, ql_19, ql_20, ql_24, ql_25, ql_26, ql_27, ql_31, ql_32, ql_33, ql_36, ql_45, ql_46, ql_47, ql_48, ql_49, ql_50, ql_57, ql_63, ql_64, ql_65, ql_66, ql_67, ql_68, ql_69, ql_70, ql_71, ql_72, ql_73, ql_74, ql_75, ql_76, ql_77, ql_78, ql_79, ql_80, ql_81, ql_82, ql_83, ql_84, ql_85, ql_86, ql_87, ql_93, ql_96, ql_97, ql_100, ql_101, ql_120, ql_255, ql_256, ql_257, ql_511, ql_672, ql_900, ql_1000, ql_65536]
  | d + 1, i, σ, h => by
    have hf' := hf
    obtain ⟨k0, k1, k2, k3, k4, k5, k6, k7, k8, kr, kw, a1, a2, a3, a4, a5, a6, a7, h26, h16⟩ := hf
    obtain ⟨σ1, e1, f1, g1⟩ := s_fill (σ := σ) (w := nI 0) (kr (f + 4 + i) (by omega) (by omega) (by omega)) (kw (f + 4 + i) (by omega) (by omega) (by omega)) (a7 i (by omega)) (by omega)
    obtain ⟨σ2, e2, f2, g2, g3⟩ := s_clearL (c := c) hf' d (i + 1) σ1 (by omega)
    refine ⟨σ2, ?_, fr_tr (fr_wd f1 (by omega) (by omega)) f2, fun j h1 h2 v hv => ?_, fun j hj => ?_⟩
    · rw [← e2]
      have h2 : ¬ 9 ≤ i := by omega
      rw [rX1_clearLabels_2]
      simp (disch := omega) only [vX1_clearLabels, rX1_clearLabels_3, rX1_clearLabels_5, rX1_clearLabels_8, rX1_clearLabels_9, rX1_clearLabels_12, rX1_clearLabels_13, rX1_clearLabels_14, rX1_clearLabels_15, rX1_clearLabels_18, rX1_clearLabels_21, mm_gd_t, mm_kc_v, mm_kc_n, mm_rfs, kl_n, kl_i, kl_r, kl_l, so_0, so_1, so_2, so_3, so_4, beq_self_eq_true, Bool.true_and, Bool.and_true, Bool.or_true, Bool.true_or, Bool.false_or, Bool.or_false, if_true, if_false, ↓reduceIte, decide_true, decide_false, Bool.not_false, Bool.not_true, not_true_eq_false, not_false_eq_true, eq_self, Nat.not_lt_zero, Bool.true_eq_false, Bool.false_eq_true, Nat.reduceAdd, Nat.reduceMul, Nat.reduceSub, Nat.reduceEqDiff, Nat.reduceLeDiff, Nat.reduceLT, Nat.reduceDiv, Nat.reduceMod, zb_0, zb_1, zb_b, on_nI, ml_l, rl_sl1, rl_sl2, rl_eq, rl_nj, rl_nk, qL_0, qL_1, qL_11, qL_10000, nI_lL, lN_add, lN_mul, Nat.zero_add, Nat.add_zero, mm_zr0n, mm_zr1n, mm_zrb, b2_0, b2_1, pk_mul, tn_nI, in_nI, mi_lt, rd_eq, rd_nj, rd_nk, rs_eq, rs_nk, rl_si, rl_sA, nI_add, nI_eqI, nI_leI2, nI_ltI2, ql_0, ql_1, ql_2, ql_3, ql_4, ql_5, ql_6, ql_7, ql_8, ql_9, ql_10, ql_11, ql_12, ql_13, ql_14, ql_15, ql_16, ql_17, ql_18, ql_19, ql_20, ql_24, ql_25, ql_26, ql_27, ql_31, ql_32, ql_33, ql_36, ql_45, ql_46, ql_47, ql_48, ql_49, ql_50, ql_57, ql_63, ql_64, ql_65, ql_66, ql_67, ql_68, ql_69, ql_70, ql_71, ql_72, ql_73, ql_74, ql_75, ql_76, ql_77, ql_78, ql_79, ql_80, ql_81, ql_82, ql_83, ql_84, ql_85, ql_86, ql_87, ql_93, ql_96, ql_97, ql_100, ql_101, ql_120, ql_255, ql_256, ql_257, ql_511, ql_672, ql_900, ql_1000, ql_65536, h2, k0, k3, k7, k8, a3, e1]
    · by_cases hji : j = i
      · subst hji; rw [g3 j (by omega)]; exact g1 v hv
      · exact g2 j (by omega) h2 v hv
    · rw [g3 j (by omega), f1.1 (f + 4 + j) (by omega)]
theorem s_clearLabels {σ : mm_M} {f c : Nat} {lb : Nat → Int32} (hf : fb_ f) (hcf : c < f) (hcw : mm_iw 135 c = true) (hca : ∀ σ : mm_M, mm_al σ c = 3) (hlb : ∀ v, v < 3 → σ.1 c v = lb v) :
    ∃ σ', mm_ev mX1_clearLabels [.ref f, .ref c] mm_H σ = some (none, mm_H, σ') ∧ fr_ (f + 4) (f + 13) σ σ' ∧ (∀ j, j < 9 → ∀ v, v < 5 → σ'.1 (f + 4 + j) v = if j = 0 ∧ v < 3 then lb v else nI 0) := by
  have hf' := hf
  obtain ⟨k0, k1, k2, k3, k4, k5, k6, k7, k8, kr, kw, a1, a2, a3, a4, a5, a6, a7, h26, h16⟩ := hf
  obtain ⟨σ1, e1, f1, g1, g2⟩ := s_clearL (c := c) hf' 9 0 σ (by omega)
  have a70 := a7 0 (by omega)
  have k80 := k8 0 (by omega)
  rw [Nat.add_zero] at a70 k80
  refine ⟨mm_sA σ1 (f + 4) (va_cpy (σ1.1 c) (σ1.1 (f + 4)) 0 0 3), ?_, fr_sA f1 (by omega) (by omega), fun j hj v hv => ?_⟩
  · simp (disch := omega) only [vX1_clearLabels, rX1_clearLabels_0, rX1_clearLabels_1, rX1_clearLabels_24, rX1_clearLabels_25, rX1_clearLabels_26, rX1_clearLabels_27, rX1_clearLabels_30, rX1_clearLabels_31, rX1_clearLabels_32, rX1_clearLabels_33, rX1_clearLabels_34, rX1_clearLabels_37, mm_gd_t, mm_kc_v, mm_kc_n, mm_rfs, kl_n, kl_i, kl_r, kl_l, so_0, so_1, so_2, so_3, so_4, beq_self_eq_true, Bool.true_and, Bool.and_true, Bool.or_true, Bool.true_or, Bool.false_or, Bool.or_false, if_true, if_false, ↓reduceIte, decide_true, decide_false, Bool.not_false, Bool.not_true, not_true_eq_false, not_false_eq_true, eq_self, Nat.not_lt_zero, Bool.true_eq_false, Bool.false_eq_true, Nat.reduceAdd, Nat.reduceMul, Nat.reduceSub, Nat.reduceEqDiff, Nat.reduceLeDiff, Nat.reduceLT, Nat.reduceDiv, Nat.reduceMod, zb_0, zb_1, zb_b, on_nI, ml_l, rl_sl1, rl_sl2, rl_eq, rl_nj, rl_nk, qL_0, qL_1, qL_11, qL_10000, nI_lL, lN_add, lN_mul, Nat.zero_add, Nat.add_zero, mm_zr0n, mm_zr1n, mm_zrb, b2_0, b2_1, pk_mul, tn_nI, in_nI, mi_lt, rd_eq, rd_nj, rd_nk, rs_eq, rs_nk, rl_si, rl_sA, nI_add, nI_eqI, nI_leI2, nI_ltI2, ql_0, ql_1, ql_2, ql_3, ql_4, ql_5, ql_6, ql_7, ql_8, ql_9, ql_10, ql_11, ql_12, ql_13, ql_14, ql_15, ql_16, ql_17, ql_18, ql_19, ql_20, ql_24, ql_25, ql_26, ql_27, ql_31, ql_32, ql_33, ql_36, ql_45, ql_46, ql_47, ql_48, ql_49, ql_50, ql_57, ql_63, ql_64, ql_65, ql_66, ql_67, ql_68, ql_69, ql_70, ql_71, ql_72, ql_73, ql_74, ql_75, ql_76, ql_77, ql_78, ql_79, ql_80, ql_81, ql_82, ql_83, ql_84, ql_85, ql_86, ql_87, ql_93, ql_96, ql_97, ql_100, ql_101, ql_120, ql_255, ql_256, ql_257, ql_511, ql_672, ql_900, ql_1000, ql_65536, e1, k0, k3, k7, k80, kr, kw, a3, a70, hcw, hca, mm_cok, mm_cp]
  · by_cases hj0 : j = 0
    · subst hj0
      rw [Nat.add_zero, rs_eq]
      by_cases hv3 : v < 3
      · rw [sb_cpy0 hv3, if_pos ⟨rfl, hv3⟩, f1.1 c (by omega)]; exact hlb v hv3
      · rw [pk_cpy_out (by omega), if_neg (by omega)]
        have := g1 0 (by omega) (by omega) v hv
        rwa [Nat.add_zero] at this
    · rw [rs_nk (by omega), if_neg (by omega)]
      exact g1 j (by omega) hj v hv
/-- behind a reading -/
def rf_ (f : Nat) (σ : mm_M) (P : pp_) (lb : Nat → Int32) : Prop := fy_ f σ (fF P lb) ∧ wz_ f σ P ∧ σ.1 f 1 = nI (bm_ (wr_ P lb) 9) ∧ ∀ j, j < P.1 → (fF P lb).1 j = true → σ.1 (f + 2) j = co_ P lb j
theorem s_readL {f : Nat} {P : pp_} {lb : Nat → Int32} (hf : fb_ f) (hP : wf_ P) {x2 : Nat} : ∀ (d l : Nat) (σ : mm_M), l + d = P.1 → rc_ 15 σ P → fy_ f σ (fw P lb l) → wz_ f σ P → σ.1 f 1 = nI (bm_ (fun j => decide (j < l) && wr_ P lb j) 9) → (∀ j, j < l → (fF P lb).1 j = true → σ.1 (f + 2) j = co_ P lb j) →
    ∃ σ', mm_run mX1_read mm_H 33 [some (.ref f), some (.ref 15), some (.ref x2), some (.int (nI l))] [] σ = some (none, mm_H, σ') ∧ fr_ f (f + 16) σ σ' ∧ rf_ f σ' P lb
  | 0, l, σ, h, hr, hy, hz, hw, hc => by
    have h9 := hP.1
    have h3 : l = P.1 := by omega
    subst h3
    refine ⟨σ, ?_, fr_refl _ _ _, hy, hz, ?_, hc⟩
    · rw [rX1_read_33]
      simp (disch := omega) only [vX1_read, rX1_read_34, rX1_read_35, rX1_read_38, rX1_read_115, rX1_read_118, mm_gd_t, mm_kc_v, mm_kc_n, mm_rfs, kl_n, kl_i, kl_r, kl_l, so_0, so_1, so_2, so_3, so_4, beq_self_eq_true, Bool.true_and, Bool.and_true, Bool.or_true, Bool.true_or, Bool.false_or, Bool.or_false, if_true, if_false, ↓reduceIte, decide_true, decide_false, Bool.not_false, Bool.not_true, not_true_eq_false, not_false_eq_true, eq_self, Nat.not_lt_zero, Bool.true_eq_false, Bool.false_eq_true, Nat.reduceAdd, Nat.reduceMul, Nat.reduceSub, Nat.reduceEqDiff, Nat.reduceLeDiff, Nat.reduceLT, Nat.reduceDiv, Nat.reduceMod, zb_0, zb_1, zb_b, on_nI, ml_l, rl_sl1, rl_sl2, rl_eq, rl_nj, rl_nk, qL_0, qL_1, qL_11, qL_10000, nI_lL, lN_add, lN_mul, Nat.zero_add, Nat.add_zero, mm_zr0n, mm_zr1n, mm_zrb, b2_0, b2_1, pk_mul, tn_nI, in_nI, mi_lt, rd_eq, rd_nj, rd_nk, rs_eq, rs_nk, rl_si, rl_sA, nI_add, nI_eqI, nI_leI2, nI_ltI2, ql_0, ql_1, ql_2, ql_3, ql_4, ql_5, ql_6, ql_7, ql_8, ql_9, ql_10, ql_11, ql_12, ql_13, ql_14, ql_15, ql_16, ql_17, ql_18, ql_19, ql_20, ql_24, ql_25, ql_26, ql_27, ql_31, ql_32, ql_33, ql_36, ql_45, ql_46, ql_47, ql_48, ql_49, ql_50, ql_57, ql_63, ql_64, ql_65, ql_66, ql_67, ql_68, ql_69, ql_70, ql_71, ql_72, ql_73, ql_74, ql_75, ql_76, ql_77, ql_78, ql_79, ql_80, ql_81, ql_82, ql_83, ql_84, ql_85, ql_86, ql_87, ql_93, ql_96, ql_97, ql_100, ql_101, ql_120, ql_255, ql_256, ql_257, ql_511, ql_672, ql_900, ql_1000, ql_65536, rho_15_1, rho_15_2, kd_15, rc_n hr, Nat.le_refl]
    · rw [hw]
      congr 1
      apply bm_ext
      intro j _
      by_cases hj : j < P.1
      · rw [decide_eq_true hj, Bool.true_and]
      · rw [decide_eq_false hj, Bool.false_and]
        unfold wr_ fF
        rw [fw_hi (by omega), Bool.false_and]
  | d + 1, l, σ, h, hr, hy, hz, hw, hc => by
    have hf' := hf
    obtain ⟨k0, k1, k2, k3, k4, k5, k6, k7, k8, kr, kw, a1, a2, a3, a4, a5, a6, a7, h26, h16⟩ := hf
    have h9 := hP.1
    have hl : l < P.1 := by omega
    have g : ¬ P.1 ≤ l := by omega
    have hn := rc_n hr
    obtain ⟨w0, w1, w2, w3, w4⟩ := hP.2 l hl
    have hFl := fF_lo hP (lb := lb) (l := l) (j := l) (by omega) (Nat.le_refl _)
    have b9 := bm_9 (fw P lb l).1
    have e1 := s_isReached (l := l) hf' (show bm_ (fw P lb l).1 9 < 2147483648 by omega) (by omega) hy.1
    rw [bm_bit, decide_eq_true (show l < 9 by omega), Bool.true_and] at e1
    have hwr : wr_ P lb l = ((fw P lb l).1 l && (decide (P.2 l 0 = 5) && decide (((fw P lb l).2 l (P.2 l 1) ||| co_ P lb l) ≠ nI 0))) := by
      unfold wr_; rw [hFl.1, hFl.2]
    have hmask : ∀ c : Bool, wr_ P lb l = c → bm_ (fun j => decide (j < l + 1) && wr_ P lb j) 9 = if c = true then bm_ (fun j => decide (j < l) && wr_ P lb j) 9 ||| 2 ^ l else bm_ (fun j => decide (j < l) && wr_ P lb j) 9 := by
      intro c hcc
      cases c
      · rw [if_neg (by decide)]
        apply bm_ext
        intro j _
        by_cases hj : j = l
        · subst hj; rw [hcc, Bool.and_false, Bool.and_false]
        · congr 1; exact decide_eq_decide.2 (by omega)
      · rw [if_pos rfl, bm_orone (by omega)]
        apply bm_ext
        intro j _
        by_cases hj : j = l
        · subst hj; rw [hcc, decide_eq_true (show j < j + 1 by omega), decide_eq_true rfl, Bool.or_true]; rfl
        · rw [decide_eq_false hj, Bool.or_false]; congr 1; exact decide_eq_decide.2 (by omega)
    have hstep : fw P lb (l + 1) = fp2_ P l (fw P lb l) := rfl
    cases hR : (fw P lb l).1 l
    · -- not reached
      rw [hR] at e1
      have hst : fw P lb (l + 1) = fw P lb l := by rw [hstep]; unfold fp2_; rw [hR, if_neg (by decide)]
      have hw0 : wr_ P lb l = false := by rw [hwr, hR, Bool.false_and]
      obtain ⟨σ', e, f1, r1⟩ := s_readL hf' hP (x2 := x2) d (l + 1) σ (by omega) hr (by rw [hst]; exact hy) hz (by rw [hmask false hw0, if_neg (by decide)]; exact hw) (fun j hj hRj => by
        by_cases hjl : j = l
        · subst hjl; rw [hFl.1, hR] at hRj; cases hRj
        · exact hc j (by omega) hRj)
      refine ⟨σ', ?_, f1, r1⟩
      rw [rX1_read_33]
      simp (disch := omega) only [vX1_read, rX1_read_34, rX1_read_35, rX1_read_38, rX1_read_41, rX1_read_42, rX1_read_43, rX1_read_46, rX1_read_49, rX1_read_50, rX1_read_53, rX1_read_54, rX1_read_55, rX1_read_56, rX1_read_57, rX1_read_60, rX1_read_61, rX1_read_62, rX1_read_63, rX1_read_64, rX1_read_67, rX1_read_68, rX1_read_71, rX1_read_72, rX1_read_73, rX1_read_74, rX1_read_75, rX1_read_77, rX1_read_80, rX1_read_81, rX1_read_82, rX1_read_83, rX1_read_86, rX1_read_87, rX1_read_88, rX1_read_91, rX1_read_92, rX1_read_93, rX1_read_94, rX1_read_97, rX1_read_100, rX1_read_101, rX1_read_102, rX1_read_105, rX1_read_106, rX1_read_107, rX1_read_108, rX1_read_109, rX1_read_112, rX1_read_115, mm_gd_t, mm_kc_v, mm_kc_n, mm_rfs, kl_n, kl_i, kl_r, kl_l, so_0, so_1, so_2, so_3, so_4, beq_self_eq_true, Bool.true_and, Bool.and_true, Bool.or_true, Bool.true_or, Bool.false_or, Bool.or_false, if_true, if_false, ↓reduceIte, decide_true, decide_false, Bool.not_false, Bool.not_true, not_true_eq_false, not_false_eq_true, eq_self, Nat.not_lt_zero, Bool.true_eq_false, Bool.false_eq_true, Nat.reduceAdd, Nat.reduceMul, Nat.reduceSub, Nat.reduceEqDiff, Nat.reduceLeDiff, Nat.reduceLT, Nat.reduceDiv, Nat.reduceMod, zb_0, zb_1, zb_b, on_nI, ml_l, rl_sl1, rl_sl2, rl_eq, rl_nj, rl_nk, qL_0, qL_1, qL_11, qL_10000, nI_lL, lN_add, lN_mul, Nat.zero_add, Nat.add_zero, mm_zr0n, mm_zr1n, mm_zrb, b2_0, b2_1, pk_mul, tn_nI, in_nI, mi_lt, rd_eq, rd_nj, rd_nk, rs_eq, rs_nk, rl_si, rl_sA, nI_add, nI_eqI, nI_leI2, nI_ltI2, ql_0, ql_1, ql_2, ql_3, ql_4, ql_5, ql_6, ql_7, ql_8, ql_9, ql_10, ql_11, ql_12, ql_13, ql_14, ql_15, ql_16, ql_17, ql_18, ql_19, ql_20, ql_24, ql_25, ql_26, ql_27, ql_31, ql_32, ql_33, ql_36, ql_45, ql_46, ql_47, ql_48, ql_49, ql_50, ql_57, ql_63, ql_64, ql_65, ql_66, ql_67, ql_68, ql_69, ql_70, ql_71, ql_72, ql_73, ql_74, ql_75, ql_76, ql_77, ql_78, ql_79, ql_80, ql_81, ql_82, ql_83, ql_84, ql_85, ql_86, ql_87, ql_93, ql_96, ql_97, ql_100, ql_101, ql_120, ql_255, ql_256, ql_257, ql_511, ql_672, ql_900, ql_1000, ql_65536, rho_15_1, rho_15_2, kd_15, hn, g, k0, e1, e]
    · rw [hR] at e1
      have eC := s_contextOf hf' hP hr hl hy hz
      have hco : cx_ P (fw P lb l) l l = co_ P lb l := rfl
      rw [hco] at eC
      let σ1 := mm_si σ (f + 2) l (co_ P lb l)
      have F1 : fr_ f (f + 16) σ σ1 := fr_si (fr_refl _ _ _) (by omega) (by omega)
      have r1 : rc_ 15 σ1 P := rc_fr hr h9 F1 (Or.inl (by omega))
      have y1 : fy_ f σ1 (fw P lb l) := ⟨by simp (disch := omega) only [σ1, rd_nk]; exact hy.1, fun j hj v hv => by simp (disch := omega) only [σ1, rd_nk]; exact hy.2 j hj v hv⟩
      have c1 : σ1.1 (f + 2) l = co_ P lb l := by simp only [σ1, rd_eq]
      obtain ⟨σ2, eN, F2, y2⟩ := s_leaveByNext hf' hP r1 hl y1 c1
      simp only [σ1] at eN
      have r2 : rc_ 15 σ2 P := rc_fr r1 h9 F2.1 (Or.inl (by omega))
      have c2 : σ2.1 (f + 2) l = co_ P lb l := by rw [F2.2.1 (f + 2) (by omega)]; exact c1
      have s2l := cm_lo (n := P.1) (t := l + 1) (lv := ln_ P (fw P lb l) l (co_ P lb l)) (s := fw P lb l) (j := l) (by omega)
      have hk4 := hp_4 (P.2 l 0) (by omega)
      have p4 := rc_4 r2 hl
      rw [hk4] at p4
      -- after the target
      have after : ∃ σ3 : mm_M, (∀ x3, mm_run mX1_read mm_H 62 [some (.ref f), some (.ref 15), some (.ref x2), x3] [] σ2 = mm_run mX1_read mm_H 62 [some (.ref f), some (.ref 15), some (.ref x2), x3] [] σ2) ∧ (if hw_ (P.2 l 0) = true then mm_ev mX1_leaveByTarget [.ref f, .ref 15, .int (nI l)] mm_H σ2 = some (none, mm_H, σ3) else σ3 = σ2) ∧ fL_ f σ2 σ3 ∧ fy_ f σ3 (fw P lb (l + 1)) := by
        rw [hstep]; unfold fp2_; rw [hR, if_pos rfl, hco]
        cases hH : hw_ (P.2 l 0)
        · refine ⟨σ2, fun _ => rfl, by rw [if_neg (by decide)], fL_refl _ _, ?_⟩
          rw [if_neg (by decide)]; exact y2
        · obtain ⟨σ3, eT, F3, y3⟩ := s_leaveByTarget (t := fw P lb l) hf' hP r2 hl hH y2 (fun v _ => by rw [s2l.2]) c2
          refine ⟨σ3, fun _ => rfl, by rw [if_pos rfl]; exact eT, F3, ?_⟩
          rw [if_pos rfl]; exact y3
      obtain ⟨σ3, _, eT, F3, y3⟩ := after
      have r3 : rc_ 15 σ3 P := rc_fr r2 h9 F3.1 (Or.inl (by omega))
      have c3 : σ3.1 (f + 2) l = co_ P lb l := by rw [F3.2.1 (f + 2) (by omega)]; exact c2
      have eW := s_isSpokenWrong hf' hP r3 hl y3 c3
      have hsl : (fw P lb (l + 1)).2 l = (fw P lb l).2 l := (fp2_lo hP hl (s := fw P lb l) (j := l) (Nat.le_refl _)).2
      rw [hsl] at eW
      have hwr2 : (decide (P.2 l 0 = 5) && decide (((fw P lb l).2 l (P.2 l 1) ||| co_ P lb l) ≠ nI 0)) = wr_ P lb l := by rw [hwr, hR, Bool.true_and]
      rw [hwr2] at eW
      have F03 : fr_ f (f + 16) σ σ3 := fr_tr F1 (fr_tr F2.1 F3.1)
      have z3 : wz_ f σ3 P := fun j hj => by
        rw [F3.2.1 (f + 1) (by omega), F3.2.1 (f + 13) (by omega), F2.2.1 (f + 1) (by omega), F2.2.1 (f + 13) (by omega)]
        simp (disch := omega) only [σ1, rd_nk]
        exact hz j hj
      have m3 : σ3.1 f 1 = nI (bm_ (fun j => decide (j < l) && wr_ P lb j) 9) := by
        rw [F3.2.2, F2.2.2]
        simp (disch := omega) only [σ1, rd_nk]
        exact hw
      have cc3 : ∀ j, j < l + 1 → (fF P lb).1 j = true → σ3.1 (f + 2) j = co_ P lb j := fun j hj hRj => by
        by_cases hjl : j = l
        · subst hjl; exact c3
        · rw [F3.2.1 (f + 2) (by omega), F2.2.1 (f + 2) (by omega)]
          simp (disch := omega) only [σ1, rd_nj]
          exact hc j (by omega) hRj
      have bw := bm_9 (fun j => decide (j < l) && wr_ P lb j)
      cases hW : wr_ P lb l
      · rw [hW] at eW
        obtain ⟨σ', e, f1, rr⟩ := s_readL hf' hP (x2 := x2) d (l + 1) σ3 (by omega) r3 y3 z3 (by rw [hmask false hW, if_neg (by decide)]; exact m3) cc3
        refine ⟨σ', ?_, fr_tr F03 f1, rr⟩
        rw [rX1_read_33]
        cases hH : hw_ (P.2 l 0) <;> rw [hH] at eT p4
        · simp only [Bool.false_eq_true, if_false, ↓reduceIte] at eT p4
          subst eT
          simp (disch := omega) only [vX1_read, rX1_read_34, rX1_read_35, rX1_read_38, rX1_read_41, rX1_read_42, rX1_read_43, rX1_read_46, rX1_read_49, rX1_read_50, rX1_read_53, rX1_read_54, rX1_read_55, rX1_read_56, rX1_read_57, rX1_read_60, rX1_read_61, rX1_read_62, rX1_read_63, rX1_read_64, rX1_read_67, rX1_read_68, rX1_read_71, rX1_read_72, rX1_read_73, rX1_read_74, rX1_read_75, rX1_read_77, rX1_read_80, rX1_read_81, rX1_read_82, rX1_read_83, rX1_read_86, rX1_read_87, rX1_read_88, rX1_read_91, rX1_read_92, rX1_read_93, rX1_read_94, rX1_read_97, rX1_read_100, rX1_read_101, rX1_read_102, rX1_read_105, rX1_read_106, rX1_read_107, rX1_read_108, rX1_read_109, rX1_read_112, rX1_read_115, mm_gd_t, mm_kc_v, mm_kc_n, mm_rfs, kl_n, kl_i, kl_r, kl_l, so_0, so_1, so_2, so_3, so_4, beq_self_eq_true, Bool.true_and, Bool.and_true, Bool.or_true, Bool.true_or, Bool.false_or, Bool.or_false, if_true, if_false, ↓reduceIte, decide_true, decide_false, Bool.not_false, Bool.not_true, not_true_eq_false, not_false_eq_true, eq_self, Nat.not_lt_zero, Bool.true_eq_false, Bool.false_eq_true, Nat.reduceAdd, Nat.reduceMul, Nat.reduceSub, Nat.reduceEqDiff, Nat.reduceLeDiff, Nat.reduceLT, Nat.reduceDiv, Nat.reduceMod, zb_0, zb_1, zb_b, on_nI, ml_l, rl_sl1, rl_sl2, rl_eq, rl_nj, rl_nk, qL_0, qL_1, qL_11, qL_10000, nI_lL, lN_add, lN_mul, Nat.zero_add, Nat.add_zero, mm_zr0n, mm_zr1n, mm_zrb, b2_0, b2_1, pk_mul, tn_nI, in_nI, mi_lt, rd_eq, rd_nj, rd_nk, rs_eq, rs_nk, rl_si, rl_sA, nI_add, nI_eqI, nI_leI2, nI_ltI2, ql_0, ql_1, ql_2, ql_3, ql_4, ql_5, ql_6, ql_7, ql_8, ql_9, ql_10, ql_11, ql_12, ql_13, ql_14, ql_15, ql_16, ql_17, ql_18, ql_19, ql_20, ql_24, ql_25, ql_26, ql_27, ql_31, ql_32, ql_33, ql_36, ql_45, ql_46, ql_47, ql_48, ql_49, ql_50, ql_57, ql_63, ql_64, ql_65, ql_66, ql_67, ql_68, ql_69, ql_70, ql_71, ql_72, ql_73, ql_74, ql_75, ql_76, ql_77, ql_78, ql_79, ql_80, ql_81, ql_82, ql_83, ql_84, ql_85, ql_86, ql_87, ql_93, ql_96, ql_97, ql_100, ql_101, ql_120, ql_255, ql_256, ql_257, ql_511, ql_672, ql_900, ql_1000, ql_65536, rho_15_1, rho_15_2, rho_16_0, rho_16_1, rho_16_2, rho_16_3, rho_16_4, rho_16_5, rho_16_6, rho_16_7, rho_16_8, kd_15, kd_16, al_16, rho_16r, ir_17r, al_17s, hn, g, k0, k2, kw, a2, e1, eC, eN, p4, eW, e]
        · simp only [if_true, ↓reduceIte] at eT p4
          have w4 := w4 (by unfold hw_ at hH; simp only [Bool.and_eq_true, decide_eq_true_eq] at hH; omega) (by unfold hw_ at hH; simp only [Bool.and_eq_true, decide_eq_true_eq] at hH; omega)
          by_cases h99 : P.2 l 4 = 99
          · rw [if_pos h99] at p4
            simp (disch := omega) only [vX1_read, rX1_read_34, rX1_read_35, rX1_read_38, rX1_read_41, rX1_read_42, rX1_read_43, rX1_read_46, rX1_read_49, rX1_read_50, rX1_read_53, rX1_read_54, rX1_read_55, rX1_read_56, rX1_read_57, rX1_read_60, rX1_read_61, rX1_read_62, rX1_read_63, rX1_read_64, rX1_read_67, rX1_read_68, rX1_read_71, rX1_read_72, rX1_read_73, rX1_read_74, rX1_read_75, rX1_read_77, rX1_read_80, rX1_read_81, rX1_read_82, rX1_read_83, rX1_read_86, rX1_read_87, rX1_read_88, rX1_read_91, rX1_read_92, rX1_read_93, rX1_read_94, rX1_read_97, rX1_read_100, rX1_read_101, rX1_read_102, rX1_read_105, rX1_read_106, rX1_read_107, rX1_read_108, rX1_read_109, rX1_read_112, rX1_read_115, mm_gd_t, mm_kc_v, mm_kc_n, mm_rfs, kl_n, kl_i, kl_r, kl_l, so_0, so_1, so_2, so_3, so_4, beq_self_eq_true, Bool.true_and, Bool.and_true, Bool.or_true, Bool.true_or, Bool.false_or, Bool.or_false, if_true, if_false, ↓reduceIte, decide_true, decide_false, Bool.not_false, Bool.not_true, not_true_eq_false, not_false_eq_true, eq_self, Nat.not_lt_zero, Bool.true_eq_false, Bool.false_eq_true, Nat.reduceAdd, Nat.reduceMul, Nat.reduceSub, Nat.reduceEqDiff, Nat.reduceLeDiff, Nat.reduceLT, Nat.reduceDiv, Nat.reduceMod, zb_0, zb_1, zb_b, on_nI, ml_l, rl_sl1, rl_sl2, rl_eq, rl_nj, rl_nk, qL_0, qL_1, qL_11, qL_10000, nI_lL, lN_add, lN_mul, Nat.zero_add, Nat.add_zero, mm_zr0n, mm_zr1n, mm_zrb, b2_0, b2_1, pk_mul, tn_nI, in_nI, mi_lt, rd_eq, rd_nj, rd_nk, rs_eq, rs_nk, rl_si, rl_sA, nI_add, nI_eqI, nI_leI2, nI_ltI2, ql_0, ql_1, ql_2, ql_3, ql_4, ql_5, ql_6, ql_7, ql_8, ql_9, ql_10, ql_11, ql_12, ql_13, ql_14, ql_15, ql_16, ql_17, ql_18, ql_19, ql_20, ql_24, ql_25, ql_26, ql_27, ql_31, ql_32, ql_33, ql_36, ql_45, ql_46, ql_47, ql_48, ql_49, ql_50, ql_57, ql_63, ql_64, ql_65, ql_66, ql_67, ql_68, ql_69, ql_70, ql_71, ql_72, ql_73, ql_74, ql_75, ql_76, ql_77, ql_78, ql_79, ql_80, ql_81, ql_82, ql_83, ql_84, ql_85, ql_86, ql_87, ql_93, ql_96, ql_97, ql_100, ql_101, ql_120, ql_255, ql_256, ql_257, ql_511, ql_672, ql_900, ql_1000, ql_65536, rho_15_1, rho_15_2, rho_16_0, rho_16_1, rho_16_2, rho_16_3, rho_16_4, rho_16_5, rho_16_6, rho_16_7, rho_16_8, kd_15, kd_16, al_16, rho_16r, ir_17r, al_17s, hn, g, k0, k2, kw, a2, e1, eC, eN, p4, nI_n3, eT, eW, e]
          · rw [if_neg h99] at p4
            simp (disch := omega) only [vX1_read, rX1_read_34, rX1_read_35, rX1_read_38, rX1_read_41, rX1_read_42, rX1_read_43, rX1_read_46, rX1_read_49, rX1_read_50, rX1_read_53, rX1_read_54, rX1_read_55, rX1_read_56, rX1_read_57, rX1_read_60, rX1_read_61, rX1_read_62, rX1_read_63, rX1_read_64, rX1_read_67, rX1_read_68, rX1_read_71, rX1_read_72, rX1_read_73, rX1_read_74, rX1_read_75, rX1_read_77, rX1_read_80, rX1_read_81, rX1_read_82, rX1_read_83, rX1_read_86, rX1_read_87, rX1_read_88, rX1_read_91, rX1_read_92, rX1_read_93, rX1_read_94, rX1_read_97, rX1_read_100, rX1_read_101, rX1_read_102, rX1_read_105, rX1_read_106, rX1_read_107, rX1_read_108, rX1_read_109, rX1_read_112, rX1_read_115, mm_gd_t, mm_kc_v, mm_kc_n, mm_rfs, kl_n, kl_i, kl_r, kl_l, so_0, so_1, so_2, so_3, so_4, beq_self_eq_true, Bool.true_and, Bool.and_true, Bool.or_true, Bool.true_or, Bool.false_or, Bool.or_false, if_true, if_false, ↓reduceIte, decide_true, decide_false, Bool.not_false, Bool.not_true, not_true_eq_false, not_false_eq_true, eq_self, Nat.not_lt_zero, Bool.true_eq_false, Bool.false_eq_true, Nat.reduceAdd, Nat.reduceMul, Nat.reduceSub, Nat.reduceEqDiff, Nat.reduceLeDiff, Nat.reduceLT, Nat.reduceDiv, Nat.reduceMod, zb_0, zb_1, zb_b, on_nI, ml_l, rl_sl1, rl_sl2, rl_eq, rl_nj, rl_nk, qL_0, qL_1, qL_11, qL_10000, nI_lL, lN_add, lN_mul, Nat.zero_add, Nat.add_zero, mm_zr0n, mm_zr1n, mm_zrb, b2_0, b2_1, pk_mul, tn_nI, in_nI, mi_lt, rd_eq, rd_nj, rd_nk, rs_eq, rs_nk, rl_si, rl_sA, nI_add, nI_eqI, nI_leI2, nI_ltI2, ql_0, ql_1, ql_2, ql_3, ql_4, ql_5, ql_6, ql_7, ql_8, ql_9, ql_10, ql_11, ql_12, ql_13, ql_14, ql_15, ql_16, ql_17, ql_18, ql_19, ql_20, ql_24, ql_25, ql_26, ql_27, ql_31, ql_32, ql_33, ql_36, ql_45, ql_46, ql_47, ql_48, ql_49, ql_50, ql_57, ql_63, ql_64, ql_65, ql_66, ql_67, ql_68, ql_69, ql_70, ql_71, ql_72, ql_73, ql_74, ql_75, ql_76, ql_77, ql_78, ql_79, ql_80, ql_81, ql_82, ql_83, ql_84, ql_85, ql_86, ql_87, ql_93, ql_96, ql_97, ql_100, ql_101, ql_120, ql_255, ql_256, ql_257, ql_511, ql_672, ql_900, ql_1000, ql_65536, rho_15_1, rho_15_2, rho_16_0, rho_16_1, rho_16_2, rho_16_3, rho_16_4, rho_16_5, rho_16_6, rho_16_7, rho_16_8, kd_15, kd_16, al_16, rho_16r, ir_17r, al_17s, hn, g, k0, k2, kw, a2, e1, eC, eN, p4, nI_n1, eT, eW, e]
      · rw [hW] at eW
        let σ4 := mm_si σ3 f 1 (nI (bm_ (fun j => decide (j < l) && wr_ P lb j) 9 ||| 2 ^ l))
        have F4 : fr_ f (f + 16) σ σ4 := fr_si F03 (by omega) (by omega)
        obtain ⟨σ', e, f1, rr⟩ := s_readL hf' hP (x2 := x2) d (l + 1) σ4 (by omega) (rc_fr hr h9 F4 (Or.inl (by omega))) ⟨by simp (disch := omega) only [σ4, rd_nj]; exact y3.1, fun j hj v hv => by simp (disch := omega) only [σ4, rd_nk]; exact y3.2 j hj v hv⟩ (fun j hj => by simp (disch := omega) only [σ4, rd_nk]; exact z3 j hj) (by rw [hmask true hW, if_pos rfl]; simp only [σ4, rd_eq]) (fun j hj hRj => by simp (disch := omega) only [σ4, rd_nk]; exact cc3 j hj hRj)
        refine ⟨σ', ?_, fr_tr F4 f1, rr⟩
        simp only [σ4] at e
        rw [rX1_read_33]
        cases hH : hw_ (P.2 l 0) <;> rw [hH] at eT p4
        · simp only [Bool.false_eq_true, if_false, ↓reduceIte] at eT p4
          subst eT
          simp (disch := omega) only [vX1_read, rX1_read_34, rX1_read_35, rX1_read_38, rX1_read_41, rX1_read_42, rX1_read_43, rX1_read_46, rX1_read_49, rX1_read_50, rX1_read_53, rX1_read_54, rX1_read_55, rX1_read_56, rX1_read_57, rX1_read_60, rX1_read_61, rX1_read_62, rX1_read_63, rX1_read_64, rX1_read_67, rX1_read_68, rX1_read_71, rX1_read_72, rX1_read_73, rX1_read_74, rX1_read_75, rX1_read_77, rX1_read_80, rX1_read_81, rX1_read_82, rX1_read_83, rX1_read_86, rX1_read_87, rX1_read_88, rX1_read_91, rX1_read_92, rX1_read_93, rX1_read_94, rX1_read_97, rX1_read_100, rX1_read_101, rX1_read_102, rX1_read_105, rX1_read_106, rX1_read_107, rX1_read_108, rX1_read_109, rX1_read_112, rX1_read_115, mm_gd_t, mm_kc_v, mm_kc_n, mm_rfs, kl_n, kl_i, kl_r, kl_l, so_0, so_1, so_2, so_3, so_4, beq_self_eq_true, Bool.true_and, Bool.and_true, Bool.or_true, Bool.true_or, Bool.false_or, Bool.or_false, if_true, if_false, ↓reduceIte, decide_true, decide_false, Bool.not_false, Bool.not_true, not_true_eq_false, not_false_eq_true, eq_self, Nat.not_lt_zero, Bool.true_eq_false, Bool.false_eq_true, Nat.reduceAdd, Nat.reduceMul, Nat.reduceSub, Nat.reduceEqDiff, Nat.reduceLeDiff, Nat.reduceLT, Nat.reduceDiv, Nat.reduceMod, zb_0, zb_1, zb_b, on_nI, ml_l, rl_sl1, rl_sl2, rl_eq, rl_nj, rl_nk, qL_0, qL_1, qL_11, qL_10000, nI_lL, lN_add, lN_mul, Nat.zero_add, Nat.add_zero, mm_zr0n, mm_zr1n, mm_zrb, b2_0, b2_1, pk_mul, tn_nI, in_nI, mi_lt, rd_eq, rd_nj, rd_nk, rs_eq, rs_nk, rl_si, rl_sA, nI_add, nI_eqI, nI_leI2, nI_ltI2, ql_0, ql_1, ql_2, ql_3, ql_4, ql_5, ql_6, ql_7, ql_8, ql_9, ql_10, ql_11, ql_12, ql_13, ql_14, ql_15, ql_16, ql_17, ql_18, ql_19, ql_20, ql_24, ql_25, ql_26, ql_27, ql_31, ql_32, ql_33, ql_36, ql_45, ql_46, ql_47, ql_48, ql_49, ql_50, ql_57, ql_63, ql_64, ql_65, ql_66, ql_67, ql_68, ql_69, ql_70, ql_71, ql_72, ql_73, ql_74, ql_75, ql_76, ql_77, ql_78, ql_79, ql_80, ql_81, ql_82, ql_83, ql_84, ql_85, ql_86, ql_87, ql_93, ql_96, ql_97, ql_100, ql_101, ql_120, ql_255, ql_256, ql_257, ql_511, ql_672, ql_900, ql_1000, ql_65536, rho_15_1, rho_15_2, rho_16_0, rho_16_1, rho_16_2, rho_16_3, rho_16_4, rho_16_5, rho_16_6, rho_16_7, rho_16_8, kd_15, kd_16, al_16, rho_16r, ir_17r, al_17s, hn, g, k0, k2, kw, a2, e1, eC, eN, p4, eW, m3, shl_nI, fa_or, e]
        · simp only [if_true, ↓reduceIte] at eT p4
          have w4 := w4 (by unfold hw_ at hH; simp only [Bool.and_eq_true, decide_eq_true_eq] at hH; omega) (by unfold hw_ at hH; simp only [Bool.and_eq_true, decide_eq_true_eq] at hH; omega)
          by_cases h99 : P.2 l 4 = 99
          · rw [if_pos h99] at p4
            simp (disch := omega) only [vX1_read, rX1_read_34, rX1_read_35, rX1_read_38, rX1_read_41, rX1_read_42, rX1_read_43, rX1_read_46, rX1_read_49, rX1_read_50, rX1_read_53, rX1_read_54, rX1_read_55, rX1_read_56, rX1_read_57, rX1_read_60, rX1_read_61, rX1_read_62, rX1_read_63, rX1_read_64, rX1_read_67, rX1_read_68, rX1_read_71, rX1_read_72, rX1_read_73, rX1_read_74, rX1_read_75, rX1_read_77, rX1_read_80, rX1_read_81, rX1_read_82, rX1_read_83, rX1_read_86, rX1_read_87, rX1_read_88, rX1_read_91, rX1_read_92, rX1_read_93, rX1_read_94, rX1_read_97, rX1_read_100, rX1_read_101, rX1_read_102, rX1_read_105, rX1_read_106, rX1_read_107, rX1_read_108, rX1_read_109, rX1_read_112, rX1_read_115, mm_gd_t, mm_kc_v, mm_kc_n, mm_rfs, kl_n, kl_i, kl_r, kl_l, so_0, so_1, so_2, so_3, so_4, beq_self_eq_true, Bool.true_and, Bool.and_true, Bool.or_true, Bool.true_or, Bool.false_or, Bool.or_false, if_true, if_false, ↓reduceIte, decide_true, decide_false, Bool.not_false, Bool.not_true, not_true_eq_false, not_false_eq_true, eq_self, Nat.not_lt_zero, Bool.true_eq_false, Bool.false_eq_true, Nat.reduceAdd, Nat.reduceMul, Nat.reduceSub, Nat.reduceEqDiff, Nat.reduceLeDiff, Nat.reduceLT, Nat.reduceDiv, Nat.reduceMod, zb_0, zb_1, zb_b, on_nI, ml_l, rl_sl1, rl_sl2, rl_eq, rl_nj, rl_nk, qL_0, qL_1, qL_11, qL_10000, nI_lL, lN_add, lN_mul, Nat.zero_add, Nat.add_zero, mm_zr0n, mm_zr1n, mm_zrb, b2_0, b2_1, pk_mul, tn_nI, in_nI, mi_lt, rd_eq, rd_nj, rd_nk, rs_eq, rs_nk, rl_si, rl_sA, nI_add, nI_eqI, nI_leI2, nI_ltI2, ql_0, ql_1, ql_2, ql_3, ql_4, ql_5, ql_6, ql_7, ql_8, ql_9, ql_10, ql_11, ql_12, ql_13, ql_14, ql_15, ql_16, ql_17, ql_18, ql_19, ql_20, ql_24, ql_25, ql_26, ql_27, ql_31, ql_32, ql_33, ql_36, ql_45, ql_46, ql_47, ql_48, ql_49, ql_50, ql_57, ql_63, ql_64, ql_65, ql_66, ql_67, ql_68, ql_69, ql_70, ql_71, ql_72, ql_73, ql_74, ql_75, ql_76, ql_77, ql_78, ql_79, ql_80, ql_81, ql_82, ql_83, ql_84, ql_85, ql_86, ql_87, ql_93, ql_96, ql_97, ql_100, ql_101, ql_120, ql_255, ql_256, ql_257, ql_511, ql_672, ql_900, ql_1000, ql_65536, rho_15_1, rho_15_2, rho_16_0, rho_16_1, rho_16_2, rho_16_3, rho_16_4, rho_16_5, rho_16_6, rho_16_7, rho_16_8, kd_15, kd_16, al_16, rho_16r, ir_17r, al_17s, hn, g, k0, k2, kw, a2, e1, eC, eN, p4, nI_n3, eT, eW, m3, shl_nI, fa_or, e]
          · rw [if_neg h99] at p4
            simp (disch := omega) only [vX1_read, rX1_read_34, rX1_read_35, rX1_read_38, rX1_read_41, rX1_read_42, rX1_read_43, rX1_read_46, rX1_read_49, rX1_read_50, rX1_read_53, rX1_read_54, rX1_read_55, rX1_read_56, rX1_read_57, rX1_read_60, rX1_read_61, rX1_read_62, rX1_read_63, rX1_read_64, rX1_read_67, rX1_read_68, rX1_read_71, rX1_read_72, rX1_read_73, rX1_read_74, rX1_read_75, rX1_read_77, rX1_read_80, rX1_read_81, rX1_read_82, rX1_read_83, rX1_read_86, rX1_read_87, rX1_read_88, rX1_read_91, rX1_read_92, rX1_read_93, rX1_read_94, rX1_read_97, rX1_read_100, rX1_read_101, rX1_read_102, rX1_read_105, rX1_read_106, rX1_read_107, rX1_read_108, rX1_read_109, rX1_read_112, rX1_read_115, mm_gd_t, mm_kc_v, mm_kc_n, mm_rfs, kl_n, kl_i, kl_r, kl_l, so_0, so_1, so_2, so_3, so_4, beq_self_eq_true, Bool.true_and, Bool.and_true, Bool.or_true, Bool.true_or, Bool.false_or, Bool.or_false, if_true, if_false, ↓reduceIte, decide_true, decide_false, Bool.not_false, Bool.not_true, not_true_eq_false, not_false_eq_true, eq_self, Nat.not_lt_zero, Bool.true_eq_false, Bool.false_eq_true, Nat.reduceAdd, Nat.reduceMul, Nat.reduceSub, Nat.reduceEqDiff, Nat.reduceLeDiff, Nat.reduceLT, Nat.reduceDiv, Nat.reduceMod, zb_0, zb_1, zb_b, on_nI, ml_l, rl_sl1, rl_sl2, rl_eq, rl_nj, rl_nk, qL_0, qL_1, qL_11, qL_10000, nI_lL, lN_add, lN_mul, Nat.zero_add, Nat.add_zero, mm_zr0n, mm_zr1n, mm_zrb, b2_0, b2_1, pk_mul, tn_nI, in_nI, mi_lt, rd_eq, rd_nj, rd_nk, rs_eq, rs_nk, rl_si, rl_sA, nI_add, nI_eqI, nI_leI2, nI_ltI2, ql_0, ql_1, ql_2, ql_3, ql_4, ql_5, ql_6, ql_7, ql_8, ql_9, ql_10, ql_11, ql_12, ql_13, ql_14, ql_15, ql_16, ql_17, ql_18, ql_19, ql_20, ql_24, ql_25, ql_26, ql_27, ql_31, ql_32, ql_33, ql_36, ql_45, ql_46, ql_47, ql_48, ql_49, ql_50, ql_57, ql_63, ql_64, ql_65, ql_66, ql_67, ql_68, ql_69, ql_70, ql_71, ql_72, ql_73, ql_74, ql_75, ql_76, ql_77, ql_78, ql_79, ql_80, ql_81, ql_82, ql_83, ql_84, ql_85, ql_86, ql_87, ql_93, ql_96, ql_97, ql_100, ql_101, ql_120, ql_255, ql_256, ql_257, ql_511, ql_672, ql_900, ql_1000, ql_65536, rho_15_1, rho_15_2, rho_16_0, rho_16_1, rho_16_2, rho_16_3, rho_16_4, rho_16_5, rho_16_6, rho_16_7, rho_16_8, kd_15, kd_16, al_16, rho_16r, ir_17r, al_17s, hn, g, k0, k2, kw, a2, e1, eC, eN, p4, nI_n1, eT, eW, m3, shl_nI, fa_or, e]
theorem s_read {σ : mm_M} {f c : Nat} {P : pp_} {lb : Nat → Int32} (hf : fb_ f) (hP : wf_ P) (hr : rc_ 15 σ P) (hcf : c < f) (hcw : mm_iw 135 c = true) (hca : ∀ σ : mm_M, mm_al σ c = 3) (hlb : ∀ v, v < 3 → σ.1 c v = lb v) :
    ∃ σ', mm_ev mX1_read [.ref f, .ref 15, .ref c] mm_H σ = some (none, mm_H, σ') ∧ fr_ f (f + 16) σ σ' ∧ rf_ f σ' P lb := by
  have hf' := hf
  obtain ⟨k0, k1, k2, k3, k4, k5, k6, k7, k8, kr, kw, a1, a2, a3, a4, a5, a6, a7, h26, h16⟩ := hf
  have h9 := hP.1
  obtain ⟨σ1, e1, M1, z1⟩ := s_readWays hf' hP hr
  have F1 : fr_ f (f + 16) σ σ1 := ⟨fun k hk => M1.1 k (by omega) (by omega) (by omega), M1.2⟩
  have r1 := rc_fr hr h9 F1 (Or.inl (by omega))
  obtain ⟨σ2, e2, F2, g2⟩ := s_clearLabels (lb := lb) hf' hcf hcw hca (fun v hv => by rw [M1.1 c (by omega) (by omega) (by omega)]; exact hlb v hv)
  have F2' : fr_ f (f + 16) σ1 σ2 := fr_wd F2 (by omega) (by omega)
  have r2 := rc_fr r1 h9 F2' (Or.inl (by omega))
  let σ3 := mm_si (mm_si σ2 f 0 (nI (bm_ (fs0_ P lb).1 9))) f 1 (nI 0)
  have F3 : fr_ f (f + 16) σ σ3 := fr_si (fr_si (fr_tr F1 F2') (by omega) (by omega)) (by omega) (by omega)
  have r3 := rc_fr hr h9 F3 (Or.inl (by omega))
  obtain ⟨σ4, e4, F4, rr⟩ := s_readL (lb := lb) hf' hP (x2 := c) P.1 0 σ3 (by omega) r3 ⟨by simp (disch := omega) only [σ3, rd_nj, rd_eq]; rfl, fun j hj v hv => by simp (disch := omega) only [σ3, rd_nk]; exact g2 j hj v hv⟩ (fun j hj => by simp (disch := omega) only [σ3, rd_nk]; rw [F2.1 (f + 1) (by omega), F2.1 (f + 13) (by omega)]; exact z1 j hj) (by simp only [σ3, rd_eq]; rw [bm_0 (fun m _ => by simp)]) (fun j hj => by omega)
  refine ⟨σ4, ?_, fr_tr F3 F4, rr⟩
  have n2 := rc_n r2
  by_cases h0 : P.1 = 0
  · have hb0 : bm_ (fs0_ P lb).1 9 = 0 := bm_0 (fun m _ => by show (decide (m = 0) && decide (0 < P.1)) = false; rw [h0]; simp)
    simp only [σ3, hb0] at e4
    rw [h0] at n2
    simp (disch := omega) only [vX1_read, rX1_read_0, rX1_read_1, rX1_read_2, rX1_read_5, rX1_read_6, rX1_read_7, rX1_read_10, rX1_read_11, rX1_read_12, rX1_read_15, rX1_read_18, rX1_read_19, rX1_read_22, rX1_read_23, rX1_read_26, rX1_read_27, rX1_read_28, rX1_read_31, rX1_read_32, mm_gd_t, mm_kc_v, mm_kc_n, mm_rfs, kl_n, kl_i, kl_r, kl_l, so_0, so_1, so_2, so_3, so_4, beq_self_eq_true, Bool.true_and, Bool.and_true, Bool.or_true, Bool.true_or, Bool.false_or, Bool.or_false, if_true, if_false, ↓reduceIte, decide_true, decide_false, Bool.not_false, Bool.not_true, not_true_eq_false, not_false_eq_true, eq_self, Nat.not_lt_zero, Bool.true_eq_false, Bool.false_eq_true, Nat.reduceAdd, Nat.reduceMul, Nat.reduceSub, Nat.reduceEqDiff, Nat.reduceLeDiff, Nat.reduceLT, Nat.reduceDiv, Nat.reduceMod, zb_0, zb_1, zb_b, on_nI, ml_l, rl_sl1, rl_sl2, rl_eq, rl_nj, rl_nk, qL_0, qL_1, qL_11, qL_10000, nI_lL, lN_add, lN_mul, Nat.zero_add, Nat.add_zero, mm_zr0n, mm_zr1n, mm_zrb, b2_0, b2_1, pk_mul, tn_nI, in_nI, mi_lt, rd_eq, rd_nj, rd_nk, rs_eq, rs_nk, rl_si, rl_sA, nI_add, nI_eqI, nI_leI2, nI_ltI2, ql_0, ql_1, ql_2, ql_3, ql_4, ql_5, ql_6, ql_7, ql_8, ql_9, ql_10, ql_11, ql_12, ql_13, ql_14, ql_15, ql_16, ql_17, ql_18, ql_19, ql_20, ql_24, ql_25, ql_26, ql_27, ql_31, ql_32, ql_33, ql_36, ql_45, ql_46, ql_47, ql_48, ql_49, ql_50, ql_57, ql_63, ql_64, ql_65, ql_66, ql_67, ql_68, ql_69, ql_70, ql_71, ql_72, ql_73, ql_74, ql_75, ql_76, ql_77, ql_78, ql_79, ql_80, ql_81, ql_82, ql_83, ql_84, ql_85, ql_86, ql_87, ql_93, ql_96, ql_97, ql_100, ql_101, ql_120, ql_255, ql_256, ql_257, ql_511, ql_672, ql_900, ql_1000, ql_65536, rho_15_1, rho_15_2, kd_15, k0, e1, e2, n2]
    exact e4
  · have hb1 : bm_ (fs0_ P lb).1 9 = 1 := by
      have : bm_ (fs0_ P lb).1 9 = 2 ^ 0 := by
        rw [bm_one (show 0 < 9 by omega)]
        apply bm_ext
        intro m _
        show (decide (m = 0) && decide (0 < P.1)) = _
        rw [decide_eq_true (show 0 < P.1 by omega), Bool.and_true]
      rw [this]
    have hg : ¬ P.1 ≤ 0 := by omega
    simp only [σ3, hb1] at e4
    simp (disch := omega) only [vX1_read, rX1_read_0, rX1_read_1, rX1_read_2, rX1_read_5, rX1_read_6, rX1_read_7, rX1_read_10, rX1_read_11, rX1_read_12, rX1_read_15, rX1_read_18, rX1_read_19, rX1_read_22, rX1_read_23, rX1_read_26, rX1_read_27, rX1_read_28, rX1_read_31, rX1_read_32, mm_gd_t, mm_kc_v, mm_kc_n, mm_rfs, kl_n, kl_i, kl_r, kl_l, so_0, so_1, so_2, so_3, so_4, beq_self_eq_true, Bool.true_and, Bool.and_true, Bool.or_true, Bool.true_or, Bool.false_or, Bool.or_false, if_true, if_false, ↓reduceIte, decide_true, decide_false, Bool.not_false, Bool.not_true, not_true_eq_false, not_false_eq_true, eq_self, Nat.not_lt_zero, Bool.true_eq_false, Bool.false_eq_true, Nat.reduceAdd, Nat.reduceMul, Nat.reduceSub, Nat.reduceEqDiff, Nat.reduceLeDiff, Nat.reduceLT, Nat.reduceDiv, Nat.reduceMod, zb_0, zb_1, zb_b, on_nI, ml_l, rl_sl1, rl_sl2, rl_eq, rl_nj, rl_nk, qL_0, qL_1, qL_11, qL_10000, nI_lL, lN_add, lN_mul, Nat.zero_add, Nat.add_zero, mm_zr0n, mm_zr1n, mm_zrb, b2_0, b2_1, pk_mul, tn_nI, in_nI, mi_lt, rd_eq, rd_nj, rd_nk, rs_eq, rs_nk, rl_si, rl_sA, nI_add, nI_eqI, nI_leI2, nI_ltI2, ql_0, ql_1, ql_2, ql_3, ql_4, ql_5, ql_6, ql_7, ql_8, ql_9, ql_10, ql_11, ql_12, ql_13, ql_14, ql_15, ql_16, ql_17, ql_18, ql_19, ql_20, ql_24, ql_25, ql_26, ql_27, ql_31, ql_32, ql_33, ql_36, ql_45, ql_46, ql_47, ql_48, ql_49, ql_50, ql_57, ql_63, ql_64, ql_65, ql_66, ql_67, ql_68, ql_69, ql_70, ql_71, ql_72, ql_73, ql_74, ql_75, ql_76, ql_77, ql_78, ql_79, ql_80, ql_81, ql_82, ql_83, ql_84, ql_85, ql_86, ql_87, ql_93, ql_96, ql_97, ql_100, ql_101, ql_120, ql_255, ql_256, ql_257, ql_511, ql_672, ql_900, ql_1000, ql_65536, rho_15_1, rho_15_2, kd_15, k0, e1, e2, n2, hg]
    exact e4

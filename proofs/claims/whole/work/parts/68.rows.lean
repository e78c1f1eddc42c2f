/-! ===== rows as numbers, and the table of unlike ones ===== -/
theorem re_9 {S : List Nat} (h : ∀ v, v ∈ S → v ≤ 9) {n : Nat} (hl : S.length ≤ n) (hn : n ≤ 9) : re_ S < 2000000000 ∧ re_ S < 2 * 10 ^ n := by
  have h1 := (re_lt S h).1
  have h2 : 10 ^ S.length ≤ 10 ^ n := Nat.pow_le_pow_right (by decide) hl
  have h3 : 10 ^ n ≤ 10 ^ 9 := Nat.pow_le_pow_right (by decide) hn
  omega
/-- what lines below l of a set speak -/
def sl_ (s l : Nat) (L : List (Nat × Nat)) : List Nat := (L.filter (fun e => decide (e.1 < l) && s.testBit e.1)).map (fun e => e.2)
theorem sl_0 (s : Nat) (L : List (Nat × Nat)) : sl_ s 0 L = [] := by
  unfold sl_
  rw [List.filter_eq_nil_iff.2]; · rfl
  intro e _; simp
theorem sl_9 {s : Nat} {L : List (Nat × Nat)} (h : ∀ e, e ∈ L → e.1 < 9) : sl_ s 9 L = sk_ s L := by
  unfold sl_ sk_
  congr 1
  apply List.filter_congr
  intro e he
  simp [h e he]
theorem fl_succ {s l : Nat} : ∀ {L : List (Nat × Nat)}, L.Pairwise (fun a b => a.1 < b.1) → L.filter (fun e => decide (e.1 < l + 1) && s.testBit e.1) = L.filter (fun e => decide (e.1 < l) && s.testBit e.1) ++ L.filter (fun e => decide (e.1 = l) && s.testBit e.1)
  | [], _ => rfl
  | a :: t, h => by
    rw [List.pairwise_cons] at h
    have ih := fl_succ (s := s) (l := l) h.2
    rcases Nat.lt_trichotomy a.1 l with h1 | h1 | h1
    · rw [List.filter_cons, List.filter_cons, List.filter_cons, ih, decide_eq_true (show a.1 < l + 1 by omega), decide_eq_true h1, decide_eq_false (show ¬ a.1 = l by omega)]
      cases s.testBit a.1 <;> simp
    · have e1 : t.filter (fun e => decide (e.1 < l + 1) && s.testBit e.1) = [] := List.filter_eq_nil_iff.2 (fun e he => by have := h.1 e he; simp; omega)
      have e2 : t.filter (fun e => decide (e.1 < l) && s.testBit e.1) = [] := List.filter_eq_nil_iff.2 (fun e he => by have := h.1 e he; simp; omega)
      have e3 : t.filter (fun e => decide (e.1 = l) && s.testBit e.1) = [] := List.filter_eq_nil_iff.2 (fun e he => by have := h.1 e he; simp; omega)
      rw [List.filter_cons, List.filter_cons, List.filter_cons, e1, e2, e3, decide_eq_true (show a.1 < l + 1 by omega), decide_eq_false (show ¬ a.1 < l by omega), decide_eq_true h1]
      cases s.testBit a.1 <;> simp
    · rw [List.filter_cons, List.filter_cons, List.filter_cons, ih, decide_eq_false (show ¬ a.1 < l + 1 by omega), decide_eq_false (show ¬ a.1 < l by omega), decide_eq_false (show ¬ a.1 = l by omega)]
      simp
theorem fe_l {s l : Nat} : ∀ {L : List (Nat × Nat)}, L.Pairwise (fun a b => a.1 < b.1) → (L.filter (fun e => decide (e.1 = l) && s.testBit e.1)).map (fun e => e.2) = (if s.testBit l = true then ((L.find? (fun e => e.1 == l)).map (fun e => e.2)).toList else [])
  | [], _ => by simp
  | a :: t, h => by
    rw [List.pairwise_cons] at h
    by_cases h1 : a.1 = l
    · have e3 : t.filter (fun e => decide (e.1 = l) && s.testBit e.1) = [] := List.filter_eq_nil_iff.2 (fun e he => by have := h.1 e he; simp; omega)
      rw [List.filter_cons, e3, List.find?_cons_of_pos (by simpa using h1), decide_eq_true h1, h1]
      cases s.testBit l <;> simp
    · rw [List.filter_cons, decide_eq_false h1, List.find?_cons_of_neg (by simpa using h1)]
      exact fe_l h.2
theorem sl_succ {s l : Nat} {L : List (Nat × Nat)} (h : L.Pairwise (fun a b => a.1 < b.1)) : sl_ s (l + 1) L = sl_ s l L ++ (if s.testBit l = true then ((L.find? (fun e => e.1 == l)).map (fun e => e.2)).toList else []) := by
  unfold sl_
  rw [fl_succ h, List.map_append, fe_l h]
theorem sl_ok {s l : Nat} {L : List (Nat × Nat)} (h : ∀ e, e ∈ L → e.2 ≤ 9) : (∀ v, v ∈ sl_ s l L → v ≤ 9) ∧ (sl_ s l L).length ≤ L.length := by
  refine ⟨fun v hv => ?_, ?_⟩
  · unfold sl_ at hv
    obtain ⟨e, he, rfl⟩ := List.mem_map.1 hv
    exact h e (List.mem_filter.1 he).1
  · unfold sl_; rw [List.length_map]; exact List.length_filter_le _ _
theorem s_rowOfL {σ : mm_M} {b p s : Nat} {L : List (Nat × Nat)} (hb : lb_ b) (hp : p < 100) (hs : s < 2147483648) (ho : L.Pairwise (fun a b => a.1 < b.1)) (hl : ∀ e, e ∈ L → e.2 ≤ 9) (hn : L.length ≤ 9) (hv : ∀ l, l < 9 → σ.1 (b + 5) (9 * p + l) = vv_ L l) : ∀ (d l : Nat) (x5 : Option Value), l + d = 9 →
    mm_run mX5_rowOf mm_H 5 [some (.ref b), some (.int (nI p)), some (.int (nI s)), some (.int (nI (re_ (sl_ s l L)))), some (.int (nI l)), x5] [] σ = some (some (.int (nI (re_ (sl_ s 9 L)))), mm_H, σ)
  | 0, l, x5, h => by
    have : l = 9 := by omega
    subst this
    rw [rX5_rowOf_5]
    simp (disch := omega) only [vX5_rowOf, rX5_rowOf_0, rX5_rowOf_1, rX5_rowOf_2, rX5_rowOf_3, rX5_rowOf_7, rX5_rowOf_9, rX5_rowOf_12, rX5_rowOf_13, rX5_rowOf_16, rX5_rowOf_17, rX5_rowOf_19, rX5_rowOf_20, rX5_rowOf_22, rX5_rowOf_23, rX5_rowOf_24, rX5_rowOf_26, rX5_rowOf_28, rX5_rowOf_29, rX5_rowOf_32, rX5_rowOf_33, rX5_rowOf_35, rX5_rowOf_36, rX5_rowOf_37, rX5_rowOf_38, rX5_rowOf_39, rX5_rowOf_42, rX5_rowOf_43, rX5_rowOf_45, rX5_rowOf_46, rX5_rowOf_48, rX5_rowOf_49, rX5_rowOf_50, rX5_rowOf_53, rX5_rowOf_56, rX5_rowOf_57, mm_gd_t, mm_kc_v, mm_kc_n, mm_rfs, kl_n, kl_i, kl_r, kl_l, so_0, so_1, so_2, so_3, so_4, beq_self_eq_true, Bool.true_and, Bool.and_true, Bool.or_true, Bool.true_or, Bool.false_or, Bool.or_false, if_true, if_false, ↓reduceIte, decide_true, decide_false, Bool.not_false, Bool.not_true, not_true_eq_false, not_false_eq_true, eq_self, Nat.not_lt_zero, Bool.true_eq_false, Bool.false_eq_true, Nat.reduceAdd, Nat.reduceMul, Nat.reduceSub, Nat.reduceEqDiff, Nat.reduceLeDiff, Nat.reduceLT, Nat.reduceDiv, Nat.reduceMod, zb_0, zb_1, zb_b, on_nI, ml_l, rl_sl1, rl_sl2, rl_eq, rl_nj, rl_nk, qL_0, qL_1, qL_11, qL_10000, nI_lL, lN_add, lN_mul, Nat.zero_add, Nat.add_zero, mm_zr0n, mm_zr1n, mm_zrb, b2_0, b2_1, pk_mul, tn_nI, in_nI, mi_lt, rd_eq, rd_nj, rd_nk, rs_eq, rs_nk, rl_si, rl_sA, nI_add, nI_eqI, nI_leI2, nI_ltI2, ql_0, ql_1, ql_2, ql_3, ql_4, ql_5, ql_6, ql_7, ql_8, ql_9, ql_10, ql_11, ql_12, ql_13, ql_14, ql_15, ql_16, ql_17, ql_18, ql_19, ql_20, ql_24, ql_25, ql_26, ql_27, ql_31, ql_32, ql_33, ql_36, ql_45, ql_46, ql_47, ql_48, ql_49, ql_50, ql_57, ql_63, ql_64, ql_65, ql_66, ql_67, ql_68, ql_69, ql_70, ql_71, ql_72, ql_73, ql_74, ql_75, ql_76, ql_77, ql_78, ql_79, ql_80, ql_81, ql_82, ql_83, ql_84, ql_85, ql_86, ql_87, ql_93, ql_96, ql_97, ql_100, ql_101, ql_120, ql_255, ql_256, ql_257, ql_511, ql_672, ql_900, ql_1000, ql_65536]
  | d + 1, l, x5, h => by
    have hb' := hb
    obtain ⟨k0, k1, k2, k3, kb, k5, k6, k7, k8, k9, k10, k11, k12⟩ := hb
    have h2 : ¬ 9 ≤ l := by omega
    have hvl := hv l (by omega)
    have ih := fun x5 => s_rowOfL hb' hp hs ho hl hn hv d (l + 1) x5 (by omega)
    rw [sl_succ ho] at ih
    have hm : p * 9 + l = 9 * p + l := by omega
    cases hf : L.find? (fun e => e.1 == l) with
    | none =>
      unfold vv_ at hvl
      rw [hf] at hvl ih
      simp only [Option.map_none, Option.toList_none, ite_self, List.append_nil] at ih hvl
      rw [rX5_rowOf_5]
      simp (disch := omega) only [vX5_rowOf, rX5_rowOf_0, rX5_rowOf_1, rX5_rowOf_2, rX5_rowOf_3, rX5_rowOf_7, rX5_rowOf_9, rX5_rowOf_12, rX5_rowOf_13, rX5_rowOf_16, rX5_rowOf_17, rX5_rowOf_19, rX5_rowOf_20, rX5_rowOf_22, rX5_rowOf_23, rX5_rowOf_24, rX5_rowOf_26, rX5_rowOf_28, rX5_rowOf_29, rX5_rowOf_32, rX5_rowOf_33, rX5_rowOf_35, rX5_rowOf_36, rX5_rowOf_37, rX5_rowOf_38, rX5_rowOf_39, rX5_rowOf_42, rX5_rowOf_43, rX5_rowOf_45, rX5_rowOf_46, rX5_rowOf_48, rX5_rowOf_49, rX5_rowOf_50, rX5_rowOf_53, rX5_rowOf_56, rX5_rowOf_57, mm_gd_t, mm_kc_v, mm_kc_n, mm_rfs, kl_n, kl_i, kl_r, kl_l, so_0, so_1, so_2, so_3, so_4, beq_self_eq_true, Bool.true_and, Bool.and_true, Bool.or_true, Bool.true_or, Bool.false_or, Bool.or_false, if_true, if_false, ↓reduceIte, decide_true, decide_false, Bool.not_false, Bool.not_true, not_true_eq_false, not_false_eq_true, eq_self, Nat.not_lt_zero, Bool.true_eq_false, Bool.false_eq_true, Nat.reduceAdd, Nat.reduceMul, Nat.reduceSub, Nat.reduceEqDiff, Nat.reduceLeDiff, Nat.reduceLT, Nat.reduceDiv, Nat.reduceMod, zb_0, zb_1, zb_b, on_nI, ml_l, rl_sl1, rl_sl2, rl_eq, rl_nj, rl_nk, qL_0, qL_1, qL_11, qL_10000, nI_lL, lN_add, lN_mul, Nat.zero_add, Nat.add_zero, mm_zr0n, mm_zr1n, mm_zrb, b2_0, b2_1, pk_mul, tn_nI, in_nI, mi_lt, rd_eq, rd_nj, rd_nk, rs_eq, rs_nk, rl_si, rl_sA, nI_add, nI_eqI, nI_leI2, nI_ltI2, ql_0, ql_1, ql_2, ql_3, ql_4, ql_5, ql_6, ql_7, ql_8, ql_9, ql_10, ql_11, ql_12, ql_13, ql_14, ql_15, ql_16, ql_17, ql_18, ql_19, ql_20, ql_24, ql_25, ql_26, ql_27, ql_31, ql_32, ql_33, ql_36, ql_45, ql_46, ql_47, ql_48, ql_49, ql_50, ql_57, ql_63, ql_64, ql_65, ql_66, ql_67, ql_68, ql_69, ql_70, ql_71, ql_72, ql_73, ql_74, ql_75, ql_76, ql_77, ql_78, ql_79, ql_80, ql_81, ql_82, ql_83, ql_84, ql_85, ql_86, ql_87, ql_93, ql_96, ql_97, ql_100, ql_101, ql_120, ql_255, ql_256, ql_257, ql_511, ql_672, ql_900, ql_1000, ql_65536, k0, k2, k5, k9, h2, hm, hvl, ih]
    | some e =>
      unfold vv_ at hvl
      rw [hf] at hvl ih
      simp only [Option.map_some, Option.toList_some] at ih hvl
      have he9 := hl e (List.mem_of_find?_eq_some hf)
      by_cases hbit : s.testBit l = true
      · rw [if_pos hbit, re_app] at ih
        rw [rX5_rowOf_5]
        simp (disch := omega) only [vX5_rowOf, rX5_rowOf_0, rX5_rowOf_1, rX5_rowOf_2, rX5_rowOf_3, rX5_rowOf_7, rX5_rowOf_9, rX5_rowOf_12, rX5_rowOf_13, rX5_rowOf_16, rX5_rowOf_17, rX5_rowOf_19, rX5_rowOf_20, rX5_rowOf_22, rX5_rowOf_23, rX5_rowOf_24, rX5_rowOf_26, rX5_rowOf_28, rX5_rowOf_29, rX5_rowOf_32, rX5_rowOf_33, rX5_rowOf_35, rX5_rowOf_36, rX5_rowOf_37, rX5_rowOf_38, rX5_rowOf_39, rX5_rowOf_42, rX5_rowOf_43, rX5_rowOf_45, rX5_rowOf_46, rX5_rowOf_48, rX5_rowOf_49, rX5_rowOf_50, rX5_rowOf_53, rX5_rowOf_56, rX5_rowOf_57, mm_gd_t, mm_kc_v, mm_kc_n, mm_rfs, kl_n, kl_i, kl_r, kl_l, so_0, so_1, so_2, so_3, so_4, beq_self_eq_true, Bool.true_and, Bool.and_true, Bool.or_true, Bool.true_or, Bool.false_or, Bool.or_false, if_true, if_false, ↓reduceIte, decide_true, decide_false, Bool.not_false, Bool.not_true, not_true_eq_false, not_false_eq_true, eq_self, Nat.not_lt_zero, Bool.true_eq_false, Bool.false_eq_true, Nat.reduceAdd, Nat.reduceMul, Nat.reduceSub, Nat.reduceEqDiff, Nat.reduceLeDiff, Nat.reduceLT, Nat.reduceDiv, Nat.reduceMod, zb_0, zb_1, zb_b, on_nI, ml_l, rl_sl1, rl_sl2, rl_eq, rl_nj, rl_nk, qL_0, qL_1, qL_11, qL_10000, nI_lL, lN_add, lN_mul, Nat.zero_add, Nat.add_zero, mm_zr0n, mm_zr1n, mm_zrb, b2_0, b2_1, pk_mul, tn_nI, in_nI, mi_lt, rd_eq, rd_nj, rd_nk, rs_eq, rs_nk, rl_si, rl_sA, nI_add, nI_eqI, nI_leI2, nI_ltI2, ql_0, ql_1, ql_2, ql_3, ql_4, ql_5, ql_6, ql_7, ql_8, ql_9, ql_10, ql_11, ql_12, ql_13, ql_14, ql_15, ql_16, ql_17, ql_18, ql_19, ql_20, ql_24, ql_25, ql_26, ql_27, ql_31, ql_32, ql_33, ql_36, ql_45, ql_46, ql_47, ql_48, ql_49, ql_50, ql_57, ql_63, ql_64, ql_65, ql_66, ql_67, ql_68, ql_69, ql_70, ql_71, ql_72, ql_73, ql_74, ql_75, ql_76, ql_77, ql_78, ql_79, ql_80, ql_81, ql_82, ql_83, ql_84, ql_85, ql_86, ql_87, ql_93, ql_96, ql_97, ql_100, ql_101, ql_120, ql_255, ql_256, ql_257, ql_511, ql_672, ql_900, ql_1000, ql_65536, k0, k2, k5, k9, h2, hm, hvl, nI_n1, bit_nI, hbit, ih]
      · rw [if_neg hbit, List.append_nil] at ih
        rw [rX5_rowOf_5]
        simp (disch := omega) only [vX5_rowOf, rX5_rowOf_0, rX5_rowOf_1, rX5_rowOf_2, rX5_rowOf_3, rX5_rowOf_7, rX5_rowOf_9, rX5_rowOf_12, rX5_rowOf_13, rX5_rowOf_16, rX5_rowOf_17, rX5_rowOf_19, rX5_rowOf_20, rX5_rowOf_22, rX5_rowOf_23, rX5_rowOf_24, rX5_rowOf_26, rX5_rowOf_28, rX5_rowOf_29, rX5_rowOf_32, rX5_rowOf_33, rX5_rowOf_35, rX5_rowOf_36, rX5_rowOf_37, rX5_rowOf_38, rX5_rowOf_39, rX5_rowOf_42, rX5_rowOf_43, rX5_rowOf_45, rX5_rowOf_46, rX5_rowOf_48, rX5_rowOf_49, rX5_rowOf_50, rX5_rowOf_53, rX5_rowOf_56, rX5_rowOf_57, mm_gd_t, mm_kc_v, mm_kc_n, mm_rfs, kl_n, kl_i, kl_r, kl_l, so_0, so_1, so_2, so_3, so_4, beq_self_eq_true, Bool.true_and, Bool.and_true, Bool.or_true, Bool.true_or, Bool.false_or, Bool.or_false, if_true, if_false, ↓reduceIte, decide_true, decide_false, Bool.not_false, Bool.not_true, not_true_eq_false, not_false_eq_true, eq_self, Nat.not_lt_zero, Bool.true_eq_false, Bool.false_eq_true, Nat.reduceAdd, Nat.reduceMul, Nat.reduceSub, Nat.reduceEqDiff, Nat.reduceLeDiff, Nat.reduceLT, Nat.reduceDiv, Nat.reduceMod, zb_0, zb_1, zb_b, on_nI, ml_l, rl_sl1, rl_sl2, rl_eq, rl_nj, rl_nk, qL_0, qL_1, qL_11, qL_10000, nI_lL, lN_add, lN_mul, Nat.zero_add, Nat.add_zero, mm_zr0n, mm_zr1n, mm_zrb, b2_0, b2_1, pk_mul, tn_nI, in_nI, mi_lt, rd_eq, rd_nj, rd_nk, rs_eq, rs_nk, rl_si, rl_sA, nI_add, nI_eqI, nI_leI2, nI_ltI2, ql_0, ql_1, ql_2, ql_3, ql_4, ql_5, ql_6, ql_7, ql_8, ql_9, ql_10, ql_11, ql_12, ql_13, ql_14, ql_15, ql_16, ql_17, ql_18, ql_19, ql_20, ql_24, ql_25, ql_26, ql_27, ql_31, ql_32, ql_33, ql_36, ql_45, ql_46, ql_47, ql_48, ql_49, ql_50, ql_57, ql_63, ql_64, ql_65, ql_66, ql_67, ql_68, ql_69, ql_70, ql_71, ql_72, ql_73, ql_74, ql_75, ql_76, ql_77, ql_78, ql_79, ql_80, ql_81, ql_82, ql_83, ql_84, ql_85, ql_86, ql_87, ql_93, ql_96, ql_97, ql_100, ql_101, ql_120, ql_255, ql_256, ql_257, ql_511, ql_672, ql_900, ql_1000, ql_65536, k0, k2, k5, k9, h2, hm, hvl, nI_n1, bit_nI, hbit, ih]
theorem s_rowOf {σ : mm_M} {b p s a : Nat} {P : pp_} (hb : lb_ b) (hP : wf_ P) (ha : a ≤ 9) (hp : p < 100) (hs : s < 2147483648) (hv : vo_ (b + 5) P a 100 σ) :
    mm_ev mX5_rowOf [.ref b, .int (nI p), .int (nI s)] mm_H σ = some (some (.int (nI (re_ (sp_ P s a (p / 10) (p % 10))))), mm_H, σ) := by
  obtain ⟨o1, o2, o3, o4⟩ := rr_ok hP ha (show p / 10 ≤ 9 by omega) (show p % 10 ≤ 9 by omega)
  have h9 := hP.1
  have e := s_rowOfL hb hp hs o3 (fun e he => (o2 e he).2) (by omega) (hv p hp) 9 0 none (by omega)
  rw [sl_9 (fun e he => by have := (o2 e he).1; omega), sl_0] at e
  simp (disch := omega) only [vX5_rowOf, rX5_rowOf_0, rX5_rowOf_1, rX5_rowOf_2, rX5_rowOf_3, rX5_rowOf_7, rX5_rowOf_9, rX5_rowOf_12, rX5_rowOf_13, rX5_rowOf_16, rX5_rowOf_17, rX5_rowOf_19, rX5_rowOf_20, rX5_rowOf_22, rX5_rowOf_23, rX5_rowOf_24, rX5_rowOf_26, rX5_rowOf_28, rX5_rowOf_29, rX5_rowOf_32, rX5_rowOf_33, rX5_rowOf_35, rX5_rowOf_36, rX5_rowOf_37, rX5_rowOf_38, rX5_rowOf_39, rX5_rowOf_42, rX5_rowOf_43, rX5_rowOf_45, rX5_rowOf_46, rX5_rowOf_48, rX5_rowOf_49, rX5_rowOf_50, rX5_rowOf_53, rX5_rowOf_56, rX5_rowOf_57, mm_gd_t, mm_kc_v, mm_kc_n, mm_rfs, kl_n, kl_i, kl_r, kl_l, so_0, so_1, so_2, so_3, so_4, beq_self_eq_true, Bool.true_and, Bool.and_true, Bool.or_true, Bool.true_or, Bool.false_or, Bool.or_false, if_true, if_false, ↓reduceIte, decide_true, decide_false, Bool.not_false, Bool.not_true, not_true_eq_false, not_false_eq_true, eq_self, Nat.not_lt_zero, Bool.true_eq_false, Bool.false_eq_true, Nat.reduceAdd, Nat.reduceMul, Nat.reduceSub, Nat.reduceEqDiff, Nat.reduceLeDiff, Nat.reduceLT, Nat.reduceDiv, Nat.reduceMod, zb_0, zb_1, zb_b, on_nI, ml_l, rl_sl1, rl_sl2, rl_eq, rl_nj, rl_nk, qL_0, qL_1, qL_11, qL_10000, nI_lL, lN_add, lN_mul, Nat.zero_add, Nat.add_zero, mm_zr0n, mm_zr1n, mm_zrb, b2_0, b2_1, pk_mul, tn_nI, in_nI, mi_lt, rd_eq, rd_nj, rd_nk, rs_eq, rs_nk, rl_si, rl_sA, nI_add, nI_eqI, nI_leI2, nI_ltI2, ql_0, ql_1, ql_2, ql_3, ql_4, ql_5, ql_6, ql_7, ql_8, ql_9, ql_10, ql_11, ql_12, ql_13, ql_14, ql_15, ql_16, ql_17, ql_18, ql_19, ql_20, ql_24, ql_25, ql_26, ql_27, ql_31, ql_32, ql_33, ql_36, ql_45, ql_46, ql_47, ql_48, ql_49, ql_50, ql_57, ql_63, ql_64, ql_65, ql_66, ql_67, ql_68, ql_69, ql_70, ql_71, ql_72, ql_73, ql_74, ql_75, ql_76, ql_77, ql_78, ql_79, ql_80, ql_81, ql_82, ql_83, ql_84, ql_85, ql_86, ql_87, ql_93, ql_96, ql_97, ql_100, ql_101, ql_120, ql_255, ql_256, ql_257, ql_511, ql_672, ql_900, ql_1000, ql_65536]
  exact e
/-! a table with open places -/
def pl_ (h e : Nat) : Nat := (h + e) % 257
def ct_ (T : Nat → Nat) : Nat → Nat
  | 0 => 0
  | n + 1 => ct_ T n + (if T n = 0 then 0 else 1)
theorem ct_full {T : Nat → Nat} : ∀ n, (∀ t, t < n → T t ≠ 0) → ct_ T n = n
  | 0, _ => rfl
  | n + 1, h => by unfold ct_; rw [ct_full n (fun t ht => h t (by omega)), if_neg (h n (by omega))]
theorem ct_zero {T : Nat → Nat} : ∀ n, (∀ t, t < n → T t = 0) → ct_ T n = 0
  | 0, _ => rfl
  | n + 1, h => by unfold ct_; rw [ct_zero n (fun t ht => h t (by omega)), if_pos (h n (by omega))]
theorem ct_up {T : Nat → Nat} {x r : Nat} (hx : T x = 0) (hr : r ≠ 0) : ∀ n, ct_ (up_ T x r) n = ct_ T n + (if x < n then 1 else 0)
  | 0 => rfl
  | n + 1 => by
    have ih := ct_up hx hr n
    unfold ct_
    rw [ih]
    unfold up_
    by_cases h : n = x
    · subst h
      rw [if_pos rfl, if_neg hr, hx, if_pos rfl, if_neg (by omega), if_pos (by omega)]
    · rw [if_neg h]
      split <;> split <;> split <;> omega
/-- the table holds the rows of the first n, m of them unlike; each is found from its own place on -/
def tb_ (R : Nat → Nat) (n m : Nat) (T : Nat → Nat) : Prop :=
  ct_ T 257 = m ∧ (∀ q, q < n → ∃ t, t < 257 ∧ T t = R q) ∧ (∀ t, t < 257 → T t ≠ 0 → ∃ q, q < n ∧ T t = R q) ∧
  (∀ t, t < 257 → T t ≠ 0 → ∀ e, e < (t + 257 - T t % 257) % 257 → T (pl_ (T t % 257) e) ≠ 0)
/-- where a search ends -/
theorem tb_find {T : Nat → Nat} {r : Nat} (h : ct_ T 257 < 257) : ∃ e, e < 257 ∧ (T (pl_ (r % 257) e) = 0 ∨ T (pl_ (r % 257) e) = r) ∧ ∀ e', e' < e → T (pl_ (r % 257) e') ≠ 0 ∧ T (pl_ (r % 257) e') ≠ r := by
  have h0 : ∃ t, t < 257 ∧ T t = 0 := by
    apply Classical.byContradiction
    intro hn
    have : ct_ T 257 = 257 := ct_full 257 (fun t ht he => hn ⟨t, ht, he⟩)
    omega
  obtain ⟨t, ht, hT⟩ := h0
  have h1 : ∃ e, e < 257 ∧ (T (pl_ (r % 257) e) = 0 ∨ T (pl_ (r % 257) e) = r) := by
    refine ⟨(t + 257 - r % 257) % 257, by omega, Or.inl ?_⟩
    rw [show pl_ (r % 257) ((t + 257 - r % 257) % 257) = t by unfold pl_; omega]
    exact hT
  have key : ∀ n, (∃ e, e < n ∧ e < 257 ∧ (T (pl_ (r % 257) e) = 0 ∨ T (pl_ (r % 257) e) = r) ∧ ∀ e', e' < e → T (pl_ (r % 257) e') ≠ 0 ∧ T (pl_ (r % 257) e') ≠ r) ∨ ∀ e, e < n → e < 257 → T (pl_ (r % 257) e) ≠ 0 ∧ T (pl_ (r % 257) e) ≠ r := by
    intro n
    induction n with
    | zero => exact Or.inr (fun e he => by omega)
    | succ n ih =>
      rcases ih with ⟨e, a1, a2, a3, a4⟩ | ih
      · exact Or.inl ⟨e, by omega, a2, a3, a4⟩
      · by_cases hn : n < 257 ∧ (T (pl_ (r % 257) n) = 0 ∨ T (pl_ (r % 257) n) = r)
        · exact Or.inl ⟨n, by omega, hn.1, hn.2, fun e' he' => ih e' he' (by omega)⟩
        · refine Or.inr (fun e he h257 => ?_)
          by_cases hen : e = n
          · subst hen
            exact ⟨fun h => hn ⟨h257, Or.inl h⟩, fun h => hn ⟨h257, Or.inr h⟩⟩
          · exact ih e (by omega) h257
  obtain ⟨e, he, h1⟩ := h1
  rcases key (e + 1) with ⟨e, a1, a2, a3, a4⟩ | h2
  · exact ⟨e, a2, a3, a4⟩
  · have := h2 e (by omega) he
    rcases h1 with h1 | h1
    · exact absurd h1 this.1
    · exact absurd h1 this.2
/-- a row that is not there is put at the open place -/
theorem tb_put {R : Nat → Nat} {n m : Nat} {T : Nat → Nat} (hT : tb_ R n m T) {e : Nat} (he : e < 257) (hRa : ∀ q, R q ≠ 0) (h0 : T (pl_ (R n % 257) e) = 0) (hb : ∀ e', e' < e → T (pl_ (R n % 257) e') ≠ 0 ∧ T (pl_ (R n % 257) e') ≠ R n) :
    (∀ q, q < n → R q ≠ R n) ∧ tb_ R (n + 1) (m + 1) (up_ T (pl_ (R n % 257) e) (R n)) := by
  obtain ⟨a1, a2, a3, a4⟩ := hT
  have hR := hRa n
  have hx : pl_ (R n % 257) e < 257 := by unfold pl_; omega
  refine ⟨fun q hq hqn => ?_, ?_, fun q hq => ?_, fun t ht hne => ?_, fun t ht hne e' he' => ?_⟩
  · obtain ⟨t, ht, hTt⟩ := a2 q hq
    rw [hqn] at hTt
    have h4 := a4 t ht (by rw [hTt]; exact hR)
    rw [hTt] at h4
    have hd : pl_ (R n % 257) ((t + 257 - R n % 257) % 257) = t := by unfold pl_; omega
    rcases Nat.lt_trichotomy e ((t + 257 - R n % 257) % 257) with h | h | h
    · exact h4 e h h0
    · rw [h, hd, hTt] at h0; exact hR h0
    · have := (hb _ h).2; rw [hd] at this; exact this hTt
  · rw [ct_up h0 hR, a1, if_pos hx]
  · by_cases hqn : q = n
    · exact ⟨_, hx, by rw [hqn]; unfold up_; rw [if_pos rfl]⟩
    · obtain ⟨t, ht, hTt⟩ := a2 q (by omega)
      refine ⟨t, ht, ?_⟩
      unfold up_
      by_cases hc : t = pl_ (R n % 257) e
      · exfalso
        exact hRa q (by rw [← hTt, hc, h0])
      · rw [if_neg hc]; exact hTt
  · unfold up_ at hne ⊢
    by_cases hc : t = pl_ (R n % 257) e
    · rw [if_pos hc]; exact ⟨n, by omega, rfl⟩
    · rw [if_neg hc] at hne ⊢
      obtain ⟨q, hq, h⟩ := a3 t ht hne
      exact ⟨q, by omega, h⟩
  · have hup : ∀ x, T x ≠ 0 → up_ T (pl_ (R n % 257) e) (R n) x ≠ 0 := by
      intro x hx; unfold up_; split
      · exact hR
      · exact hx
    by_cases hc : t = pl_ (R n % 257) e
    · have hv : up_ T (pl_ (R n % 257) e) (R n) t = R n := by unfold up_; rw [if_pos hc]
      rw [hv] at he' ⊢
      have : (t + 257 - R n % 257) % 257 = e := by rw [hc]; unfold pl_; omega
      exact hup _ (hb e' (by omega)).1
    · have hv : up_ T (pl_ (R n % 257) e) (R n) t = T t := by unfold up_; rw [if_neg hc]
      rw [hv] at he' hne ⊢
      exact hup _ (a4 t ht hne e' he')
theorem tb_same {R : Nat → Nat} {n m : Nat} {T : Nat → Nat} (hT : tb_ R n m T) {t : Nat} (ht : t < 257) (hR : R n ≠ 0) (he : T t = R n) : (∃ q, q < n ∧ R q = R n) ∧ tb_ R (n + 1) m T := by
  obtain ⟨a1, a2, a3, a4⟩ := hT
  obtain ⟨q, hq, e⟩ := a3 t ht (by rw [he]; exact hR)
  refine ⟨⟨q, hq, by rw [← e, he]⟩, a1, fun q' hq' => ?_, fun t' ht' hne => ?_, a4⟩
  · by_cases h : q' = n
    · exact ⟨t, ht, by rw [h, he]⟩
    · exact a2 q' (by omega)
  · obtain ⟨q', hq', e'⟩ := a3 t' ht' hne
    exact ⟨q', by omega, e'⟩
theorem s_placeOfL {σ : mm_M} {b r e : Nat} {T : Nat → Nat} (hb : lb_ b) (hr : r < 2000000000) (hT : ∀ t, t < 257 → σ.1 (b + 6) t = nI (T t) ∧ T t < 2000000000) (he : e < 257) (h0 : T (pl_ (r % 257) e) = 0 ∨ T (pl_ (r % 257) e) = r) (hb4 : ∀ e', e' < e → T (pl_ (r % 257) e') ≠ 0 ∧ T (pl_ (r % 257) e') ≠ r) : ∀ (d i : Nat), i + d = e →
    mm_run mX5_placeOf mm_H 8 [some (.ref b), some (.int (nI r)), some (.int (nI (pl_ (r % 257) i))), some (.int (nI i))] [] σ = some (some (.int (nI (pl_ (r % 257) e))), mm_H, σ)
  | 0, i, h => by
    have : i = e := by omega
    subst this
    obtain ⟨k0, k1, k2, k3, kb, k5, k6, k7, k8, k9, k10, k11, k12⟩ := hb
    have hx : pl_ (r % 257) i < 257 := by unfold pl_; omega
    have ⟨t1, t2⟩ := hT _ hx
    have h2 : ¬ 257 ≤ i := by omega
    rw [rX5_placeOf_8]
    by_cases hz : T (pl_ (r % 257) i) = 0
    · simp (disch := omega) only [vX5_placeOf, rX5_placeOf_0, rX5_placeOf_1, rX5_placeOf_4, rX5_placeOf_5, rX5_placeOf_6, rX5_placeOf_7, rX5_placeOf_9, rX5_placeOf_12, rX5_placeOf_15, rX5_placeOf_16, rX5_placeOf_19, rX5_placeOf_20, rX5_placeOf_21, rX5_placeOf_24, rX5_placeOf_25, rX5_placeOf_28, rX5_placeOf_29, rX5_placeOf_30, rX5_placeOf_31, rX5_placeOf_34, rX5_placeOf_35, rX5_placeOf_36, rX5_placeOf_37, rX5_placeOf_40, rX5_placeOf_41, rX5_placeOf_42, rX5_placeOf_45, rX5_placeOf_48, rX5_placeOf_49, mm_gd_t, mm_kc_v, mm_kc_n, mm_rfs, kl_n, kl_i, kl_r, kl_l, so_0, so_1, so_2, so_3, so_4, beq_self_eq_true, Bool.true_and, Bool.and_true, Bool.or_true, Bool.true_or, Bool.false_or, Bool.or_false, if_true, if_false, ↓reduceIte, decide_true, decide_false, Bool.not_false, Bool.not_true, not_true_eq_false, not_false_eq_true, eq_self, Nat.not_lt_zero, Bool.true_eq_false, Bool.false_eq_true, Nat.reduceAdd, Nat.reduceMul, Nat.reduceSub, Nat.reduceEqDiff, Nat.reduceLeDiff, Nat.reduceLT, Nat.reduceDiv, Nat.reduceMod, zb_0, zb_1, zb_b, on_nI, ml_l, rl_sl1, rl_sl2, rl_eq, rl_nj, rl_nk, qL_0, qL_1, qL_11, qL_10000, nI_lL, lN_add, lN_mul, Nat.zero_add, Nat.add_zero, mm_zr0n, mm_zr1n, mm_zrb, b2_0, b2_1, pk_mul, tn_nI, in_nI, mi_lt, rd_eq, rd_nj, rd_nk, rs_eq, rs_nk, rl_si, rl_sA, nI_add, nI_eqI, nI_leI2, nI_ltI2, ql_0, ql_1, ql_2, ql_3, ql_4, ql_5, ql_6, ql_7, ql_8, ql_9, ql_10, ql_11, ql_12, ql_13, ql_14, ql_15, ql_16, ql_17, ql_18, ql_19, ql_20, ql_24, ql_25, ql_26, ql_27, ql_31, ql_32, ql_33, ql_36, ql_45, ql_46, ql_47, ql_48, ql_49, ql_50, ql_57, ql_63, ql_64, ql_65, ql_66, ql_67, ql_68, ql_69, ql_70, ql_71, ql_72, ql_73, ql_74, ql_75, ql_76, ql_77, ql_78, ql_79, ql_80, ql_81, ql_82, ql_83, ql_84, ql_85, ql_86, ql_87, ql_93, ql_96, ql_97, ql_100, ql_101, ql_120, ql_255, ql_256, ql_257, ql_511, ql_672, ql_900, ql_1000, ql_65536, k0, k3, k7, k10, h2, t1, hz]
    · have hr2 : T (pl_ (r % 257) i) = r := h0.resolve_left hz
      rw [hr2] at hz t1
      simp (disch := omega) only [vX5_placeOf, rX5_placeOf_0, rX5_placeOf_1, rX5_placeOf_4, rX5_placeOf_5, rX5_placeOf_6, rX5_placeOf_7, rX5_placeOf_9, rX5_placeOf_12, rX5_placeOf_15, rX5_placeOf_16, rX5_placeOf_19, rX5_placeOf_20, rX5_placeOf_21, rX5_placeOf_24, rX5_placeOf_25, rX5_placeOf_28, rX5_placeOf_29, rX5_placeOf_30, rX5_placeOf_31, rX5_placeOf_34, rX5_placeOf_35, rX5_placeOf_36, rX5_placeOf_37, rX5_placeOf_40, rX5_placeOf_41, rX5_placeOf_42, rX5_placeOf_45, rX5_placeOf_48, rX5_placeOf_49, mm_gd_t, mm_kc_v, mm_kc_n, mm_rfs, kl_n, kl_i, kl_r, kl_l, so_0, so_1, so_2, so_3, so_4, beq_self_eq_true, Bool.true_and, Bool.and_true, Bool.or_true, Bool.true_or, Bool.false_or, Bool.or_false, if_true, if_false, ↓reduceIte, decide_true, decide_false, Bool.not_false, Bool.not_true, not_true_eq_false, not_false_eq_true, eq_self, Nat.not_lt_zero, Bool.true_eq_false, Bool.false_eq_true, Nat.reduceAdd, Nat.reduceMul, Nat.reduceSub, Nat.reduceEqDiff, Nat.reduceLeDiff, Nat.reduceLT, Nat.reduceDiv, Nat.reduceMod, zb_0, zb_1, zb_b, on_nI, ml_l, rl_sl1, rl_sl2, rl_eq, rl_nj, rl_nk, qL_0, qL_1, qL_11, qL_10000, nI_lL, lN_add, lN_mul, Nat.zero_add, Nat.add_zero, mm_zr0n, mm_zr1n, mm_zrb, b2_0, b2_1, pk_mul, tn_nI, in_nI, mi_lt, rd_eq, rd_nj, rd_nk, rs_eq, rs_nk, rl_si, rl_sA, nI_add, nI_eqI, nI_leI2, nI_ltI2, ql_0, ql_1, ql_2, ql_3, ql_4, ql_5, ql_6, ql_7, ql_8, ql_9, ql_10, ql_11, ql_12, ql_13, ql_14, ql_15, ql_16, ql_17, ql_18, ql_19, ql_20, ql_24, ql_25, ql_26, ql_27, ql_31, ql_32, ql_33, ql_36, ql_45, ql_46, ql_47, ql_48, ql_49, ql_50, ql_57, ql_63, ql_64, ql_65, ql_66, ql_67, ql_68, ql_69, ql_70, ql_71, ql_72, ql_73, ql_74, ql_75, ql_76, ql_77, ql_78, ql_79, ql_80, ql_81, ql_82, ql_83, ql_84, ql_85, ql_86, ql_87, ql_93, ql_96, ql_97, ql_100, ql_101, ql_120, ql_255, ql_256, ql_257, ql_511, ql_672, ql_900, ql_1000, ql_65536, k0, k3, k7, k10, h2, t1, hz]
  | d + 1, i, h => by
    have hb' := hb
    obtain ⟨k0, k1, k2, k3, kb, k5, k6, k7, k8, k9, k10, k11, k12⟩ := hb
    have hx : pl_ (r % 257) i < 257 := by unfold pl_; omega
    have ⟨t1, t2⟩ := hT _ hx
    have h2 : ¬ 257 ≤ i := by omega
    have ⟨b1, b2⟩ := hb4 i (by omega)
    have ih := s_placeOfL hb' hr hT he h0 hb4 d (i + 1) (by omega)
    have hp : (pl_ (r % 257) i + 1) % 257 = pl_ (r % 257) (i + 1) := by unfold pl_; omega
    rw [rX5_placeOf_8]
    simp (disch := omega) only [vX5_placeOf, rX5_placeOf_0, rX5_placeOf_1, rX5_placeOf_4, rX5_placeOf_5, rX5_placeOf_6, rX5_placeOf_7, rX5_placeOf_9, rX5_placeOf_12, rX5_placeOf_15, rX5_placeOf_16, rX5_placeOf_19, rX5_placeOf_20, rX5_placeOf_21, rX5_placeOf_24, rX5_placeOf_25, rX5_placeOf_28, rX5_placeOf_29, rX5_placeOf_30, rX5_placeOf_31, rX5_placeOf_34, rX5_placeOf_35, rX5_placeOf_36, rX5_placeOf_37, rX5_placeOf_40, rX5_placeOf_41, rX5_placeOf_42, rX5_placeOf_45, rX5_placeOf_48, rX5_placeOf_49, mm_gd_t, mm_kc_v, mm_kc_n, mm_rfs, kl_n, kl_i, kl_r, kl_l, so_0, so_1, so_2, so_3, so_4, beq_self_eq_true, Bool.true_and, Bool.and_true, Bool.or_true, Bool.true_or, Bool.false_or, Bool.or_false, if_true, if_false, ↓reduceIte, decide_true, decide_false, Bool.not_false, Bool.not_true, not_true_eq_false, not_false_eq_true, eq_self, Nat.not_lt_zero, Bool.true_eq_false, Bool.false_eq_true, Nat.reduceAdd, Nat.reduceMul, Nat.reduceSub, Nat.reduceEqDiff, Nat.reduceLeDiff, Nat.reduceLT, Nat.reduceDiv, Nat.reduceMod, zb_0, zb_1, zb_b, on_nI, ml_l, rl_sl1, rl_sl2, rl_eq, rl_nj, rl_nk, qL_0, qL_1, qL_11, qL_10000, nI_lL, lN_add, lN_mul, Nat.zero_add, Nat.add_zero, mm_zr0n, mm_zr1n, mm_zrb, b2_0, b2_1, pk_mul, tn_nI, in_nI, mi_lt, rd_eq, rd_nj, rd_nk, rs_eq, rs_nk, rl_si, rl_sA, nI_add, nI_eqI, nI_leI2, nI_ltI2, ql_0, ql_1, ql_2, ql_3, ql_4, ql_5, ql_6, ql_7, ql_8, ql_9, ql_10, ql_11, ql_12, ql_13, ql_14, ql_15, ql_16, ql_17, ql_18, ql_19, ql_20, ql_24, ql_25, ql_26, ql_27, ql_31, ql_32, ql_33, ql_36, ql_45, ql_46, ql_47, ql_48, ql_49, ql_50, ql_57, ql_63, ql_64, ql_65, ql_66, ql_67, ql_68, ql_69, ql_70, ql_71, ql_72, ql_73, ql_74, ql_75, ql_76, ql_77, ql_78, ql_79, ql_80, ql_81, ql_82, ql_83, ql_84, ql_85, ql_86, ql_87, ql_93, ql_96, ql_97, ql_100, ql_101, ql_120, ql_255, ql_256, ql_257, ql_511, ql_672, ql_900, ql_1000, ql_65536, k0, k3, k7, k10, h2, t1, b1, b2, re_nI, hp, ih]
    try simp [mm_gd_t]
theorem s_placeOf {σ : mm_M} {b r e : Nat} {T : Nat → Nat} (hb : lb_ b) (hr : r < 2000000000) (hT : ∀ t, t < 257 → σ.1 (b + 6) t = nI (T t) ∧ T t < 2000000000) (he : e < 257) (h0 : T (pl_ (r % 257) e) = 0 ∨ T (pl_ (r % 257) e) = r) (hb4 : ∀ e', e' < e → T (pl_ (r % 257) e') ≠ 0 ∧ T (pl_ (r % 257) e') ≠ r) :
    mm_ev mX5_placeOf [.ref b, .int (nI r)] mm_H σ = some (some (.int (nI (pl_ (r % 257) e))), mm_H, σ) := by
  have e := s_placeOfL hb hr hT he h0 hb4 e 0 (by omega)
  rw [show pl_ (r % 257) 0 = r % 257 by unfold pl_; omega] at e
  simp (disch := omega) only [vX5_placeOf, rX5_placeOf_0, rX5_placeOf_1, rX5_placeOf_4, rX5_placeOf_5, rX5_placeOf_6, rX5_placeOf_7, rX5_placeOf_9, rX5_placeOf_12, rX5_placeOf_15, rX5_placeOf_16, rX5_placeOf_19, rX5_placeOf_20, rX5_placeOf_21, rX5_placeOf_24, rX5_placeOf_25, rX5_placeOf_28, rX5_placeOf_29, rX5_placeOf_30, rX5_placeOf_31, rX5_placeOf_34, rX5_placeOf_35, rX5_placeOf_36, rX5_placeOf_37, rX5_placeOf_40, rX5_placeOf_41, rX5_placeOf_42, rX5_placeOf_45, rX5_placeOf_48, rX5_placeOf_49, mm_gd_t, mm_kc_v, mm_kc_n, mm_rfs, kl_n, kl_i, kl_r, kl_l, so_0, so_1, so_2, so_3, so_4, beq_self_eq_true, Bool.true_and, Bool.and_true, Bool.or_true, Bool.true_or, Bool.false_or, Bool.or_false, if_true, if_false, ↓reduceIte, decide_true, decide_false, Bool.not_false, Bool.not_true, not_true_eq_false, not_false_eq_true, eq_self, Nat.not_lt_zero, Bool.true_eq_false, Bool.false_eq_true, Nat.reduceAdd, Nat.reduceMul, Nat.reduceSub, Nat.reduceEqDiff, Nat.reduceLeDiff, Nat.reduceLT, Nat.reduceDiv, Nat.reduceMod, zb_0, zb_1, zb_b, on_nI, ml_l, rl_sl1, rl_sl2, rl_eq, rl_nj, rl_nk, qL_0, qL_1, qL_11, qL_10000, nI_lL, lN_add, lN_mul, Nat.zero_add, Nat.add_zero, mm_zr0n, mm_zr1n, mm_zrb, b2_0, b2_1, pk_mul, tn_nI, in_nI, mi_lt, rd_eq, rd_nj, rd_nk, rs_eq, rs_nk, rl_si, rl_sA, nI_add, nI_eqI, nI_leI2, nI_ltI2, ql_0, ql_1, ql_2, ql_3, ql_4, ql_5, ql_6, ql_7, ql_8, ql_9, ql_10, ql_11, ql_12, ql_13, ql_14, ql_15, ql_16, ql_17, ql_18, ql_19, ql_20, ql_24, ql_25, ql_26, ql_27, ql_31, ql_32, ql_33, ql_36, ql_45, ql_46, ql_47, ql_48, ql_49, ql_50, ql_57, ql_63, ql_64, ql_65, ql_66, ql_67, ql_68, ql_69, ql_70, ql_71, ql_72, ql_73, ql_74, ql_75, ql_76, ql_77, ql_78, ql_79, ql_80, ql_81, ql_82, ql_83, ql_84, ql_85, ql_86, ql_87, ql_93, ql_96, ql_97, ql_100, ql_101, ql_120, ql_255, ql_256, ql_257, ql_511, ql_672, ql_900, ql_1000, ql_65536, re_nI]
  exact e
theorem vo_fr {k lo hi a n : Nat} {P : pp_} {σ σ' : mm_M} (h : vo_ k P a n σ) (hf : fr_ lo hi σ σ') (hk : k < lo ∨ hi ≤ k) : vo_ k P a n σ' := fun p hp l hl => by
  rw [hf.1 k hk]; exact h p hp l hl
def fF_ (P : pp_) (s a : Nat) : Nat → List Nat := fun q => sp_ P s a (q / 10) (q % 10)
set_option maxRecDepth 8000 in
theorem s_unlikeL {b s a : Nat} {P : pp_} (hb : lb_ b) (hP : wf_ P) (ha : a ≤ 9) (hs : s < 2147483648) : ∀ (d n : Nat) (σ : mm_M) (T : Nat → Nat) (x4 x5 : Option Value), n + d = 100 → vo_ (b + 5) P a 100 σ → (∀ t, t < 257 → σ.1 (b + 6) t = nI (T t) ∧ T t < 2000000000) → tb_ (fun q => if q < 100 then re_ (fF_ P s a q) else 1) n (dc_ (fF_ P s a) n) T →
    ∃ σ', mm_run mX5_unlikeRows mm_H 12 [some (.ref b), some (.int (nI s)), some (.int (nI (dc_ (fF_ P s a) n))), some (.int (nI n)), x4, x5] [] σ = some (some (.int (nI (dc_ (fF_ P s a) 100))), mm_H, σ') ∧ fr_ (b + 6) (b + 7) σ σ'
  | 0, n, σ, T, x4, x5, h, hv, hT, htb => by
    have : n = 100 := by omega
    subst this
    refine ⟨σ, ?_, fr_refl _ _ _⟩
    rw [rX5_unlikeRows_12]
    simp (disch := omega) only [vX5_unlikeRows, rX5_unlikeRows_0, rX5_unlikeRows_1, rX5_unlikeRows_4, rX5_unlikeRows_5, rX5_unlikeRows_8, rX5_unlikeRows_9, rX5_unlikeRows_10, rX5_unlikeRows_11, rX5_unlikeRows_13, rX5_unlikeRows_15, rX5_unlikeRows_18, rX5_unlikeRows_19, rX5_unlikeRows_20, rX5_unlikeRows_21, rX5_unlikeRows_24, rX5_unlikeRows_26, rX5_unlikeRows_27, rX5_unlikeRows_29, rX5_unlikeRows_32, rX5_unlikeRows_34, rX5_unlikeRows_35, rX5_unlikeRows_38, rX5_unlikeRows_40, rX5_unlikeRows_41, rX5_unlikeRows_44, rX5_unlikeRows_45, rX5_unlikeRows_48, rX5_unlikeRows_50, rX5_unlikeRows_52, rX5_unlikeRows_53, rX5_unlikeRows_56, rX5_unlikeRows_59, rX5_unlikeRows_62, rX5_unlikeRows_63, mm_gd_t, mm_kc_v, mm_kc_n, mm_rfs, kl_n, kl_i, kl_r, kl_l, so_0, so_1, so_2, so_3, so_4, beq_self_eq_true, Bool.true_and, Bool.and_true, Bool.or_true, Bool.true_or, Bool.false_or, Bool.or_false, if_true, if_false, ↓reduceIte, decide_true, decide_false, Bool.not_false, Bool.not_true, not_true_eq_false, not_false_eq_true, eq_self, Nat.not_lt_zero, Bool.true_eq_false, Bool.false_eq_true, Nat.reduceAdd, Nat.reduceMul, Nat.reduceSub, Nat.reduceEqDiff, Nat.reduceLeDiff, Nat.reduceLT, Nat.reduceDiv, Nat.reduceMod, zb_0, zb_1, zb_b, on_nI, ml_l, rl_sl1, rl_sl2, rl_eq, rl_nj, rl_nk, qL_0, qL_1, qL_11, qL_10000, nI_lL, lN_add, lN_mul, Nat.zero_add, Nat.add_zero, mm_zr0n, mm_zr1n, mm_zrb, b2_0, b2_1, pk_mul, tn_nI, in_nI, mi_lt, rd_eq, rd_nj, rd_nk, rs_eq, rs_nk, rl_si, rl_sA, nI_add, nI_eqI, nI_leI2, nI_ltI2, ql_0, ql_1, ql_2, ql_3, ql_4, ql_5, ql_6, ql_7, ql_8, ql_9, ql_10, ql_11, ql_12, ql_13, ql_14, ql_15, ql_16, ql_17, ql_18, ql_19, ql_20, ql_24, ql_25, ql_26, ql_27, ql_31, ql_32, ql_33, ql_36, ql_45, ql_46, ql_47, ql_48, ql_49, ql_50, ql_57, ql_63, ql_64, ql_65, ql_66, ql_67, ql_68, ql_69, ql_70, ql_71, ql_72, ql_73, ql_74, ql_75, ql_76, ql_77, ql_78, ql_79, ql_80, ql_81, ql_82, ql_83, ql_84, ql_85, ql_86, ql_87, ql_93, ql_96, ql_97, ql_100, ql_101, ql_120, ql_255, ql_256, ql_257, ql_511, ql_672, ql_900, ql_1000, ql_65536]
  | d + 1, n, σ, T, x4, x5, h, hv, hT, htb => by
    have hb' := hb
    obtain ⟨k0, k1, k2, k3, kb, k5, k6, k7, k8, k9, k10, k11, k12⟩ := hb
    have hn : n < 100 := by omega
    have hok : ∀ q, q < 100 → (∀ v, v ∈ fF_ P s a q → v ≤ 9) ∧ (fF_ P s a q).length ≤ 9 := fun q hq => sp_ok hP s ha (show q / 10 ≤ 9 by omega) (show q % 10 ≤ 9 by omega)
    have hre : ∀ q, q < 100 → re_ (fF_ P s a q) < 2000000000 ∧ re_ (fF_ P s a q) ≠ 0 := fun q hq => by
      have h1 := (re_9 (hok q hq).1 (hok q hq).2 (Nat.le_refl 9)).1
      have h2 := (re_lt _ (hok q hq).1).2
      omega
    have hRa : ∀ q, (if q < 100 then re_ (fF_ P s a q) else 1) ≠ 0 := fun q => by
      split
      · exact (hre q (by assumption)).2
      · omega
    have hRn : (if n < 100 then re_ (fF_ P s a n) else 1) = re_ (fF_ P s a n) := if_pos hn
    have hro := s_rowOf hb' hP ha hn hs hv
    have hdc := dc_le (fF_ P s a) n
    obtain ⟨e, he, h0, hbb⟩ := tb_find (T := T) (r := re_ (fF_ P s a n)) (by have := htb.1; omega)
    have hpl := s_placeOf (r := re_ (fF_ P s a n)) hb' (hre n hn).1 hT he h0 hbb
    have hx : pl_ (re_ (fF_ P s a n) % 257) e < 257 := by unfold pl_; omega
    have ⟨t1, t2⟩ := hT _ hx
    have h2 : ¬ 100 ≤ n := by omega
    have hF : sp_ P s a (n / 10) (n % 10) = fF_ P s a n := rfl
    rw [hF] at hro
    by_cases hz : T (pl_ (re_ (fF_ P s a n) % 257) e) = 0
    · have hput := tb_put htb (e := e) he hRa
      simp only [hRn] at hput
      obtain ⟨hnew, htb'⟩ := hput hz hbb
      have hfh : fh_ (fF_ P s a) n = true := fh_iff.2 (fun q hq heq => hnew q hq (by rw [if_pos (show q < 100 by omega), heq]))
      have hd1 : dc_ (fF_ P s a) (n + 1) = dc_ (fF_ P s a) n + 1 := by
        show dc_ (fF_ P s a) n + b2 (fh_ (fF_ P s a) n) = _
        rw [hfh, b2_t]
      rw [← hd1] at htb'
      have F : fr_ (b + 6) (b + 7) σ (mm_si σ (b + 6) (pl_ (re_ (fF_ P s a n) % 257) e) (nI (re_ (fF_ P s a n)))) := fr_si (fr_refl _ _ _) (by omega) (by omega)
      obtain ⟨σ', e', f'⟩ := s_unlikeL hb' hP ha hs d (n + 1) _ _ (some (.int (nI (re_ (fF_ P s a n))))) (some (.int (nI (pl_ (re_ (fF_ P s a n) % 257) e)))) (by omega) (vo_fr hv F (by omega)) (fun t ht => by
        unfold up_
        by_cases hc : t = pl_ (re_ (fF_ P s a n) % 257) e
        · rw [if_pos hc, hc, rd_eq]; exact ⟨rfl, (hre n hn).1⟩
        · rw [if_neg hc, rd_nj hc]; exact hT t ht) htb'
      refine ⟨σ', ?_, fr_tr F f'⟩
      rw [hd1] at e'
      rw [rX5_unlikeRows_12]
      simp (disch := omega) only [vX5_unlikeRows, rX5_unlikeRows_0, rX5_unlikeRows_1, rX5_unlikeRows_4, rX5_unlikeRows_5, rX5_unlikeRows_8, rX5_unlikeRows_9, rX5_unlikeRows_10, rX5_unlikeRows_11, rX5_unlikeRows_13, rX5_unlikeRows_15, rX5_unlikeRows_18, rX5_unlikeRows_19, rX5_unlikeRows_20, rX5_unlikeRows_21, rX5_unlikeRows_24, rX5_unlikeRows_26, rX5_unlikeRows_27, rX5_unlikeRows_29, rX5_unlikeRows_32, rX5_unlikeRows_34, rX5_unlikeRows_35, rX5_unlikeRows_38, rX5_unlikeRows_40, rX5_unlikeRows_41, rX5_unlikeRows_44, rX5_unlikeRows_45, rX5_unlikeRows_48, rX5_unlikeRows_50, rX5_unlikeRows_52, rX5_unlikeRows_53, rX5_unlikeRows_56, rX5_unlikeRows_59, rX5_unlikeRows_62, rX5_unlikeRows_63, mm_gd_t, mm_kc_v, mm_kc_n, mm_rfs, kl_n, kl_i, kl_r, kl_l, so_0, so_1, so_2, so_3, so_4, beq_self_eq_true, Bool.true_and, Bool.and_true, Bool.or_true, Bool.true_or, Bool.false_or, Bool.or_false, if_true, if_false, ↓reduceIte, decide_true, decide_false, Bool.not_false, Bool.not_true, not_true_eq_false, not_false_eq_true, eq_self, Nat.not_lt_zero, Bool.true_eq_false, Bool.false_eq_true, Nat.reduceAdd, Nat.reduceMul, Nat.reduceSub, Nat.reduceEqDiff, Nat.reduceLeDiff, Nat.reduceLT, Nat.reduceDiv, Nat.reduceMod, zb_0, zb_1, zb_b, on_nI, ml_l, rl_sl1, rl_sl2, rl_eq, rl_nj, rl_nk, qL_0, qL_1, qL_11, qL_10000, nI_lL, lN_add, lN_mul, Nat.zero_add, Nat.add_zero, mm_zr0n, mm_zr1n, mm_zrb, b2_0, b2_1, pk_mul, tn_nI, in_nI, mi_lt, rd_eq, rd_nj, rd_nk, rs_eq, rs_nk, rl_si, rl_sA, nI_add, nI_eqI, nI_leI2, nI_ltI2, ql_0, ql_1, ql_2, ql_3, ql_4, ql_5, ql_6, ql_7, ql_8, ql_9, ql_10, ql_11, ql_12, ql_13, ql_14, ql_15, ql_16, ql_17, ql_18, ql_19, ql_20, ql_24, ql_25, ql_26, ql_27, ql_31, ql_32, ql_33, ql_36, ql_45, ql_46, ql_47, ql_48, ql_49, ql_50, ql_57, ql_63, ql_64, ql_65, ql_66, ql_67, ql_68, ql_69, ql_70, ql_71, ql_72, ql_73, ql_74, ql_75, ql_76, ql_77, ql_78, ql_79, ql_80, ql_81, ql_82, ql_83, ql_84, ql_85, ql_86, ql_87, ql_93, ql_96, ql_97, ql_100, ql_101, ql_120, ql_255, ql_256, ql_257, ql_511, ql_672, ql_900, ql_1000, ql_65536, k0, k3, k7, k8, k10, h2, hro, hpl, t1, hz, e']
    · have hr2 : T (pl_ (re_ (fF_ P s a n) % 257) e) = re_ (fF_ P s a n) := h0.resolve_left hz
      have hsm := tb_same htb hx (hRa n) (by rw [hRn]; exact hr2)
      obtain ⟨⟨q, hq, hqe⟩, htb'⟩ := hsm
      have hfh : fh_ (fF_ P s a) n = false := by
        cases hh : fh_ (fF_ P s a) n
        · rfl
        · exfalso
          simp only [hRn] at hqe
          rw [if_pos (show q < 100 by omega)] at hqe
          exact fh_iff.1 hh q hq (re_inj _ _ (hok q (by omega)).1 (hok n hn).1 hqe)
      have hd1 : dc_ (fF_ P s a) (n + 1) = dc_ (fF_ P s a) n := by
        show dc_ (fF_ P s a) n + b2 (fh_ (fF_ P s a) n) = _
        rw [hfh, b2_f, Nat.add_zero]
      rw [← hd1] at htb'
      obtain ⟨σ', e', f'⟩ := s_unlikeL hb' hP ha hs d (n + 1) σ T (some (.int (nI (re_ (fF_ P s a n))))) (some (.int (nI (pl_ (re_ (fF_ P s a n) % 257) e)))) (by omega) hv hT htb'
      refine ⟨σ', ?_, f'⟩
      rw [hd1] at e'
      rw [rX5_unlikeRows_12]
      simp (disch := omega) only [vX5_unlikeRows, rX5_unlikeRows_0, rX5_unlikeRows_1, rX5_unlikeRows_4, rX5_unlikeRows_5, rX5_unlikeRows_8, rX5_unlikeRows_9, rX5_unlikeRows_10, rX5_unlikeRows_11, rX5_unlikeRows_13, rX5_unlikeRows_15, rX5_unlikeRows_18, rX5_unlikeRows_19, rX5_unlikeRows_20, rX5_unlikeRows_21, rX5_unlikeRows_24, rX5_unlikeRows_26, rX5_unlikeRows_27, rX5_unlikeRows_29, rX5_unlikeRows_32, rX5_unlikeRows_34, rX5_unlikeRows_35, rX5_unlikeRows_38, rX5_unlikeRows_40, rX5_unlikeRows_41, rX5_unlikeRows_44, rX5_unlikeRows_45, rX5_unlikeRows_48, rX5_unlikeRows_50, rX5_unlikeRows_52, rX5_unlikeRows_53, rX5_unlikeRows_56, rX5_unlikeRows_59, rX5_unlikeRows_62, rX5_unlikeRows_63, mm_gd_t, mm_kc_v, mm_kc_n, mm_rfs, kl_n, kl_i, kl_r, kl_l, so_0, so_1, so_2, so_3, so_4, beq_self_eq_true, Bool.true_and, Bool.and_true, Bool.or_true, Bool.true_or, Bool.false_or, Bool.or_false, if_true, if_false, ↓reduceIte, decide_true, decide_false, Bool.not_false, Bool.not_true, not_true_eq_false, not_false_eq_true, eq_self, Nat.not_lt_zero, Bool.true_eq_false, Bool.false_eq_true, Nat.reduceAdd, Nat.reduceMul, Nat.reduceSub, Nat.reduceEqDiff, Nat.reduceLeDiff, Nat.reduceLT, Nat.reduceDiv, Nat.reduceMod, zb_0, zb_1, zb_b, on_nI, ml_l, rl_sl1, rl_sl2, rl_eq, rl_nj, rl_nk, qL_0, qL_1, qL_11, qL_10000, nI_lL, lN_add, lN_mul, Nat.zero_add, Nat.add_zero, mm_zr0n, mm_zr1n, mm_zrb, b2_0, b2_1, pk_mul, tn_nI, in_nI, mi_lt, rd_eq, rd_nj, rd_nk, rs_eq, rs_nk, rl_si, rl_sA, nI_add, nI_eqI, nI_leI2, nI_ltI2, ql_0, ql_1, ql_2, ql_3, ql_4, ql_5, ql_6, ql_7, ql_8, ql_9, ql_10, ql_11, ql_12, ql_13, ql_14, ql_15, ql_16, ql_17, ql_18, ql_19, ql_20, ql_24, ql_25, ql_26, ql_27, ql_31, ql_32, ql_33, ql_36, ql_45, ql_46, ql_47, ql_48, ql_49, ql_50, ql_57, ql_63, ql_64, ql_65, ql_66, ql_67, ql_68, ql_69, ql_70, ql_71, ql_72, ql_73, ql_74, ql_75, ql_76, ql_77, ql_78, ql_79, ql_80, ql_81, ql_82, ql_83, ql_84, ql_85, ql_86, ql_87, ql_93, ql_96, ql_97, ql_100, ql_101, ql_120, ql_255, ql_256, ql_257, ql_511, ql_672, ql_900, ql_1000, ql_65536, k0, k3, k7, k8, k10, h2, hro, hpl, t1, hz, e']
theorem s_unlikeRows {σ : mm_M} {b s a : Nat} {P : pp_} (hb : lb_ b) (hP : wf_ P) (ha : a ≤ 9) (hs : s < 2147483648) (hv : vo_ (b + 5) P a 100 σ) :
    ∃ σ', mm_ev mX5_unlikeRows [.ref b, .int (nI s)] mm_H σ = some (some (.int (nI (dc_ (fF_ P s a) 100))), mm_H, σ') ∧ fr_ (b + 6) (b + 7) σ σ' := by
  have hb' := hb
  obtain ⟨k0, k1, k2, k3, kb, k5, k6, k7, k8, k9, k10, k11, k12⟩ := hb
  obtain ⟨σ1, e1, f1, g1⟩ := s_fill (σ := σ) (w := nI 0) k7 k8 k10 (by omega)
  obtain ⟨σ2, e2, f2⟩ := s_unlikeL hb' hP ha hs 100 0 σ1 (fun _ => 0) none none (by omega) (vo_fr hv f1 (by omega)) (fun t ht => ⟨g1 t ht, by omega⟩) ⟨ct_zero _ (fun _ _ => rfl), fun q hq => by omega, fun t _ h => absurd rfl h, fun t _ h => absurd rfl h⟩
  refine ⟨σ2, ?_, fr_tr f1 f2⟩
  simp (disch := omega) only [vX5_unlikeRows, rX5_unlikeRows_0, rX5_unlikeRows_1, rX5_unlikeRows_4, rX5_unlikeRows_5, rX5_unlikeRows_8, rX5_unlikeRows_9, rX5_unlikeRows_10, rX5_unlikeRows_11, rX5_unlikeRows_13, rX5_unlikeRows_15, rX5_unlikeRows_18, rX5_unlikeRows_19, rX5_unlikeRows_20, rX5_unlikeRows_21, rX5_unlikeRows_24, rX5_unlikeRows_26, rX5_unlikeRows_27, rX5_unlikeRows_29, rX5_unlikeRows_32, rX5_unlikeRows_34, rX5_unlikeRows_35, rX5_unlikeRows_38, rX5_unlikeRows_40, rX5_unlikeRows_41, rX5_unlikeRows_44, rX5_unlikeRows_45, rX5_unlikeRows_48, rX5_unlikeRows_50, rX5_unlikeRows_52, rX5_unlikeRows_53, rX5_unlikeRows_56, rX5_unlikeRows_59, rX5_unlikeRows_62, rX5_unlikeRows_63, mm_gd_t, mm_kc_v, mm_kc_n, mm_rfs, kl_n, kl_i, kl_r, kl_l, so_0, so_1, so_2, so_3, so_4, beq_self_eq_true, Bool.true_and, Bool.and_true, Bool.or_true, Bool.true_or, Bool.false_or, Bool.or_false, if_true, if_false, ↓reduceIte, decide_true, decide_false, Bool.not_false, Bool.not_true, not_true_eq_false, not_false_eq_true, eq_self, Nat.not_lt_zero, Bool.true_eq_false, Bool.false_eq_true, Nat.reduceAdd, Nat.reduceMul, Nat.reduceSub, Nat.reduceEqDiff, Nat.reduceLeDiff, Nat.reduceLT, Nat.reduceDiv, Nat.reduceMod, zb_0, zb_1, zb_b, on_nI, ml_l, rl_sl1, rl_sl2, rl_eq, rl_nj, rl_nk, qL_0, qL_1, qL_11, qL_10000, nI_lL, lN_add, lN_mul, Nat.zero_add, Nat.add_zero, mm_zr0n, mm_zr1n, mm_zrb, b2_0, b2_1, pk_mul, tn_nI, in_nI, mi_lt, rd_eq, rd_nj, rd_nk, rs_eq, rs_nk, rl_si, rl_sA, nI_add, nI_eqI, nI_leI2, nI_ltI2, ql_0, ql_1, ql_2, ql_3, ql_4, ql_5, ql_6, ql_7, ql_8, ql_9, ql_10, ql_11, ql_12, ql_13, ql_14, ql_15, ql_16, ql_17, ql_18, ql_19, ql_20, ql_24, ql_25, ql_26, ql_27, ql_31, ql_32, ql_33, ql_36, ql_45, ql_46, ql_47, ql_48, ql_49, ql_50, ql_57, ql_63, ql_64, ql_65, ql_66, ql_67, ql_68, ql_69, ql_70, ql_71, ql_72, ql_73, ql_74, ql_75, ql_76, ql_77, ql_78, ql_79, ql_80, ql_81, ql_82, ql_83, ql_84, ql_85, ql_86, ql_87, ql_93, ql_96, ql_97, ql_100, ql_101, ql_120, ql_255, ql_256, ql_257, ql_511, ql_672, ql_900, ql_1000, ql_65536, k0, k3, e1]
  exact e2
theorem s_rowsLikeL {σ : mm_M} {b a c : Nat} {P : pp_} (hb : lb_ b) (hP : wf_ P) (ha : a ≤ 9) (hc : c < 100) (hv : vo_ (b + 5) P a 100 σ) {x1 : Option Value} : ∀ (d n : Nat), n + d = 100 →
    mm_run mX5_rowsLike mm_H 14 [some (.ref b), x1, some (.int (nI (re_ (fF_ P 511 a c)))), some (.int (nI (ca_ (fF_ P 511 a) (fF_ P 511 a c) n))), some (.int (nI n))] [] σ = some (some (.int (nI (ca_ (fF_ P 511 a) (fF_ P 511 a c) 100))), mm_H, σ)
  | 0, n, h => by
    have : n = 100 := by omega
    subst this
    rw [rX5_rowsLike_14]
    simp (disch := omega) only [vX5_rowsLike, rX5_rowsLike_0, rX5_rowsLike_1, rX5_rowsLike_2, rX5_rowsLike_5, rX5_rowsLike_8, rX5_rowsLike_9, rX5_rowsLike_10, rX5_rowsLike_11, rX5_rowsLike_12, rX5_rowsLike_16, rX5_rowsLike_18, rX5_rowsLike_21, rX5_rowsLike_22, rX5_rowsLike_24, rX5_rowsLike_27, rX5_rowsLike_30, rX5_rowsLike_31, rX5_rowsLike_34, rX5_rowsLike_37, rX5_rowsLike_40, rX5_rowsLike_43, rX5_rowsLike_44, mm_gd_t, mm_kc_v, mm_kc_n, mm_rfs, kl_n, kl_i, kl_r, kl_l, so_0, so_1, so_2, so_3, so_4, beq_self_eq_true, Bool.true_and, Bool.and_true, Bool.or_true, Bool.true_or, Bool.false_or, Bool.or_false, if_true, if_false, ↓reduceIte, decide_true, decide_false, Bool.not_false, Bool.not_true, not_true_eq_false, not_false_eq_true, eq_self, Nat.not_lt_zero, Bool.true_eq_false, Bool.false_eq_true, Nat.reduceAdd, Nat.reduceMul, Nat.reduceSub, Nat.reduceEqDiff, Nat.reduceLeDiff, Nat.reduceLT, Nat.reduceDiv, Nat.reduceMod, zb_0, zb_1, zb_b, on_nI, ml_l, rl_sl1, rl_sl2, rl_eq, rl_nj, rl_nk, qL_0, qL_1, qL_11, qL_10000, nI_lL, lN_add, lN_mul, Nat.zero_add, Nat.add_zero, mm_zr0n, mm_zr1n, mm_zrb, b2_0, b2_1, pk_mul, tn_nI, in_nI, mi_lt, rd_eq, rd_nj, rd_nk, rs_eq, rs_nk, rl_si, rl_sA, nI_add, nI_eqI, nI_leI2, nI_ltI2, ql_0, ql_1, ql_2, ql_3, ql_4, ql_5, ql_6, ql_7, ql_8, ql_9, ql_10, ql_11, ql_12, ql_13, ql_14, ql_15, ql_16, ql_17, ql_18, ql_19, ql_20, ql_24, ql_25, ql_26, ql_27, ql_31, ql_32, ql_33, ql_36, ql_45, ql_46, ql_47, ql_48, ql_49, ql_50, ql_57, ql_63, ql_64, ql_65, ql_66, ql_67, ql_68, ql_69, ql_70, ql_71, ql_72, ql_73, ql_74, ql_75, ql_76, ql_77, ql_78, ql_79, ql_80, ql_81, ql_82, ql_83, ql_84, ql_85, ql_86, ql_87, ql_93, ql_96, ql_97, ql_100, ql_101, ql_120, ql_255, ql_256, ql_257, ql_511, ql_672, ql_900, ql_1000, ql_65536]
  | d + 1, n, h => by
    have hb' := hb
    obtain ⟨k0, k1, k2, k3, kb, k5, k6, k7, k8, k9, k10, k11, k12⟩ := hb
    have hn : n < 100 := by omega
    have hok : ∀ q, q < 100 → (∀ v, v ∈ fF_ P 511 a q → v ≤ 9) ∧ (fF_ P 511 a q).length ≤ 9 := fun q hq => sp_ok hP 511 ha (show q / 10 ≤ 9 by omega) (show q % 10 ≤ 9 by omega)
    have hre : ∀ q, q < 100 → re_ (fF_ P 511 a q) < 2000000000 := fun q hq => (re_9 (hok q hq).1 (hok q hq).2 (Nat.le_refl 9)).1
    have r1 := hre n hn
    have r2 := hre c hc
    have hro := s_rowOf hb' hP ha hn (show 511 < 2147483648 by decide) hv
    have hF : sp_ P 511 a (n / 10) (n % 10) = fF_ P 511 a n := rfl
    rw [hF] at hro
    have h2 : ¬ 100 ≤ n := by omega
    have ih := s_rowsLikeL hb' hP ha hc hv (x1 := x1) d (n + 1) (by omega)
    have hu : ca_ (fF_ P 511 a) (fF_ P 511 a c) (n + 1) = ca_ (fF_ P 511 a) (fF_ P 511 a c) n + b2 (fF_ P 511 a n == fF_ P 511 a c) := rfl
    rw [hu] at ih
    rw [rX5_rowsLike_14]
    by_cases he : fF_ P 511 a n = fF_ P 511 a c
    · rw [he, beq_self_eq_true, b2_t] at ih
      rw [he] at hro
      simp (disch := omega) only [vX5_rowsLike, rX5_rowsLike_0, rX5_rowsLike_1, rX5_rowsLike_2, rX5_rowsLike_5, rX5_rowsLike_8, rX5_rowsLike_9, rX5_rowsLike_10, rX5_rowsLike_11, rX5_rowsLike_12, rX5_rowsLike_16, rX5_rowsLike_18, rX5_rowsLike_21, rX5_rowsLike_22, rX5_rowsLike_24, rX5_rowsLike_27, rX5_rowsLike_30, rX5_rowsLike_31, rX5_rowsLike_34, rX5_rowsLike_37, rX5_rowsLike_40, rX5_rowsLike_43, rX5_rowsLike_44, mm_gd_t, mm_kc_v, mm_kc_n, mm_rfs, kl_n, kl_i, kl_r, kl_l, so_0, so_1, so_2, so_3, so_4, beq_self_eq_true, Bool.true_and, Bool.and_true, Bool.or_true, Bool.true_or, Bool.false_or, Bool.or_false, if_true, if_false, ↓reduceIte, decide_true, decide_false, Bool.not_false, Bool.not_true, not_true_eq_false, not_false_eq_true, eq_self, Nat.not_lt_zero, Bool.true_eq_false, Bool.false_eq_true, Nat.reduceAdd, Nat.reduceMul, Nat.reduceSub, Nat.reduceEqDiff, Nat.reduceLeDiff, Nat.reduceLT, Nat.reduceDiv, Nat.reduceMod, zb_0, zb_1, zb_b, on_nI, ml_l, rl_sl1, rl_sl2, rl_eq, rl_nj, rl_nk, qL_0, qL_1, qL_11, qL_10000, nI_lL, lN_add, lN_mul, Nat.zero_add, Nat.add_zero, mm_zr0n, mm_zr1n, mm_zrb, b2_0, b2_1, pk_mul, tn_nI, in_nI, mi_lt, rd_eq, rd_nj, rd_nk, rs_eq, rs_nk, rl_si, rl_sA, nI_add, nI_eqI, nI_leI2, nI_ltI2, ql_0, ql_1, ql_2, ql_3, ql_4, ql_5, ql_6, ql_7, ql_8, ql_9, ql_10, ql_11, ql_12, ql_13, ql_14, ql_15, ql_16, ql_17, ql_18, ql_19, ql_20, ql_24, ql_25, ql_26, ql_27, ql_31, ql_32, ql_33, ql_36, ql_45, ql_46, ql_47, ql_48, ql_49, ql_50, ql_57, ql_63, ql_64, ql_65, ql_66, ql_67, ql_68, ql_69, ql_70, ql_71, ql_72, ql_73, ql_74, ql_75, ql_76, ql_77, ql_78, ql_79, ql_80, ql_81, ql_82, ql_83, ql_84, ql_85, ql_86, ql_87, ql_93, ql_96, ql_97, ql_100, ql_101, ql_120, ql_255, ql_256, ql_257, ql_511, ql_672, ql_900, ql_1000, ql_65536, k0, h2, hro, ih]
    · have hne : ¬ re_ (fF_ P 511 a n) = re_ (fF_ P 511 a c) := fun h => he (re_inj _ _ (hok n hn).1 (hok c hc).1 h)
      rw [beq_eq_false_iff_ne.2 he, b2_f, Nat.add_zero] at ih
      simp (disch := omega) only [vX5_rowsLike, rX5_rowsLike_0, rX5_rowsLike_1, rX5_rowsLike_2, rX5_rowsLike_5, rX5_rowsLike_8, rX5_rowsLike_9, rX5_rowsLike_10, rX5_rowsLike_11, rX5_rowsLike_12, rX5_rowsLike_16, rX5_rowsLike_18, rX5_rowsLike_21, rX5_rowsLike_22, rX5_rowsLike_24, rX5_rowsLike_27, rX5_rowsLike_30, rX5_rowsLike_31, rX5_rowsLike_34, rX5_rowsLike_37, rX5_rowsLike_40, rX5_rowsLike_43, rX5_rowsLike_44, mm_gd_t, mm_kc_v, mm_kc_n, mm_rfs, kl_n, kl_i, kl_r, kl_l, so_0, so_1, so_2, so_3, so_4, beq_self_eq_true, Bool.true_and, Bool.and_true, Bool.or_true, Bool.true_or, Bool.false_or, Bool.or_false, if_true, if_false, ↓reduceIte, decide_true, decide_false, Bool.not_false, Bool.not_true, not_true_eq_false, not_false_eq_true, eq_self, Nat.not_lt_zero, Bool.true_eq_false, Bool.false_eq_true, Nat.reduceAdd, Nat.reduceMul, Nat.reduceSub, Nat.reduceEqDiff, Nat.reduceLeDiff, Nat.reduceLT, Nat.reduceDiv, Nat.reduceMod, zb_0, zb_1, zb_b, on_nI, ml_l, rl_sl1, rl_sl2, rl_eq, rl_nj, rl_nk, qL_0, qL_1, qL_11, qL_10000, nI_lL, lN_add, lN_mul, Nat.zero_add, Nat.add_zero, mm_zr0n, mm_zr1n, mm_zrb, b2_0, b2_1, pk_mul, tn_nI, in_nI, mi_lt, rd_eq, rd_nj, rd_nk, rs_eq, rs_nk, rl_si, rl_sA, nI_add, nI_eqI, nI_leI2, nI_ltI2, ql_0, ql_1, ql_2, ql_3, ql_4, ql_5, ql_6, ql_7, ql_8, ql_9, ql_10, ql_11, ql_12, ql_13, ql_14, ql_15, ql_16, ql_17, ql_18, ql_19, ql_20, ql_24, ql_25, ql_26, ql_27, ql_31, ql_32, ql_33, ql_36, ql_45, ql_46, ql_47, ql_48, ql_49, ql_50, ql_57, ql_63, ql_64, ql_65, ql_66, ql_67, ql_68, ql_69, ql_70, ql_71, ql_72, ql_73, ql_74, ql_75, ql_76, ql_77, ql_78, ql_79, ql_80, ql_81, ql_82, ql_83, ql_84, ql_85, ql_86, ql_87, ql_93, ql_96, ql_97, ql_100, ql_101, ql_120, ql_255, ql_256, ql_257, ql_511, ql_672, ql_900, ql_1000, ql_65536, k0, h2, hro, hne, ih]
theorem s_rowsLike {σ : mm_M} {b a c : Nat} {P : pp_} (hb : lb_ b) (hP : wf_ P) (ha : a ≤ 9) (hc : c < 100) (hv : vo_ (b + 5) P a 100 σ) :
    mm_ev mX5_rowsLike [.ref b, .int (nI c)] mm_H σ = some (some (.int (nI (ca_ (fF_ P 511 a) (fF_ P 511 a c) 100))), mm_H, σ) := by
  have hb' := hb
  obtain ⟨k0, k1, k2, k3, kb, k5, k6, k7, k8, k9, k10, k11, k12⟩ := hb
  have hro := s_rowOf hb' hP ha hc (show 511 < 2147483648 by decide) hv
  have hF : sp_ P 511 a (c / 10) (c % 10) = fF_ P 511 a c := rfl
  rw [hF] at hro
  simp (disch := omega) only [vX5_rowsLike, rX5_rowsLike_0, rX5_rowsLike_1, rX5_rowsLike_2, rX5_rowsLike_5, rX5_rowsLike_8, rX5_rowsLike_9, rX5_rowsLike_10, rX5_rowsLike_11, rX5_rowsLike_12, rX5_rowsLike_16, rX5_rowsLike_18, rX5_rowsLike_21, rX5_rowsLike_22, rX5_rowsLike_24, rX5_rowsLike_27, rX5_rowsLike_30, rX5_rowsLike_31, rX5_rowsLike_34, rX5_rowsLike_37, rX5_rowsLike_40, rX5_rowsLike_43, rX5_rowsLike_44, mm_gd_t, mm_kc_v, mm_kc_n, mm_rfs, kl_n, kl_i, kl_r, kl_l, so_0, so_1, so_2, so_3, so_4, beq_self_eq_true, Bool.true_and, Bool.and_true, Bool.or_true, Bool.true_or, Bool.false_or, Bool.or_false, if_true, if_false, ↓reduceIte, decide_true, decide_false, Bool.not_false, Bool.not_true, not_true_eq_false, not_false_eq_true, eq_self, Nat.not_lt_zero, Bool.true_eq_false, Bool.false_eq_true, Nat.reduceAdd, Nat.reduceMul, Nat.reduceSub, Nat.reduceEqDiff, Nat.reduceLeDiff, Nat.reduceLT, Nat.reduceDiv, Nat.reduceMod, zb_0, zb_1, zb_b, on_nI, ml_l, rl_sl1, rl_sl2, rl_eq, rl_nj, rl_nk, qL_0, qL_1, qL_11, qL_10000, nI_lL, lN_add, lN_mul, Nat.zero_add, Nat.add_zero, mm_zr0n, mm_zr1n, mm_zrb, b2_0, b2_1, pk_mul, tn_nI, in_nI, mi_lt, rd_eq, rd_nj, rd_nk, rs_eq, rs_nk, rl_si, rl_sA, nI_add, nI_eqI, nI_leI2, nI_ltI2, ql_0, ql_1, ql_2, ql_3, ql_4, ql_5, ql_6, ql_7, ql_8, ql_9, ql_10, ql_11, ql_12, ql_13, ql_14, ql_15, ql_16, ql_17, ql_18, ql_19, ql_20, ql_24, ql_25, ql_26, ql_27, ql_31, ql_32, ql_33, ql_36, ql_45, ql_46, ql_47, ql_48, ql_49, ql_50, ql_57, ql_63, ql_64, ql_65, ql_66, ql_67, ql_68, ql_69, ql_70, ql_71, ql_72, ql_73, ql_74, ql_75, ql_76, ql_77, ql_78, ql_79, ql_80, ql_81, ql_82, ql_83, ql_84, ql_85, ql_86, ql_87, ql_93, ql_96, ql_97, ql_100, ql_101, ql_120, ql_255, ql_256, ql_257, ql_511, ql_672, ql_900, ql_1000, ql_65536, k0, hro]
  exact s_rowsLikeL hb' hP ha hc hv 100 0 (by omega)

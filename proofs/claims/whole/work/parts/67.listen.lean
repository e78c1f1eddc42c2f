/-! ===== the class's listener, cells b .. b + 6 (runner b + 1, voices b + 5, found b + 6) ===== -/
theorem s_fillL {k n : Nat} {w : Int32} (hir : mm_ir 135 k = true) (hiw : mm_iw 135 k = true) (hal : ∀ σ : mm_M, mm_al σ k = n) (hn : n < 1000) : ∀ (d i : Nat) (σ : mm_M), i + d = n →
    ∃ σ', mm_run mJ7_fill_53178 mm_H 5 [some (.ref k), some (.int w), some (.int (nI i)), some (.int (nI n))] [] σ = some (none, mm_H, σ') ∧ fr_ k (k + 1) σ σ' ∧ (∀ j, i ≤ j → j < n → σ'.1 k j = w) ∧ (∀ j, j < i → σ'.1 k j = σ.1 k j)
  | 0, i, σ, h => by
    refine ⟨σ, ?_, fr_refl _ _ _, fun j h1 h2 => by omega, fun _ _ => rfl⟩
    have h2 : n ≤ i := by omega
    rw [rJ7_fill_53178_5]
    simp (disch := omega) only [vJ7_fill_53178, rJ7_fill_53178_0, rJ7_fill_53178_1, rJ7_fill_53178_2, rJ7_fill_53178_3, rJ7_fill_53178_4, rJ7_fill_53178_6, rJ7_fill_53178_7, rJ7_fill_53178_10, rJ7_fill_53178_11, rJ7_fill_53178_12, rJ7_fill_53178_13, rJ7_fill_53178_14, rJ7_fill_53178_17, rJ7_fill_53178_20, mm_gd_t, mm_kc_v, mm_kc_n, mm_rfs, kl_n, kl_i, kl_r, kl_l, so_0, so_1, so_2, so_3, so_4, beq_self_eq_true, Bool.true_and, Bool.and_true, Bool.or_true, Bool.true_or, Bool.false_or, Bool.or_false, if_true, if_false, ↓reduceIte, decide_true, decide_false, Bool.not_false, Bool.not_true, not_true_eq_false, not_false_eq_true, eq_self, Nat.not_lt_zero, Bool.true_eq_false, Bool.false_eq_true, Nat.reduceAdd, Nat.reduceMul, Nat.reduceSub, Nat.reduceEqDiff, Nat.reduceLeDiff, Nat.reduceLT, Nat.reduceDiv, Nat.reduceMod, zb_0, zb_1, zb_b, on_nI, ml_l, rl_sl1, rl_sl2, rl_eq, rl_nj, rl_nk, qL_0, qL_1, qL_11, qL_10000, nI_lL, lN_add, lN_mul, Nat.zero_add, Nat.add_zero, mm_zr0n, mm_zr1n, mm_zrb, b2_0, b2_1, pk_mul, tn_nI, in_nI, mi_lt, rd_eq, rd_nj, rd_nk, rs_eq, rs_nk, rl_si, rl_sA, nI_add, nI_eqI, nI_leI2, nI_ltI2, ql_0, ql_1, ql_2, ql_3, ql_4, ql_5, ql_6, ql_7, ql_8, ql_9, ql_10, ql_11, ql_12, ql_13, ql_14, ql_15, ql_16, ql_17, ql_18, ql_19, ql_20, ql_24, ql_25, ql_26, ql_27, ql_31, ql_32, ql_33, ql_36, ql_45, ql_46, ql_47, ql_48, ql_49, ql_50, ql_57, ql_63, ql_64, ql_65, ql_66, ql_67, ql_68, ql_69, ql_70, ql_71, ql_72, ql_73, ql_74, ql_75, ql_76, ql_77, ql_78, ql_79, ql_80, ql_81, ql_82, ql_83, ql_84, ql_85, ql_86, ql_87, ql_93, ql_96, ql_97, ql_100, ql_101, ql_120, ql_255, ql_256, ql_257, ql_511, ql_672, ql_900, ql_1000, ql_65536, h2]
  | d + 1, i, σ, h => by
    obtain ⟨σ', e, f, g1, g2⟩ := s_fillL hir hiw hal hn (w := w) d (i + 1) (mm_si σ k i w) (by omega)
    refine ⟨σ', ?_, fr_tr (fr_si (fr_refl _ _ _) (by omega) (by omega)) f, fun j h1 h2 => ?_, fun j hj => ?_⟩
    · have h2 : ¬ n ≤ i := by omega
      rw [rJ7_fill_53178_5]
      simp (disch := omega) only [vJ7_fill_53178, rJ7_fill_53178_0, rJ7_fill_53178_1, rJ7_fill_53178_2, rJ7_fill_53178_3, rJ7_fill_53178_4, rJ7_fill_53178_6, rJ7_fill_53178_7, rJ7_fill_53178_10, rJ7_fill_53178_11, rJ7_fill_53178_12, rJ7_fill_53178_13, rJ7_fill_53178_14, rJ7_fill_53178_17, rJ7_fill_53178_20, mm_gd_t, mm_kc_v, mm_kc_n, mm_rfs, kl_n, kl_i, kl_r, kl_l, so_0, so_1, so_2, so_3, so_4, beq_self_eq_true, Bool.true_and, Bool.and_true, Bool.or_true, Bool.true_or, Bool.false_or, Bool.or_false, if_true, if_false, ↓reduceIte, decide_true, decide_false, Bool.not_false, Bool.not_true, not_true_eq_false, not_false_eq_true, eq_self, Nat.not_lt_zero, Bool.true_eq_false, Bool.false_eq_true, Nat.reduceAdd, Nat.reduceMul, Nat.reduceSub, Nat.reduceEqDiff, Nat.reduceLeDiff, Nat.reduceLT, Nat.reduceDiv, Nat.reduceMod, zb_0, zb_1, zb_b, on_nI, ml_l, rl_sl1, rl_sl2, rl_eq, rl_nj, rl_nk, qL_0, qL_1, qL_11, qL_10000, nI_lL, lN_add, lN_mul, Nat.zero_add, Nat.add_zero, mm_zr0n, mm_zr1n, mm_zrb, b2_0, b2_1, pk_mul, tn_nI, in_nI, mi_lt, rd_eq, rd_nj, rd_nk, rs_eq, rs_nk, rl_si, rl_sA, nI_add, nI_eqI, nI_leI2, nI_ltI2, ql_0, ql_1, ql_2, ql_3, ql_4, ql_5, ql_6, ql_7, ql_8, ql_9, ql_10, ql_11, ql_12, ql_13, ql_14, ql_15, ql_16, ql_17, ql_18, ql_19, ql_20, ql_24, ql_25, ql_26, ql_27, ql_31, ql_32, ql_33, ql_36, ql_45, ql_46, ql_47, ql_48, ql_49, ql_50, ql_57, ql_63, ql_64, ql_65, ql_66, ql_67, ql_68, ql_69, ql_70, ql_71, ql_72, ql_73, ql_74, ql_75, ql_76, ql_77, ql_78, ql_79, ql_80, ql_81, ql_82, ql_83, ql_84, ql_85, ql_86, ql_87, ql_93, ql_96, ql_97, ql_100, ql_101, ql_120, ql_255, ql_256, ql_257, ql_511, ql_672, ql_900, ql_1000, ql_65536, h2, hiw, hal, e]
    · by_cases hj : j = i
      · rw [hj, g2 i (by omega), rd_eq]
      · exact g1 j (by omega) h2
    · rw [g2 j (by omega), rd_nj (by omega)]
theorem s_fill {σ : mm_M} {k n : Nat} {w : Int32} (hir : mm_ir 135 k = true) (hiw : mm_iw 135 k = true) (hal : ∀ σ : mm_M, mm_al σ k = n) (hn : n < 1000) :
    ∃ σ', mm_ev mJ7_fill_53178 [.ref k, .int w] mm_H σ = some (none, mm_H, σ') ∧ fr_ k (k + 1) σ σ' ∧ (∀ j, j < n → σ'.1 k j = w) := by
  obtain ⟨σ', e, f, g1, g2⟩ := s_fillL hir hiw hal hn (w := w) n 0 σ (by omega)
  refine ⟨σ', ?_, f, fun j hj => g1 j (by omega) hj⟩
  simp (disch := omega) only [vJ7_fill_53178, rJ7_fill_53178_0, rJ7_fill_53178_1, rJ7_fill_53178_2, rJ7_fill_53178_3, rJ7_fill_53178_4, rJ7_fill_53178_6, rJ7_fill_53178_7, rJ7_fill_53178_10, rJ7_fill_53178_11, rJ7_fill_53178_12, rJ7_fill_53178_13, rJ7_fill_53178_14, rJ7_fill_53178_17, rJ7_fill_53178_20, mm_gd_t, mm_kc_v, mm_kc_n, mm_rfs, kl_n, kl_i, kl_r, kl_l, so_0, so_1, so_2, so_3, so_4, beq_self_eq_true, Bool.true_and, Bool.and_true, Bool.or_true, Bool.true_or, Bool.false_or, Bool.or_false, if_true, if_false, ↓reduceIte, decide_true, decide_false, Bool.not_false, Bool.not_true, not_true_eq_false, not_false_eq_true, eq_self, Nat.not_lt_zero, Bool.true_eq_false, Bool.false_eq_true, Nat.reduceAdd, Nat.reduceMul, Nat.reduceSub, Nat.reduceEqDiff, Nat.reduceLeDiff, Nat.reduceLT, Nat.reduceDiv, Nat.reduceMod, zb_0, zb_1, zb_b, on_nI, ml_l, rl_sl1, rl_sl2, rl_eq, rl_nj, rl_nk, qL_0, qL_1, qL_11, qL_10000, nI_lL, lN_add, lN_mul, Nat.zero_add, Nat.add_zero, mm_zr0n, mm_zr1n, mm_zrb, b2_0, b2_1, pk_mul, tn_nI, in_nI, mi_lt, rd_eq, rd_nj, rd_nk, rs_eq, rs_nk, rl_si, rl_sA, nI_add, nI_eqI, nI_leI2, nI_ltI2, ql_0, ql_1, ql_2, ql_3, ql_4, ql_5, ql_6, ql_7, ql_8, ql_9, ql_10, ql_11, ql_12, ql_13, ql_14, ql_15, ql_16, ql_17, ql_18, ql_19, ql_20, ql_24, ql_25, ql_26, ql_27, ql_31, ql_32, ql_33, ql_36, ql_45, ql_46, ql_47, ql_48, ql_49, ql_50, ql_57, ql_63, ql_64, ql_65, ql_66, ql_67, ql_68, ql_69, ql_70, ql_71, ql_72, ql_73, ql_74, ql_75, ql_76, ql_77, ql_78, ql_79, ql_80, ql_81, ql_82, ql_83, ql_84, ql_85, ql_86, ql_87, ql_93, ql_96, ql_97, ql_100, ql_101, ql_120, ql_255, ql_256, ql_257, ql_511, ql_672, ql_900, ql_1000, ql_65536, hir, hal]
  exact e
theorem s_spoken {σ : mm_M} {b : Nat} {x : Int32} {v : Nat → Nat} {f : Bool} {L : List (Nat × Nat)} (hb : rb_ b) (hn : rn_ b σ v f L) (hL : L.length ≤ 9) : mm_ev mX6_spoken [.ref b, .int x] mm_H σ = some (some (.int (so_ (L.map (fun e => e.2)) x)), mm_H, σ) := by
  obtain ⟨k0, k1, k2, k3, k4, k5, k6, k7, k8, k9, k10, k11, k12, k13, k14⟩ := hb
  obtain ⟨n1, n2, n3, n4⟩ := hn
  unfold so_
  rw [List.length_map]
  rcases bl_ix (x := x) (n := L.length) (by omega) with h | ⟨i, hi, rfl⟩
  · simp (disch := omega) only [vX6_spoken, rX6_spoken_0, rX6_spoken_1, rX6_spoken_2, rX6_spoken_5, rX6_spoken_8, rX6_spoken_11, rX6_spoken_12, rX6_spoken_15, rX6_spoken_16, rX6_spoken_17, rX6_spoken_20, rX6_spoken_22, mm_gd_t, mm_kc_v, mm_kc_n, mm_rfs, kl_n, kl_i, kl_r, kl_l, so_0, so_1, so_2, so_3, so_4, beq_self_eq_true, Bool.true_and, Bool.and_true, Bool.or_true, Bool.true_or, Bool.false_or, Bool.or_false, if_true, if_false, ↓reduceIte, decide_true, decide_false, Bool.not_false, Bool.not_true, not_true_eq_false, not_false_eq_true, eq_self, Nat.not_lt_zero, Bool.true_eq_false, Bool.false_eq_true, Nat.reduceAdd, Nat.reduceMul, Nat.reduceSub, Nat.reduceEqDiff, Nat.reduceLeDiff, Nat.reduceLT, Nat.reduceDiv, Nat.reduceMod, zb_0, zb_1, zb_b, on_nI, ml_l, rl_sl1, rl_sl2, rl_eq, rl_nj, rl_nk, qL_0, qL_1, qL_11, qL_10000, nI_lL, lN_add, lN_mul, Nat.zero_add, Nat.add_zero, mm_zr0n, mm_zr1n, mm_zrb, b2_0, b2_1, pk_mul, tn_nI, in_nI, mi_lt, rd_eq, rd_nj, rd_nk, rs_eq, rs_nk, rl_si, rl_sA, nI_add, nI_eqI, nI_leI2, nI_ltI2, ql_0, ql_1, ql_2, ql_3, ql_4, ql_5, ql_6, ql_7, ql_8, ql_9, ql_10, ql_11, ql_12, ql_13, ql_14, ql_15, ql_16, ql_17, ql_18, ql_19, ql_20, ql_24, ql_25, ql_26, ql_27, ql_31, ql_32, ql_33, ql_36, ql_45, ql_46, ql_47, ql_48, ql_49, ql_50, ql_57, ql_63, ql_64, ql_65, ql_66, ql_67, ql_68, ql_69, ql_70, ql_71, ql_72, ql_73, ql_74, ql_75, ql_76, ql_77, ql_78, ql_79, ql_80, ql_81, ql_82, ql_83, ql_84, ql_85, ql_86, ql_87, ql_93, ql_96, ql_97, ql_100, ql_101, ql_120, ql_255, ql_256, ql_257, ql_511, ql_672, ql_900, ql_1000, ql_65536, k0, k2, n2, s_isBelow, h]
  · have hi9 : i < 9 := by omega
    have e1 := (n4 i hi).1
    have e2 : (L.map (fun e => e.2)).getD i 0 = (L.getD i (0, 0)).2 := by simp [List.getD, hi]
    simp (disch := omega) only [vX6_spoken, rX6_spoken_0, rX6_spoken_1, rX6_spoken_2, rX6_spoken_5, rX6_spoken_8, rX6_spoken_11, rX6_spoken_12, rX6_spoken_15, rX6_spoken_16, rX6_spoken_17, rX6_spoken_20, rX6_spoken_22, mm_gd_t, mm_kc_v, mm_kc_n, mm_rfs, kl_n, kl_i, kl_r, kl_l, so_0, so_1, so_2, so_3, so_4, beq_self_eq_true, Bool.true_and, Bool.and_true, Bool.or_true, Bool.true_or, Bool.false_or, Bool.or_false, if_true, if_false, ↓reduceIte, decide_true, decide_false, Bool.not_false, Bool.not_true, not_true_eq_false, not_false_eq_true, eq_self, Nat.not_lt_zero, Bool.true_eq_false, Bool.false_eq_true, Nat.reduceAdd, Nat.reduceMul, Nat.reduceSub, Nat.reduceEqDiff, Nat.reduceLeDiff, Nat.reduceLT, Nat.reduceDiv, Nat.reduceMod, zb_0, zb_1, zb_b, on_nI, ml_l, rl_sl1, rl_sl2, rl_eq, rl_nj, rl_nk, qL_0, qL_1, qL_11, qL_10000, nI_lL, lN_add, lN_mul, Nat.zero_add, Nat.add_zero, mm_zr0n, mm_zr1n, mm_zrb, b2_0, b2_1, pk_mul, tn_nI, in_nI, mi_lt, rd_eq, rd_nj, rd_nk, rs_eq, rs_nk, rl_si, rl_sA, nI_add, nI_eqI, nI_leI2, nI_ltI2, ql_0, ql_1, ql_2, ql_3, ql_4, ql_5, ql_6, ql_7, ql_8, ql_9, ql_10, ql_11, ql_12, ql_13, ql_14, ql_15, ql_16, ql_17, ql_18, ql_19, ql_20, ql_24, ql_25, ql_26, ql_27, ql_31, ql_32, ql_33, ql_36, ql_45, ql_46, ql_47, ql_48, ql_49, ql_50, ql_57, ql_63, ql_64, ql_65, ql_66, ql_67, ql_68, ql_69, ql_70, ql_71, ql_72, ql_73, ql_74, ql_75, ql_76, ql_77, ql_78, ql_79, ql_80, ql_81, ql_82, ql_83, ql_84, ql_85, ql_86, ql_87, ql_93, ql_96, ql_97, ql_100, ql_101, ql_120, ql_255, ql_256, ql_257, ql_511, ql_672, ql_900, ql_1000, ql_65536, k0, k2, k6, k11, n2, s_isBelow, bl_nI, hi, hi9, e1, e2]
/-- what a line speaks -/
def vv_ (L : List (Nat × Nat)) (l : Nat) : Int32 := match L.find? (fun e => e.1 == l) with
  | some e => nI e.2
  | none => -nI 1
def lb_ (b : Nat) : Prop := mm_kd 135 b = 5 ∧ mm_rho b 0 = some (b + 1) ∧ mm_rho b 1 = some (b + 5) ∧ mm_rho b 2 = some (b + 6) ∧ rb_ (b + 1) ∧ mm_ir 135 (b + 5) = true ∧ mm_iw 135 (b + 5) = true ∧ mm_ir 135 (b + 6) = true ∧ mm_iw 135 (b + 6) = true ∧ (∀ σ : mm_M, mm_al σ (b + 5) = 900) ∧ (∀ σ : mm_M, mm_al σ (b + 6) = 257) ∧ 26 < b ∧ b + 7 < 1000
theorem lb_80 : lb_ 80 := ⟨rfl, rfl, rfl, rfl, rb_81, rfl, rfl, rfl, rfl, fun _ => rfl, fun _ => rfl, by decide, by decide⟩
theorem lb_113 : lb_ 113 := ⟨rfl, rfl, rfl, rfl, rb_114, rfl, rfl, rfl, rfl, fun _ => rfl, fun _ => rfl, by decide, by decide⟩
theorem mem_of_gd {L : List (Nat × Nat)} {j : Nat} (hj : j < L.length) : L.getD j (0, 0) ∈ L := by
  have : L.getD j (0, 0) = L[j] := by simp [List.getD, hj]
  rw [this]; exact List.getElem_mem hj
/-- the inner loop: from the j-th on -/
theorem s_listenI {b p : Nat} {P : pp_} {v : Nat → Nat} {f : Bool} {L : List (Nat × Nat)} (hb : lb_ b) (hp : p < 100) (hL : L.length ≤ 9) (hl : ∀ e, e ∈ L → e.1 < 9) {x1 x2 : Option Value} : ∀ (d j : Nat) (σ : mm_M), j + d = L.length → rn_ (b + 1) σ v f L →
    ∃ σ', mm_run mX5_listen mm_H 36 [some (.ref b), x1, x2, some (.int (nI p)), some (.int (nI j))] [] σ = mm_run mX5_listen mm_H 84 [some (.ref b), x1, x2, some (.int (nI p)), some (.int (nI L.length))] [] σ' ∧ fr_ (b + 5) (b + 6) σ σ' ∧
      (∀ q, (∀ i, j ≤ i → i < L.length → q ≠ 9 * p + (L.getD i (0, 0)).1) → σ'.1 (b + 5) q = σ.1 (b + 5) q) ∧ (L.Pairwise (fun a b => a.1 < b.1) → ∀ i, j ≤ i → i < L.length → σ'.1 (b + 5) (9 * p + (L.getD i (0, 0)).1) = nI (L.getD i (0, 0)).2)
  | 0, j, σ, h, hn => by
    obtain ⟨k0, k1, k2, k3, kb, k5, k6, k7, k8, k9, k10, k11, k12⟩ := hb
    obtain ⟨j0, j1, j2, j3, j4, j5, j6, j7, j8, j9, j10, j11, j12, j13, j14⟩ := kb
    obtain ⟨n1, n2, n3, n4⟩ := hn
    refine ⟨σ, ?_, fr_refl _ _ _, fun _ _ => rfl, fun _ i h1 h2 => by omega⟩
    have h2 : L.length ≤ j := by omega
    have h3 : j = L.length := by omega
    rw [rX5_listen_36]
    simp (disch := omega) only [vX5_listen, rX5_listen_38, rX5_listen_39, rX5_listen_42, rX5_listen_45, mm_gd_t, mm_kc_v, mm_kc_n, mm_rfs, kl_n, kl_i, kl_r, kl_l, so_0, so_1, so_2, so_3, so_4, beq_self_eq_true, Bool.true_and, Bool.and_true, Bool.or_true, Bool.true_or, Bool.false_or, Bool.or_false, if_true, if_false, ↓reduceIte, decide_true, decide_false, Bool.not_false, Bool.not_true, not_true_eq_false, not_false_eq_true, eq_self, Nat.not_lt_zero, Bool.true_eq_false, Bool.false_eq_true, Nat.reduceAdd, Nat.reduceMul, Nat.reduceSub, Nat.reduceEqDiff, Nat.reduceLeDiff, Nat.reduceLT, Nat.reduceDiv, Nat.reduceMod, zb_0, zb_1, zb_b, on_nI, ml_l, rl_sl1, rl_sl2, rl_eq, rl_nj, rl_nk, qL_0, qL_1, qL_11, qL_10000, nI_lL, lN_add, lN_mul, Nat.zero_add, Nat.add_zero, mm_zr0n, mm_zr1n, mm_zrb, b2_0, b2_1, pk_mul, tn_nI, in_nI, mi_lt, rd_eq, rd_nj, rd_nk, rs_eq, rs_nk, rl_si, rl_sA, nI_add, nI_eqI, nI_leI2, nI_ltI2, ql_0, ql_1, ql_2, ql_3, ql_4, ql_5, ql_6, ql_7, ql_8, ql_9, ql_10, ql_11, ql_12, ql_13, ql_14, ql_15, ql_16, ql_17, ql_18, ql_19, ql_20, ql_24, ql_25, ql_26, ql_27, ql_31, ql_32, ql_33, ql_36, ql_45, ql_46, ql_47, ql_48, ql_49, ql_50, ql_57, ql_63, ql_64, ql_65, ql_66, ql_67, ql_68, ql_69, ql_70, ql_71, ql_72, ql_73, ql_74, ql_75, ql_76, ql_77, ql_78, ql_79, ql_80, ql_81, ql_82, ql_83, ql_84, ql_85, ql_86, ql_87, ql_93, ql_96, ql_97, ql_100, ql_101, ql_120, ql_255, ql_256, ql_257, ql_511, ql_672, ql_900, ql_1000, ql_65536, k0, k1, j0, n2, h2, h3, Nat.le_refl]
  | d + 1, j, σ, h, hn => by
    have hb' := hb
    obtain ⟨k0, k1, k2, k3, kb, k5, k6, k7, k8, k9, k10, k11, k12⟩ := hb
    obtain ⟨j0, j1, j2, j3, j4, j5, j6, j7, j8, j9, j10, j11, j12, j13, j14⟩ := kb
    have hn' := hn
    obtain ⟨n1, n2, n3, n4⟩ := hn
    have e0 := n4 j (by omega)
    have e1 := hl _ (mem_of_gd (L := L) (j := j) (by omega))
    have F : fr_ (b + 5) (b + 6) σ (mm_si σ (b + 5) (9 * p + (L.getD j (0, 0)).1) (nI (L.getD j (0, 0)).2)) := fr_si (fr_refl _ _ _) (by omega) (by omega)
    obtain ⟨σ', e, f', g1, g2⟩ := s_listenI (P := P) hb' hp hL hl (x1 := x1) (x2 := x2) d (j + 1) _ (by omega) (rn_fr hn' F (by omega))
    refine ⟨σ', ?_, fr_tr F f', fun q hq => ?_, fun hpw i h1 h2 => ?_⟩
    · rw [← e]
      have h2 : ¬ L.length ≤ j := by omega
      rw [rX5_listen_36]
      simp (disch := omega) only [vX5_listen, rX5_listen_38, rX5_listen_39, rX5_listen_42, rX5_listen_45, rX5_listen_48, rX5_listen_49, rX5_listen_52, rX5_listen_53, rX5_listen_55, rX5_listen_56, rX5_listen_57, rX5_listen_60, rX5_listen_63, rX5_listen_65, rX5_listen_66, rX5_listen_67, rX5_listen_68, rX5_listen_71, rX5_listen_74, rX5_listen_76, rX5_listen_77, rX5_listen_78, rX5_listen_81, mm_gd_t, mm_kc_v, mm_kc_n, mm_rfs, kl_n, kl_i, kl_r, kl_l, so_0, so_1, so_2, so_3, so_4, beq_self_eq_true, Bool.true_and, Bool.and_true, Bool.or_true, Bool.true_or, Bool.false_or, Bool.or_false, if_true, if_false, ↓reduceIte, decide_true, decide_false, Bool.not_false, Bool.not_true, not_true_eq_false, not_false_eq_true, eq_self, Nat.not_lt_zero, Bool.true_eq_false, Bool.false_eq_true, Nat.reduceAdd, Nat.reduceMul, Nat.reduceSub, Nat.reduceEqDiff, Nat.reduceLeDiff, Nat.reduceLT, Nat.reduceDiv, Nat.reduceMod, zb_0, zb_1, zb_b, on_nI, ml_l, rl_sl1, rl_sl2, rl_eq, rl_nj, rl_nk, qL_0, qL_1, qL_11, qL_10000, nI_lL, lN_add, lN_mul, Nat.zero_add, Nat.add_zero, mm_zr0n, mm_zr1n, mm_zrb, b2_0, b2_1, pk_mul, tn_nI, in_nI, mi_lt, rd_eq, rd_nj, rd_nk, rs_eq, rs_nk, rl_si, rl_sA, nI_add, nI_eqI, nI_leI2, nI_ltI2, ql_0, ql_1, ql_2, ql_3, ql_4, ql_5, ql_6, ql_7, ql_8, ql_9, ql_10, ql_11, ql_12, ql_13, ql_14, ql_15, ql_16, ql_17, ql_18, ql_19, ql_20, ql_24, ql_25, ql_26, ql_27, ql_31, ql_32, ql_33, ql_36, ql_45, ql_46, ql_47, ql_48, ql_49, ql_50, ql_57, ql_63, ql_64, ql_65, ql_66, ql_67, ql_68, ql_69, ql_70, ql_71, ql_72, ql_73, ql_74, ql_75, ql_76, ql_77, ql_78, ql_79, ql_80, ql_81, ql_82, ql_83, ql_84, ql_85, ql_86, ql_87, ql_93, ql_96, ql_97, ql_100, ql_101, ql_120, ql_255, ql_256, ql_257, ql_511, ql_672, ql_900, ql_1000, ql_65536, k0, k1, k2, k6, k9, j0, j2, j3, j6, j8, j11, j12, n2, h2, e0.1, e0.2]
      rw [show p * 9 = 9 * p by omega]
    · rw [g1 q (fun i h1 h2 => hq i (by omega) h2), rd_nj (hq j (by omega) (by omega))]
    · by_cases hi : i = j
      · subst hi
        rw [g1 _ (fun i' h1' h2' => ?_), rd_eq]
        have : (L.getD i (0, 0)).1 < (L.getD i' (0, 0)).1 := by
          have a1 : L.getD i (0, 0) = L[i] := by simp [List.getD, h2]
          have a2 : L.getD i' (0, 0) = L[i'] := by simp [List.getD, h2']
          rw [a1, a2]
          exact List.pairwise_iff_getElem.1 hpw i i' h2 h2' (by omega)
        omega
      · exact g2 hpw i (by omega) h2
theorem vv_of {L : List (Nat × Nat)} (hpw : L.Pairwise (fun a b => a.1 < b.1)) {i : Nat} (hi : i < L.length) : vv_ L (L.getD i (0, 0)).1 = nI (L.getD i (0, 0)).2 := by
  have : L.find? (fun e => e.1 == (L.getD i (0, 0)).1) = some (L.getD i (0, 0)) := by
    induction L generalizing i with
    | nil => cases hi
    | cons a t ih =>
      rw [List.pairwise_cons] at hpw
      cases i with
      | zero => simp
      | succ i =>
        have hi' : i < t.length := by simpa using hi
        have hm := mem_of_gd hi'
        have h1 := hpw.1 _ hm
        have e : (a :: t).getD (i + 1) (0, 0) = t.getD i (0, 0) := by simp [List.getD]
        rw [e, List.find?_cons_of_neg (by rw [beq_iff_eq]; omega)]
        exact ih hpw.2 hi'
  unfold vv_
  rw [this]
theorem vv_no {L : List (Nat × Nat)} {l : Nat} (h : ∀ i, i < L.length → l ≠ (L.getD i (0, 0)).1) : vv_ L l = -nI 1 := by
  have : L.find? (fun e => e.1 == l) = none := by
    rw [List.find?_eq_none]
    intro e he
    obtain ⟨i, hi, rfl⟩ := List.getElem_of_mem he
    have a1 : L.getD i (0, 0) = L[i] := by simp [List.getD, hi]
    have := h i hi
    rw [a1] at this
    simp; omega
  unfold vv_
  rw [this]
/-- voices, by all pairs -/
def vo_ (k : Nat) (P : pp_) (a n : Nat) (σ : mm_M) : Prop := ∀ p, p < n → ∀ l, l < 9 → σ.1 k (9 * p + l) = vv_ (rr_ P a (p / 10) (p % 10)).2.2 l
theorem s_listenO {b a : Nat} {P : pp_} (hb : lb_ b) (hP : wf_ P) (ha : a ≤ 9) : ∀ (d p : Nat) (σ : mm_M) (x4 : Option Value), p + d = 100 → rc_ 15 σ P → vo_ (b + 5) P a p σ → (∀ q, 9 * p ≤ q → q < 900 → σ.1 (b + 5) q = -nI 1) →
    ∃ σ', mm_run mX5_listen mm_H 10 [some (.ref b), some (.ref 15), some (.int (nI a)), some (.int (nI p)), x4] [] σ = some (none, mm_H, σ') ∧ fr_ b (b + 7) σ σ' ∧ vo_ (b + 5) P a 100 σ'
  | 0, p, σ, x4, h, hr, hv, hq => by
    have : p = 100 := by omega
    subst this
    refine ⟨σ, ?_, fr_refl _ _ _, hv⟩
    rw [rX5_listen_10]
    simp (disch := omega) only [vX5_listen, rX5_listen_11, rX5_listen_13, rX5_listen_84, rX5_listen_87, rX5_listen_90, mm_gd_t, mm_kc_v, mm_kc_n, mm_rfs, kl_n, kl_i, kl_r, kl_l, so_0, so_1, so_2, so_3, so_4, beq_self_eq_true, Bool.true_and, Bool.and_true, Bool.or_true, Bool.true_or, Bool.false_or, Bool.or_false, if_true, if_false, ↓reduceIte, decide_true, decide_false, Bool.not_false, Bool.not_true, not_true_eq_false, not_false_eq_true, eq_self, Nat.not_lt_zero, Bool.true_eq_false, Bool.false_eq_true, Nat.reduceAdd, Nat.reduceMul, Nat.reduceSub, Nat.reduceEqDiff, Nat.reduceLeDiff, Nat.reduceLT, Nat.reduceDiv, Nat.reduceMod, zb_0, zb_1, zb_b, on_nI, ml_l, rl_sl1, rl_sl2, rl_eq, rl_nj, rl_nk, qL_0, qL_1, qL_11, qL_10000, nI_lL, lN_add, lN_mul, Nat.zero_add, Nat.add_zero, mm_zr0n, mm_zr1n, mm_zrb, b2_0, b2_1, pk_mul, tn_nI, in_nI, mi_lt, rd_eq, rd_nj, rd_nk, rs_eq, rs_nk, rl_si, rl_sA, nI_add, nI_eqI, nI_leI2, nI_ltI2, ql_0, ql_1, ql_2, ql_3, ql_4, ql_5, ql_6, ql_7, ql_8, ql_9, ql_10, ql_11, ql_12, ql_13, ql_14, ql_15, ql_16, ql_17, ql_18, ql_19, ql_20, ql_24, ql_25, ql_26, ql_27, ql_31, ql_32, ql_33, ql_36, ql_45, ql_46, ql_47, ql_48, ql_49, ql_50, ql_57, ql_63, ql_64, ql_65, ql_66, ql_67, ql_68, ql_69, ql_70, ql_71, ql_72, ql_73, ql_74, ql_75, ql_76, ql_77, ql_78, ql_79, ql_80, ql_81, ql_82, ql_83, ql_84, ql_85, ql_86, ql_87, ql_93, ql_96, ql_97, ql_100, ql_101, ql_120, ql_255, ql_256, ql_257, ql_511, ql_672, ql_900, ql_1000, ql_65536]
  | d + 1, p, σ, x4, h, hr, hv, hq => by
    have hb' := hb
    obtain ⟨k0, k1, k2, k3, kb, k5, k6, k7, k8, k9, k10, k11, k12⟩ := hb
    obtain ⟨σ1, e1, f1, r1⟩ := s_go (b := b + 1) kb hP hr ha (show p / 10 ≤ 9 by omega) (show p % 10 ≤ 9 by omega)
    obtain ⟨o1, o2, o3, o4⟩ := rr_ok hP ha (show p / 10 ≤ 9 by omega) (show p % 10 ≤ 9 by omega)
    have h9 := hP.1
    obtain ⟨σ2, e2, f2, g1, g2⟩ := s_listenI (P := P) (p := p) hb' (by omega) (by omega) (fun e he => by have := (o2 e he).1; omega) (x1 := some (.ref 15)) (x2 := some (.int (nI a))) _ 0 σ1 (Nat.zero_add _) r1
    have F : fr_ b (b + 7) σ σ2 := fr_tr (fr_wd f1 (by omega) (by omega)) (fr_wd f2 (by omega) (by omega))
    have g2 := g2 o3
    have hsame : ∀ q, (q < 9 * p ∨ 9 * (p + 1) ≤ q) → σ2.1 (b + 5) q = σ.1 (b + 5) q := by
      intro q hq'
      rw [g1 q (fun i _ hi => by have := (o2 _ (mem_of_gd hi)).1; omega), f1.1 (b + 5) (by omega)]
    obtain ⟨σ3, e3, f3, v3⟩ := s_listenO hb' hP ha d (p + 1) σ2 (some (.int (nI (rr_ P a (p / 10) (p % 10)).2.2.length))) (by omega) (rc_fr hr h9 F (Or.inl (by omega))) (fun p' hp' l hl => by
      by_cases hpp : p' = p
      · subst hpp
        by_cases hex : ∃ i, i < (rr_ P a (p' / 10) (p' % 10)).2.2.length ∧ l = ((rr_ P a (p' / 10) (p' % 10)).2.2.getD i (0, 0)).1
        · obtain ⟨i, hi, rfl⟩ := hex
          rw [g2 i (by omega) hi, vv_of o3 hi]
        · have hno : ∀ i, i < (rr_ P a (p' / 10) (p' % 10)).2.2.length → l ≠ ((rr_ P a (p' / 10) (p' % 10)).2.2.getD i (0, 0)).1 := fun i hi he => hex ⟨i, hi, he⟩
          rw [g1 _ (fun i _ hi => by have := hno i hi; omega), f1.1 (b + 5) (by omega), hq _ (by omega) (by omega), vv_no hno]
      · rw [hsame _ (by omega)]
        exact hv p' (by omega) l hl) (fun q h1 h2 => by rw [hsame q (by omega)]; exact hq q (by omega) h2)
    refine ⟨σ3, ?_, fr_tr F f3, v3⟩
    have h2 : ¬ 100 ≤ p := by omega
    rw [rX5_listen_10]
    simp (disch := omega) only [vX5_listen, rX5_listen_11, rX5_listen_13, rX5_listen_16, rX5_listen_17, rX5_listen_20, rX5_listen_21, rX5_listen_22, rX5_listen_23, rX5_listen_25, rX5_listen_26, rX5_listen_27, rX5_listen_29, rX5_listen_30, rX5_listen_33, rX5_listen_34, rX5_listen_84, rX5_listen_87, rX5_listen_90, mm_gd_t, mm_kc_v, mm_kc_n, mm_rfs, kl_n, kl_i, kl_r, kl_l, so_0, so_1, so_2, so_3, so_4, beq_self_eq_true, Bool.true_and, Bool.and_true, Bool.or_true, Bool.true_or, Bool.false_or, Bool.or_false, if_true, if_false, ↓reduceIte, decide_true, decide_false, Bool.not_false, Bool.not_true, not_true_eq_false, not_false_eq_true, eq_self, Nat.not_lt_zero, Bool.true_eq_false, Bool.false_eq_true, Nat.reduceAdd, Nat.reduceMul, Nat.reduceSub, Nat.reduceEqDiff, Nat.reduceLeDiff, Nat.reduceLT, Nat.reduceDiv, Nat.reduceMod, zb_0, zb_1, zb_b, on_nI, ml_l, rl_sl1, rl_sl2, rl_eq, rl_nj, rl_nk, qL_0, qL_1, qL_11, qL_10000, nI_lL, lN_add, lN_mul, Nat.zero_add, Nat.add_zero, mm_zr0n, mm_zr1n, mm_zrb, b2_0, b2_1, pk_mul, tn_nI, in_nI, mi_lt, rd_eq, rd_nj, rd_nk, rs_eq, rs_nk, rl_si, rl_sA, nI_add, nI_eqI, nI_leI2, nI_ltI2, ql_0, ql_1, ql_2, ql_3, ql_4, ql_5, ql_6, ql_7, ql_8, ql_9, ql_10, ql_11, ql_12, ql_13, ql_14, ql_15, ql_16, ql_17, ql_18, ql_19, ql_20, ql_24, ql_25, ql_26, ql_27, ql_31, ql_32, ql_33, ql_36, ql_45, ql_46, ql_47, ql_48, ql_49, ql_50, ql_57, ql_63, ql_64, ql_65, ql_66, ql_67, ql_68, ql_69, ql_70, ql_71, ql_72, ql_73, ql_74, ql_75, ql_76, ql_77, ql_78, ql_79, ql_80, ql_81, ql_82, ql_83, ql_84, ql_85, ql_86, ql_87, ql_93, ql_96, ql_97, ql_100, ql_101, ql_120, ql_255, ql_256, ql_257, ql_511, ql_672, ql_900, ql_1000, ql_65536, k0, k1, kb.1, h2, dv_nI, re_nI, e1, e2, e3]
    try simp [mm_gd_t]
theorem s_listen {σ : mm_M} {b a : Nat} {P : pp_} (hb : lb_ b) (hP : wf_ P) (ha : a ≤ 9) (hr : rc_ 15 σ P) :
    ∃ σ', mm_ev mX5_listen [.ref b, .ref 15, .int (nI a)] mm_H σ = some (none, mm_H, σ') ∧ fr_ b (b + 7) σ σ' ∧ vo_ (b + 5) P a 100 σ' := by
  have hb' := hb
  obtain ⟨k0, k1, k2, k3, kb, k5, k6, k7, k8, k9, k10, k11, k12⟩ := hb
  obtain ⟨σ1, e1, f1, g1⟩ := s_fill (σ := σ) (w := -nI 1) k5 k6 k9 (by omega)
  have F : fr_ b (b + 7) σ σ1 := fr_wd f1 (by omega) (by omega)
  obtain ⟨σ2, e2, f2, v2⟩ := s_listenO hb' hP ha 100 0 σ1 none (by omega) (rc_fr hr hP.1 F (Or.inl (by omega))) (fun p hp => by omega) (fun q _ h2 => g1 q h2)
  refine ⟨σ2, ?_, fr_tr F f2, v2⟩
  simp (disch := omega) only [vX5_listen, rX5_listen_0, rX5_listen_1, rX5_listen_4, rX5_listen_5, rX5_listen_8, rX5_listen_9, mm_gd_t, mm_kc_v, mm_kc_n, mm_rfs, kl_n, kl_i, kl_r, kl_l, so_0, so_1, so_2, so_3, so_4, beq_self_eq_true, Bool.true_and, Bool.and_true, Bool.or_true, Bool.true_or, Bool.false_or, Bool.or_false, if_true, if_false, ↓reduceIte, decide_true, decide_false, Bool.not_false, Bool.not_true, not_true_eq_false, not_false_eq_true, eq_self, Nat.not_lt_zero, Bool.true_eq_false, Bool.false_eq_true, Nat.reduceAdd, Nat.reduceMul, Nat.reduceSub, Nat.reduceEqDiff, Nat.reduceLeDiff, Nat.reduceLT, Nat.reduceDiv, Nat.reduceMod, zb_0, zb_1, zb_b, on_nI, ml_l, rl_sl1, rl_sl2, rl_eq, rl_nj, rl_nk, qL_0, qL_1, qL_11, qL_10000, nI_lL, lN_add, lN_mul, Nat.zero_add, Nat.add_zero, mm_zr0n, mm_zr1n, mm_zrb, b2_0, b2_1, pk_mul, tn_nI, in_nI, mi_lt, rd_eq, rd_nj, rd_nk, rs_eq, rs_nk, rl_si, rl_sA, nI_add, nI_eqI, nI_leI2, nI_ltI2, ql_0, ql_1, ql_2, ql_3, ql_4, ql_5, ql_6, ql_7, ql_8, ql_9, ql_10, ql_11, ql_12, ql_13, ql_14, ql_15, ql_16, ql_17, ql_18, ql_19, ql_20, ql_24, ql_25, ql_26, ql_27, ql_31, ql_32, ql_33, ql_36, ql_45, ql_46, ql_47, ql_48, ql_49, ql_50, ql_57, ql_63, ql_64, ql_65, ql_66, ql_67, ql_68, ql_69, ql_70, ql_71, ql_72, ql_73, ql_74, ql_75, ql_76, ql_77, ql_78, ql_79, ql_80, ql_81, ql_82, ql_83, ql_84, ql_85, ql_86, ql_87, ql_93, ql_96, ql_97, ql_100, ql_101, ql_120, ql_255, ql_256, ql_257, ql_511, ql_672, ql_900, ql_1000, ql_65536, k0, k2, e1]
  exact e2

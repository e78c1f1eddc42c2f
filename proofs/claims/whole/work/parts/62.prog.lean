/-! ===== a program: how many lines; parts (0 kind, 1 x, 2 y, 3 z, 4 t; a full stop is 99) by line ===== -/
abbrev pp_ : Type := Nat × (Nat → Nat → Nat)
def pm_ (k : Nat) : Nat := ([7, 15, 31, 19, 19, 3, 3] : List Nat).getD k 0
def hp_ (k p : Nat) : Bool := (pm_ k).testBit p
def hw_ (k : Nat) : Bool := decide (2 ≤ k) && decide (k ≤ 4)
def h3_ (k : Nat) : Bool := decide (k = 1) || decide (k = 2)
def cv_ (k p v : Nat) : Int32 := if hp_ k p = true then (if p = 4 ∧ v = 99 then -nI 1 else nI v) else -nI 9
def mv_ (k p v : Nat) : Int32 := if hp_ k p = true then (if p = 4 ∧ v = 99 then -nI 1 else nI v) else nI 0
def wl_ (n i : Nat) (l : Nat → Nat) : Prop := l 0 ≤ 6 ∧ l 1 ≤ 4 ∧ (l 0 = 0 → l 2 ≤ 9) ∧ (l 0 = 1 ∨ l 0 = 2 → l 2 ≤ 4 ∧ l 3 ≤ 4) ∧ (2 ≤ l 0 → l 0 ≤ 4 → l 4 = 99 ∨ (i < l 4 ∧ l 4 ≤ n))
def wf_ (P : pp_) : Prop := P.1 ≤ 9 ∧ ∀ i, i < P.1 → wl_ P.1 i (P.2 i)
def rc_ (b : Nat) (σ : mm_M) (P : pp_) : Prop := σ.1 b 0 = nI P.1 ∧ ∀ i, i < P.1 → ∀ p, p < 5 → σ.1 (b + 2 + i) p = cv_ (P.2 i 0) p (P.2 i p)
def rm_ (o : Nat) (f : Nat → Int32) (P : pp_) : Prop := ∀ i, i < P.1 → ∀ p, p < 5 → f (o + 9 * p + i) = mv_ (P.2 i 0) p (P.2 i p)
def tg_ (P : pp_) (i : Nat) : Nat := if hw_ (P.2 i 0) = true then (if P.2 i 4 = 99 then P.1 else P.2 i 4) else i + 1
theorem tg_gt {P : pp_} (hP : wf_ P) {i : Nat} (hi : i < P.1) : i < tg_ P i ∧ tg_ P i ≤ P.1 := by
  have h := (hP.2 i hi).2.2.2.2
  unfold tg_ hw_
  split
  · rename_i hw
    simp only [Bool.and_eq_true, decide_eq_true_eq] at hw
    have h := h hw.1 hw.2
    split <;> omega
  · omega
theorem hp_0 : ∀ k, k < 7 → hp_ k 0 = true := by decide
theorem hp_1 : ∀ k, k < 7 → hp_ k 1 = true := by decide
theorem hp_4 : ∀ k, k < 7 → hp_ k 4 = hw_ k := by decide
theorem hp_3 : ∀ k, k < 7 → hp_ k 3 = h3_ k := by decide
theorem hp_2 : ∀ k, k < 7 → hp_ k 2 = (decide (k = 0) || h3_ k) := by decide
section CC
variable {σ : mm_M} {P : pp_} {i : Nat}
theorem rc_n (hr : rc_ 15 σ P) : σ.1 15 0 = nI P.1 := hr.1
theorem rc_0 (hP : wf_ P) (hr : rc_ 15 σ P) (hi : i < P.1) : σ.1 (17 + i) 0 = nI (P.2 i 0) := by
  have := hr.2 i hi 0 (by decide)
  rw [this, cv_, hp_0 _ (by have := (hP.2 i hi).1; omega)]; simp
theorem rc_1 (hP : wf_ P) (hr : rc_ 15 σ P) (hi : i < P.1) : σ.1 (17 + i) 1 = nI (P.2 i 1) := by
  have := hr.2 i hi 1 (by decide)
  rw [this, cv_, hp_1 _ (by have := (hP.2 i hi).1; omega)]; simp
theorem rc_2 (hr : rc_ 15 σ P) (hi : i < P.1) : σ.1 (17 + i) 2 = if hp_ (P.2 i 0) 2 = true then nI (P.2 i 2) else -nI 9 := by
  have := hr.2 i hi 2 (by decide)
  rw [this, cv_]; simp
theorem rc_3 (hr : rc_ 15 σ P) (hi : i < P.1) : σ.1 (17 + i) 3 = if hp_ (P.2 i 0) 3 = true then nI (P.2 i 3) else -nI 9 := by
  have := hr.2 i hi 3 (by decide)
  rw [this, cv_]; simp
theorem rc_4 (hr : rc_ 15 σ P) (hi : i < P.1) : σ.1 (17 + i) 4 = if hp_ (P.2 i 0) 4 = true then (if P.2 i 4 = 99 then -nI 1 else nI (P.2 i 4)) else -nI 9 := by
  have := hr.2 i hi 4 (by decide)
  rw [this, cv_]; simp
end CC
theorem rc_fr {b lo hi : Nat} {σ σ' : mm_M} {P : pp_} (hr : rc_ b σ P) (hP : P.1 ≤ 9) (hf : fr_ lo hi σ σ') (h : b + 11 ≤ lo ∨ hi ≤ b) : rc_ b σ' P := by
  refine ⟨?_, fun i hi' p hp => ?_⟩
  · rw [hf.1 b (by omega)]; exact hr.1
  · rw [hf.1 (b + 2 + i) (by omega)]; exact hr.2 i hi' p hp
theorem s_targetOf {σ : mm_M} {P : pp_} {i : Nat} (hP : wf_ P) (hr : rc_ 15 σ P) (hi : i < P.1) : mm_ev mX4_targetOf [.ref 15, .int (nI i)] mm_H σ = some (some (.int (nI (tg_ P i))), mm_H, σ) := by
  have h9 := hP.1
  obtain ⟨h0, h1, h2, h3, h4⟩ := hP.2 i hi
  have hk := hp_4 (P.2 i 0) (by omega)
  simp (disch := omega) only [vX4_targetOf, rX4_targetOf_0, rX4_targetOf_1, rX4_targetOf_4, rX4_targetOf_5, rX4_targetOf_6, rX4_targetOf_7, rX4_targetOf_8, rX4_targetOf_9, rX4_targetOf_10, rX4_targetOf_12, rX4_targetOf_15, rX4_targetOf_16, rX4_targetOf_17, rX4_targetOf_18, rX4_targetOf_21, rX4_targetOf_22, rX4_targetOf_23, rX4_targetOf_26, rX4_targetOf_27, rX4_targetOf_30, rX4_targetOf_33, rX4_targetOf_34, mm_gd_t, mm_kc_v, mm_kc_n, mm_rfs, kl_n, kl_i, kl_r, kl_l, so_0, so_1, so_2, so_3, so_4, beq_self_eq_true, Bool.true_and, Bool.and_true, Bool.or_true, Bool.true_or, Bool.false_or, Bool.or_false, if_true, if_false, ↓reduceIte, decide_true, decide_false, Bool.not_false, Bool.not_true, not_true_eq_false, not_false_eq_true, eq_self, Nat.not_lt_zero, Bool.true_eq_false, Bool.false_eq_true, Nat.reduceAdd, Nat.reduceMul, Nat.reduceSub, Nat.reduceEqDiff, Nat.reduceLeDiff, Nat.reduceLT, Nat.reduceDiv, Nat.reduceMod, zb_0, zb_1, zb_b, on_nI, ml_l, rl_sl1, rl_sl2, rl_eq, rl_nj, rl_nk, qL_0, qL_1, qL_11, qL_10000, nI_lL, lN_add, lN_mul, Nat.zero_add, Nat.add_zero, mm_zr0n, mm_zr1n, mm_zrb, b2_0, b2_1, pk_mul, tn_nI, in_nI, mi_lt, rd_eq, rd_nj, rd_nk, rs_eq, rs_nk, rl_si, rl_sA, nI_add, nI_eqI, nI_leI2, nI_ltI2, ql_0, ql_1, ql_2, ql_3, ql_4, ql_5, ql_6, ql_7, ql_8, ql_9, ql_10, ql_11, ql_12, ql_13, ql_14, ql_15, ql_16, ql_17, ql_18, ql_19, ql_20, ql_24, ql_25, ql_26, ql_27, ql_31, ql_32, ql_33, ql_36, ql_45, ql_46, ql_47, ql_48, ql_49, ql_50, ql_57, ql_63, ql_64, ql_65, ql_66, ql_67, ql_68, ql_69, ql_70, ql_71, ql_72, ql_73, ql_74, ql_75, ql_76, ql_77, ql_78, ql_79, ql_80, ql_81, ql_82, ql_83, ql_84, ql_85, ql_86, ql_87, ql_93, ql_96, ql_97, ql_100, ql_101, ql_120, ql_255, ql_256, ql_257, ql_511, ql_672, ql_900, ql_1000, ql_65536, kd_15, kd_16, rho_15_1, rho_16r, ir_17r, al_16, al_17s, rc_4 hr hi, rc_n hr, hk]
  unfold tg_
  by_cases hw : hw_ (P.2 i 0) = true
  · simp only [hw, if_true]
    have hw' := hw
    unfold hw_ at hw'
    simp only [Bool.and_eq_true, decide_eq_true_eq] at hw'
    have h4 := h4 hw'.1 hw'.2
    by_cases h99 : P.2 i 4 = 99
    · simp (disch := omega) only [h99, if_true, nI_n3, if_false]
      simp
    · simp (disch := omega) only [h99, if_false, nI_n1]
  · simp (disch := omega) only [hw, if_false, nI_n3, if_true]
    simp

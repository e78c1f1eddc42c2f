/-! ===== calls that change: heard, seed, text ===== -/
theorem m_hear {σ : mm_M} (h : IV σ) {a i v w : Int32} : SM (mm_ev mX8_hear [.ref 0, .int a, .int i, .int v, .int w] mm_H) (mm_ev mX9_hear [.ref 120, .int a, .int i, .int v, .int w] mm_H) σ := by
  cases hf : f4_ a i v w
  · exact ⟨_, σ, σ, s_hear0 hf, x_hear0 hf, h, rfl, ⟨_, rfl⟩, rfl⟩
  · obtain ⟨s, L, P, lb, hh, D, ac, h1, h2, h3, h4, h5, h6⟩ := h
    by_cases h6' : hh = 6
    · have q1 := h3.1.2.2.1
      have q2 := h3.2.2.2.1
      rw [h6'] at q1 q2
      exact ⟨_, σ, σ, s_hearF hf q1, x_hearF hf q2, ⟨s, L, P, lb, hh, D, ac, h1, h2, h3, h4, h5, h6⟩, rfl, ⟨_, rfl⟩, rfl⟩
    · have hlt : hh < 6 := by have := h3.1.1; omega
      let σ1 := mm_si (mm_si (mm_si (mm_si (mm_si σ (89 + hh) 0 a) (89 + hh) 1 i) (89 + hh) 2 v) (89 + hh) 3 w) 87 0 (nI (hh + 1))
      let σ2 := mm_si (mm_si (mm_si (mm_si (mm_si σ1 129 hh a) 130 hh i) 131 hh v) 132 hh w) 120 16 (nI (hh + 1))
      have e1 : mm_ev mX8_hear [.ref 0, .int a, .int i, .int v, .int w] mm_H σ = some (some (.int (nI (hh + 1))), mm_H, σ1) := s_hearN hf hlt h3.1.2.2.1
      have q2 : σ1.1 120 16 = nI hh := by simp (disch := omega) only [σ1, rd_nk]; exact h3.2.2.2.1
      have e2 : mm_ev mX9_hear [.ref 120, .int a, .int i, .int v, .int w] mm_H σ1 = some (some (.int (nI (hh + 1))), mm_H, σ2) := x_hearN hf hlt q2
      have hf' := hf
      unfold f4_ at hf'
      simp only [Bool.and_eq_true] at hf'
      obtain ⟨a', ha, rfl⟩ := bl_of (by omega) hf'.1
      obtain ⟨i', hi, rfl⟩ := bl_of (by omega) hf'.2.1
      obtain ⟨v', hv, rfl⟩ := bl_of (by omega) hf'.2.2.1
      obtain ⟨w', hw, rfl⟩ := bl_of (by omega) hf'.2.2.2
      have other : ∀ k j, (k < 87 ∨ (95 ≤ k ∧ k < 129) ∨ 133 ≤ k) → (k ≠ 120 ∨ j ≠ 16) → σ2.1 k j = σ.1 k j := fun k j hk hj => by
        by_cases h120 : k = 120
        · subst h120; simp (disch := omega) only [σ2, σ1, rd_nk, rd_nj]
        · simp (disch := omega) only [σ2, σ1, rd_nk]
      let D' : Nat → Nat → Nat := fun k c => if k = hh then (if c = 0 then a' else if c = 1 then i' else if c = 2 then v' else w') else D k c
      have hk' : ∀ k, k < hh + 1 → hk_ D' k := fun k hk => by
        by_cases hkh : k = hh
        · subst hkh
          have : ∀ c, D' k c = if c = 0 then a' else if c = 1 then i' else if c = 2 then v' else w' := fun c => if_pos rfl
          unfold hk_
          rw [this, this, this, this]
          exact ⟨by show a' ≤ 9; omega, by show i' ≤ 8; omega, by show v' ≤ 9; omega, by show w' ≤ 1; omega⟩
        · have : D' k = D k := funext (fun c => if_neg hkh)
          unfold hk_
          rw [this]
          exact h3.1.2.1 k (by omega)
      refine ⟨_, σ1, σ2, e1, e2, ⟨s, L, P, lb, hh + 1, D', ac, pT_cg h1 (other 1 0 (by omega) (by omega)) (fun j => other 2 j (by omega) (by omega)) (other 120 4 (by omega) (by omega)) (fun j => other 122 j (by omega) (by omega)), pP_cg h2 (fun k j _ _ => other k j (by omega) (by omega)) (other 120 0 (by omega) (by omega)) (fun j _ => other 121 j (by omega) (by omega)), ⟨⟨by omega, hk', by simp (disch := omega) only [σ2, σ1, rd_nk, rd_eq], fun k hk c hc => ?_⟩, ⟨by omega, hk', by simp only [σ2, rd_eq], fun k hk => ?_⟩⟩, h4, pK_cg h5 (fun k j _ _ => other k j (by omega) (by omega)) (fun j => other 133 j (by omega) (by omega)) (fun j => other 134 j (by omega) (by omega)), pA_cg h6 (other 27 0 (by omega) (by omega)) (fun j => other 28 j (by omega) (by omega)) (other 120 8 (by omega) (by omega)) (other 120 9 (by omega) (by omega)) (fun j => other 125 j (by omega) (by omega))⟩, rfl, ⟨_, rfl⟩, rfl⟩
      · by_cases hkh : k = hh
        · subst hkh
          show _ = nI (if k = k then _ else _)
          rw [if_pos rfl]
          have : c = 0 ∨ c = 1 ∨ c = 2 ∨ c = 3 := by omega
          rcases this with h | h | h | h <;> subst h <;> simp (disch := omega) only [σ2, σ1, rd_nk, rd_nj, rd_eq] <;> rfl
        · show _ = nI (if k = hh then _ else D k c)
          rw [if_neg hkh]
          simp (disch := omega) only [σ2, σ1, rd_nk]
          exact h3.1.2.2.2 k (by omega) c hc
      · by_cases hkh : k = hh
        · subst hkh
          have hD : ∀ c, D' k c = if c = 0 then a' else if c = 1 then i' else if c = 2 then v' else w' := fun c => if_pos rfl
          rw [hD, hD, hD, hD]
          refine ⟨?_, ?_, ?_, ?_⟩ <;> simp (disch := omega) only [σ2, rd_nk, rd_eq] <;> rfl
        · have hD : D' k = D k := funext (fun c => if_neg hkh)
          rw [hD]
          simp (disch := omega) only [σ2, σ1, rd_nk, rd_nj]
          exact h3.2.2.2.2 k (by omega)
theorem m_unhear {σ : mm_M} (h : IV σ) : SM (mm_ev mX8_unhear [.ref 0] mm_H) (mm_ev mX9_unhear [.ref 120] mm_H) σ := by
  obtain ⟨s, L, P, lb, hh, D, ac, h1, h2, h3, h4, h5, h6⟩ := h
  let σ1 := mm_si σ 87 0 (nI 0)
  let σ2 := mm_si σ1 120 16 (nI 0)
  have e1 : mm_ev mX8_unhear [.ref 0] mm_H σ = some (some (.int (nI hh)), mm_H, σ1) := s_unhear h3.1.2.2.1
  have e2 : mm_ev mX9_unhear [.ref 120] mm_H σ1 = some (some (.int (nI hh)), mm_H, σ2) := x_unhear (by simp (disch := omega) only [σ1, rd_nk]; exact h3.2.2.2.1)
  have other : ∀ k j, k ≠ 87 → (k ≠ 120 ∨ j ≠ 16) → σ2.1 k j = σ.1 k j := fun k j hk hj => by
    by_cases h120 : k = 120
    · subst h120; simp (disch := omega) only [σ2, σ1, rd_nk, rd_nj]
    · simp (disch := omega) only [σ2, σ1, rd_nk]
  exact ⟨_, σ1, σ2, e1, e2, ⟨s, L, P, lb, 0, D, ac, pT_cg h1 (other 1 0 (by omega) (by omega)) (fun j => other 2 j (by omega) (by omega)) (other 120 4 (by omega) (by omega)) (fun j => other 122 j (by omega) (by omega)), pP_cg h2 (fun k j _ _ => other k j (by omega) (by omega)) (other 120 0 (by omega) (by omega)) (fun j _ => other 121 j (by omega) (by omega)), ⟨⟨by omega, fun k hk => by omega, by simp (disch := omega) only [σ2, σ1, rd_nk, rd_eq], fun k hk => by omega⟩, ⟨by omega, fun k hk => by omega, by simp only [σ2, rd_eq], fun k hk => by omega⟩⟩, h4, pK_cg h5 (fun k j _ _ => other k j (by omega) (by omega)) (fun j => other 133 j (by omega) (by omega)) (fun j => other 134 j (by omega) (by omega)), pA_cg h6 (other 27 0 (by omega) (by omega)) (fun j => other 28 j (by omega) (by omega)) (other 120 8 (by omega) (by omega)) (other 120 9 (by omega) (by omega)) (fun j => other 125 j (by omega) (by omega))⟩, rfl, ⟨_, rfl⟩, rfl⟩
theorem iv_l {σ σ' : mm_M} {s : Nat} {L : Nat → Nat} {P : pp_} {lb : Nat → Int32} {h : Nat} {D : Nat → Nat → Nat} {a : Nat} (hi : iv_ σ s L P lb h D a) (g : ∀ k j, ((k < 3 ∨ (15 ≤ k ∧ k < 55) ∨ (87 ≤ k ∧ k < 95) ∨ (k = 120 ∧ (j = 0 ∨ j = 4 ∨ j = 8 ∨ j = 9 ∨ j = 16)) ∨ (k = 121 ∧ j < 48) ∨ k = 122 ∨ k = 125 ∨ 129 ≤ k)) → σ'.1 k j = σ.1 k j) (hs : pS_ σ') : iv_ σ' s L P lb h D a := by
  obtain ⟨h1, h2, h3, h4, h5, h6⟩ := hi
  exact ⟨pT_cg h1 (g 1 0 (by omega)) (fun j => g 2 j (by omega)) (g 120 4 (by omega)) (fun j => g 122 j (by omega)),
    pP_cg h2 (fun k j _ _ => g k j (by omega)) (g 120 0 (by omega)) (fun j _ => g 121 j (by omega)),
    pH_cg h3 (fun k j _ _ => g k j (by omega)) (g 120 16 (by omega)) (fun k j _ _ => g k j (by omega)), hs,
    pK_cg h5 (fun k j _ _ => g k j (by omega)) (fun j => g 133 j (by omega)) (fun j => g 134 j (by omega)),
    pA_cg h6 (g 27 0 (by omega)) (fun j => g 28 j (by omega)) (g 120 8 (by omega)) (g 120 9 (by omega)) (fun j => g 125 j (by omega))⟩
theorem m_seed {σ : mm_M} (h : IV σ) {v : Int64} : SL (mm_ev mX8_seed [.ref 0, .long v] mm_H) (mm_ev mX9_seed [.ref 120, .long v] mm_H) σ := by
  obtain ⟨s, L, P, lb, hh, D, ac, hi⟩ := h
  have h4 := hi.2.2.2.1
  let σ1 := mm_sl σ 0 13 v
  let σ2 := mm_sl σ1 120 21 v
  have e1 : mm_ev mX8_seed [.ref 0, .long v] mm_H σ = some (some (.long (σ.2.1 0 13)), mm_H, σ1) := s_seed
  have e2 : mm_ev mX9_seed [.ref 120, .long v] mm_H σ1 = some (some (.long (σ1.2.1 120 21)), mm_H, σ2) := x_seed
  have q : σ1.2.1 120 21 = σ.2.1 0 13 := by
    show (mm_sl σ 0 13 v).2.1 120 21 = _
    rw [rl_nk (by omega)]; exact h4.symm
  rw [q] at e2
  refine ⟨_, σ1, σ2, e1, e2, ⟨s, L, P, lb, hh, D, ac, iv_l hi (fun _ _ _ => rfl) ?_⟩, rfl, ⟨_, rfl⟩, rfl⟩
  show (mm_sl σ1 120 21 v).2.1 0 13 = (mm_sl σ1 120 21 v).2.1 120 21
  rw [rl_eq, rl_nk (by omega)]
  exact rl_eq
theorem m_drawn {σ : mm_M} (h : IV σ) {m : Int32} : SM (mm_ev mX8_drawn [.ref 0, .int m] mm_H) (mm_ev mX9_drawn [.ref 120, .int m] mm_H) σ := by
  obtain ⟨s, L, P, lb, hh, D, ac, hi⟩ := h
  have h4 : σ.2.1 0 13 = σ.2.1 120 21 := hi.2.2.2.1
  have hP := hi.2.1.1
  obtain ⟨σ1, e1, c1, s1⟩ := s_drawn (m := m) hP hi.2.1.2.1
  have r1 : rq_ 0 σ1 P := ⟨by rw [c1.1 120 (by omega) (by omega)]; exact hi.2.1.2.2.1.1, rm_cg hi.2.1.2.2.1.2 hP.1 (fun j _ _ => by rw [c1.1 121 (by omega) (by omega)])⟩
  obtain ⟨σ2, e2, c2, s2⟩ := x_drawn (m := m) hP r1
  have q : σ1.2.1 120 21 = σ.2.1 0 13 := by rw [c1.2.1 120 21 (by omega), h4]
  rw [q] at e2 s2
  refine ⟨_, σ1, σ2, e1, e2, ⟨s, L, P, lb, hh, D, ac, iv_l hi (fun k j hk => ?_) ?_⟩, by rw [c2.2.2, c1.2.2], ⟨_, rfl⟩, c1.2.2⟩
  · rw [c2.1 k j (by omega), c1.1 k (by omega) (by omega)]
  · show σ2.2.1 0 13 = σ2.2.1 120 21
    rw [s2, c2.2.1 0 13 (by omega), s1]
/-! the text -/
theorem m_write {σ : mm_M} (h : IV σ) {x : Int32} : SM (mm_ev mX8_write [.ref 0, .int x] mm_H) (mm_ev mX9_write [.ref 120, .int x] mm_H) σ := by
  have hin := in_0 x (hi := 255) (n := 256) (by decide)
  obtain ⟨s, L, P, lb, hh, D, ac, h1, h2, h3, h4, h5, h6⟩ := h
  cases hx : bl_ x 256
  · refine ⟨.int (-nI 2), σ, σ, ?_, ?_, ⟨s, L, P, lb, hh, D, ac, h1, h2, h3, h4, h5, h6⟩, rfl, ⟨_, rfl⟩, rfl⟩
    · unfold bl_ at hx
      by_cases hn : x.toInt < 0
      · have hn' : x.toInt < ((0 : Nat) : Int) := by omega
        simp (disch := omega) only [vX8_write, rX8_write_0, rX8_write_1, rX8_write_4, rX8_write_5, rX8_write_8, rX8_write_11, rX8_write_13, rX8_write_14, rX8_write_15, rX8_write_18, rX8_write_19, rX8_write_22, rX8_write_25, rX8_write_26, rX8_write_29, rX8_write_32, rX8_write_35, rX8_write_37, mm_gd_t, mm_kc_v, mm_kc_n, mm_rfs, kl_n, kl_i, kl_r, kl_l, so_0, so_1, so_2, so_3, so_4, beq_self_eq_true, Bool.true_and, Bool.and_true, Bool.or_true, Bool.true_or, Bool.false_or, Bool.or_false, if_true, if_false, ↓reduceIte, decide_true, decide_false, Bool.not_false, Bool.not_true, not_true_eq_false, not_false_eq_true, eq_self, Nat.not_lt_zero, Bool.true_eq_false, Bool.false_eq_true, Nat.reduceAdd, Nat.reduceMul, Nat.reduceSub, Nat.reduceEqDiff, Nat.reduceLeDiff, Nat.reduceLT, Nat.reduceDiv, Nat.reduceMod, zb_0, zb_1, zb_b, on_nI, ml_l, rl_sl1, rl_sl2, rl_eq, rl_nj, rl_nk, qL_0, qL_1, qL_11, qL_10000, nI_lL, lN_add, lN_mul, Nat.zero_add, Nat.add_zero, mm_zr0n, mm_zr1n, mm_zrb, b2_0, b2_1, pk_mul, tn_nI, in_nI, mi_lt, rd_eq, rd_nj, rd_nk, rs_eq, rs_nk, rl_si, rl_sA, nI_add, nI_eqI, nI_leI2, nI_ltI2, ql_0, ql_1, ql_2, ql_3, ql_4, ql_5, ql_6, ql_7, ql_8, ql_9, ql_10, ql_11, ql_12, ql_13, ql_14, ql_15, ql_16, ql_17, ql_18, ql_19, ql_20, ql_24, ql_25, ql_26, ql_27, ql_31, ql_32, ql_33, ql_36, ql_45, ql_46, ql_47, ql_48, ql_49, ql_50, ql_57, ql_63, ql_64, ql_65, ql_66, ql_67, ql_68, ql_69, ql_70, ql_71, ql_72, ql_73, ql_74, ql_75, ql_76, ql_77, ql_78, ql_79, ql_80, ql_81, ql_82, ql_83, ql_84, ql_85, ql_86, ql_87, ql_93, ql_96, ql_97, ql_100, ql_101, ql_120, ql_255, ql_256, ql_257, ql_511, ql_672, ql_900, ql_1000, ql_65536, lt_i, hn']
      · have hn' : ¬ x.toInt < ((0 : Nat) : Int) := by omega
        rw [decide_eq_true (show 0 ≤ x.toInt by omega), Bool.true_and] at hx
        have hb : ¬ x.toInt < 256 := by simpa using hx
        have hb' : ¬ x.toInt ≤ ((255 : Nat) : Int) := by omega
        have hb'' : ((255 : Nat) : Int) < x.toInt := by omega
        simp (disch := omega) only [vX8_write, rX8_write_0, rX8_write_1, rX8_write_4, rX8_write_5, rX8_write_8, rX8_write_11, rX8_write_13, rX8_write_14, rX8_write_15, rX8_write_18, rX8_write_19, rX8_write_22, rX8_write_25, rX8_write_26, rX8_write_29, rX8_write_32, rX8_write_35, rX8_write_37, mm_gd_t, mm_kc_v, mm_kc_n, mm_rfs, kl_n, kl_i, kl_r, kl_l, so_0, so_1, so_2, so_3, so_4, beq_self_eq_true, Bool.true_and, Bool.and_true, Bool.or_true, Bool.true_or, Bool.false_or, Bool.or_false, if_true, if_false, ↓reduceIte, decide_true, decide_false, Bool.not_false, Bool.not_true, not_true_eq_false, not_false_eq_true, eq_self, Nat.not_lt_zero, Bool.true_eq_false, Bool.false_eq_true, Nat.reduceAdd, Nat.reduceMul, Nat.reduceSub, Nat.reduceEqDiff, Nat.reduceLeDiff, Nat.reduceLT, Nat.reduceDiv, Nat.reduceMod, zb_0, zb_1, zb_b, on_nI, ml_l, rl_sl1, rl_sl2, rl_eq, rl_nj, rl_nk, qL_0, qL_1, qL_11, qL_10000, nI_lL, lN_add, lN_mul, Nat.zero_add, Nat.add_zero, mm_zr0n, mm_zr1n, mm_zrb, b2_0, b2_1, pk_mul, tn_nI, in_nI, mi_lt, rd_eq, rd_nj, rd_nk, rs_eq, rs_nk, rl_si, rl_sA, nI_add, nI_eqI, nI_leI2, nI_ltI2, ql_0, ql_1, ql_2, ql_3, ql_4, ql_5, ql_6, ql_7, ql_8, ql_9, ql_10, ql_11, ql_12, ql_13, ql_14, ql_15, ql_16, ql_17, ql_18, ql_19, ql_20, ql_24, ql_25, ql_26, ql_27, ql_31, ql_32, ql_33, ql_36, ql_45, ql_46, ql_47, ql_48, ql_49, ql_50, ql_57, ql_63, ql_64, ql_65, ql_66, ql_67, ql_68, ql_69, ql_70, ql_71, ql_72, ql_73, ql_74, ql_75, ql_76, ql_77, ql_78, ql_79, ql_80, ql_81, ql_82, ql_83, ql_84, ql_85, ql_86, ql_87, ql_93, ql_96, ql_97, ql_100, ql_101, ql_120, ql_255, ql_256, ql_257, ql_511, ql_672, ql_900, ql_1000, ql_65536, lt_i, ge_i, gt_i, hn', hb', hb'']
    · rw [hx] at hin
      simp (disch := omega) only [vX9_write, rX9_write_0, rX9_write_1, rX9_write_2, rX9_write_3, rX9_write_6, rX9_write_9, rX9_write_12, rX9_write_14, rX9_write_15, rX9_write_16, rX9_write_19, rX9_write_21, rX9_write_24, rX9_write_26, rX9_write_27, rX9_write_28, rX9_write_31, rX9_write_32, rX9_write_35, rX9_write_36, rX9_write_37, rX9_write_38, rX9_write_39, rX9_write_42, rX9_write_43, rX9_write_44, rX9_write_47, rX9_write_48, rX9_write_51, mm_gd_t, mm_kc_v, mm_kc_n, mm_rfs, kl_n, kl_i, kl_r, kl_l, so_0, so_1, so_2, so_3, so_4, beq_self_eq_true, Bool.true_and, Bool.and_true, Bool.or_true, Bool.true_or, Bool.false_or, Bool.or_false, if_true, if_false, ↓reduceIte, decide_true, decide_false, Bool.not_false, Bool.not_true, not_true_eq_false, not_false_eq_true, eq_self, Nat.not_lt_zero, Bool.true_eq_false, Bool.false_eq_true, Nat.reduceAdd, Nat.reduceMul, Nat.reduceSub, Nat.reduceEqDiff, Nat.reduceLeDiff, Nat.reduceLT, Nat.reduceDiv, Nat.reduceMod, zb_0, zb_1, zb_b, on_nI, ml_l, rl_sl1, rl_sl2, rl_eq, rl_nj, rl_nk, qL_0, qL_1, qL_11, qL_10000, nI_lL, lN_add, lN_mul, Nat.zero_add, Nat.add_zero, mm_zr0n, mm_zr1n, mm_zrb, b2_0, b2_1, pk_mul, tn_nI, in_nI, mi_lt, rd_eq, rd_nj, rd_nk, rs_eq, rs_nk, rl_si, rl_sA, nI_add, nI_eqI, nI_leI2, nI_ltI2, ql_0, ql_1, ql_2, ql_3, ql_4, ql_5, ql_6, ql_7, ql_8, ql_9, ql_10, ql_11, ql_12, ql_13, ql_14, ql_15, ql_16, ql_17, ql_18, ql_19, ql_20, ql_24, ql_25, ql_26, ql_27, ql_31, ql_32, ql_33, ql_36, ql_45, ql_46, ql_47, ql_48, ql_49, ql_50, ql_57, ql_63, ql_64, ql_65, ql_66, ql_67, ql_68, ql_69, ql_70, ql_71, ql_72, ql_73, ql_74, ql_75, ql_76, ql_77, ql_78, ql_79, ql_80, ql_81, ql_82, ql_83, ql_84, ql_85, ql_86, ql_87, ql_93, ql_96, ql_97, ql_100, ql_101, ql_120, ql_255, ql_256, ql_257, ql_511, ql_672, ql_900, ql_1000, ql_65536, s_in, hin]
  · obtain ⟨c, hc, rfl⟩ := bl_of (by omega) hx
    rw [nI_lL (by omega), hx] at hin
    have hs := h1.1.1
    have g1 : ¬ c < 0 := by omega
    have g2 : c ≤ 255 := by omega
    have g3 : ¬ 255 < c := by omega
    have eA := s_add (c := nI c) h1.1.2.1 hs
    by_cases hlt : s < 48
    · rw [if_pos hlt, decide_eq_true hlt] at eA
      let σ1 := mm_si (mm_si σ 2 s (nI c)) 1 0 (nI (s + 1))
      let σ2 := mm_si (mm_si σ1 122 s (nI c)) 120 4 (nI (s + 1))
      have q1 : σ1.1 120 4 = nI s := by simp (disch := omega) only [σ1, rd_nk]; exact h1.2.2.1
      have e1 : mm_ev mX8_write [.ref 0, .int (nI c)] mm_H σ = some (some (.int (nI (s + 1))), mm_H, σ1) := by
        simp (disch := omega) only [vX8_write, rX8_write_0, rX8_write_1, rX8_write_4, rX8_write_5, rX8_write_8, rX8_write_11, rX8_write_13, rX8_write_14, rX8_write_15, rX8_write_18, rX8_write_19, rX8_write_22, rX8_write_25, rX8_write_26, rX8_write_29, rX8_write_32, rX8_write_35, rX8_write_37, mm_gd_t, mm_kc_v, mm_kc_n, mm_rfs, kl_n, kl_i, kl_r, kl_l, so_0, so_1, so_2, so_3, so_4, beq_self_eq_true, Bool.true_and, Bool.and_true, Bool.or_true, Bool.true_or, Bool.false_or, Bool.or_false, if_true, if_false, ↓reduceIte, decide_true, decide_false, Bool.not_false, Bool.not_true, not_true_eq_false, not_false_eq_true, eq_self, Nat.not_lt_zero, Bool.true_eq_false, Bool.false_eq_true, Nat.reduceAdd, Nat.reduceMul, Nat.reduceSub, Nat.reduceEqDiff, Nat.reduceLeDiff, Nat.reduceLT, Nat.reduceDiv, Nat.reduceMod, zb_0, zb_1, zb_b, on_nI, ml_l, rl_sl1, rl_sl2, rl_eq, rl_nj, rl_nk, qL_0, qL_1, qL_11, qL_10000, nI_lL, lN_add, lN_mul, Nat.zero_add, Nat.add_zero, mm_zr0n, mm_zr1n, mm_zrb, b2_0, b2_1, pk_mul, tn_nI, in_nI, mi_lt, rd_eq, rd_nj, rd_nk, rs_eq, rs_nk, rl_si, rl_sA, nI_add, nI_eqI, nI_leI2, nI_ltI2, ql_0, ql_1, ql_2, ql_3, ql_4, ql_5, ql_6, ql_7, ql_8, ql_9, ql_10, ql_11, ql_12, ql_13, ql_14, ql_15, ql_16, ql_17, ql_18, ql_19, ql_20, ql_24, ql_25, ql_26, ql_27, ql_31, ql_32, ql_33, ql_36, ql_45, ql_46, ql_47, ql_48, ql_49, ql_50, ql_57, ql_63, ql_64, ql_65, ql_66, ql_67, ql_68, ql_69, ql_70, ql_71, ql_72, ql_73, ql_74, ql_75, ql_76, ql_77, ql_78, ql_79, ql_80, ql_81, ql_82, ql_83, ql_84, ql_85, ql_86, ql_87, ql_93, ql_96, ql_97, ql_100, ql_101, ql_120, ql_255, ql_256, ql_257, ql_511, ql_672, ql_900, ql_1000, ql_65536, rho_0_0, rho_0_1, rho_0_2, rho_0_3, rho_0_4, rho_0_5, rho_0_6, rho_0_7, rho_0_8, rho_0_9, rho_0_10, rho_0_11, rho_0_12, rho_1_1, kd_0, kd_1, g1, g2, g3, eA]
        rfl
      have hne : ¬ s = 48 := by omega
      have e2 : mm_ev mX9_write [.ref 120, .int (nI c)] mm_H σ1 = some (some (.int (nI (s + 1))), mm_H, σ2) := by
        simp (disch := omega) only [vX9_write, rX9_write_0, rX9_write_1, rX9_write_2, rX9_write_3, rX9_write_6, rX9_write_9, rX9_write_12, rX9_write_14, rX9_write_15, rX9_write_16, rX9_write_19, rX9_write_21, rX9_write_24, rX9_write_26, rX9_write_27, rX9_write_28, rX9_write_31, rX9_write_32, rX9_write_35, rX9_write_36, rX9_write_37, rX9_write_38, rX9_write_39, rX9_write_42, rX9_write_43, rX9_write_44, rX9_write_47, rX9_write_48, rX9_write_51, mm_gd_t, mm_kc_v, mm_kc_n, mm_rfs, kl_n, kl_i, kl_r, kl_l, so_0, so_1, so_2, so_3, so_4, beq_self_eq_true, Bool.true_and, Bool.and_true, Bool.or_true, Bool.true_or, Bool.false_or, Bool.or_false, if_true, if_false, ↓reduceIte, decide_true, decide_false, Bool.not_false, Bool.not_true, not_true_eq_false, not_false_eq_true, eq_self, Nat.not_lt_zero, Bool.true_eq_false, Bool.false_eq_true, Nat.reduceAdd, Nat.reduceMul, Nat.reduceSub, Nat.reduceEqDiff, Nat.reduceLeDiff, Nat.reduceLT, Nat.reduceDiv, Nat.reduceMod, zb_0, zb_1, zb_b, on_nI, ml_l, rl_sl1, rl_sl2, rl_eq, rl_nj, rl_nk, qL_0, qL_1, qL_11, qL_10000, nI_lL, lN_add, lN_mul, Nat.zero_add, Nat.add_zero, mm_zr0n, mm_zr1n, mm_zrb, b2_0, b2_1, pk_mul, tn_nI, in_nI, mi_lt, rd_eq, rd_nj, rd_nk, rs_eq, rs_nk, rl_si, rl_sA, nI_add, nI_eqI, nI_leI2, nI_ltI2, ql_0, ql_1, ql_2, ql_3, ql_4, ql_5, ql_6, ql_7, ql_8, ql_9, ql_10, ql_11, ql_12, ql_13, ql_14, ql_15, ql_16, ql_17, ql_18, ql_19, ql_20, ql_24, ql_25, ql_26, ql_27, ql_31, ql_32, ql_33, ql_36, ql_45, ql_46, ql_47, ql_48, ql_49, ql_50, ql_57, ql_63, ql_64, ql_65, ql_66, ql_67, ql_68, ql_69, ql_70, ql_71, ql_72, ql_73, ql_74, ql_75, ql_76, ql_77, ql_78, ql_79, ql_80, ql_81, ql_82, ql_83, ql_84, ql_85, ql_86, ql_87, ql_93, ql_96, ql_97, ql_100, ql_101, ql_120, ql_255, ql_256, ql_257, ql_511, ql_672, ql_900, ql_1000, ql_65536, rho_120_1, rho_120_3, rho_120_5, rho_120_6, rho_120_10, rho_120_11, rho_120_12, rho_120_15, rho_120_17, rho_120_18, rho_120_19, rho_120_20, rho_120_22, rho_120_23, kd_120, kd_122, ir_122, iw_122, al_122, s_in, hin, q1, hne]
        rfl
      have other : ∀ k j, k ≠ 1 → k ≠ 2 → k ≠ 122 → (k ≠ 120 ∨ j ≠ 4) → σ2.1 k j = σ.1 k j := fun k j a b d hj => by
        by_cases h120 : k = 120
        · subst h120; simp (disch := omega) only [σ2, σ1, rd_nk, rd_nj]
        · simp (disch := omega) only [σ2, σ1, rd_nk]
      have hL' : ∀ j, (fun j => if j = s then c else L j) j < 256 := fun j => by
        show (if j = s then c else L j) < 256
        split
        · exact hc
        · exact h1.1.2.2.2 j
      refine ⟨_, σ1, σ2, e1, e2, ⟨s + 1, fun j => if j = s then c else L j, P, lb, hh, D, ac, ⟨⟨by omega, by simp (disch := omega) only [σ2, σ1, rd_nk, rd_eq], fun j hj => ?_, hL'⟩, ⟨by omega, by simp only [σ2, rd_eq], fun j hj => ?_, hL'⟩⟩, pP_cg h2 (fun k j _ _ => other k j (by omega) (by omega) (by omega) (by omega)) (other 120 0 (by omega) (by omega) (by omega) (by omega)) (fun j _ => other 121 j (by omega) (by omega) (by omega) (by omega)), pH_cg h3 (fun k j _ _ => other k j (by omega) (by omega) (by omega) (by omega)) (other 120 16 (by omega) (by omega) (by omega) (by omega)) (fun k j _ _ => other k j (by omega) (by omega) (by omega) (by omega)), h4, pK_cg h5 (fun k j _ _ => other k j (by omega) (by omega) (by omega) (by omega)) (fun j => other 133 j (by omega) (by omega) (by omega) (by omega)) (fun j => other 134 j (by omega) (by omega) (by omega) (by omega)), pA_cg h6 (other 27 0 (by omega) (by omega) (by omega) (by omega)) (fun j => other 28 j (by omega) (by omega) (by omega) (by omega)) (other 120 8 (by omega) (by omega) (by omega) (by omega)) (other 120 9 (by omega) (by omega) (by omega) (by omega)) (fun j => other 125 j (by omega) (by omega) (by omega) (by omega))⟩, rfl, ⟨_, rfl⟩, rfl⟩
      · show σ2.1 2 j = nI (if j = s then c else L j)
        by_cases hjs : j = s
        · rw [if_pos hjs, hjs]; simp (disch := omega) only [σ2, σ1, rd_nk, rd_eq]
        · rw [if_neg hjs]; simp (disch := omega) only [σ2, σ1, rd_nk, rd_nj]; exact h1.1.2.2.1 j (by omega)
      · show σ2.1 122 j = nI (if j = s then c else L j)
        by_cases hjs : j = s
        · rw [if_pos hjs, hjs]; simp (disch := omega) only [σ2, σ1, rd_nk, rd_eq]
        · rw [if_neg hjs]; simp (disch := omega) only [σ2, σ1, rd_nk, rd_nj]; exact h1.2.2.2.1 j (by omega)
    · rw [if_neg hlt, decide_eq_false hlt] at eA
      have h48 : s = 48 := by omega
      have q1 : σ.1 120 4 = nI 48 := by rw [← h48]; exact h1.2.2.1
      refine ⟨.int (-nI 4), σ, σ, ?_, ?_, ⟨s, L, P, lb, hh, D, ac, h1, h2, h3, h4, h5, h6⟩, rfl, ⟨_, rfl⟩, rfl⟩
      · simp (disch := omega) only [vX8_write, rX8_write_0, rX8_write_1, rX8_write_4, rX8_write_5, rX8_write_8, rX8_write_11, rX8_write_13, rX8_write_14, rX8_write_15, rX8_write_18, rX8_write_19, rX8_write_22, rX8_write_25, rX8_write_26, rX8_write_29, rX8_write_32, rX8_write_35, rX8_write_37, mm_gd_t, mm_kc_v, mm_kc_n, mm_rfs, kl_n, kl_i, kl_r, kl_l, so_0, so_1, so_2, so_3, so_4, beq_self_eq_true, Bool.true_and, Bool.and_true, Bool.or_true, Bool.true_or, Bool.false_or, Bool.or_false, if_true, if_false, ↓reduceIte, decide_true, decide_false, Bool.not_false, Bool.not_true, not_true_eq_false, not_false_eq_true, eq_self, Nat.not_lt_zero, Bool.true_eq_false, Bool.false_eq_true, Nat.reduceAdd, Nat.reduceMul, Nat.reduceSub, Nat.reduceEqDiff, Nat.reduceLeDiff, Nat.reduceLT, Nat.reduceDiv, Nat.reduceMod, zb_0, zb_1, zb_b, on_nI, ml_l, rl_sl1, rl_sl2, rl_eq, rl_nj, rl_nk, qL_0, qL_1, qL_11, qL_10000, nI_lL, lN_add, lN_mul, Nat.zero_add, Nat.add_zero, mm_zr0n, mm_zr1n, mm_zrb, b2_0, b2_1, pk_mul, tn_nI, in_nI, mi_lt, rd_eq, rd_nj, rd_nk, rs_eq, rs_nk, rl_si, rl_sA, nI_add, nI_eqI, nI_leI2, nI_ltI2, ql_0, ql_1, ql_2, ql_3, ql_4, ql_5, ql_6, ql_7, ql_8, ql_9, ql_10, ql_11, ql_12, ql_13, ql_14, ql_15, ql_16, ql_17, ql_18, ql_19, ql_20, ql_24, ql_25, ql_26, ql_27, ql_31, ql_32, ql_33, ql_36, ql_45, ql_46, ql_47, ql_48, ql_49, ql_50, ql_57, ql_63, ql_64, ql_65, ql_66, ql_67, ql_68, ql_69, ql_70, ql_71, ql_72, ql_73, ql_74, ql_75, ql_76, ql_77, ql_78, ql_79, ql_80, ql_81, ql_82, ql_83, ql_84, ql_85, ql_86, ql_87, ql_93, ql_96, ql_97, ql_100, ql_101, ql_120, ql_255, ql_256, ql_257, ql_511, ql_672, ql_900, ql_1000, ql_65536, rho_0_0, rho_0_1, rho_0_2, rho_0_3, rho_0_4, rho_0_5, rho_0_6, rho_0_7, rho_0_8, rho_0_9, rho_0_10, rho_0_11, rho_0_12, rho_1_1, kd_0, kd_1, g1, g2, g3, eA]
      · simp (disch := omega) only [vX9_write, rX9_write_0, rX9_write_1, rX9_write_2, rX9_write_3, rX9_write_6, rX9_write_9, rX9_write_12, rX9_write_14, rX9_write_15, rX9_write_16, rX9_write_19, rX9_write_21, rX9_write_24, rX9_write_26, rX9_write_27, rX9_write_28, rX9_write_31, rX9_write_32, rX9_write_35, rX9_write_36, rX9_write_37, rX9_write_38, rX9_write_39, rX9_write_42, rX9_write_43, rX9_write_44, rX9_write_47, rX9_write_48, rX9_write_51, mm_gd_t, mm_kc_v, mm_kc_n, mm_rfs, kl_n, kl_i, kl_r, kl_l, so_0, so_1, so_2, so_3, so_4, beq_self_eq_true, Bool.true_and, Bool.and_true, Bool.or_true, Bool.true_or, Bool.false_or, Bool.or_false, if_true, if_false, ↓reduceIte, decide_true, decide_false, Bool.not_false, Bool.not_true, not_true_eq_false, not_false_eq_true, eq_self, Nat.not_lt_zero, Bool.true_eq_false, Bool.false_eq_true, Nat.reduceAdd, Nat.reduceMul, Nat.reduceSub, Nat.reduceEqDiff, Nat.reduceLeDiff, Nat.reduceLT, Nat.reduceDiv, Nat.reduceMod, zb_0, zb_1, zb_b, on_nI, ml_l, rl_sl1, rl_sl2, rl_eq, rl_nj, rl_nk, qL_0, qL_1, qL_11, qL_10000, nI_lL, lN_add, lN_mul, Nat.zero_add, Nat.add_zero, mm_zr0n, mm_zr1n, mm_zrb, b2_0, b2_1, pk_mul, tn_nI, in_nI, mi_lt, rd_eq, rd_nj, rd_nk, rs_eq, rs_nk, rl_si, rl_sA, nI_add, nI_eqI, nI_leI2, nI_ltI2, ql_0, ql_1, ql_2, ql_3, ql_4, ql_5, ql_6, ql_7, ql_8, ql_9, ql_10, ql_11, ql_12, ql_13, ql_14, ql_15, ql_16, ql_17, ql_18, ql_19, ql_20, ql_24, ql_25, ql_26, ql_27, ql_31, ql_32, ql_33, ql_36, ql_45, ql_46, ql_47, ql_48, ql_49, ql_50, ql_57, ql_63, ql_64, ql_65, ql_66, ql_67, ql_68, ql_69, ql_70, ql_71, ql_72, ql_73, ql_74, ql_75, ql_76, ql_77, ql_78, ql_79, ql_80, ql_81, ql_82, ql_83, ql_84, ql_85, ql_86, ql_87, ql_93, ql_96, ql_97, ql_100, ql_101, ql_120, ql_255, ql_256, ql_257, ql_511, ql_672, ql_900, ql_1000, ql_65536, rho_120_1, rho_120_3, rho_120_5, rho_120_6, rho_120_10, rho_120_11, rho_120_12, rho_120_15, rho_120_17, rho_120_18, rho_120_19, rho_120_20, rho_120_22, rho_120_23, kd_120, kd_122, ir_122, iw_122, al_122, s_in, hin, q1]
theorem m_wipe {σ : mm_M} (h : IV σ) : SM (mm_ev mX8_wipe [.ref 0] mm_H) (mm_ev mX9_wipe [.ref 120] mm_H) σ := by
  obtain ⟨s, L, P, lb, hh, D, ac, h1, h2, h3, h4, h5, h6⟩ := h
  let σ1 := mm_si σ 1 0 (nI 0)
  let σ2 := mm_si σ1 120 4 (nI 0)
  have hs1 := h1.1.2.1
  have e1 : mm_ev mX8_wipe [.ref 0] mm_H σ = some (some (.int (nI s)), mm_H, σ1) := by
    simp (disch := omega) only [vX8_wipe, rX8_wipe_0, rX8_wipe_1, rX8_wipe_4, rX8_wipe_7, rX8_wipe_8, rX8_wipe_9, rX8_wipe_12, rX8_wipe_13, rX8_wipe_16, rX8_wipe_17, mm_gd_t, mm_kc_v, mm_kc_n, mm_rfs, kl_n, kl_i, kl_r, kl_l, so_0, so_1, so_2, so_3, so_4, beq_self_eq_true, Bool.true_and, Bool.and_true, Bool.or_true, Bool.true_or, Bool.false_or, Bool.or_false, if_true, if_false, ↓reduceIte, decide_true, decide_false, Bool.not_false, Bool.not_true, not_true_eq_false, not_false_eq_true, eq_self, Nat.not_lt_zero, Bool.true_eq_false, Bool.false_eq_true, Nat.reduceAdd, Nat.reduceMul, Nat.reduceSub, Nat.reduceEqDiff, Nat.reduceLeDiff, Nat.reduceLT, Nat.reduceDiv, Nat.reduceMod, zb_0, zb_1, zb_b, on_nI, ml_l, rl_sl1, rl_sl2, rl_eq, rl_nj, rl_nk, qL_0, qL_1, qL_11, qL_10000, nI_lL, lN_add, lN_mul, Nat.zero_add, Nat.add_zero, mm_zr0n, mm_zr1n, mm_zrb, b2_0, b2_1, pk_mul, tn_nI, in_nI, mi_lt, rd_eq, rd_nj, rd_nk, rs_eq, rs_nk, rl_si, rl_sA, nI_add, nI_eqI, nI_leI2, nI_ltI2, ql_0, ql_1, ql_2, ql_3, ql_4, ql_5, ql_6, ql_7, ql_8, ql_9, ql_10, ql_11, ql_12, ql_13, ql_14, ql_15, ql_16, ql_17, ql_18, ql_19, ql_20, ql_24, ql_25, ql_26, ql_27, ql_31, ql_32, ql_33, ql_36, ql_45, ql_46, ql_47, ql_48, ql_49, ql_50, ql_57, ql_63, ql_64, ql_65, ql_66, ql_67, ql_68, ql_69, ql_70, ql_71, ql_72, ql_73, ql_74, ql_75, ql_76, ql_77, ql_78, ql_79, ql_80, ql_81, ql_82, ql_83, ql_84, ql_85, ql_86, ql_87, ql_93, ql_96, ql_97, ql_100, ql_101, ql_120, ql_255, ql_256, ql_257, ql_511, ql_672, ql_900, ql_1000, ql_65536, rho_0_0, rho_0_1, rho_0_2, rho_0_3, rho_0_4, rho_0_5, rho_0_6, rho_0_7, rho_0_8, rho_0_9, rho_0_10, rho_0_11, rho_0_12, rho_1_1, kd_0, kd_1, hs1]
    rfl
  have q1 : σ1.1 120 4 = nI s := by simp (disch := omega) only [σ1, rd_nk]; exact h1.2.2.1
  have e2 : mm_ev mX9_wipe [.ref 120] mm_H σ1 = some (some (.int (nI s)), mm_H, σ2) := by
    simp (disch := omega) only [vX9_wipe, rX9_wipe_0, rX9_wipe_1, rX9_wipe_4, rX9_wipe_5, rX9_wipe_6, rX9_wipe_7, rX9_wipe_10, rX9_wipe_11, mm_gd_t, mm_kc_v, mm_kc_n, mm_rfs, kl_n, kl_i, kl_r, kl_l, so_0, so_1, so_2, so_3, so_4, beq_self_eq_true, Bool.true_and, Bool.and_true, Bool.or_true, Bool.true_or, Bool.false_or, Bool.or_false, if_true, if_false, ↓reduceIte, decide_true, decide_false, Bool.not_false, Bool.not_true, not_true_eq_false, not_false_eq_true, eq_self, Nat.not_lt_zero, Bool.true_eq_false, Bool.false_eq_true, Nat.reduceAdd, Nat.reduceMul, Nat.reduceSub, Nat.reduceEqDiff, Nat.reduceLeDiff, Nat.reduceLT, Nat.reduceDiv, Nat.reduceMod, zb_0, zb_1, zb_b, on_nI, ml_l, rl_sl1, rl_sl2, rl_eq, rl_nj, rl_nk, qL_0, qL_1, qL_11, qL_10000, nI_lL, lN_add, lN_mul, Nat.zero_add, Nat.add_zero, mm_zr0n, mm_zr1n, mm_zrb, b2_0, b2_1, pk_mul, tn_nI, in_nI, mi_lt, rd_eq, rd_nj, rd_nk, rs_eq, rs_nk, rl_si, rl_sA, nI_add, nI_eqI, nI_leI2, nI_ltI2, ql_0, ql_1, ql_2, ql_3, ql_4, ql_5, ql_6, ql_7, ql_8, ql_9, ql_10, ql_11, ql_12, ql_13, ql_14, ql_15, ql_16, ql_17, ql_18, ql_19, ql_20, ql_24, ql_25, ql_26, ql_27, ql_31, ql_32, ql_33, ql_36, ql_45, ql_46, ql_47, ql_48, ql_49, ql_50, ql_57, ql_63, ql_64, ql_65, ql_66, ql_67, ql_68, ql_69, ql_70, ql_71, ql_72, ql_73, ql_74, ql_75, ql_76, ql_77, ql_78, ql_79, ql_80, ql_81, ql_82, ql_83, ql_84, ql_85, ql_86, ql_87, ql_93, ql_96, ql_97, ql_100, ql_101, ql_120, ql_255, ql_256, ql_257, ql_511, ql_672, ql_900, ql_1000, ql_65536, rho_120_1, rho_120_3, rho_120_5, rho_120_6, rho_120_10, rho_120_11, rho_120_12, rho_120_15, rho_120_17, rho_120_18, rho_120_19, rho_120_20, rho_120_22, rho_120_23, kd_120, q1]
    rfl
  have other : ∀ k j, k ≠ 1 → (k ≠ 120 ∨ j ≠ 4) → σ2.1 k j = σ.1 k j := fun k j hk hj => by
    by_cases h120 : k = 120
    · subst h120; simp (disch := omega) only [σ2, σ1, rd_nk, rd_nj]
    · simp (disch := omega) only [σ2, σ1, rd_nk]
  exact ⟨_, σ1, σ2, e1, e2, ⟨0, L, P, lb, hh, D, ac, ⟨⟨by omega, by simp (disch := omega) only [σ2, σ1, rd_nk, rd_eq], fun j hj => by omega, h1.1.2.2.2⟩, ⟨by omega, by simp only [σ2, rd_eq], fun j hj => by omega, h1.1.2.2.2⟩⟩, pP_cg h2 (fun k j _ _ => other k j (by omega) (by omega)) (other 120 0 (by omega) (by omega)) (fun j _ => other 121 j (by omega) (by omega)), pH_cg h3 (fun k j _ _ => other k j (by omega) (by omega)) (other 120 16 (by omega) (by omega)) (fun k j _ _ => other k j (by omega) (by omega)), h4, pK_cg h5 (fun k j _ _ => other k j (by omega) (by omega)) (fun j => other 133 j (by omega) (by omega)) (fun j => other 134 j (by omega) (by omega)), pA_cg h6 (other 27 0 (by omega) (by omega)) (fun j => other 28 j (by omega) (by omega)) (other 120 8 (by omega) (by omega)) (other 120 9 (by omega) (by omega)) (fun j => other 125 j (by omega) (by omega))⟩, rfl, ⟨_, rfl⟩, rfl⟩
theorem eq_3 {σ σ' : mm_M} (h : fr_ 3 15 σ σ') : eq_ σ σ' := ⟨fun k j hk => by rw [h.1 k (by omega)], by rw [h.2], by rw [h.2], by rw [h.2]⟩
theorem eq_Z {σ σ' : mm_M} (h : fZ_ σ σ') : eq_ σ σ' := ⟨fun k j hk => h.1 k j (by omega) (by omega), by rw [h.2], by rw [h.2], by rw [h.2]⟩
theorem m_fault {σ : mm_M} (h : IV σ) : SM (mm_ev mX8_fault [.ref 0] mm_H) (mm_ev mX9_fault [.ref 120] mm_H) σ := by
  obtain ⟨s, L, P, lb, hh, D, ac, hi⟩ := h
  obtain ⟨σ1, e1, f1, _⟩ := s_readInto hi.1.1
  have i1 := iv_eq hi (eq_3 f1)
  obtain ⟨σ2, e2, f2, _⟩ := x_readText i1.1.2
  have i2 := iv_eq i1 (eq_Z f2)
  refine ⟨.int (fo_ (pt_ L s).1), σ1, σ2, ?_, ?_, ⟨s, L, P, lb, hh, D, ac, i2⟩, by rw [f2.2, f1.2], ⟨_, rfl⟩, by rw [f1.2]⟩
  · simp (disch := omega) only [vX8_fault, rX8_fault_0, rX8_fault_1, rX8_fault_4, rX8_fault_5, rX8_fault_8, rX8_fault_11, mm_gd_t, mm_kc_v, mm_kc_n, mm_rfs, kl_n, kl_i, kl_r, kl_l, so_0, so_1, so_2, so_3, so_4, beq_self_eq_true, Bool.true_and, Bool.and_true, Bool.or_true, Bool.true_or, Bool.false_or, Bool.or_false, if_true, if_false, ↓reduceIte, decide_true, decide_false, Bool.not_false, Bool.not_true, not_true_eq_false, not_false_eq_true, eq_self, Nat.not_lt_zero, Bool.true_eq_false, Bool.false_eq_true, Nat.reduceAdd, Nat.reduceMul, Nat.reduceSub, Nat.reduceEqDiff, Nat.reduceLeDiff, Nat.reduceLT, Nat.reduceDiv, Nat.reduceMod, zb_0, zb_1, zb_b, on_nI, ml_l, rl_sl1, rl_sl2, rl_eq, rl_nj, rl_nk, qL_0, qL_1, qL_11, qL_10000, nI_lL, lN_add, lN_mul, Nat.zero_add, Nat.add_zero, mm_zr0n, mm_zr1n, mm_zrb, b2_0, b2_1, pk_mul, tn_nI, in_nI, mi_lt, rd_eq, rd_nj, rd_nk, rs_eq, rs_nk, rl_si, rl_sA, nI_add, nI_eqI, nI_leI2, nI_ltI2, ql_0, ql_1, ql_2, ql_3, ql_4, ql_5, ql_6, ql_7, ql_8, ql_9, ql_10, ql_11, ql_12, ql_13, ql_14, ql_15, ql_16, ql_17, ql_18, ql_19, ql_20, ql_24, ql_25, ql_26, ql_27, ql_31, ql_32, ql_33, ql_36, ql_45, ql_46, ql_47, ql_48, ql_49, ql_50, ql_57, ql_63, ql_64, ql_65, ql_66, ql_67, ql_68, ql_69, ql_70, ql_71, ql_72, ql_73, ql_74, ql_75, ql_76, ql_77, ql_78, ql_79, ql_80, ql_81, ql_82, ql_83, ql_84, ql_85, ql_86, ql_87, ql_93, ql_96, ql_97, ql_100, ql_101, ql_120, ql_255, ql_256, ql_257, ql_511, ql_672, ql_900, ql_1000, ql_65536, rho_0_0, rho_0_1, rho_0_2, rho_0_3, rho_0_4, rho_0_5, rho_0_6, rho_0_7, rho_0_8, rho_0_9, rho_0_10, rho_0_11, rho_0_12, rho_1_1, kd_0, kd_1, e1]
  · simp (disch := omega) only [vX9_fault, rX9_fault_0, rX9_fault_1, rX9_fault_4, mm_gd_t, mm_kc_v, mm_kc_n, mm_rfs, kl_n, kl_i, kl_r, kl_l, so_0, so_1, so_2, so_3, so_4, beq_self_eq_true, Bool.true_and, Bool.and_true, Bool.or_true, Bool.true_or, Bool.false_or, Bool.or_false, if_true, if_false, ↓reduceIte, decide_true, decide_false, Bool.not_false, Bool.not_true, not_true_eq_false, not_false_eq_true, eq_self, Nat.not_lt_zero, Bool.true_eq_false, Bool.false_eq_true, Nat.reduceAdd, Nat.reduceMul, Nat.reduceSub, Nat.reduceEqDiff, Nat.reduceLeDiff, Nat.reduceLT, Nat.reduceDiv, Nat.reduceMod, zb_0, zb_1, zb_b, on_nI, ml_l, rl_sl1, rl_sl2, rl_eq, rl_nj, rl_nk, qL_0, qL_1, qL_11, qL_10000, nI_lL, lN_add, lN_mul, Nat.zero_add, Nat.add_zero, mm_zr0n, mm_zr1n, mm_zrb, b2_0, b2_1, pk_mul, tn_nI, in_nI, mi_lt, rd_eq, rd_nj, rd_nk, rs_eq, rs_nk, rl_si, rl_sA, nI_add, nI_eqI, nI_leI2, nI_ltI2, ql_0, ql_1, ql_2, ql_3, ql_4, ql_5, ql_6, ql_7, ql_8, ql_9, ql_10, ql_11, ql_12, ql_13, ql_14, ql_15, ql_16, ql_17, ql_18, ql_19, ql_20, ql_24, ql_25, ql_26, ql_27, ql_31, ql_32, ql_33, ql_36, ql_45, ql_46, ql_47, ql_48, ql_49, ql_50, ql_57, ql_63, ql_64, ql_65, ql_66, ql_67, ql_68, ql_69, ql_70, ql_71, ql_72, ql_73, ql_74, ql_75, ql_76, ql_77, ql_78, ql_79, ql_80, ql_81, ql_82, ql_83, ql_84, ql_85, ql_86, ql_87, ql_93, ql_96, ql_97, ql_100, ql_101, ql_120, ql_255, ql_256, ql_257, ql_511, ql_672, ql_900, ql_1000, ql_65536, rho_120_1, rho_120_3, rho_120_5, rho_120_6, rho_120_10, rho_120_11, rho_120_12, rho_120_15, rho_120_17, rho_120_18, rho_120_19, rho_120_20, rho_120_22, rho_120_23, kd_120, e2]

/-! ===== the reference: a line, the text ===== -/
theorem x_readLine {σ : mm_M} {s : Nat} {L : Nat → Nat} {k d place far : Nat} {P : pp_} (hl : lm_ok σ s L) (h : place + d = s) (h1 : 1 ≤ place) (hk : k < 7) (hn : P.1 < 9) (h2 : σ.1 120 2 = nI P.1) (hw : pw_ P 0 far) (ht : tl_ σ P 0) :
    ∃ r, mm_ev mX9_readLine [.ref 120, .int (nI k), .int (nI place)] mm_H σ = r ∧ rl_ L s d (mm_si σ 121 (48 + P.1) (nI k)) place (pu_ P 0 k) 1 far r := by
  have hs48 := hl.1
  let σ1 := mm_si σ 121 (48 + P.1) (nI k)
  have t1 : tl_ σ1 (pu_ P 0 k) 1 := tl_k ht hk hn
  have w1 : pw_ (pu_ P 0 k) 1 far := pw_k hw (by omega) hk
  have F1 : fZ_ σ σ1 := fZ_si (by omega)
  have l1 := lm_fZ hl F1
  have h21 : σ1.1 120 2 = nI P.1 := by simp (disch := omega) only [σ1, rd_nk]; exact h2
  have hc0 : (pu_ P 0 k).2 P.1 0 = k := by rw [pu_at]; rfl
  have hP1 : (pu_ P 0 k).1 = P.1 := rfl
  have start : ∀ m, (m = if h3_ k = true then 3 else 1) → mm_ev mX9_readLine [.ref 120, .int (nI k), .int (nI place)] mm_H σ = mm_run mX9_readLine mm_H 37 [some (.ref 120), some (.int (nI k)), some (.int (nI place)), some (.int (nI (48 + P.1))), some (.int (nI place)), some (.int (nI m)), some (.int (nI 0)), none] [] σ1 := by
    intro m hm
    cases h3 : h3_ k <;> rw [h3] at hm
    · rw [if_neg (by decide)] at hm
      subst hm
      simp (disch := omega) only [vX9_readLine, rX9_readLine_0, rX9_readLine_2, rX9_readLine_3, rX9_readLine_6, rX9_readLine_7, rX9_readLine_8, rX9_readLine_9, rX9_readLine_11, rX9_readLine_12, rX9_readLine_15, rX9_readLine_16, rX9_readLine_17, rX9_readLine_18, rX9_readLine_19, rX9_readLine_20, rX9_readLine_21, rX9_readLine_24, rX9_readLine_27, rX9_readLine_28, rX9_readLine_31, rX9_readLine_32, rX9_readLine_34, rX9_readLine_35, mm_gd_t, mm_kc_v, mm_kc_n, mm_rfs, kl_n, kl_i, kl_r, kl_l, so_0, so_1, so_2, so_3, so_4, beq_self_eq_true, Bool.true_and, Bool.and_true, Bool.or_true, Bool.true_or, Bool.false_or, Bool.or_false, if_true, if_false, ↓reduceIte, decide_true, decide_false, Bool.not_false, Bool.not_true, not_true_eq_false, not_false_eq_true, eq_self, Nat.not_lt_zero, Bool.true_eq_false, Bool.false_eq_true, Nat.reduceAdd, Nat.reduceMul, Nat.reduceSub, Nat.reduceEqDiff, Nat.reduceLeDiff, Nat.reduceLT, Nat.reduceDiv, Nat.reduceMod, zb_0, zb_1, zb_b, on_nI, ml_l, rl_sl1, rl_sl2, rl_eq, rl_nj, rl_nk, qL_0, qL_1, qL_11, qL_10000, nI_lL, lN_add, lN_mul, Nat.zero_add, Nat.add_zero, mm_zr0n, mm_zr1n, mm_zrb, b2_0, b2_1, pk_mul, tn_nI, in_nI, mi_lt, rd_eq, rd_nj, rd_nk, rs_eq, rs_nk, rl_si, rl_sA, nI_add, nI_eqI, nI_leI2, nI_ltI2, ql_0, ql_1, ql_2, ql_3, ql_4, ql_5, ql_6, ql_7, ql_8, ql_9, ql_10, ql_11, ql_12, ql_13, ql_14, ql_15, ql_16, ql_17, ql_18, ql_19, ql_20, ql_24, ql_25, ql_26, ql_27, ql_31, ql_32, ql_33, ql_36, ql_45, ql_46, ql_47, ql_48, ql_49, ql_50, ql_57, ql_63, ql_64, ql_65, ql_66, ql_67, ql_68, ql_69, ql_70, ql_71, ql_72, ql_73, ql_74, ql_75, ql_76, ql_77, ql_78, ql_79, ql_80, ql_81, ql_82, ql_83, ql_84, ql_85, ql_86, ql_87, ql_93, ql_96, ql_97, ql_100, ql_101, ql_120, ql_255, ql_256, ql_257, ql_511, ql_672, ql_900, ql_1000, ql_65536, rho_120_1, rho_120_3, rho_120_5, rho_120_6, rho_120_10, rho_120_11, rho_120_12, rho_120_15, rho_120_17, rho_120_18, rho_120_19, rho_120_20, rho_120_22, rho_120_23, kd_120, kd_121, ir_121, iw_121, al_121, h2, x_hasThree, h3]
      rfl
    · rw [if_pos rfl] at hm
      subst hm
      simp (disch := omega) only [vX9_readLine, rX9_readLine_0, rX9_readLine_2, rX9_readLine_3, rX9_readLine_6, rX9_readLine_7, rX9_readLine_8, rX9_readLine_9, rX9_readLine_11, rX9_readLine_12, rX9_readLine_15, rX9_readLine_16, rX9_readLine_17, rX9_readLine_18, rX9_readLine_19, rX9_readLine_20, rX9_readLine_21, rX9_readLine_24, rX9_readLine_27, rX9_readLine_28, rX9_readLine_31, rX9_readLine_32, rX9_readLine_34, rX9_readLine_35, mm_gd_t, mm_kc_v, mm_kc_n, mm_rfs, kl_n, kl_i, kl_r, kl_l, so_0, so_1, so_2, so_3, so_4, beq_self_eq_true, Bool.true_and, Bool.and_true, Bool.or_true, Bool.true_or, Bool.false_or, Bool.or_false, if_true, if_false, ↓reduceIte, decide_true, decide_false, Bool.not_false, Bool.not_true, not_true_eq_false, not_false_eq_true, eq_self, Nat.not_lt_zero, Bool.true_eq_false, Bool.false_eq_true, Nat.reduceAdd, Nat.reduceMul, Nat.reduceSub, Nat.reduceEqDiff, Nat.reduceLeDiff, Nat.reduceLT, Nat.reduceDiv, Nat.reduceMod, zb_0, zb_1, zb_b, on_nI, ml_l, rl_sl1, rl_sl2, rl_eq, rl_nj, rl_nk, qL_0, qL_1, qL_11, qL_10000, nI_lL, lN_add, lN_mul, Nat.zero_add, Nat.add_zero, mm_zr0n, mm_zr1n, mm_zrb, b2_0, b2_1, pk_mul, tn_nI, in_nI, mi_lt, rd_eq, rd_nj, rd_nk, rs_eq, rs_nk, rl_si, rl_sA, nI_add, nI_eqI, nI_leI2, nI_ltI2, ql_0, ql_1, ql_2, ql_3, ql_4, ql_5, ql_6, ql_7, ql_8, ql_9, ql_10, ql_11, ql_12, ql_13, ql_14, ql_15, ql_16, ql_17, ql_18, ql_19, ql_20, ql_24, ql_25, ql_26, ql_27, ql_31, ql_32, ql_33, ql_36, ql_45, ql_46, ql_47, ql_48, ql_49, ql_50, ql_57, ql_63, ql_64, ql_65, ql_66, ql_67, ql_68, ql_69, ql_70, ql_71, ql_72, ql_73, ql_74, ql_75, ql_76, ql_77, ql_78, ql_79, ql_80, ql_81, ql_82, ql_83, ql_84, ql_85, ql_86, ql_87, ql_93, ql_96, ql_97, ql_100, ql_101, ql_120, ql_255, ql_256, ql_257, ql_511, ql_672, ql_900, ql_1000, ql_65536, rho_120_1, rho_120_3, rho_120_5, rho_120_6, rho_120_10, rho_120_11, rho_120_12, rho_120_15, rho_120_17, rho_120_18, rho_120_19, rho_120_20, rho_120_22, rho_120_23, kd_120, kd_121, ir_121, iw_121, al_121, h2, x_hasThree, h3]
      rfl
  refine ⟨_, rfl, ?_⟩
  show rl_ L s d σ1 place (pu_ P 0 k) 1 far _
  have hk7 : k = 0 ∨ (k = 1 ∨ k = 2) ∨ (k = 3 ∨ k = 4) ∨ (k = 5 ∨ k = 6) := by omega
  -- the first variable
  cases ho1 : op_ L s k 1 P.1 place with
  | none =>
    rw [start _ rfl, x_rlVn (k := k) (j := 0) l1 (by omega) (by split <;> omega) (by split <;> omega) (by omega) ho1]
    exact rl_none h (by omega) hs48 h1 (by rw [hP1, hc0]; exact ho1)
  | some v1 =>
    have hv1 : v1 ≤ 4 := by
      unfold op_ at ho1
      split at ho1
      · exact pv_x ho1 (by omega) (by omega)
      · cases ho1
    rw [start _ rfl, x_rlVs (k := k) (j := 0) l1 (by omega) (by split <;> omega) (by split <;> omega) hn (by omega) ho1 hv1]
    have ho1' : op_ L s ((pu_ P 0 k).2 (pu_ P 0 k).1 0) 1 (pu_ P 0 k).1 place = some v1 := by rw [hP1, hc0]; exact ho1
    simp only [Nat.zero_add]
    let σ2 := mm_si σ1 121 (48 + 9 * 1 + P.1) (nI v1)
    have F2 : fZ_ σ1 σ2 := fZ_si (by omega)
    have l2 := lm_fZ l1 F2
    have h22 : σ2.1 120 2 = nI P.1 := h2_si h21
    obtain ⟨d1, hd1, hpv1, _⟩ := pa_s (far := far) h (by omega) ho1'
    have t2 := tl_v t1 w1 (by omega) hpv1
    have e99 : ∀ v : Nat, (if (1 : Nat) = 4 ∧ v = 99 then -nI 1 else nI v) = nI v := fun v => if_neg (by omega)
    rw [hP1, hc0, e99] at t2
    rcases hk7 with hk0 | hk12 | hk34 | hk56
    · -- becomes: a figure
      subst hk0
      have hnb : nb_ 0 1 = 2 := rfl
      rw [hnb, if_neg (by omega)] at t2
      have hm : (if h3_ 0 = true then 3 else 1) = 1 := rfl
      rw [hm, x_rlE (by omega)]
      refine rl_step h (by omega) w1 ho1' (by rw [hP1, hc0, hnb]; omega) (by omega) (fun d' hd w2 => ?_)
      rw [hP1, hc0, hnb] at w2 ⊢
      have hc2 : (pu_ (pu_ P 0 0) 1 v1).2 P.1 0 = 0 := by rw [show P.1 = (pu_ P 0 0).1 from rfl, pu_at]; exact hc0
      cases ho2 : op_ L s 0 2 P.1 (place + 1) with
      | none =>
        rw [x_rlFn l2 (by omega) ho2]
        exact rl_none (by omega) (by omega) hs48 (by omega) (by show op_ L s ((pu_ (pu_ P 0 0) 1 v1).2 P.1 0) 2 P.1 (place + 1) = none; rw [hc2]; exact ho2)
      | some v2 =>
        rw [x_rlFs l2 (by omega) hn ho2, x_rlT0 (by omega) rfl]
        have := rl_last (L := L) (s := s) (σ := σ2) (d := d') (place := place + 1) (p := 2) (v := v2) (by omega) (by omega) w2 t2 (by show op_ L s ((pu_ (pu_ P 0 0) 1 v1).2 P.1 0) 2 P.1 (place + 1) = some v2; rw [hc2]; exact ho2) (by show nb_ ((pu_ (pu_ P 0 0) 1 v1).2 P.1 0) 2 = 0; rw [hc2]; rfl)
        rw [if_neg (by omega)] at this
        exact this
    · -- three variables
      have hm : (if h3_ k = true then 3 else 1) = 3 := by rcases hk12 with h | h <;> subst h <;> rfl
      have hnb : nb_ k 1 = 2 := by rcases hk12 with h | h <;> subst h <;> rfl
      have hnb2 : nb_ k 2 = 3 := by rcases hk12 with h | h <;> subst h <;> rfl
      have hkn : k ≠ 0 := by omega
      rw [hnb, if_neg (by omega)] at t2
      rw [hm]
      refine rl_step h (by omega) w1 ho1' (by rw [hP1, hc0, hnb]; omega) (by omega) (fun d' hd w2 => ?_)
      rw [hP1, hc0, hnb] at w2 ⊢
      have hc2 : (pu_ (pu_ P 0 k) 1 v1).2 P.1 0 = k := by rw [show P.1 = (pu_ P 0 k).1 from rfl, pu_at]; exact hc0
      cases ho2 : op_ L s k 2 P.1 (place + 1) with
      | none =>
        rw [x_rlVn (k := k) (j := 1) l2 (by omega) (by omega) (by omega) (fun _ => hkn) ho2]
        exact rl_none (by omega) (by omega) hs48 (by omega) (by show op_ L s ((pu_ (pu_ P 0 k) 1 v1).2 P.1 0) 2 P.1 (place + 1) = none; rw [hc2]; exact ho2)
      | some v2 =>
        have hv2 : v2 ≤ 4 := by
          unfold op_ at ho2
          split at ho2
          · exact pv_x ho2 (by omega) (by omega)
          · cases ho2
        rw [x_rlVs (k := k) (j := 1) l2 (by omega) (by omega) (by omega) hn (fun _ => hkn) ho2 hv2]
        have ho2' : op_ L s ((pu_ (pu_ P 0 k) 1 v1).2 (pu_ (pu_ P 0 k) 1 v1).1 0) 2 (pu_ (pu_ P 0 k) 1 v1).1 (place + 1) = some v2 := by show op_ L s ((pu_ (pu_ P 0 k) 1 v1).2 P.1 0) 2 P.1 (place + 1) = some v2; rw [hc2]; exact ho2
        obtain ⟨d2, hd2, hpv2, _⟩ := pa_s (far := far) (show place + 1 + d' = s by omega) (by omega) ho2'
        have t3 := tl_v t2 w2 (by omega) hpv2
        have hn3 : nb_ ((pu_ (pu_ P 0 k) 1 v1).2 (pu_ (pu_ P 0 k) 1 v1).1 0) 2 = 3 := by show nb_ ((pu_ (pu_ P 0 k) 1 v1).2 P.1 0) 2 = 3; rw [hc2]; exact hnb2
        rw [hn3, if_neg (by omega), if_neg (by omega)] at t3
        refine rl_step (by omega) (by omega) w2 ho2' (by rw [hn3]; omega) (by omega) (fun d'' hd'' w3 => ?_)
        rw [hn3] at w3 ⊢
        let σ3 := mm_si σ2 121 (48 + 9 * (1 + 1) + P.1) (nI v2)
        have F3 : fZ_ σ2 σ3 := fZ_si (by omega)
        have l3 := lm_fZ l2 F3
        have h23 : σ3.1 120 2 = nI P.1 := h2_si h22
        have hc3 : (pu_ (pu_ (pu_ P 0 k) 1 v1) 2 v2).2 P.1 0 = k := by rw [show P.1 = (pu_ (pu_ P 0 k) 1 v1).1 from rfl, pu_at]; exact hc2
        cases ho3 : op_ L s k 3 P.1 (place + 1 + 1) with
        | none =>
          rw [x_rlVn (k := k) (j := 1 + 1) l3 (by omega) (by omega) (by omega) (by omega) ho3]
          exact rl_none (by omega) (by omega) hs48 (by omega) (by show op_ L s ((pu_ (pu_ (pu_ P 0 k) 1 v1) 2 v2).2 P.1 0) 3 P.1 (place + 1 + 1) = none; rw [hc3]; exact ho3)
        | some v3 =>
          have hv3 : v3 ≤ 4 := by
            unfold op_ at ho3
            split at ho3
            · exact pv_x ho3 (by omega) (by omega)
            · cases ho3
          rw [x_rlVs (k := k) (j := 1 + 1) l3 (by omega) (by omega) (by omega) hn (by omega) ho3 hv3]
          have ho3' : op_ L s ((pu_ (pu_ (pu_ P 0 k) 1 v1) 2 v2).2 (pu_ (pu_ (pu_ P 0 k) 1 v1) 2 v2).1 0) 3 (pu_ (pu_ (pu_ P 0 k) 1 v1) 2 v2).1 (place + 1 + 1) = some v3 := by show op_ L s ((pu_ (pu_ (pu_ P 0 k) 1 v1) 2 v2).2 P.1 0) 3 P.1 (place + 1 + 1) = some v3; rw [hc3]; exact ho3
          rw [show (1 + 1 + 1 : Nat) = 3 from rfl, x_rlE (by omega), x_rlF0 hkn hk]
          rcases hk12 with hk1 | hk2
          · -- sum
            subst hk1
            rw [x_rlT0 (by omega) rfl]
            have := rl_last (σ := σ3) (d := d'') (place := place + 1 + 1) (p := 3) (v := v3) (by omega) (by omega) w3 t3 ho3' (by show nb_ ((pu_ (pu_ (pu_ P 0 1) 1 v1) 2 v2).2 P.1 0) 3 = 0; rw [hc3]; rfl)
            rw [if_neg (by omega)] at this
            exact this
          · -- division
            subst hk2
            obtain ⟨d3, hd3, hpv3, _⟩ := pa_s (far := far) (show place + 1 + 1 + d'' = s by omega) (by omega) ho3'
            have t4 := tl_v t3 w3 (by omega) hpv3
            have hn4 : nb_ ((pu_ (pu_ (pu_ P 0 2) 1 v1) 2 v2).2 (pu_ (pu_ (pu_ P 0 2) 1 v1) 2 v2).1 0) 3 = 4 := by show nb_ ((pu_ (pu_ (pu_ P 0 2) 1 v1) 2 v2).2 P.1 0) 3 = 4; rw [hc3]; rfl
            rw [hn4, if_neg (by omega), if_neg (by omega)] at t4
            refine rl_step (by omega) (by omega) w3 ho3' (by rw [hn4]; omega) (by omega) (fun d''' hd''' w4 => ?_)
            rw [hn4] at w4 ⊢
            let σ4 := mm_si σ3 121 (48 + 9 * 3 + P.1) (nI v3)
            have F4 : fZ_ σ3 σ4 := fZ_si (by omega)
            have l4 := lm_fZ l3 F4
            have h24 : σ4.1 120 2 = nI P.1 := h2_si h23
            have hc4 : (pu_ (pu_ (pu_ (pu_ P 0 2) 1 v1) 2 v2) 3 v3).2 P.1 0 = 2 := by rw [show P.1 = (pu_ (pu_ (pu_ P 0 2) 1 v1) 2 v2).1 from rfl, pu_at]; exact hc3
            cases ho4 : op_ L s 2 4 P.1 (place + 1 + 1 + 1) with
            | none =>
              rw [x_rlTn l4 (by omega) hn h24 (by omega) rfl ho4]
              exact rl_none (by omega) (by omega) hs48 (by omega) (by show op_ L s ((pu_ (pu_ (pu_ (pu_ P 0 2) 1 v1) 2 v2) 3 v3).2 P.1 0) 4 P.1 (place + 1 + 1 + 1) = none; rw [hc4]; exact ho4)
            | some v4 =>
              rw [x_rlTs l4 (by omega) hn h24 (by omega) rfl ho4]
              exact rl_last (σ := σ4) (d := d''') (place := place + 1 + 1 + 1) (p := 4) (v := v4) (by omega) (by omega) w4 t4 (by show op_ L s ((pu_ (pu_ (pu_ (pu_ P 0 2) 1 v1) 2 v2) 3 v3).2 P.1 0) 4 P.1 (place + 1 + 1 + 1) = some v4; rw [hc4]; exact ho4) (by show nb_ ((pu_ (pu_ (pu_ (pu_ P 0 2) 1 v1) 2 v2) 3 v3).2 P.1 0) 4 = 0; rw [hc4]; rfl)
    · -- branch, throw
      have hm : (if h3_ k = true then 3 else 1) = 1 := by rcases hk34 with h | h <;> subst h <;> rfl
      have hnb : nb_ k 1 = 4 := by rcases hk34 with h | h <;> subst h <;> rfl
      have hnb4 : nb_ k 4 = 0 := by rcases hk34 with h | h <;> subst h <;> rfl
      have hwk : hw_ k = true := by rcases hk34 with h | h <;> subst h <;> rfl
      have hkn : k ≠ 0 := by omega
      rw [hnb, if_neg (by omega)] at t2
      rw [hm, x_rlE (by omega), x_rlF0 hkn hk]
      refine rl_step h (by omega) w1 ho1' (by rw [hP1, hc0, hnb]; omega) (by omega) (fun d' hd w2 => ?_)
      rw [hP1, hc0, hnb] at w2 ⊢
      have hc2 : (pu_ (pu_ P 0 k) 1 v1).2 P.1 0 = k := by rw [show P.1 = (pu_ P 0 k).1 from rfl, pu_at]; exact hc0
      cases ho2 : op_ L s k 4 P.1 (place + 1) with
      | none =>
        rw [x_rlTn l2 (by omega) hn h22 hk hwk ho2]
        exact rl_none (by omega) (by omega) hs48 (by omega) (by show op_ L s ((pu_ (pu_ P 0 k) 1 v1).2 P.1 0) 4 P.1 (place + 1) = none; rw [hc2]; exact ho2)
      | some v2 =>
        rw [x_rlTs l2 (by omega) hn h22 hk hwk ho2]
        exact rl_last (σ := σ2) (d := d') (place := place + 1) (p := 4) (v := v2) (by omega) (by omega) w2 t2 (by show op_ L s ((pu_ (pu_ P 0 k) 1 v1).2 P.1 0) 4 P.1 (place + 1) = some v2; rw [hc2]; exact ho2) (by show nb_ ((pu_ (pu_ P 0 k) 1 v1).2 P.1 0) 4 = 0; rw [hc2]; exact hnb4)
    · -- speak, free
      have hm : (if h3_ k = true then 3 else 1) = 1 := by rcases hk56 with h | h <;> subst h <;> rfl
      have hnb : nb_ k 1 = 0 := by rcases hk56 with h | h <;> subst h <;> rfl
      have hwk : hw_ k = false := by rcases hk56 with h | h <;> subst h <;> rfl
      have hkn : k ≠ 0 := by omega
      rw [hm, x_rlE (by omega), x_rlF0 hkn hk, x_rlT0 hk hwk]
      have := rl_last (σ := σ1) (d := d) (place := place) (p := 1) (v := v1) h (by omega) w1 t1 ho1' (by rw [hP1, hc0]; exact hnb)
      rw [if_neg (by omega)] at this
      exact this
theorem x_rtZ : ∀ (d k : Nat) (σ : mm_M), k + d = 45 →
    ∃ σ', mm_run mX9_readText mm_H 7 [some (.ref 120), some (.int (nI k)), none, none, none, none] [] σ = mm_run mX9_readText mm_H 29 [some (.ref 120), some (.int (nI 45)), none, none, none, none] [] σ' ∧ fZ_ σ σ' ∧ σ'.1 120 2 = σ.1 120 2 ∧ (∀ j, k ≤ j → j < 45 → σ'.1 121 (48 + j) = nI 0) ∧ (∀ j, j < k → σ'.1 121 (48 + j) = σ.1 121 (48 + j))
  | 0, k, σ, h => by
    have hk : k = 45 := by omega
    subst hk
    refine ⟨σ, ?_, fZ_refl _, rfl, fun j h1 h2 => by omega, fun _ _ => rfl⟩
    rw [rX9_readText_7]
    simp (disch := omega) only [vX9_readText, rX9_readText_8, rX9_readText_10, rX9_readText_13, rX9_readText_14, rX9_readText_17, rX9_readText_19, rX9_readText_20, rX9_readText_21, rX9_readText_22, rX9_readText_23, rX9_readText_26, mm_gd_t, mm_kc_v, mm_kc_n, mm_rfs, kl_n, kl_i, kl_r, kl_l, so_0, so_1, so_2, so_3, so_4, beq_self_eq_true, Bool.true_and, Bool.and_true, Bool.or_true, Bool.true_or, Bool.false_or, Bool.or_false, if_true, if_false, ↓reduceIte, decide_true, decide_false, Bool.not_false, Bool.not_true, not_true_eq_false, not_false_eq_true, eq_self, Nat.not_lt_zero, Bool.true_eq_false, Bool.false_eq_true, Nat.reduceAdd, Nat.reduceMul, Nat.reduceSub, Nat.reduceEqDiff, Nat.reduceLeDiff, Nat.reduceLT, Nat.reduceDiv, Nat.reduceMod, zb_0, zb_1, zb_b, on_nI, ml_l, rl_sl1, rl_sl2, rl_eq, rl_nj, rl_nk, qL_0, qL_1, qL_11, qL_10000, nI_lL, lN_add, lN_mul, Nat.zero_add, Nat.add_zero, mm_zr0n, mm_zr1n, mm_zrb, b2_0, b2_1, pk_mul, tn_nI, in_nI, mi_lt, rd_eq, rd_nj, rd_nk, rs_eq, rs_nk, rl_si, rl_sA, nI_add, nI_eqI, nI_leI2, nI_ltI2, ql_0, ql_1, ql_2, ql_3, ql_4, ql_5, ql_6, ql_7, ql_8, ql_9, ql_10, ql_11, ql_12, ql_13, ql_14, ql_15, ql_16, ql_17, ql_18, ql_19, ql_20, ql_24, ql_25, ql_26, ql_27, ql_31, ql_32, ql_33, ql_36, ql_45, ql_46, ql_47, ql_48, ql_49, ql_50, ql_57, ql_63, ql_64, ql_65, ql_66, ql_67, ql_68, ql_69, ql_70, ql_71, ql_72, ql_73, ql_74, ql_75, ql_76, ql_77, ql_78, ql_79, ql_80, ql_81, ql_82, ql_83, ql_84, ql_85, ql_86, ql_87, ql_93, ql_96, ql_97, ql_100, ql_101, ql_120, ql_255, ql_256, ql_257, ql_511, ql_672, ql_900, ql_1000, ql_65536]
  | d + 1, k, σ, h => by
    obtain ⟨σ', e, f, f2, g1, g2⟩ := x_rtZ d (k + 1) (mm_si σ 121 (48 + k) (nI 0)) (by omega)
    refine ⟨σ', ?_, fZ_tr (fZ_si (by omega)) f, by rw [f2, rd_nk (by omega)], fun j h1 h2 => ?_, fun j hj => by rw [g2 j (by omega), rd_nj (by omega)]⟩
    · rw [← e]
      have h2 : ¬ 45 ≤ k := by omega
      rw [rX9_readText_7]
      simp (disch := omega) only [vX9_readText, rX9_readText_8, rX9_readText_10, rX9_readText_13, rX9_readText_14, rX9_readText_17, rX9_readText_19, rX9_readText_20, rX9_readText_21, rX9_readText_22, rX9_readText_23, rX9_readText_26, mm_gd_t, mm_kc_v, mm_kc_n, mm_rfs, kl_n, kl_i, kl_r, kl_l, so_0, so_1, so_2, so_3, so_4, beq_self_eq_true, Bool.true_and, Bool.and_true, Bool.or_true, Bool.true_or, Bool.false_or, Bool.or_false, if_true, if_false, ↓reduceIte, decide_true, decide_false, Bool.not_false, Bool.not_true, not_true_eq_false, not_false_eq_true, eq_self, Nat.not_lt_zero, Bool.true_eq_false, Bool.false_eq_true, Nat.reduceAdd, Nat.reduceMul, Nat.reduceSub, Nat.reduceEqDiff, Nat.reduceLeDiff, Nat.reduceLT, Nat.reduceDiv, Nat.reduceMod, zb_0, zb_1, zb_b, on_nI, ml_l, rl_sl1, rl_sl2, rl_eq, rl_nj, rl_nk, qL_0, qL_1, qL_11, qL_10000, nI_lL, lN_add, lN_mul, Nat.zero_add, Nat.add_zero, mm_zr0n, mm_zr1n, mm_zrb, b2_0, b2_1, pk_mul, tn_nI, in_nI, mi_lt, rd_eq, rd_nj, rd_nk, rs_eq, rs_nk, rl_si, rl_sA, nI_add, nI_eqI, nI_leI2, nI_ltI2, ql_0, ql_1, ql_2, ql_3, ql_4, ql_5, ql_6, ql_7, ql_8, ql_9, ql_10, ql_11, ql_12, ql_13, ql_14, ql_15, ql_16, ql_17, ql_18, ql_19, ql_20, ql_24, ql_25, ql_26, ql_27, ql_31, ql_32, ql_33, ql_36, ql_45, ql_46, ql_47, ql_48, ql_49, ql_50, ql_57, ql_63, ql_64, ql_65, ql_66, ql_67, ql_68, ql_69, ql_70, ql_71, ql_72, ql_73, ql_74, ql_75, ql_76, ql_77, ql_78, ql_79, ql_80, ql_81, ql_82, ql_83, ql_84, ql_85, ql_86, ql_87, ql_93, ql_96, ql_97, ql_100, ql_101, ql_120, ql_255, ql_256, ql_257, ql_511, ql_672, ql_900, ql_1000, ql_65536, rho_120_1, rho_120_3, rho_120_5, rho_120_6, rho_120_10, rho_120_11, rho_120_12, rho_120_15, rho_120_17, rho_120_18, rho_120_19, rho_120_20, rho_120_22, rho_120_23, kd_120, kd_121, ir_121, iw_121, al_121, h2]
    · by_cases hj : j = k
      · subst hj; rw [g2 j (by omega), rd_eq]
      · exact g1 j (by omega) h2
theorem kM_none {c : Nat} (h : kd_ c = none) : kM_ c = -nI 9 := by unfold kM_; rw [h]
theorem kM_some {c k : Nat} (h : kd_ c = some k) : kM_ c = nI k := by unfold kM_; rw [h]
theorem x_rtL {s : Nat} {L : Nat → Nat} : ∀ (N d place : Nat) (σ : mm_M) (P : pp_) (far : Nat) (x3 x4 x5 : Option Value), d ≤ N → place + d = s → 1 ≤ place → pw_ P 0 far → lm_ok σ s L → σ.1 120 2 = nI P.1 → tl_ σ P 0 →
    ∃ σ', mm_run mX9_readText mm_H 53 [some (.ref 120), some (.int (nI place)), some (.int (nI far)), x3, x4, x5] [] σ = some (some (.int (fo_ (pa_ L s d place P 0 far).1)), mm_H, σ') ∧ fZ_ σ σ' ∧ ((pa_ L s d place P 0 far).1 = none → σ'.1 120 2 = nI (pa_ L s d place P 0 far).2.1 ∧ tl_ σ' (pa_ L s d place P 0 far).2 0)
  | N, 0, place, σ, P, far, x3, x4, x5, hN, h, h1, hw, hl, h2, ht => by
    obtain ⟨l1, l2, l3, l4⟩ := hl
    obtain ⟨w1, w2, w3, w4, w5⟩ := hw
    clear w5 w4
    have g : s ≤ place := by omega
    have hpa : pa_ L s 0 place P 0 far = (if 0 = 0 ∧ far ≤ P.1 then none else some s, P) := rfl
    rw [hpa]
    refine ⟨σ, ?_, fZ_refl _, fun hn => ⟨h2, ht⟩⟩
    rw [rX9_readText_53]
    by_cases hf : far ≤ P.1
    · have hf' : ¬ P.1 < far := by omega
      rw [if_pos ⟨rfl, hf⟩]
      simp (disch := omega) only [vX9_readText, rX9_readText_54, rX9_readText_55, rX9_readText_58, rX9_readText_61, rX9_readText_62, rX9_readText_65, rX9_readText_66, rX9_readText_67, rX9_readText_70, rX9_readText_71, rX9_readText_72, rX9_readText_74, rX9_readText_77, rX9_readText_78, rX9_readText_81, rX9_readText_83, rX9_readText_86, rX9_readText_87, rX9_readText_88, rX9_readText_89, rX9_readText_90, rX9_readText_91, rX9_readText_92, rX9_readText_93, rX9_readText_96, rX9_readText_98, rX9_readText_100, rX9_readText_103, rX9_readText_105, rX9_readText_106, rX9_readText_107, rX9_readText_108, rX9_readText_111, rX9_readText_113, rX9_readText_114, rX9_readText_117, rX9_readText_118, rX9_readText_119, rX9_readText_121, rX9_readText_122, rX9_readText_125, rX9_readText_128, rX9_readText_130, rX9_readText_131, rX9_readText_134, rX9_readText_136, rX9_readText_139, rX9_readText_140, rX9_readText_141, rX9_readText_142, rX9_readText_143, rX9_readText_146, rX9_readText_147, rX9_readText_148, rX9_readText_151, rX9_readText_153, rX9_readText_154, rX9_readText_157, rX9_readText_158, rX9_readText_159, rX9_readText_162, rX9_readText_165, rX9_readText_166, rX9_readText_169, rX9_readText_172, rX9_readText_174, mm_gd_t, mm_kc_v, mm_kc_n, mm_rfs, kl_n, kl_i, kl_r, kl_l, so_0, so_1, so_2, so_3, so_4, beq_self_eq_true, Bool.true_and, Bool.and_true, Bool.or_true, Bool.true_or, Bool.false_or, Bool.or_false, if_true, if_false, ↓reduceIte, decide_true, decide_false, Bool.not_false, Bool.not_true, not_true_eq_false, not_false_eq_true, eq_self, Nat.not_lt_zero, Bool.true_eq_false, Bool.false_eq_true, Nat.reduceAdd, Nat.reduceMul, Nat.reduceSub, Nat.reduceEqDiff, Nat.reduceLeDiff, Nat.reduceLT, Nat.reduceDiv, Nat.reduceMod, zb_0, zb_1, zb_b, on_nI, ml_l, rl_sl1, rl_sl2, rl_eq, rl_nj, rl_nk, qL_0, qL_1, qL_11, qL_10000, nI_lL, lN_add, lN_mul, Nat.zero_add, Nat.add_zero, mm_zr0n, mm_zr1n, mm_zrb, b2_0, b2_1, pk_mul, tn_nI, in_nI, mi_lt, rd_eq, rd_nj, rd_nk, rs_eq, rs_nk, rl_si, rl_sA, nI_add, nI_eqI, nI_leI2, nI_ltI2, ql_0, ql_1, ql_2, ql_3, ql_4, ql_5, ql_6, ql_7, ql_8, ql_9, ql_10, ql_11, ql_12, ql_13, ql_14, ql_15, ql_16, ql_17, ql_18, ql_19, ql_20, ql_24, ql_25, ql_26, ql_27, ql_31, ql_32, ql_33, ql_36, ql_45, ql_46, ql_47, ql_48, ql_49, ql_50, ql_57, ql_63, ql_64, ql_65, ql_66, ql_67, ql_68, ql_69, ql_70, ql_71, ql_72, ql_73, ql_74, ql_75, ql_76, ql_77, ql_78, ql_79, ql_80, ql_81, ql_82, ql_83, ql_84, ql_85, ql_86, ql_87, ql_93, ql_96, ql_97, ql_100, ql_101, ql_120, ql_255, ql_256, ql_257, ql_511, ql_672, ql_900, ql_1000, ql_65536, rho_120_1, rho_120_3, rho_120_5, rho_120_6, rho_120_10, rho_120_11, rho_120_12, rho_120_15, rho_120_17, rho_120_18, rho_120_19, rho_120_20, rho_120_22, rho_120_23, kd_120, l2, g, h2, hf, hf']; rfl
    · have hf' : P.1 < far := by omega
      rw [if_neg (fun hh => hf hh.2)]
      simp (disch := omega) only [vX9_readText, rX9_readText_54, rX9_readText_55, rX9_readText_58, rX9_readText_61, rX9_readText_62, rX9_readText_65, rX9_readText_66, rX9_readText_67, rX9_readText_70, rX9_readText_71, rX9_readText_72, rX9_readText_74, rX9_readText_77, rX9_readText_78, rX9_readText_81, rX9_readText_83, rX9_readText_86, rX9_readText_87, rX9_readText_88, rX9_readText_89, rX9_readText_90, rX9_readText_91, rX9_readText_92, rX9_readText_93, rX9_readText_96, rX9_readText_98, rX9_readText_100, rX9_readText_103, rX9_readText_105, rX9_readText_106, rX9_readText_107, rX9_readText_108, rX9_readText_111, rX9_readText_113, rX9_readText_114, rX9_readText_117, rX9_readText_118, rX9_readText_119, rX9_readText_121, rX9_readText_122, rX9_readText_125, rX9_readText_128, rX9_readText_130, rX9_readText_131, rX9_readText_134, rX9_readText_136, rX9_readText_139, rX9_readText_140, rX9_readText_141, rX9_readText_142, rX9_readText_143, rX9_readText_146, rX9_readText_147, rX9_readText_148, rX9_readText_151, rX9_readText_153, rX9_readText_154, rX9_readText_157, rX9_readText_158, rX9_readText_159, rX9_readText_162, rX9_readText_165, rX9_readText_166, rX9_readText_169, rX9_readText_172, rX9_readText_174, mm_gd_t, mm_kc_v, mm_kc_n, mm_rfs, kl_n, kl_i, kl_r, kl_l, so_0, so_1, so_2, so_3, so_4, beq_self_eq_true, Bool.true_and, Bool.and_true, Bool.or_true, Bool.true_or, Bool.false_or, Bool.or_false, if_true, if_false, ↓reduceIte, decide_true, decide_false, Bool.not_false, Bool.not_true, not_true_eq_false, not_false_eq_true, eq_self, Nat.not_lt_zero, Bool.true_eq_false, Bool.false_eq_true, Nat.reduceAdd, Nat.reduceMul, Nat.reduceSub, Nat.reduceEqDiff, Nat.reduceLeDiff, Nat.reduceLT, Nat.reduceDiv, Nat.reduceMod, zb_0, zb_1, zb_b, on_nI, ml_l, rl_sl1, rl_sl2, rl_eq, rl_nj, rl_nk, qL_0, qL_1, qL_11, qL_10000, nI_lL, lN_add, lN_mul, Nat.zero_add, Nat.add_zero, mm_zr0n, mm_zr1n, mm_zrb, b2_0, b2_1, pk_mul, tn_nI, in_nI, mi_lt, rd_eq, rd_nj, rd_nk, rs_eq, rs_nk, rl_si, rl_sA, nI_add, nI_eqI, nI_leI2, nI_ltI2, ql_0, ql_1, ql_2, ql_3, ql_4, ql_5, ql_6, ql_7, ql_8, ql_9, ql_10, ql_11, ql_12, ql_13, ql_14, ql_15, ql_16, ql_17, ql_18, ql_19, ql_20, ql_24, ql_25, ql_26, ql_27, ql_31, ql_32, ql_33, ql_36, ql_45, ql_46, ql_47, ql_48, ql_49, ql_50, ql_57, ql_63, ql_64, ql_65, ql_66, ql_67, ql_68, ql_69, ql_70, ql_71, ql_72, ql_73, ql_74, ql_75, ql_76, ql_77, ql_78, ql_79, ql_80, ql_81, ql_82, ql_83, ql_84, ql_85, ql_86, ql_87, ql_93, ql_96, ql_97, ql_100, ql_101, ql_120, ql_255, ql_256, ql_257, ql_511, ql_672, ql_900, ql_1000, ql_65536, rho_120_1, rho_120_3, rho_120_5, rho_120_6, rho_120_10, rho_120_11, rho_120_12, rho_120_15, rho_120_17, rho_120_18, rho_120_19, rho_120_20, rho_120_22, rho_120_23, kd_120, l2, g, h2, hf, hf']; rfl
  | 0, d + 1, place, σ, P, far, x3, x4, x5, hN, h, h1, hw, hl, h2, ht => by omega
  | N + 1, d + 1, place, σ, P, far, x3, x4, x5, hN, h, h1, hw, hl, h2, ht => by
    have hl' := hl
    obtain ⟨l1, l2, l3, l4⟩ := hl
    have w1 := hw.1
    have w2 := hw.2.1
    have g : ¬ s ≤ place := by omega
    have g' : place < s := by omega
    have hLp := l3 place (by omega)
    have hc := l4 place
    have eK := x_kindOf (σ := σ) hc
    cases hk : kd_ (L place) with
    | none =>
      rw [kM_none hk] at eK
      have hpa : pa_ L s (d + 1) place P 0 far = (some place, P) := by rw [pa_, if_pos rfl, hk]
      rw [hpa]
      refine ⟨σ, ?_, fZ_refl _, fun hn => by cases hn⟩
      rw [rX9_readText_53]
      simp (disch := omega) only [vX9_readText, rX9_readText_54, rX9_readText_55, rX9_readText_58, rX9_readText_61, rX9_readText_62, rX9_readText_65, rX9_readText_66, rX9_readText_67, rX9_readText_70, rX9_readText_71, rX9_readText_72, rX9_readText_74, rX9_readText_77, rX9_readText_78, rX9_readText_81, rX9_readText_83, rX9_readText_86, rX9_readText_87, rX9_readText_88, rX9_readText_89, rX9_readText_90, rX9_readText_91, rX9_readText_92, rX9_readText_93, rX9_readText_96, rX9_readText_98, rX9_readText_100, rX9_readText_103, rX9_readText_105, rX9_readText_106, rX9_readText_107, rX9_readText_108, rX9_readText_111, rX9_readText_113, rX9_readText_114, rX9_readText_117, rX9_readText_118, rX9_readText_119, rX9_readText_121, rX9_readText_122, rX9_readText_125, rX9_readText_128, rX9_readText_130, rX9_readText_131, rX9_readText_134, rX9_readText_136, rX9_readText_139, rX9_readText_140, rX9_readText_141, rX9_readText_142, rX9_readText_143, rX9_readText_146, rX9_readText_147, rX9_readText_148, rX9_readText_151, rX9_readText_153, rX9_readText_154, rX9_readText_157, rX9_readText_158, rX9_readText_159, rX9_readText_162, rX9_readText_165, rX9_readText_166, rX9_readText_169, rX9_readText_172, rX9_readText_174, mm_gd_t, mm_kc_v, mm_kc_n, mm_rfs, kl_n, kl_i, kl_r, kl_l, so_0, so_1, so_2, so_3, so_4, beq_self_eq_true, Bool.true_and, Bool.and_true, Bool.or_true, Bool.true_or, Bool.false_or, Bool.or_false, if_true, if_false, ↓reduceIte, decide_true, decide_false, Bool.not_false, Bool.not_true, not_true_eq_false, not_false_eq_true, eq_self, Nat.not_lt_zero, Bool.true_eq_false, Bool.false_eq_true, Nat.reduceAdd, Nat.reduceMul, Nat.reduceSub, Nat.reduceEqDiff, Nat.reduceLeDiff, Nat.reduceLT, Nat.reduceDiv, Nat.reduceMod, zb_0, zb_1, zb_b, on_nI, ml_l, rl_sl1, rl_sl2, rl_eq, rl_nj, rl_nk, qL_0, qL_1, qL_11, qL_10000, nI_lL, lN_add, lN_mul, Nat.zero_add, Nat.add_zero, mm_zr0n, mm_zr1n, mm_zrb, b2_0, b2_1, pk_mul, tn_nI, in_nI, mi_lt, rd_eq, rd_nj, rd_nk, rs_eq, rs_nk, rl_si, rl_sA, nI_add, nI_eqI, nI_leI2, nI_ltI2, ql_0, ql_1, ql_2, ql_3, ql_4, ql_5, ql_6, ql_7, ql_8, ql_9, ql_10, ql_11, ql_12, ql_13, ql_14, ql_15, ql_16, ql_17, ql_18, ql_19, ql_20, ql_24, ql_25, ql_26, ql_27, ql_31, ql_32, ql_33, ql_36, ql_45, ql_46, ql_47, ql_48, ql_49, ql_50, ql_57, ql_63, ql_64, ql_65, ql_66, ql_67, ql_68, ql_69, ql_70, ql_71, ql_72, ql_73, ql_74, ql_75, ql_76, ql_77, ql_78, ql_79, ql_80, ql_81, ql_82, ql_83, ql_84, ql_85, ql_86, ql_87, ql_93, ql_96, ql_97, ql_100, ql_101, ql_120, ql_255, ql_256, ql_257, ql_511, ql_672, ql_900, ql_1000, ql_65536, rho_120_1, rho_120_3, rho_120_5, rho_120_6, rho_120_10, rho_120_11, rho_120_12, rho_120_15, rho_120_17, rho_120_18, rho_120_19, rho_120_20, rho_120_22, rho_120_23, kd_120, kd_122, ir_122, iw_122, al_122, l2, g, g', hLp, eK]; rfl
    | some k =>
      have hk7 := kd_lt hk
      rw [kM_some hk] at eK
      by_cases h9 : P.1 = 9
      · have hpa : pa_ L s (d + 1) place P 0 far = (some place, P) := by rw [pa_, if_pos rfl, hk]; simp only; rw [if_pos h9]
        rw [hpa]
        refine ⟨σ, ?_, fZ_refl _, fun hn => by cases hn⟩
        rw [h9] at h2
        rw [rX9_readText_53]
        simp (disch := omega) only [vX9_readText, rX9_readText_54, rX9_readText_55, rX9_readText_58, rX9_readText_61, rX9_readText_62, rX9_readText_65, rX9_readText_66, rX9_readText_67, rX9_readText_70, rX9_readText_71, rX9_readText_72, rX9_readText_74, rX9_readText_77, rX9_readText_78, rX9_readText_81, rX9_readText_83, rX9_readText_86, rX9_readText_87, rX9_readText_88, rX9_readText_89, rX9_readText_90, rX9_readText_91, rX9_readText_92, rX9_readText_93, rX9_readText_96, rX9_readText_98, rX9_readText_100, rX9_readText_103, rX9_readText_105, rX9_readText_106, rX9_readText_107, rX9_readText_108, rX9_readText_111, rX9_readText_113, rX9_readText_114, rX9_readText_117, rX9_readText_118, rX9_readText_119, rX9_readText_121, rX9_readText_122, rX9_readText_125, rX9_readText_128, rX9_readText_130, rX9_readText_131, rX9_readText_134, rX9_readText_136, rX9_readText_139, rX9_readText_140, rX9_readText_141, rX9_readText_142, rX9_readText_143, rX9_readText_146, rX9_readText_147, rX9_readText_148, rX9_readText_151, rX9_readText_153, rX9_readText_154, rX9_readText_157, rX9_readText_158, rX9_readText_159, rX9_readText_162, rX9_readText_165, rX9_readText_166, rX9_readText_169, rX9_readText_172, rX9_readText_174, mm_gd_t, mm_kc_v, mm_kc_n, mm_rfs, kl_n, kl_i, kl_r, kl_l, so_0, so_1, so_2, so_3, so_4, beq_self_eq_true, Bool.true_and, Bool.and_true, Bool.or_true, Bool.true_or, Bool.false_or, Bool.or_false, if_true, if_false, ↓reduceIte, decide_true, decide_false, Bool.not_false, Bool.not_true, not_true_eq_false, not_false_eq_true, eq_self, Nat.not_lt_zero, Bool.true_eq_false, Bool.false_eq_true, Nat.reduceAdd, Nat.reduceMul, Nat.reduceSub, Nat.reduceEqDiff, Nat.reduceLeDiff, Nat.reduceLT, Nat.reduceDiv, Nat.reduceMod, zb_0, zb_1, zb_b, on_nI, ml_l, rl_sl1, rl_sl2, rl_eq, rl_nj, rl_nk, qL_0, qL_1, qL_11, qL_10000, nI_lL, lN_add, lN_mul, Nat.zero_add, Nat.add_zero, mm_zr0n, mm_zr1n, mm_zrb, b2_0, b2_1, pk_mul, tn_nI, in_nI, mi_lt, rd_eq, rd_nj, rd_nk, rs_eq, rs_nk, rl_si, rl_sA, nI_add, nI_eqI, nI_leI2, nI_ltI2, ql_0, ql_1, ql_2, ql_3, ql_4, ql_5, ql_6, ql_7, ql_8, ql_9, ql_10, ql_11, ql_12, ql_13, ql_14, ql_15, ql_16, ql_17, ql_18, ql_19, ql_20, ql_24, ql_25, ql_26, ql_27, ql_31, ql_32, ql_33, ql_36, ql_45, ql_46, ql_47, ql_48, ql_49, ql_50, ql_57, ql_63, ql_64, ql_65, ql_66, ql_67, ql_68, ql_69, ql_70, ql_71, ql_72, ql_73, ql_74, ql_75, ql_76, ql_77, ql_78, ql_79, ql_80, ql_81, ql_82, ql_83, ql_84, ql_85, ql_86, ql_87, ql_93, ql_96, ql_97, ql_100, ql_101, ql_120, ql_255, ql_256, ql_257, ql_511, ql_672, ql_900, ql_1000, ql_65536, rho_120_1, rho_120_3, rho_120_5, rho_120_6, rho_120_10, rho_120_11, rho_120_12, rho_120_15, rho_120_17, rho_120_18, rho_120_19, rho_120_20, rho_120_22, rho_120_23, kd_120, kd_122, ir_122, iw_122, al_122, l2, g, g', hLp, eK, nI_n1, h2]; rfl
      · have hpa : pa_ L s (d + 1) place P 0 far = pa_ L s d (place + 1) (pu_ P 0 k) 1 far := by rw [pa_, if_pos rfl, hk]; simp only; rw [if_neg h9]
        rw [hpa]
        obtain ⟨r, er, hr⟩ := x_readLine (far := far) hl' (show place + 1 + d = s by omega) (by omega) hk7 (show P.1 < 9 by omega) h2 hw ht
        have hc0 : (pu_ P 0 k).2 P.1 0 = k := by rw [pu_at]; rfl
        have F1 : fZ_ σ (mm_si σ 121 (48 + P.1) (nI k)) := fZ_si (by omega)
        rcases hr with ⟨q, σ1, e1, e2, e3, e4, e5⟩ | ⟨e, dd, P', far', σ1, e1, e2, e3, e4, e5, e6, e7, e8, e9, e10, e11⟩
        · rw [e5]
          refine ⟨σ1, ?_, fZ_tr F1 e4, fun hn => by cases hn⟩
          rw [e1] at er
          have hneg : - -nI q = nI q := Int32.neg_neg
          rw [rX9_readText_53]
          simp (disch := omega) only [vX9_readText, rX9_readText_54, rX9_readText_55, rX9_readText_58, rX9_readText_61, rX9_readText_62, rX9_readText_65, rX9_readText_66, rX9_readText_67, rX9_readText_70, rX9_readText_71, rX9_readText_72, rX9_readText_74, rX9_readText_77, rX9_readText_78, rX9_readText_81, rX9_readText_83, rX9_readText_86, rX9_readText_87, rX9_readText_88, rX9_readText_89, rX9_readText_90, rX9_readText_91, rX9_readText_92, rX9_readText_93, rX9_readText_96, rX9_readText_98, rX9_readText_100, rX9_readText_103, rX9_readText_105, rX9_readText_106, rX9_readText_107, rX9_readText_108, rX9_readText_111, rX9_readText_113, rX9_readText_114, rX9_readText_117, rX9_readText_118, rX9_readText_119, rX9_readText_121, rX9_readText_122, rX9_readText_125, rX9_readText_128, rX9_readText_130, rX9_readText_131, rX9_readText_134, rX9_readText_136, rX9_readText_139, rX9_readText_140, rX9_readText_141, rX9_readText_142, rX9_readText_143, rX9_readText_146, rX9_readText_147, rX9_readText_148, rX9_readText_151, rX9_readText_153, rX9_readText_154, rX9_readText_157, rX9_readText_158, rX9_readText_159, rX9_readText_162, rX9_readText_165, rX9_readText_166, rX9_readText_169, rX9_readText_172, rX9_readText_174, mm_gd_t, mm_kc_v, mm_kc_n, mm_rfs, kl_n, kl_i, kl_r, kl_l, so_0, so_1, so_2, so_3, so_4, beq_self_eq_true, Bool.true_and, Bool.and_true, Bool.or_true, Bool.true_or, Bool.false_or, Bool.or_false, if_true, if_false, ↓reduceIte, decide_true, decide_false, Bool.not_false, Bool.not_true, not_true_eq_false, not_false_eq_true, eq_self, Nat.not_lt_zero, Bool.true_eq_false, Bool.false_eq_true, Nat.reduceAdd, Nat.reduceMul, Nat.reduceSub, Nat.reduceEqDiff, Nat.reduceLeDiff, Nat.reduceLT, Nat.reduceDiv, Nat.reduceMod, zb_0, zb_1, zb_b, on_nI, ml_l, rl_sl1, rl_sl2, rl_eq, rl_nj, rl_nk, qL_0, qL_1, qL_11, qL_10000, nI_lL, lN_add, lN_mul, Nat.zero_add, Nat.add_zero, mm_zr0n, mm_zr1n, mm_zrb, b2_0, b2_1, pk_mul, tn_nI, in_nI, mi_lt, rd_eq, rd_nj, rd_nk, rs_eq, rs_nk, rl_si, rl_sA, nI_add, nI_eqI, nI_leI2, nI_ltI2, ql_0, ql_1, ql_2, ql_3, ql_4, ql_5, ql_6, ql_7, ql_8, ql_9, ql_10, ql_11, ql_12, ql_13, ql_14, ql_15, ql_16, ql_17, ql_18, ql_19, ql_20, ql_24, ql_25, ql_26, ql_27, ql_31, ql_32, ql_33, ql_36, ql_45, ql_46, ql_47, ql_48, ql_49, ql_50, ql_57, ql_63, ql_64, ql_65, ql_66, ql_67, ql_68, ql_69, ql_70, ql_71, ql_72, ql_73, ql_74, ql_75, ql_76, ql_77, ql_78, ql_79, ql_80, ql_81, ql_82, ql_83, ql_84, ql_85, ql_86, ql_87, ql_93, ql_96, ql_97, ql_100, ql_101, ql_120, ql_255, ql_256, ql_257, ql_511, ql_672, ql_900, ql_1000, ql_65536, rho_120_1, rho_120_3, rho_120_5, rho_120_6, rho_120_10, rho_120_11, rho_120_12, rho_120_15, rho_120_17, rho_120_18, rho_120_19, rho_120_20, rho_120_22, rho_120_23, kd_120, kd_122, ir_122, iw_122, al_122, l2, g, g', hLp, eK, nI_n1, h2, h9, er, nI_n4, nI_n6, hneg]; rfl
        · rw [e11]
          rw [e1] at er
          have e7' : P'.1 = P.1 + 1 := e7
          have e8' : P'.2 P.1 0 = k := by rw [← hc0]; exact e8
          have F2 := fZ_tr F1 e4
          have h21 : σ1.1 120 2 = nI P.1 := by rw [e5, rd_nk (by omega)]; exact h2
          let σ2 := mm_si σ1 120 2 (nI (P.1 + 1))
          have F3 : fZ_ σ1 σ2 := ⟨fun k' j x y => by
            by_cases hk' : k' = 120
            · subst hk'; simp (disch := omega) only [σ2, rd_nj]
            · simp (disch := omega) only [σ2, rd_nk], rfl⟩
          have hwl := (e10.2.2.2.1 P.1 (by omega)).1
          obtain ⟨q0, q1, q2, q3, q4⟩ := hwl
          have ht4 := e6.1 P.1 (by omega) 4 (by omega)
          rw [e8'] at ht4
          have f9 := e10.2.1
          obtain ⟨σ3, e12, f12, g12⟩ := x_rtL N dd e σ2 P' far' (some (.int (nI k))) (some (.int (nI e))) (some (.int (σ1.1 121 (48 + 9 * 4 + P.1)))) (by omega) e2 (by omega) e10 (lm_fZ (lm_fZ hl' F2) F3) (by rw [e7']; simp only [σ2, rd_eq]) ⟨fun i hi q hq => by simp (disch := omega) only [σ2, rd_nk]; exact e6.1 i hi q hq, fun q hq h9 => by simp (disch := omega) only [σ2, rd_nk]; exact e6.2.1 q hq h9, fun i hi hi9 q hq => by simp (disch := omega) only [σ2, rd_nk]; exact e6.2.2 i hi hi9 q hq⟩
          refine ⟨σ3, ?_, fZ_tr F2 (fZ_tr F3 f12), g12⟩
          have hfar' : far' = (if hw_ k = true ∧ P'.2 P.1 4 ≠ 99 then max far (P'.2 P.1 4) else far) := by
            have := e9
            rw [show (pu_ P 0 k).1 = P.1 from rfl, hc0] at this; exact this
          have hi84 : 84 + P.1 = 48 + 9 * 4 + P.1 := by omega
          simp only [σ2] at e12
          generalize fo_ (pa_ L s dd e P' 0 far').1 = A at e12 ⊢
          rw [rX9_readText_53]
          cases hH : hw_ k
          · rw [hH] at hfar'
            rw [if_neg (fun hh => by cases hh.1)] at hfar'
            rw [hfar'] at e12
            have he48 : e ≤ 48 := by omega
            simp (disch := omega) only [vX9_readText, rX9_readText_54, rX9_readText_55, rX9_readText_58, rX9_readText_61, rX9_readText_62, rX9_readText_65, rX9_readText_66, rX9_readText_67, rX9_readText_70, rX9_readText_71, rX9_readText_72, rX9_readText_74, rX9_readText_77, rX9_readText_78, rX9_readText_81, rX9_readText_83, rX9_readText_86, rX9_readText_87, rX9_readText_88, rX9_readText_89, rX9_readText_90, rX9_readText_91, rX9_readText_92, rX9_readText_93, rX9_readText_96, rX9_readText_98, rX9_readText_100, rX9_readText_103, rX9_readText_105, rX9_readText_106, rX9_readText_107, rX9_readText_108, rX9_readText_111, rX9_readText_113, rX9_readText_114, rX9_readText_117, rX9_readText_118, rX9_readText_119, rX9_readText_121, rX9_readText_122, rX9_readText_125, rX9_readText_128, rX9_readText_130, rX9_readText_131, rX9_readText_134, rX9_readText_136, rX9_readText_139, rX9_readText_140, rX9_readText_141, rX9_readText_142, rX9_readText_143, rX9_readText_146, rX9_readText_147, rX9_readText_148, rX9_readText_151, rX9_readText_153, rX9_readText_154, rX9_readText_157, rX9_readText_158, rX9_readText_159, rX9_readText_162, rX9_readText_165, rX9_readText_166, rX9_readText_169, rX9_readText_172, rX9_readText_174, mm_gd_t, mm_kc_v, mm_kc_n, mm_rfs, kl_n, kl_i, kl_r, kl_l, so_0, so_1, so_2, so_3, so_4, beq_self_eq_true, Bool.true_and, Bool.and_true, Bool.or_true, Bool.true_or, Bool.false_or, Bool.or_false, if_true, if_false, ↓reduceIte, decide_true, decide_false, Bool.not_false, Bool.not_true, not_true_eq_false, not_false_eq_true, eq_self, Nat.not_lt_zero, Bool.true_eq_false, Bool.false_eq_true, Nat.reduceAdd, Nat.reduceMul, Nat.reduceSub, Nat.reduceEqDiff, Nat.reduceLeDiff, Nat.reduceLT, Nat.reduceDiv, Nat.reduceMod, zb_0, zb_1, zb_b, on_nI, ml_l, rl_sl1, rl_sl2, rl_eq, rl_nj, rl_nk, qL_0, qL_1, qL_11, qL_10000, nI_lL, lN_add, lN_mul, Nat.zero_add, Nat.add_zero, mm_zr0n, mm_zr1n, mm_zrb, b2_0, b2_1, pk_mul, tn_nI, in_nI, mi_lt, rd_eq, rd_nj, rd_nk, rs_eq, rs_nk, rl_si, rl_sA, nI_add, nI_eqI, nI_leI2, nI_ltI2, ql_0, ql_1, ql_2, ql_3, ql_4, ql_5, ql_6, ql_7, ql_8, ql_9, ql_10, ql_11, ql_12, ql_13, ql_14, ql_15, ql_16, ql_17, ql_18, ql_19, ql_20, ql_24, ql_25, ql_26, ql_27, ql_31, ql_32, ql_33, ql_36, ql_45, ql_46, ql_47, ql_48, ql_49, ql_50, ql_57, ql_63, ql_64, ql_65, ql_66, ql_67, ql_68, ql_69, ql_70, ql_71, ql_72, ql_73, ql_74, ql_75, ql_76, ql_77, ql_78, ql_79, ql_80, ql_81, ql_82, ql_83, ql_84, ql_85, ql_86, ql_87, ql_93, ql_96, ql_97, ql_100, ql_101, ql_120, ql_255, ql_256, ql_257, ql_511, ql_672, ql_900, ql_1000, ql_65536, rho_120_1, rho_120_3, rho_120_5, rho_120_6, rho_120_10, rho_120_11, rho_120_12, rho_120_15, rho_120_17, rho_120_18, rho_120_19, rho_120_20, rho_120_22, rho_120_23, kd_120, kd_121, ir_121, iw_121, al_121, kd_122, ir_122, iw_122, al_122, l2, g, g', hLp, eK, nI_n1, h2, h21, h9, er, x_hasWay, hH, hi84]
            exact e12
          · rw [hH] at hfar'
            have hmv : mv_ k 4 (P'.2 P.1 4) = if (4 : Nat) = 4 ∧ P'.2 P.1 4 = 99 then -nI 1 else nI (P'.2 P.1 4) := mv_has (by rw [hp_4 k hk7]; exact hH)
            rw [hmv] at ht4
            have he48 : e ≤ 48 := by omega
            have hH' := hH
            unfold hw_ at hH'
            simp only [Bool.and_eq_true, decide_eq_true_eq] at hH'
            by_cases h99 : P'.2 P.1 4 = 99
            · rw [if_pos ⟨rfl, h99⟩] at ht4
              rw [if_neg (fun hh => hh.2 h99)] at hfar'
              rw [hfar', ht4] at e12
              simp (disch := omega) only [vX9_readText, rX9_readText_54, rX9_readText_55, rX9_readText_58, rX9_readText_61, rX9_readText_62, rX9_readText_65, rX9_readText_66, rX9_readText_67, rX9_readText_70, rX9_readText_71, rX9_readText_72, rX9_readText_74, rX9_readText_77, rX9_readText_78, rX9_readText_81, rX9_readText_83, rX9_readText_86, rX9_readText_87, rX9_readText_88, rX9_readText_89, rX9_readText_90, rX9_readText_91, rX9_readText_92, rX9_readText_93, rX9_readText_96, rX9_readText_98, rX9_readText_100, rX9_readText_103, rX9_readText_105, rX9_readText_106, rX9_readText_107, rX9_readText_108, rX9_readText_111, rX9_readText_113, rX9_readText_114, rX9_readText_117, rX9_readText_118, rX9_readText_119, rX9_readText_121, rX9_readText_122, rX9_readText_125, rX9_readText_128, rX9_readText_130, rX9_readText_131, rX9_readText_134, rX9_readText_136, rX9_readText_139, rX9_readText_140, rX9_readText_141, rX9_readText_142, rX9_readText_143, rX9_readText_146, rX9_readText_147, rX9_readText_148, rX9_readText_151, rX9_readText_153, rX9_readText_154, rX9_readText_157, rX9_readText_158, rX9_readText_159, rX9_readText_162, rX9_readText_165, rX9_readText_166, rX9_readText_169, rX9_readText_172, rX9_readText_174, mm_gd_t, mm_kc_v, mm_kc_n, mm_rfs, kl_n, kl_i, kl_r, kl_l, so_0, so_1, so_2, so_3, so_4, beq_self_eq_true, Bool.true_and, Bool.and_true, Bool.or_true, Bool.true_or, Bool.false_or, Bool.or_false, if_true, if_false, ↓reduceIte, decide_true, decide_false, Bool.not_false, Bool.not_true, not_true_eq_false, not_false_eq_true, eq_self, Nat.not_lt_zero, Bool.true_eq_false, Bool.false_eq_true, Nat.reduceAdd, Nat.reduceMul, Nat.reduceSub, Nat.reduceEqDiff, Nat.reduceLeDiff, Nat.reduceLT, Nat.reduceDiv, Nat.reduceMod, zb_0, zb_1, zb_b, on_nI, ml_l, rl_sl1, rl_sl2, rl_eq, rl_nj, rl_nk, qL_0, qL_1, qL_11, qL_10000, nI_lL, lN_add, lN_mul, Nat.zero_add, Nat.add_zero, mm_zr0n, mm_zr1n, mm_zrb, b2_0, b2_1, pk_mul, tn_nI, in_nI, mi_lt, rd_eq, rd_nj, rd_nk, rs_eq, rs_nk, rl_si, rl_sA, nI_add, nI_eqI, nI_leI2, nI_ltI2, ql_0, ql_1, ql_2, ql_3, ql_4, ql_5, ql_6, ql_7, ql_8, ql_9, ql_10, ql_11, ql_12, ql_13, ql_14, ql_15, ql_16, ql_17, ql_18, ql_19, ql_20, ql_24, ql_25, ql_26, ql_27, ql_31, ql_32, ql_33, ql_36, ql_45, ql_46, ql_47, ql_48, ql_49, ql_50, ql_57, ql_63, ql_64, ql_65, ql_66, ql_67, ql_68, ql_69, ql_70, ql_71, ql_72, ql_73, ql_74, ql_75, ql_76, ql_77, ql_78, ql_79, ql_80, ql_81, ql_82, ql_83, ql_84, ql_85, ql_86, ql_87, ql_93, ql_96, ql_97, ql_100, ql_101, ql_120, ql_255, ql_256, ql_257, ql_511, ql_672, ql_900, ql_1000, ql_65536, rho_120_1, rho_120_3, rho_120_5, rho_120_6, rho_120_10, rho_120_11, rho_120_12, rho_120_15, rho_120_17, rho_120_18, rho_120_19, rho_120_20, rho_120_22, rho_120_23, kd_120, kd_121, ir_121, iw_121, al_121, kd_122, ir_122, iw_122, al_122, l2, g, g', hLp, eK, nI_n1, h2, h21, h9, er, x_hasWay, hH, hi84, ht4, nI_n5, nI_n7]
              exact e12
            · rw [if_neg (fun hh => h99 hh.2)] at ht4
              rw [if_pos ⟨rfl, h99⟩] at hfar'
              have hq4 := q4 (by rw [e8']; omega) (by rw [e8']; omega)
              rw [ht4] at e12
              by_cases hlt : far < P'.2 P.1 4
              · have hlt' : ¬ P'.2 P.1 4 ≤ far := by omega
                rw [Nat.max_eq_right (by omega)] at hfar'
                rw [hfar'] at e12
                simp (disch := omega) only [vX9_readText, rX9_readText_54, rX9_readText_55, rX9_readText_58, rX9_readText_61, rX9_readText_62, rX9_readText_65, rX9_readText_66, rX9_readText_67, rX9_readText_70, rX9_readText_71, rX9_readText_72, rX9_readText_74, rX9_readText_77, rX9_readText_78, rX9_readText_81, rX9_readText_83, rX9_readText_86, rX9_readText_87, rX9_readText_88, rX9_readText_89, rX9_readText_90, rX9_readText_91, rX9_readText_92, rX9_readText_93, rX9_readText_96, rX9_readText_98, rX9_readText_100, rX9_readText_103, rX9_readText_105, rX9_readText_106, rX9_readText_107, rX9_readText_108, rX9_readText_111, rX9_readText_113, rX9_readText_114, rX9_readText_117, rX9_readText_118, rX9_readText_119, rX9_readText_121, rX9_readText_122, rX9_readText_125, rX9_readText_128, rX9_readText_130, rX9_readText_131, rX9_readText_134, rX9_readText_136, rX9_readText_139, rX9_readText_140, rX9_readText_141, rX9_readText_142, rX9_readText_143, rX9_readText_146, rX9_readText_147, rX9_readText_148, rX9_readText_151, rX9_readText_153, rX9_readText_154, rX9_readText_157, rX9_readText_158, rX9_readText_159, rX9_readText_162, rX9_readText_165, rX9_readText_166, rX9_readText_169, rX9_readText_172, rX9_readText_174, mm_gd_t, mm_kc_v, mm_kc_n, mm_rfs, kl_n, kl_i, kl_r, kl_l, so_0, so_1, so_2, so_3, so_4, beq_self_eq_true, Bool.true_and, Bool.and_true, Bool.or_true, Bool.true_or, Bool.false_or, Bool.or_false, if_true, if_false, ↓reduceIte, decide_true, decide_false, Bool.not_false, Bool.not_true, not_true_eq_false, not_false_eq_true, eq_self, Nat.not_lt_zero, Bool.true_eq_false, Bool.false_eq_true, Nat.reduceAdd, Nat.reduceMul, Nat.reduceSub, Nat.reduceEqDiff, Nat.reduceLeDiff, Nat.reduceLT, Nat.reduceDiv, Nat.reduceMod, zb_0, zb_1, zb_b, on_nI, ml_l, rl_sl1, rl_sl2, rl_eq, rl_nj, rl_nk, qL_0, qL_1, qL_11, qL_10000, nI_lL, lN_add, lN_mul, Nat.zero_add, Nat.add_zero, mm_zr0n, mm_zr1n, mm_zrb, b2_0, b2_1, pk_mul, tn_nI, in_nI, mi_lt, rd_eq, rd_nj, rd_nk, rs_eq, rs_nk, rl_si, rl_sA, nI_add, nI_eqI, nI_leI2, nI_ltI2, ql_0, ql_1, ql_2, ql_3, ql_4, ql_5, ql_6, ql_7, ql_8, ql_9, ql_10, ql_11, ql_12, ql_13, ql_14, ql_15, ql_16, ql_17, ql_18, ql_19, ql_20, ql_24, ql_25, ql_26, ql_27, ql_31, ql_32, ql_33, ql_36, ql_45, ql_46, ql_47, ql_48, ql_49, ql_50, ql_57, ql_63, ql_64, ql_65, ql_66, ql_67, ql_68, ql_69, ql_70, ql_71, ql_72, ql_73, ql_74, ql_75, ql_76, ql_77, ql_78, ql_79, ql_80, ql_81, ql_82, ql_83, ql_84, ql_85, ql_86, ql_87, ql_93, ql_96, ql_97, ql_100, ql_101, ql_120, ql_255, ql_256, ql_257, ql_511, ql_672, ql_900, ql_1000, ql_65536, rho_120_1, rho_120_3, rho_120_5, rho_120_6, rho_120_10, rho_120_11, rho_120_12, rho_120_15, rho_120_17, rho_120_18, rho_120_19, rho_120_20, rho_120_22, rho_120_23, kd_120, kd_121, ir_121, iw_121, al_121, kd_122, ir_122, iw_122, al_122, l2, g, g', hLp, eK, nI_n1, h2, h21, h9, er, x_hasWay, hH, hi84, ht4, hlt, hlt']
                exact e12
              · have hlt' : P'.2 P.1 4 ≤ far := by omega
                rw [Nat.max_eq_left (by omega)] at hfar'
                rw [hfar'] at e12
                simp (disch := omega) only [vX9_readText, rX9_readText_54, rX9_readText_55, rX9_readText_58, rX9_readText_61, rX9_readText_62, rX9_readText_65, rX9_readText_66, rX9_readText_67, rX9_readText_70, rX9_readText_71, rX9_readText_72, rX9_readText_74, rX9_readText_77, rX9_readText_78, rX9_readText_81, rX9_readText_83, rX9_readText_86, rX9_readText_87, rX9_readText_88, rX9_readText_89, rX9_readText_90, rX9_readText_91, rX9_readText_92, rX9_readText_93, rX9_readText_96, rX9_readText_98, rX9_readText_100, rX9_readText_103, rX9_readText_105, rX9_readText_106, rX9_readText_107, rX9_readText_108, rX9_readText_111, rX9_readText_113, rX9_readText_114, rX9_readText_117, rX9_readText_118, rX9_readText_119, rX9_readText_121, rX9_readText_122, rX9_readText_125, rX9_readText_128, rX9_readText_130, rX9_readText_131, rX9_readText_134, rX9_readText_136, rX9_readText_139, rX9_readText_140, rX9_readText_141, rX9_readText_142, rX9_readText_143, rX9_readText_146, rX9_readText_147, rX9_readText_148, rX9_readText_151, rX9_readText_153, rX9_readText_154, rX9_readText_157, rX9_readText_158, rX9_readText_159, rX9_readText_162, rX9_readText_165, rX9_readText_166, rX9_readText_169, rX9_readText_172, rX9_readText_174, mm_gd_t, mm_kc_v, mm_kc_n, mm_rfs, kl_n, kl_i, kl_r, kl_l, so_0, so_1, so_2, so_3, so_4, beq_self_eq_true, Bool.true_and, Bool.and_true, Bool.or_true, Bool.true_or, Bool.false_or, Bool.or_false, if_true, if_false, ↓reduceIte, decide_true, decide_false, Bool.not_false, Bool.not_true, not_true_eq_false, not_false_eq_true, eq_self, Nat.not_lt_zero, Bool.true_eq_false, Bool.false_eq_true, Nat.reduceAdd, Nat.reduceMul, Nat.reduceSub, Nat.reduceEqDiff, Nat.reduceLeDiff, Nat.reduceLT, Nat.reduceDiv, Nat.reduceMod, zb_0, zb_1, zb_b, on_nI, ml_l, rl_sl1, rl_sl2, rl_eq, rl_nj, rl_nk, qL_0, qL_1, qL_11, qL_10000, nI_lL, lN_add, lN_mul, Nat.zero_add, Nat.add_zero, mm_zr0n, mm_zr1n, mm_zrb, b2_0, b2_1, pk_mul, tn_nI, in_nI, mi_lt, rd_eq, rd_nj, rd_nk, rs_eq, rs_nk, rl_si, rl_sA, nI_add, nI_eqI, nI_leI2, nI_ltI2, ql_0, ql_1, ql_2, ql_3, ql_4, ql_5, ql_6, ql_7, ql_8, ql_9, ql_10, ql_11, ql_12, ql_13, ql_14, ql_15, ql_16, ql_17, ql_18, ql_19, ql_20, ql_24, ql_25, ql_26, ql_27, ql_31, ql_32, ql_33, ql_36, ql_45, ql_46, ql_47, ql_48, ql_49, ql_50, ql_57, ql_63, ql_64, ql_65, ql_66, ql_67, ql_68, ql_69, ql_70, ql_71, ql_72, ql_73, ql_74, ql_75, ql_76, ql_77, ql_78, ql_79, ql_80, ql_81, ql_82, ql_83, ql_84, ql_85, ql_86, ql_87, ql_93, ql_96, ql_97, ql_100, ql_101, ql_120, ql_255, ql_256, ql_257, ql_511, ql_672, ql_900, ql_1000, ql_65536, rho_120_1, rho_120_3, rho_120_5, rho_120_6, rho_120_10, rho_120_11, rho_120_12, rho_120_15, rho_120_17, rho_120_18, rho_120_19, rho_120_20, rho_120_22, rho_120_23, kd_120, kd_121, ir_121, iw_121, al_121, kd_122, ir_122, iw_122, al_122, l2, g, g', hLp, eK, nI_n1, h2, h21, h9, er, x_hasWay, hH, hi84, ht4, hlt, hlt']
                exact e12
theorem x_readText {σ : mm_M} {s : Nat} {L : Nat → Nat} (hl : lm_ok σ s L) :
    ∃ σ', mm_ev mX9_readText [.ref 120] mm_H σ = some (some (.int (fo_ (pt_ L s).1)), mm_H, σ') ∧ fZ_ σ σ' ∧ ((pt_ L s).1 = none → σ'.1 120 2 = nI (pt_ L s).2.1 ∧ rm_ 48 (σ'.1 121) (pt_ L s).2) := by
  let σ0 := mm_si σ 120 2 (nI 0)
  have F0 : fZ_ σ σ0 := ⟨fun k j x y => by
    by_cases hk : k = 120
    · subst hk; simp (disch := omega) only [σ0, rd_nj]
    · simp (disch := omega) only [σ0, rd_nk], rfl⟩
  obtain ⟨σ1, e1, f1, f1', g1, _⟩ := x_rtZ 45 0 σ0 (by omega)
  have F1 := fZ_tr F0 f1
  have hl1 := lm_fZ hl F1
  obtain ⟨l1, l2, l3, l4⟩ := hl1
  have h20 : σ1.1 120 2 = nI 0 := by rw [f1']; simp only [σ0, rd_eq]
  have e1' : mm_ev mX9_readText [.ref 120] mm_H σ = mm_run mX9_readText mm_H 29 [some (.ref 120), some (.int (nI 45)), none, none, none, none] [] σ1 := by
    rw [← e1]
    simp (disch := omega) only [vX9_readText, rX9_readText_0, rX9_readText_1, rX9_readText_2, rX9_readText_5, rX9_readText_6, mm_gd_t, mm_kc_v, mm_kc_n, mm_rfs, kl_n, kl_i, kl_r, kl_l, so_0, so_1, so_2, so_3, so_4, beq_self_eq_true, Bool.true_and, Bool.and_true, Bool.or_true, Bool.true_or, Bool.false_or, Bool.or_false, if_true, if_false, ↓reduceIte, decide_true, decide_false, Bool.not_false, Bool.not_true, not_true_eq_false, not_false_eq_true, eq_self, Nat.not_lt_zero, Bool.true_eq_false, Bool.false_eq_true, Nat.reduceAdd, Nat.reduceMul, Nat.reduceSub, Nat.reduceEqDiff, Nat.reduceLeDiff, Nat.reduceLT, Nat.reduceDiv, Nat.reduceMod, zb_0, zb_1, zb_b, on_nI, ml_l, rl_sl1, rl_sl2, rl_eq, rl_nj, rl_nk, qL_0, qL_1, qL_11, qL_10000, nI_lL, lN_add, lN_mul, Nat.zero_add, Nat.add_zero, mm_zr0n, mm_zr1n, mm_zrb, b2_0, b2_1, pk_mul, tn_nI, in_nI, mi_lt, rd_eq, rd_nj, rd_nk, rs_eq, rs_nk, rl_si, rl_sA, nI_add, nI_eqI, nI_leI2, nI_ltI2, ql_0, ql_1, ql_2, ql_3, ql_4, ql_5, ql_6, ql_7, ql_8, ql_9, ql_10, ql_11, ql_12, ql_13, ql_14, ql_15, ql_16, ql_17, ql_18, ql_19, ql_20, ql_24, ql_25, ql_26, ql_27, ql_31, ql_32, ql_33, ql_36, ql_45, ql_46, ql_47, ql_48, ql_49, ql_50, ql_57, ql_63, ql_64, ql_65, ql_66, ql_67, ql_68, ql_69, ql_70, ql_71, ql_72, ql_73, ql_74, ql_75, ql_76, ql_77, ql_78, ql_79, ql_80, ql_81, ql_82, ql_83, ql_84, ql_85, ql_86, ql_87, ql_93, ql_96, ql_97, ql_100, ql_101, ql_120, ql_255, ql_256, ql_257, ql_511, ql_672, ql_900, ql_1000, ql_65536, rho_120_1, rho_120_3, rho_120_5, rho_120_6, rho_120_10, rho_120_11, rho_120_12, rho_120_15, rho_120_17, rho_120_18, rho_120_19, rho_120_20, rho_120_22, rho_120_23, kd_120]
    rfl
  rw [e1']
  by_cases hs0 : s = 0
  · have hpt : pt_ L s = (some 0, p0_) := by unfold pt_; rw [if_pos (Or.inl hs0)]
    rw [hpt]
    refine ⟨σ1, ?_, F1, fun h => by cases h⟩
    rw [hs0] at l2
    simp (disch := omega) only [vX9_readText, rX9_readText_29, rX9_readText_30, rX9_readText_33, rX9_readText_36, rX9_readText_37, rX9_readText_40, rX9_readText_41, rX9_readText_42, rX9_readText_44, rX9_readText_47, rX9_readText_48, rX9_readText_49, rX9_readText_50, rX9_readText_51, rX9_readText_52, mm_gd_t, mm_kc_v, mm_kc_n, mm_rfs, kl_n, kl_i, kl_r, kl_l, so_0, so_1, so_2, so_3, so_4, beq_self_eq_true, Bool.true_and, Bool.and_true, Bool.or_true, Bool.true_or, Bool.false_or, Bool.or_false, if_true, if_false, ↓reduceIte, decide_true, decide_false, Bool.not_false, Bool.not_true, not_true_eq_false, not_false_eq_true, eq_self, Nat.not_lt_zero, Bool.true_eq_false, Bool.false_eq_true, Nat.reduceAdd, Nat.reduceMul, Nat.reduceSub, Nat.reduceEqDiff, Nat.reduceLeDiff, Nat.reduceLT, Nat.reduceDiv, Nat.reduceMod, zb_0, zb_1, zb_b, on_nI, ml_l, rl_sl1, rl_sl2, rl_eq, rl_nj, rl_nk, qL_0, qL_1, qL_11, qL_10000, nI_lL, lN_add, lN_mul, Nat.zero_add, Nat.add_zero, mm_zr0n, mm_zr1n, mm_zrb, b2_0, b2_1, pk_mul, tn_nI, in_nI, mi_lt, rd_eq, rd_nj, rd_nk, rs_eq, rs_nk, rl_si, rl_sA, nI_add, nI_eqI, nI_leI2, nI_ltI2, ql_0, ql_1, ql_2, ql_3, ql_4, ql_5, ql_6, ql_7, ql_8, ql_9, ql_10, ql_11, ql_12, ql_13, ql_14, ql_15, ql_16, ql_17, ql_18, ql_19, ql_20, ql_24, ql_25, ql_26, ql_27, ql_31, ql_32, ql_33, ql_36, ql_45, ql_46, ql_47, ql_48, ql_49, ql_50, ql_57, ql_63, ql_64, ql_65, ql_66, ql_67, ql_68, ql_69, ql_70, ql_71, ql_72, ql_73, ql_74, ql_75, ql_76, ql_77, ql_78, ql_79, ql_80, ql_81, ql_82, ql_83, ql_84, ql_85, ql_86, ql_87, ql_93, ql_96, ql_97, ql_100, ql_101, ql_120, ql_255, ql_256, ql_257, ql_511, ql_672, ql_900, ql_1000, ql_65536, rho_120_1, rho_120_3, rho_120_5, rho_120_6, rho_120_10, rho_120_11, rho_120_12, rho_120_15, rho_120_17, rho_120_18, rho_120_19, rho_120_20, rho_120_22, rho_120_23, kd_120, l2, fo_]
  · have hL0 := l3 0 (by omega)
    have h4 := l4 0
    by_cases h81 : L 0 = 81
    · have hpt : pt_ L s = pa_ L s (s - 1) 1 p0_ 0 0 := by unfold pt_; rw [if_neg (by omega)]
      rw [hpt]
      obtain ⟨σ2, e2, f2, d2⟩ := x_rtL (s - 1) (s - 1) 1 σ1 p0_ 0 none none none (Nat.le_refl _) (by omega) (by omega) pw_0 ⟨l1, l2, l3, l4⟩ h20 ⟨fun i hi => absurd hi (Nat.not_lt_zero _), fun q hq _ => by
        rw [if_neg (show ¬ q < 0 by omega)]
        show σ1.1 121 (48 + 9 * q + 0) = nI 0
        rw [show 48 + 9 * q + 0 = 48 + 9 * q by omega]
        exact g1 (9 * q) (by omega) (by omega), fun i _ hi9 q hq => by
        rw [show 48 + 9 * q + i = 48 + (9 * q + i) by omega]
        exact g1 _ (by omega) (by omega)⟩
      refine ⟨σ2, ?_, fZ_tr F1 f2, fun hn => ⟨(d2 hn).1, (d2 hn).2.1⟩⟩
      generalize fo_ (pa_ L s (s - 1) 1 p0_ 0 0).1 = A at e2 ⊢
      rw [h81] at hL0
      simp (disch := omega) only [vX9_readText, rX9_readText_29, rX9_readText_30, rX9_readText_33, rX9_readText_36, rX9_readText_37, rX9_readText_40, rX9_readText_41, rX9_readText_42, rX9_readText_44, rX9_readText_47, rX9_readText_48, rX9_readText_49, rX9_readText_50, rX9_readText_51, rX9_readText_52, mm_gd_t, mm_kc_v, mm_kc_n, mm_rfs, kl_n, kl_i, kl_r, kl_l, so_0, so_1, so_2, so_3, so_4, beq_self_eq_true, Bool.true_and, Bool.and_true, Bool.or_true, Bool.true_or, Bool.false_or, Bool.or_false, if_true, if_false, ↓reduceIte, decide_true, decide_false, Bool.not_false, Bool.not_true, not_true_eq_false, not_false_eq_true, eq_self, Nat.not_lt_zero, Bool.true_eq_false, Bool.false_eq_true, Nat.reduceAdd, Nat.reduceMul, Nat.reduceSub, Nat.reduceEqDiff, Nat.reduceLeDiff, Nat.reduceLT, Nat.reduceDiv, Nat.reduceMod, zb_0, zb_1, zb_b, on_nI, ml_l, rl_sl1, rl_sl2, rl_eq, rl_nj, rl_nk, qL_0, qL_1, qL_11, qL_10000, nI_lL, lN_add, lN_mul, Nat.zero_add, Nat.add_zero, mm_zr0n, mm_zr1n, mm_zrb, b2_0, b2_1, pk_mul, tn_nI, in_nI, mi_lt, rd_eq, rd_nj, rd_nk, rs_eq, rs_nk, rl_si, rl_sA, nI_add, nI_eqI, nI_leI2, nI_ltI2, ql_0, ql_1, ql_2, ql_3, ql_4, ql_5, ql_6, ql_7, ql_8, ql_9, ql_10, ql_11, ql_12, ql_13, ql_14, ql_15, ql_16, ql_17, ql_18, ql_19, ql_20, ql_24, ql_25, ql_26, ql_27, ql_31, ql_32, ql_33, ql_36, ql_45, ql_46, ql_47, ql_48, ql_49, ql_50, ql_57, ql_63, ql_64, ql_65, ql_66, ql_67, ql_68, ql_69, ql_70, ql_71, ql_72, ql_73, ql_74, ql_75, ql_76, ql_77, ql_78, ql_79, ql_80, ql_81, ql_82, ql_83, ql_84, ql_85, ql_86, ql_87, ql_93, ql_96, ql_97, ql_100, ql_101, ql_120, ql_255, ql_256, ql_257, ql_511, ql_672, ql_900, ql_1000, ql_65536, rho_120_1, rho_120_3, rho_120_5, rho_120_6, rho_120_10, rho_120_11, rho_120_12, rho_120_15, rho_120_17, rho_120_18, rho_120_19, rho_120_20, rho_120_22, rho_120_23, kd_120, kd_122, ir_122, iw_122, al_122, l2, hs0, hL0]
      exact e2
    · have hpt : pt_ L s = (some 0, p0_) := by unfold pt_; rw [if_pos (Or.inr h81)]
      rw [hpt]
      refine ⟨σ1, ?_, F1, fun h => by cases h⟩
      simp (disch := omega) only [vX9_readText, rX9_readText_29, rX9_readText_30, rX9_readText_33, rX9_readText_36, rX9_readText_37, rX9_readText_40, rX9_readText_41, rX9_readText_42, rX9_readText_44, rX9_readText_47, rX9_readText_48, rX9_readText_49, rX9_readText_50, rX9_readText_51, rX9_readText_52, mm_gd_t, mm_kc_v, mm_kc_n, mm_rfs, kl_n, kl_i, kl_r, kl_l, so_0, so_1, so_2, so_3, so_4, beq_self_eq_true, Bool.true_and, Bool.and_true, Bool.or_true, Bool.true_or, Bool.false_or, Bool.or_false, if_true, if_false, ↓reduceIte, decide_true, decide_false, Bool.not_false, Bool.not_true, not_true_eq_false, not_false_eq_true, eq_self, Nat.not_lt_zero, Bool.true_eq_false, Bool.false_eq_true, Nat.reduceAdd, Nat.reduceMul, Nat.reduceSub, Nat.reduceEqDiff, Nat.reduceLeDiff, Nat.reduceLT, Nat.reduceDiv, Nat.reduceMod, zb_0, zb_1, zb_b, on_nI, ml_l, rl_sl1, rl_sl2, rl_eq, rl_nj, rl_nk, qL_0, qL_1, qL_11, qL_10000, nI_lL, lN_add, lN_mul, Nat.zero_add, Nat.add_zero, mm_zr0n, mm_zr1n, mm_zrb, b2_0, b2_1, pk_mul, tn_nI, in_nI, mi_lt, rd_eq, rd_nj, rd_nk, rs_eq, rs_nk, rl_si, rl_sA, nI_add, nI_eqI, nI_leI2, nI_ltI2, ql_0, ql_1, ql_2, ql_3, ql_4, ql_5, ql_6, ql_7, ql_8, ql_9, ql_10, ql_11, ql_12, ql_13, ql_14, ql_15, ql_16, ql_17, ql_18, ql_19, ql_20, ql_24, ql_25, ql_26, ql_27, ql_31, ql_32, ql_33, ql_36, ql_45, ql_46, ql_47, ql_48, ql_49, ql_50, ql_57, ql_63, ql_64, ql_65, ql_66, ql_67, ql_68, ql_69, ql_70, ql_71, ql_72, ql_73, ql_74, ql_75, ql_76, ql_77, ql_78, ql_79, ql_80, ql_81, ql_82, ql_83, ql_84, ql_85, ql_86, ql_87, ql_93, ql_96, ql_97, ql_100, ql_101, ql_120, ql_255, ql_256, ql_257, ql_511, ql_672, ql_900, ql_1000, ql_65536, rho_120_1, rho_120_3, rho_120_5, rho_120_6, rho_120_10, rho_120_11, rho_120_12, rho_120_15, rho_120_17, rho_120_18, rho_120_19, rho_120_20, rho_120_22, rho_120_23, kd_120, kd_122, ir_122, iw_122, al_122, l2, hs0, hL0, h81, fo_]

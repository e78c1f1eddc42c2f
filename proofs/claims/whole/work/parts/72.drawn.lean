/-! ===== drawn (wb_..: from kit/laws), heard, secrets ===== -/
theorem wb_tb (n : Nat) : (lN n).toBitVec = BitVec.ofNat 64 n := rfl
theorem wb_inj {a b : Int64} (h : a.toBitVec = b.toBitVec) : a = b := Int64.toBitVec_inj.mp h
theorem wb_tn {n : Nat} (h : n < 2 ^ 64) : (lN n).toBitVec.toNat = n := by rw [wb_tb, BitVec.toNat_ofNat, Nat.mod_eq_of_lt h]
theorem wb_of (x : Int64) : ∃ n, n < 2 ^ 64 ∧ x = lN n := ⟨x.toBitVec.toNat, x.toBitVec.isLt, wb_inj (by rw [wb_tb]; simp)⟩
theorem wb_cu : ∀ k, k < 64 → ((nI k).toInt64.toUInt64 &&& Int64.toUInt64 63) = UInt64.ofNat k := by decide +kernel
theorem wb_shr {n k : Nat} (hn : n < 2 ^ 64) (hk : k < 64) : ((lN n).toUInt64 >>> ((nI k).toInt64.toUInt64 &&& Int64.toUInt64 63)).toInt64 = lN (n / 2 ^ k) := by
  rw [wb_cu k hk]
  apply wb_inj
  apply BitVec.eq_of_toNat_eq
  show ((lN n).toUInt64 >>> UInt64.ofNat k).toNat = (BitVec.ofNat 64 _).toNat
  have h1 : (UInt64.ofNat k).toNat = k := by
    show (BitVec.ofNat 64 k).toNat = k
    rw [BitVec.toNat_ofNat, Nat.mod_eq_of_lt (by omega)]
  have h2 : (lN n).toUInt64.toNat = n := wb_tn hn
  rw [UInt64.toNat_shiftRight, h1, h2, Nat.mod_eq_of_lt hk, Nat.shiftRight_eq_div_pow, BitVec.toNat_ofNat, Nat.mod_eq_of_lt (Nat.lt_of_le_of_lt (Nat.div_le_self _ _) hn)]
def dw_ (x : Int64) : Nat := (mm_uL x (nI 33)).toInt32.toNatClampNeg
theorem dw_e (x : Int64) : (mm_uL x (nI 33)).toInt32 = nI (dw_ x) ∧ dw_ x < 2147483648 := by
  obtain ⟨n, hn, rfl⟩ := wb_of x
  have e : (mm_uL (lN n) (nI 33)).toInt32 = nI (n / 2 ^ 33) := by
    unfold mm_uL
    rw [wb_shr hn (by decide), lN_i]
  have h2 : n / 2 ^ 33 < 2147483648 := by omega
  unfold dw_
  rw [e, tn_nI h2]
  exact ⟨rfl, h2⟩
theorem s_sumL {σ : mm_M} {b : Nat} {v : Nat → Nat} {f : Bool} {L : List (Nat × Nat)} (hb : rb_ b) (hn : rn_ b σ v f L) (hL : L.length ≤ 9) : ∀ (d j : Nat), j + d = L.length →
    mm_run mX6_sumOfSpoken mm_H 4 [some (.ref b), some (.int (nI ((L.map (fun e => e.2)).take j).sum)), some (.int (nI j))] [] σ = some (some (.int (nI (L.map (fun e => e.2)).sum)), mm_H, σ)
  | 0, j, h => by
    obtain ⟨k0, k1, k2, k3, k4, k5, k6, k7, k8, k9, k10, k11, k12, k13, k14⟩ := hb
    obtain ⟨n1, n2, n3, n4⟩ := hn
    have h2 : L.length ≤ j := by omega
    rw [List.take_of_length_le (by rw [List.length_map]; exact h2)]
    rw [rX6_sumOfSpoken_4]
    simp (disch := omega) only [vX6_sumOfSpoken, rX6_sumOfSpoken_0, rX6_sumOfSpoken_1, rX6_sumOfSpoken_2, rX6_sumOfSpoken_3, rX6_sumOfSpoken_5, rX6_sumOfSpoken_6, rX6_sumOfSpoken_9, rX6_sumOfSpoken_12, rX6_sumOfSpoken_13, rX6_sumOfSpoken_14, rX6_sumOfSpoken_17, rX6_sumOfSpoken_18, rX6_sumOfSpoken_19, rX6_sumOfSpoken_20, rX6_sumOfSpoken_21, rX6_sumOfSpoken_24, rX6_sumOfSpoken_27, rX6_sumOfSpoken_28, mm_gd_t, mm_kc_v, mm_kc_n, mm_rfs, kl_n, kl_i, kl_r, kl_l, so_0, so_1, so_2, so_3, so_4, beq_self_eq_true, Bool.true_and, Bool.and_true, Bool.or_true, Bool.true_or, Bool.false_or, Bool.or_false, if_true, if_false, ↓reduceIte, decide_true, decide_false, Bool.not_false, Bool.not_true, not_true_eq_false, not_false_eq_true, eq_self, Nat.not_lt_zero, Bool.true_eq_false, Bool.false_eq_true, Nat.reduceAdd, Nat.reduceMul, Nat.reduceSub, Nat.reduceEqDiff, Nat.reduceLeDiff, Nat.reduceLT, Nat.reduceDiv, Nat.reduceMod, zb_0, zb_1, zb_b, on_nI, ml_l, rl_sl1, rl_sl2, rl_eq, rl_nj, rl_nk, qL_0, qL_1, qL_11, qL_10000, nI_lL, lN_add, lN_mul, Nat.zero_add, Nat.add_zero, mm_zr0n, mm_zr1n, mm_zrb, b2_0, b2_1, pk_mul, tn_nI, in_nI, mi_lt, rd_eq, rd_nj, rd_nk, rs_eq, rs_nk, rl_si, rl_sA, nI_add, nI_eqI, nI_leI2, nI_ltI2, ql_0, ql_1, ql_2, ql_3, ql_4, ql_5, ql_6, ql_7, ql_8, ql_9, ql_10, ql_11, ql_12, ql_13, ql_14, ql_15, ql_16, ql_17, ql_18, ql_19, ql_20, ql_24, ql_25, ql_26, ql_27, ql_31, ql_32, ql_33, ql_36, ql_45, ql_46, ql_47, ql_48, ql_49, ql_50, ql_57, ql_63, ql_64, ql_65, ql_66, ql_67, ql_68, ql_69, ql_70, ql_71, ql_72, ql_73, ql_74, ql_75, ql_76, ql_77, ql_78, ql_79, ql_80, ql_81, ql_82, ql_83, ql_84, ql_85, ql_86, ql_87, ql_93, ql_96, ql_97, ql_100, ql_101, ql_120, ql_255, ql_256, ql_257, ql_511, ql_672, ql_900, ql_1000, ql_65536, k0, n2, h2]
  | d + 1, j, h => by
    have hb' := hb
    obtain ⟨k0, k1, k2, k3, k4, k5, k6, k7, k8, k9, k10, k11, k12, k13, k14⟩ := hb
    have ih := s_sumL hb' hn hL d (j + 1) (by omega)
    obtain ⟨n1, n2, n3, n4⟩ := hn
    have hj : j < L.length := by omega
    have e0 := (n4 j hj).1
    have h2 : ¬ L.length ≤ j := by omega
    have e1 : ((L.map (fun e => e.2)).take (j + 1)).sum = ((L.map (fun e => e.2)).take j).sum + (L.getD j (0, 0)).2 := by
      have a1 : L.getD j (0, 0) = L[j] := by simp [List.getD, hj]
      rw [List.take_succ, a1]
      simp [hj]
    rw [e1] at ih
    rw [rX6_sumOfSpoken_4]
    simp (disch := omega) only [vX6_sumOfSpoken, rX6_sumOfSpoken_0, rX6_sumOfSpoken_1, rX6_sumOfSpoken_2, rX6_sumOfSpoken_3, rX6_sumOfSpoken_5, rX6_sumOfSpoken_6, rX6_sumOfSpoken_9, rX6_sumOfSpoken_12, rX6_sumOfSpoken_13, rX6_sumOfSpoken_14, rX6_sumOfSpoken_17, rX6_sumOfSpoken_18, rX6_sumOfSpoken_19, rX6_sumOfSpoken_20, rX6_sumOfSpoken_21, rX6_sumOfSpoken_24, rX6_sumOfSpoken_27, rX6_sumOfSpoken_28, mm_gd_t, mm_kc_v, mm_kc_n, mm_rfs, kl_n, kl_i, kl_r, kl_l, so_0, so_1, so_2, so_3, so_4, beq_self_eq_true, Bool.true_and, Bool.and_true, Bool.or_true, Bool.true_or, Bool.false_or, Bool.or_false, if_true, if_false, ↓reduceIte, decide_true, decide_false, Bool.not_false, Bool.not_true, not_true_eq_false, not_false_eq_true, eq_self, Nat.not_lt_zero, Bool.true_eq_false, Bool.false_eq_true, Nat.reduceAdd, Nat.reduceMul, Nat.reduceSub, Nat.reduceEqDiff, Nat.reduceLeDiff, Nat.reduceLT, Nat.reduceDiv, Nat.reduceMod, zb_0, zb_1, zb_b, on_nI, ml_l, rl_sl1, rl_sl2, rl_eq, rl_nj, rl_nk, qL_0, qL_1, qL_11, qL_10000, nI_lL, lN_add, lN_mul, Nat.zero_add, Nat.add_zero, mm_zr0n, mm_zr1n, mm_zrb, b2_0, b2_1, pk_mul, tn_nI, in_nI, mi_lt, rd_eq, rd_nj, rd_nk, rs_eq, rs_nk, rl_si, rl_sA, nI_add, nI_eqI, nI_leI2, nI_ltI2, ql_0, ql_1, ql_2, ql_3, ql_4, ql_5, ql_6, ql_7, ql_8, ql_9, ql_10, ql_11, ql_12, ql_13, ql_14, ql_15, ql_16, ql_17, ql_18, ql_19, ql_20, ql_24, ql_25, ql_26, ql_27, ql_31, ql_32, ql_33, ql_36, ql_45, ql_46, ql_47, ql_48, ql_49, ql_50, ql_57, ql_63, ql_64, ql_65, ql_66, ql_67, ql_68, ql_69, ql_70, ql_71, ql_72, ql_73, ql_74, ql_75, ql_76, ql_77, ql_78, ql_79, ql_80, ql_81, ql_82, ql_83, ql_84, ql_85, ql_86, ql_87, ql_93, ql_96, ql_97, ql_100, ql_101, ql_120, ql_255, ql_256, ql_257, ql_511, ql_672, ql_900, ql_1000, ql_65536, k0, k2, k6, k11, n2, h2, e0, ih]
theorem s_sumOfSpoken {σ : mm_M} {b : Nat} {v : Nat → Nat} {f : Bool} {L : List (Nat × Nat)} (hb : rb_ b) (hn : rn_ b σ v f L) (hL : L.length ≤ 9) :
    mm_ev mX6_sumOfSpoken [.ref b] mm_H σ = some (some (.int (nI (L.map (fun e => e.2)).sum)), mm_H, σ) := by
  simp (disch := omega) only [vX6_sumOfSpoken, rX6_sumOfSpoken_0, rX6_sumOfSpoken_1, rX6_sumOfSpoken_2, rX6_sumOfSpoken_3, rX6_sumOfSpoken_5, rX6_sumOfSpoken_6, rX6_sumOfSpoken_9, rX6_sumOfSpoken_12, rX6_sumOfSpoken_13, rX6_sumOfSpoken_14, rX6_sumOfSpoken_17, rX6_sumOfSpoken_18, rX6_sumOfSpoken_19, rX6_sumOfSpoken_20, rX6_sumOfSpoken_21, rX6_sumOfSpoken_24, rX6_sumOfSpoken_27, rX6_sumOfSpoken_28, mm_gd_t, mm_kc_v, mm_kc_n, mm_rfs, kl_n, kl_i, kl_r, kl_l, so_0, so_1, so_2, so_3, so_4, beq_self_eq_true, Bool.true_and, Bool.and_true, Bool.or_true, Bool.true_or, Bool.false_or, Bool.or_false, if_true, if_false, ↓reduceIte, decide_true, decide_false, Bool.not_false, Bool.not_true, not_true_eq_false, not_false_eq_true, eq_self, Nat.not_lt_zero, Bool.true_eq_false, Bool.false_eq_true, Nat.reduceAdd, Nat.reduceMul, Nat.reduceSub, Nat.reduceEqDiff, Nat.reduceLeDiff, Nat.reduceLT, Nat.reduceDiv, Nat.reduceMod, zb_0, zb_1, zb_b, on_nI, ml_l, rl_sl1, rl_sl2, rl_eq, rl_nj, rl_nk, qL_0, qL_1, qL_11, qL_10000, nI_lL, lN_add, lN_mul, Nat.zero_add, Nat.add_zero, mm_zr0n, mm_zr1n, mm_zrb, b2_0, b2_1, pk_mul, tn_nI, in_nI, mi_lt, rd_eq, rd_nj, rd_nk, rs_eq, rs_nk, rl_si, rl_sA, nI_add, nI_eqI, nI_leI2, nI_ltI2, ql_0, ql_1, ql_2, ql_3, ql_4, ql_5, ql_6, ql_7, ql_8, ql_9, ql_10, ql_11, ql_12, ql_13, ql_14, ql_15, ql_16, ql_17, ql_18, ql_19, ql_20, ql_24, ql_25, ql_26, ql_27, ql_31, ql_32, ql_33, ql_36, ql_45, ql_46, ql_47, ql_48, ql_49, ql_50, ql_57, ql_63, ql_64, ql_65, ql_66, ql_67, ql_68, ql_69, ql_70, ql_71, ql_72, ql_73, ql_74, ql_75, ql_76, ql_77, ql_78, ql_79, ql_80, ql_81, ql_82, ql_83, ql_84, ql_85, ql_86, ql_87, ql_93, ql_96, ql_97, ql_100, ql_101, ql_120, ql_255, ql_256, ql_257, ql_511, ql_672, ql_900, ql_1000, ql_65536]
  exact s_sumL hb hn hL _ 0 (Nat.zero_add _)
/-- what a run counts; m times -/
def dv_ (P : pp_) (x : Int64) : Nat := (sp_ P 511 (dw_ x % 10) (dw_ x / 16 % 10) (dw_ x / 256 % 10)).length + (sp_ P 511 (dw_ x % 10) (dw_ x / 16 % 10) (dw_ x / 256 % 10)).sum + (if (rr_ P (dw_ x % 10) (dw_ x / 16 % 10) (dw_ x / 256 % 10)).2.1 = true then 100 else 0)
def nx64 (x : Int64) : Int64 := x * 6364136223846793005 + 1442695040888963407
def dr_ (P : pp_) : Nat → Int64 → Nat → Nat × Int64
  | 0, x, t => (t, x)
  | d + 1, x, t => dr_ P d (nx64 x) (t + dv_ P (nx64 x))
def cd_ (σ σ' : mm_M) : Prop := (∀ k, ¬ (56 ≤ k ∧ k < 87) → ¬ (95 ≤ k ∧ k < 120) → σ'.1 k = σ.1 k) ∧ (∀ k j, (k ≠ 0 ∨ j ≠ 13) → σ'.2.1 k j = σ.2.1 k j) ∧ σ'.2.2 = σ.2.2
theorem cd_tr {a b c : mm_M} (h1 : cd_ a b) (h2 : cd_ b c) : cd_ a c := ⟨fun k h h' => (h2.1 k h h').trans (h1.1 k h h'), fun k j hk => (h2.2.1 k j hk).trans (h1.2.1 k j hk), h2.2.2.trans h1.2.2⟩
theorem cd_refl (σ : mm_M) : cd_ σ σ := ⟨fun _ _ _ => rfl, fun _ _ _ => rfl, rfl⟩
theorem rc_cd {σ σ' : mm_M} {P : pp_} (hr : rc_ 15 σ P) (hP : P.1 ≤ 9) (hf : cd_ σ σ') : rc_ 15 σ' P := by
  refine ⟨?_, fun i hi' p hp => ?_⟩
  · rw [hf.1 15 (by omega) (by omega)]; exact hr.1
  · rw [hf.1 (15 + 2 + i) (by omega) (by omega)]; exact hr.2 i hi' p hp
theorem s_drawnL {P : pp_} {m : Nat} (hP : wf_ P) (hm : m ≤ 20) : ∀ (d i t : Nat) (σ : mm_M) (x4 : Option Value), i + d = m → rc_ 15 σ P →
    ∃ σ', mm_run mX8_drawn mm_H 18 [some (.ref 0), some (.int (nI m)), some (.int (nI t)), some (.int (nI i)), x4] [] σ = some (some (.int (nI (dr_ P d (σ.2.1 0 13) t).1)), mm_H, σ') ∧ cd_ σ σ' ∧ σ'.2.1 0 13 = (dr_ P d (σ.2.1 0 13) t).2
  | 0, i, t, σ, x4, h, hr => by
    refine ⟨σ, ?_, cd_refl _, rfl⟩
    have h2 : m ≤ i := by omega
    rw [rX8_drawn_18]
    simp (disch := omega) only [vX8_drawn, rX8_drawn_0, rX8_drawn_1, rX8_drawn_2, rX8_drawn_5, rX8_drawn_6, rX8_drawn_8, rX8_drawn_11, rX8_drawn_13, rX8_drawn_14, rX8_drawn_15, rX8_drawn_16, rX8_drawn_17, rX8_drawn_19, rX8_drawn_20, rX8_drawn_23, rX8_drawn_24, rX8_drawn_25, rX8_drawn_28, rX8_drawn_31, rX8_drawn_32, rX8_drawn_35, rX8_drawn_36, rX8_drawn_39, rX8_drawn_40, rX8_drawn_43, rX8_drawn_45, rX8_drawn_46, rX8_drawn_47, rX8_drawn_49, rX8_drawn_50, rX8_drawn_53, rX8_drawn_54, rX8_drawn_57, rX8_drawn_59, rX8_drawn_61, rX8_drawn_62, rX8_drawn_64, rX8_drawn_66, rX8_drawn_67, rX8_drawn_69, rX8_drawn_70, rX8_drawn_72, rX8_drawn_75, rX8_drawn_76, rX8_drawn_78, rX8_drawn_79, rX8_drawn_82, rX8_drawn_83, rX8_drawn_84, rX8_drawn_87, rX8_drawn_90, rX8_drawn_91, rX8_drawn_94, rX8_drawn_97, rX8_drawn_98, rX8_drawn_99, rX8_drawn_102, rX8_drawn_105, rX8_drawn_108, rX8_drawn_110, rX8_drawn_113, rX8_drawn_114, rX8_drawn_115, rX8_drawn_116, rX8_drawn_117, rX8_drawn_120, rX8_drawn_123, rX8_drawn_124, mm_gd_t, mm_kc_v, mm_kc_n, mm_rfs, kl_n, kl_i, kl_r, kl_l, so_0, so_1, so_2, so_3, so_4, beq_self_eq_true, Bool.true_and, Bool.and_true, Bool.or_true, Bool.true_or, Bool.false_or, Bool.or_false, if_true, if_false, ↓reduceIte, decide_true, decide_false, Bool.not_false, Bool.not_true, not_true_eq_false, not_false_eq_true, eq_self, Nat.not_lt_zero, Bool.true_eq_false, Bool.false_eq_true, Nat.reduceAdd, Nat.reduceMul, Nat.reduceSub, Nat.reduceEqDiff, Nat.reduceLeDiff, Nat.reduceLT, Nat.reduceDiv, Nat.reduceMod, zb_0, zb_1, zb_b, on_nI, ml_l, rl_sl1, rl_sl2, rl_eq, rl_nj, rl_nk, qL_0, qL_1, qL_11, qL_10000, nI_lL, lN_add, lN_mul, Nat.zero_add, Nat.add_zero, mm_zr0n, mm_zr1n, mm_zrb, b2_0, b2_1, pk_mul, tn_nI, in_nI, mi_lt, rd_eq, rd_nj, rd_nk, rs_eq, rs_nk, rl_si, rl_sA, nI_add, nI_eqI, nI_leI2, nI_ltI2, ql_0, ql_1, ql_2, ql_3, ql_4, ql_5, ql_6, ql_7, ql_8, ql_9, ql_10, ql_11, ql_12, ql_13, ql_14, ql_15, ql_16, ql_17, ql_18, ql_19, ql_20, ql_24, ql_25, ql_26, ql_27, ql_31, ql_32, ql_33, ql_36, ql_45, ql_46, ql_47, ql_48, ql_49, ql_50, ql_57, ql_63, ql_64, ql_65, ql_66, ql_67, ql_68, ql_69, ql_70, ql_71, ql_72, ql_73, ql_74, ql_75, ql_76, ql_77, ql_78, ql_79, ql_80, ql_81, ql_82, ql_83, ql_84, ql_85, ql_86, ql_87, ql_93, ql_96, ql_97, ql_100, ql_101, ql_120, ql_255, ql_256, ql_257, ql_511, ql_672, ql_900, ql_1000, ql_65536, h2, dr_]
  | d + 1, i, t, σ, x4, h, hr => by
    have h9 := hP.1
    have C1 : cd_ σ (mm_sl σ 0 13 (nx64 (σ.2.1 0 13))) := ⟨fun _ _ _ => rfl, fun k j hk => by
      by_cases hk0 : k = 0
      · subst hk0; rw [rl_nj (by omega)]
      · rw [rl_nk hk0], rfl⟩
    have hr1 := rc_cd hr h9 C1
    obtain ⟨dw1, dw2⟩ := dw_e (nx64 (σ.2.1 0 13))
    have ha : dw_ (nx64 (σ.2.1 0 13)) % 10 ≤ 9 := by omega
    have hb : dw_ (nx64 (σ.2.1 0 13)) / 16 % 10 ≤ 9 := by omega
    have hc : dw_ (nx64 (σ.2.1 0 13)) / 256 % 10 ≤ 9 := by omega
    obtain ⟨σ1, e1, f1, r1⟩ := s_go rb_72 hP hr1 ha hb hc
    have hl := (rr_ok hP ha hb hc).2.2.2
    have e2 := s_sumOfSpoken rb_72 r1 (by omega)
    have hsp := sp_all hP ha hb hc
    have C2 : cd_ σ σ1 := cd_tr C1 ⟨fun k h1 h2 => f1.1 k (by omega), fun k j _ => by rw [f1.2], by rw [f1.2]⟩
    have hsd : σ1.2.1 0 13 = nx64 (σ.2.1 0 13) := by rw [f1.2, rl_eq]
    obtain ⟨σ2, e3, c3, s3⟩ := s_drawnL hP hm d (i + 1) (t + dv_ P (nx64 (σ.2.1 0 13))) σ1 (some (.int (nI (dw_ (nx64 (σ.2.1 0 13)))))) (by omega) (rc_cd hr h9 C2)
    rw [hsd] at e3 s3
    refine ⟨σ2, ?_, cd_tr C2 c3, s3⟩
    show _ = some (some (Value.int (nI (dr_ P d (nx64 (σ.2.1 0 13)) (t + dv_ P (nx64 (σ.2.1 0 13)))).1)), mm_H, σ2)
    rw [← e3]
    have h2 : ¬ m ≤ i := by omega
    have n2 := r1.2.1
    have n3 := r1.2.2.1
    have hnx : σ.2.1 0 13 * 6364136223846793005 + 1442695040888963407 = nx64 (σ.2.1 0 13) := rfl
    have hdv : dv_ P (nx64 (σ.2.1 0 13)) = (rr_ P (dw_ (nx64 (σ.2.1 0 13)) % 10) (dw_ (nx64 (σ.2.1 0 13)) / 16 % 10) (dw_ (nx64 (σ.2.1 0 13)) / 256 % 10)).2.2.length + ((rr_ P (dw_ (nx64 (σ.2.1 0 13)) % 10) (dw_ (nx64 (σ.2.1 0 13)) / 16 % 10) (dw_ (nx64 (σ.2.1 0 13)) / 256 % 10)).2.2.map (fun e => e.2)).sum + (if (rr_ P (dw_ (nx64 (σ.2.1 0 13)) % 10) (dw_ (nx64 (σ.2.1 0 13)) / 16 % 10) (dw_ (nx64 (σ.2.1 0 13)) / 256 % 10)).2.1 = true then 100 else 0) := by
      unfold dv_
      rw [hsp, List.length_map]
    rw [hdv]
    generalize rr_ P (dw_ (nx64 (σ.2.1 0 13)) % 10) (dw_ (nx64 (σ.2.1 0 13)) / 16 % 10) (dw_ (nx64 (σ.2.1 0 13)) / 256 % 10) = R at *
    rw [rX8_drawn_18]
    cases hR : R.2.1 <;> rw [hR] at n3 <;> simp only [b2_t, b2_f] at n3 <;> simp (disch := omega) only [vX8_drawn, rX8_drawn_0, rX8_drawn_1, rX8_drawn_2, rX8_drawn_5, rX8_drawn_6, rX8_drawn_8, rX8_drawn_11, rX8_drawn_13, rX8_drawn_14, rX8_drawn_15, rX8_drawn_16, rX8_drawn_17, rX8_drawn_19, rX8_drawn_20, rX8_drawn_23, rX8_drawn_24, rX8_drawn_25, rX8_drawn_28, rX8_drawn_31, rX8_drawn_32, rX8_drawn_35, rX8_drawn_36, rX8_drawn_39, rX8_drawn_40, rX8_drawn_43, rX8_drawn_45, rX8_drawn_46, rX8_drawn_47, rX8_drawn_49, rX8_drawn_50, rX8_drawn_53, rX8_drawn_54, rX8_drawn_57, rX8_drawn_59, rX8_drawn_61, rX8_drawn_62, rX8_drawn_64, rX8_drawn_66, rX8_drawn_67, rX8_drawn_69, rX8_drawn_70, rX8_drawn_72, rX8_drawn_75, rX8_drawn_76, rX8_drawn_78, rX8_drawn_79, rX8_drawn_82, rX8_drawn_83, rX8_drawn_84, rX8_drawn_87, rX8_drawn_90, rX8_drawn_91, rX8_drawn_94, rX8_drawn_97, rX8_drawn_98, rX8_drawn_99, rX8_drawn_102, rX8_drawn_105, rX8_drawn_108, rX8_drawn_110, rX8_drawn_113, rX8_drawn_114, rX8_drawn_115, rX8_drawn_116, rX8_drawn_117, rX8_drawn_120, rX8_drawn_123, rX8_drawn_124, mm_gd_t, mm_kc_v, mm_kc_n, mm_rfs, kl_n, kl_i, kl_r, kl_l, so_0, so_1, so_2, so_3, so_4, beq_self_eq_true, Bool.true_and, Bool.and_true, Bool.or_true, Bool.true_or, Bool.false_or, Bool.or_false, if_true, if_false, ↓reduceIte, decide_true, decide_false, Bool.not_false, Bool.not_true, not_true_eq_false, not_false_eq_true, eq_self, Nat.not_lt_zero, Bool.true_eq_false, Bool.false_eq_true, Nat.reduceAdd, Nat.reduceMul, Nat.reduceSub, Nat.reduceEqDiff, Nat.reduceLeDiff, Nat.reduceLT, Nat.reduceDiv, Nat.reduceMod, zb_0, zb_1, zb_b, on_nI, ml_l, rl_sl1, rl_sl2, rl_eq, rl_nj, rl_nk, qL_0, qL_1, qL_11, qL_10000, nI_lL, lN_add, lN_mul, Nat.zero_add, Nat.add_zero, mm_zr0n, mm_zr1n, mm_zrb, b2_0, b2_1, pk_mul, tn_nI, in_nI, mi_lt, rd_eq, rd_nj, rd_nk, rs_eq, rs_nk, rl_si, rl_sA, nI_add, nI_eqI, nI_leI2, nI_ltI2, ql_0, ql_1, ql_2, ql_3, ql_4, ql_5, ql_6, ql_7, ql_8, ql_9, ql_10, ql_11, ql_12, ql_13, ql_14, ql_15, ql_16, ql_17, ql_18, ql_19, ql_20, ql_24, ql_25, ql_26, ql_27, ql_31, ql_32, ql_33, ql_36, ql_45, ql_46, ql_47, ql_48, ql_49, ql_50, ql_57, ql_63, ql_64, ql_65, ql_66, ql_67, ql_68, ql_69, ql_70, ql_71, ql_72, ql_73, ql_74, ql_75, ql_76, ql_77, ql_78, ql_79, ql_80, ql_81, ql_82, ql_83, ql_84, ql_85, ql_86, ql_87, ql_93, ql_96, ql_97, ql_100, ql_101, ql_120, ql_255, ql_256, ql_257, ql_511, ql_672, ql_900, ql_1000, ql_65536, rho_0_0, rho_0_1, rho_0_2, rho_0_3, rho_0_4, rho_0_5, rho_0_6, rho_0_7, rho_0_8, rho_0_9, rho_0_10, rho_0_11, rho_0_12, rho_72_2, rho_72_3, rho_72_4, kd_0, kd_72, h2, hnx, dw1, dv_nI, re_nI, e1, e2, n2, n3, hR]
def a_drm (m : Int32) : Bool := decide (1 ≤ m.toInt) && decide (m.toInt ≤ 20)
theorem a_drm_of {m : Int32} (h : a_drm m = true) : ∃ n, 1 ≤ n ∧ n ≤ 20 ∧ m = nI n := by
  unfold a_drm at h
  simp only [Bool.and_eq_true, decide_eq_true_eq] at h
  obtain ⟨j, hj, rfl⟩ := bl_of (x := m) (n := 21) (by omega) (by unfold bl_; simp only [Bool.and_eq_true, decide_eq_true_eq]; omega)
  rw [nI_toInt (show j < 2 ^ 31 by omega)] at h
  exact ⟨j, by omega, by omega, rfl⟩
theorem lt_i {x : Int32} {n : Nat} (hn : n < 2147483648) : (x < nI n) = (x.toInt < (n : Int)) := by rw [Int32.lt_iff_toInt_lt, nI_toInt (show n < 2 ^ 31 by omega)]
theorem ge_i {x : Int32} {n : Nat} (hn : n < 2147483648) : (x ≤ nI n) = (x.toInt ≤ (n : Int)) := by rw [Int32.le_iff_toInt_le, nI_toInt (show n < 2 ^ 31 by omega)]
theorem gt_i {x : Int32} {n : Nat} (hn : n < 2147483648) : (nI n < x) = ((n : Int) < x.toInt) := by rw [Int32.lt_iff_toInt_lt, nI_toInt (show n < 2 ^ 31 by omega)]
def a_drawn (P : pp_) (s : Int64) (m : Int32) : Int32 × Int64 := if a_drm m = true then (nI (dr_ P m.toNatClampNeg s 0).1, (dr_ P m.toNatClampNeg s 0).2) else (-nI 2, s)
theorem s_drawn {σ : mm_M} {P : pp_} {m : Int32} (hP : wf_ P) (hr : rc_ 15 σ P) :
    ∃ σ', mm_ev mX8_drawn [.ref 0, .int m] mm_H σ = some (some (.int (a_drawn P (σ.2.1 0 13) m).1), mm_H, σ') ∧ cd_ σ σ' ∧ σ'.2.1 0 13 = (a_drawn P (σ.2.1 0 13) m).2 := by
  unfold a_drawn
  cases h : a_drm m
  · refine ⟨σ, ?_, cd_refl _, rfl⟩
    unfold a_drm at h
    by_cases h1 : m.toInt < 1
    · have h1' : m.toInt < ((1 : Nat) : Int) := by omega
      simp (disch := omega) only [vX8_drawn, rX8_drawn_0, rX8_drawn_1, rX8_drawn_2, rX8_drawn_5, rX8_drawn_6, rX8_drawn_8, rX8_drawn_11, rX8_drawn_13, rX8_drawn_14, rX8_drawn_15, rX8_drawn_16, rX8_drawn_17, mm_gd_t, mm_kc_v, mm_kc_n, mm_rfs, kl_n, kl_i, kl_r, kl_l, so_0, so_1, so_2, so_3, so_4, beq_self_eq_true, Bool.true_and, Bool.and_true, Bool.or_true, Bool.true_or, Bool.false_or, Bool.or_false, if_true, if_false, ↓reduceIte, decide_true, decide_false, Bool.not_false, Bool.not_true, not_true_eq_false, not_false_eq_true, eq_self, Nat.not_lt_zero, Bool.true_eq_false, Bool.false_eq_true, Nat.reduceAdd, Nat.reduceMul, Nat.reduceSub, Nat.reduceEqDiff, Nat.reduceLeDiff, Nat.reduceLT, Nat.reduceDiv, Nat.reduceMod, zb_0, zb_1, zb_b, on_nI, ml_l, rl_sl1, rl_sl2, rl_eq, rl_nj, rl_nk, qL_0, qL_1, qL_11, qL_10000, nI_lL, lN_add, lN_mul, Nat.zero_add, Nat.add_zero, mm_zr0n, mm_zr1n, mm_zrb, b2_0, b2_1, pk_mul, tn_nI, in_nI, mi_lt, rd_eq, rd_nj, rd_nk, rs_eq, rs_nk, rl_si, rl_sA, nI_add, nI_eqI, nI_leI2, nI_ltI2, ql_0, ql_1, ql_2, ql_3, ql_4, ql_5, ql_6, ql_7, ql_8, ql_9, ql_10, ql_11, ql_12, ql_13, ql_14, ql_15, ql_16, ql_17, ql_18, ql_19, ql_20, ql_24, ql_25, ql_26, ql_27, ql_31, ql_32, ql_33, ql_36, ql_45, ql_46, ql_47, ql_48, ql_49, ql_50, ql_57, ql_63, ql_64, ql_65, ql_66, ql_67, ql_68, ql_69, ql_70, ql_71, ql_72, ql_73, ql_74, ql_75, ql_76, ql_77, ql_78, ql_79, ql_80, ql_81, ql_82, ql_83, ql_84, ql_85, ql_86, ql_87, ql_93, ql_96, ql_97, ql_100, ql_101, ql_120, ql_255, ql_256, ql_257, ql_511, ql_672, ql_900, ql_1000, ql_65536, lt_i, h1']
    · have h2 : ¬ m.toInt ≤ 20 := by
        intro h2
        rw [decide_eq_true (show 1 ≤ m.toInt by omega), decide_eq_true h2] at h
        cases h
      have h1' : ¬ m.toInt < ((1 : Nat) : Int) := by omega
      have h2' : ¬ m.toInt ≤ ((20 : Nat) : Int) := by omega
      simp (disch := omega) only [vX8_drawn, rX8_drawn_0, rX8_drawn_1, rX8_drawn_2, rX8_drawn_5, rX8_drawn_6, rX8_drawn_8, rX8_drawn_11, rX8_drawn_13, rX8_drawn_14, rX8_drawn_15, rX8_drawn_16, rX8_drawn_17, mm_gd_t, mm_kc_v, mm_kc_n, mm_rfs, kl_n, kl_i, kl_r, kl_l, so_0, so_1, so_2, so_3, so_4, beq_self_eq_true, Bool.true_and, Bool.and_true, Bool.or_true, Bool.true_or, Bool.false_or, Bool.or_false, if_true, if_false, ↓reduceIte, decide_true, decide_false, Bool.not_false, Bool.not_true, not_true_eq_false, not_false_eq_true, eq_self, Nat.not_lt_zero, Bool.true_eq_false, Bool.false_eq_true, Nat.reduceAdd, Nat.reduceMul, Nat.reduceSub, Nat.reduceEqDiff, Nat.reduceLeDiff, Nat.reduceLT, Nat.reduceDiv, Nat.reduceMod, zb_0, zb_1, zb_b, on_nI, ml_l, rl_sl1, rl_sl2, rl_eq, rl_nj, rl_nk, qL_0, qL_1, qL_11, qL_10000, nI_lL, lN_add, lN_mul, Nat.zero_add, Nat.add_zero, mm_zr0n, mm_zr1n, mm_zrb, b2_0, b2_1, pk_mul, tn_nI, in_nI, mi_lt, rd_eq, rd_nj, rd_nk, rs_eq, rs_nk, rl_si, rl_sA, nI_add, nI_eqI, nI_leI2, nI_ltI2, ql_0, ql_1, ql_2, ql_3, ql_4, ql_5, ql_6, ql_7, ql_8, ql_9, ql_10, ql_11, ql_12, ql_13, ql_14, ql_15, ql_16, ql_17, ql_18, ql_19, ql_20, ql_24, ql_25, ql_26, ql_27, ql_31, ql_32, ql_33, ql_36, ql_45, ql_46, ql_47, ql_48, ql_49, ql_50, ql_57, ql_63, ql_64, ql_65, ql_66, ql_67, ql_68, ql_69, ql_70, ql_71, ql_72, ql_73, ql_74, ql_75, ql_76, ql_77, ql_78, ql_79, ql_80, ql_81, ql_82, ql_83, ql_84, ql_85, ql_86, ql_87, ql_93, ql_96, ql_97, ql_100, ql_101, ql_120, ql_255, ql_256, ql_257, ql_511, ql_672, ql_900, ql_1000, ql_65536, lt_i, ge_i, h1', h2']
  · obtain ⟨n, hn1, hn2, rfl⟩ := a_drm_of h
    obtain ⟨σ1, e1, c1, s1⟩ := s_drawnL hP hn2 n 0 0 σ none (by omega) hr
    have g1 : ¬ n < 1 := by omega
    refine ⟨σ1, ?_, c1, ?_⟩
    · rw [tn_nI (by omega)]
      simp (disch := omega) only [vX8_drawn, rX8_drawn_0, rX8_drawn_1, rX8_drawn_2, rX8_drawn_5, rX8_drawn_6, rX8_drawn_8, rX8_drawn_11, rX8_drawn_13, rX8_drawn_14, rX8_drawn_15, rX8_drawn_16, rX8_drawn_17, mm_gd_t, mm_kc_v, mm_kc_n, mm_rfs, kl_n, kl_i, kl_r, kl_l, so_0, so_1, so_2, so_3, so_4, beq_self_eq_true, Bool.true_and, Bool.and_true, Bool.or_true, Bool.true_or, Bool.false_or, Bool.or_false, if_true, if_false, ↓reduceIte, decide_true, decide_false, Bool.not_false, Bool.not_true, not_true_eq_false, not_false_eq_true, eq_self, Nat.not_lt_zero, Bool.true_eq_false, Bool.false_eq_true, Nat.reduceAdd, Nat.reduceMul, Nat.reduceSub, Nat.reduceEqDiff, Nat.reduceLeDiff, Nat.reduceLT, Nat.reduceDiv, Nat.reduceMod, zb_0, zb_1, zb_b, on_nI, ml_l, rl_sl1, rl_sl2, rl_eq, rl_nj, rl_nk, qL_0, qL_1, qL_11, qL_10000, nI_lL, lN_add, lN_mul, Nat.zero_add, Nat.add_zero, mm_zr0n, mm_zr1n, mm_zrb, b2_0, b2_1, pk_mul, tn_nI, in_nI, mi_lt, rd_eq, rd_nj, rd_nk, rs_eq, rs_nk, rl_si, rl_sA, nI_add, nI_eqI, nI_leI2, nI_ltI2, ql_0, ql_1, ql_2, ql_3, ql_4, ql_5, ql_6, ql_7, ql_8, ql_9, ql_10, ql_11, ql_12, ql_13, ql_14, ql_15, ql_16, ql_17, ql_18, ql_19, ql_20, ql_24, ql_25, ql_26, ql_27, ql_31, ql_32, ql_33, ql_36, ql_45, ql_46, ql_47, ql_48, ql_49, ql_50, ql_57, ql_63, ql_64, ql_65, ql_66, ql_67, ql_68, ql_69, ql_70, ql_71, ql_72, ql_73, ql_74, ql_75, ql_76, ql_77, ql_78, ql_79, ql_80, ql_81, ql_82, ql_83, ql_84, ql_85, ql_86, ql_87, ql_93, ql_96, ql_97, ql_100, ql_101, ql_120, ql_255, ql_256, ql_257, ql_511, ql_672, ql_900, ql_1000, ql_65536, g1, hn2]
      exact e1
    · rw [tn_nI (by omega)]; exact s1
/-! the reference -/
def md_ (σ σ' : mm_M) : Prop := (∀ k j, (k ≠ 123 ∧ k ≠ 124 ∧ k ≠ 126 ∧ k ≠ 127 ∧ (k ≠ 120 ∨ (j ≠ 2 ∧ j ≠ 7 ∧ j ≠ 13 ∧ j ≠ 14)) ∧ (k ≠ 121 ∨ j < 48)) → σ'.1 k j = σ.1 k j) ∧ (∀ k j, (k ≠ 128 ∧ (k ≠ 120 ∨ j ≠ 21)) → σ'.2.1 k j = σ.2.1 k j) ∧ σ'.2.2 = σ.2.2
theorem md_refl (σ : mm_M) : md_ σ σ := ⟨fun _ _ _ => rfl, fun _ _ _ => rfl, rfl⟩
theorem md_tr {a b c : mm_M} (h1 : md_ a b) (h2 : md_ b c) : md_ a c := ⟨fun k j hk => (h2.1 k j hk).trans (h1.1 k j hk), fun k j hk => (h2.2.1 k j hk).trans (h1.2.1 k j hk), h2.2.2.trans h1.2.2⟩
theorem rq_md {σ σ' : mm_M} {P : pp_} (h : rq_ 0 σ P) (hP : P.1 ≤ 9) (hf : md_ σ σ') : rq_ 0 σ' P := by
  refine ⟨?_, rm_cg h.2 hP fun j _ _ => hf.1 121 j (by omega)⟩
  rw [hf.1 120 0 (by omega)]; exact h.1
theorem x_drawnI {σ : mm_M} {v : Nat → Nat} {f : Bool} {S : List Nat} (hn : rx_ σ v f S) (hS : S.length ≤ 9) {x3 : Option Value} {w1 w4 : Int32} (t0 : Nat) : ∀ (d j : Nat), j + d = S.length →
    mm_run mX9_drawn mm_H 103 [some (.ref 120), some (.int w1), some (.int (nI (t0 + (S.take j).sum))), x3, some (.int w4), some (.int (nI j))] [] σ = mm_run mX9_drawn mm_H 128 [some (.ref 120), some (.int w1), some (.int (nI (t0 + S.sum))), x3, some (.int w4), some (.int (nI S.length))] [] σ
  | 0, j, h => by
    obtain ⟨n1, n2, n3, n4⟩ := hn
    have h2 : S.length ≤ j := by omega
    have h3 : j = S.length := by omega
    rw [List.take_of_length_le h2]
    rw [rX9_drawn_103]
    simp (disch := omega) only [vX9_drawn, rX9_drawn_105, rX9_drawn_106, rX9_drawn_109, rX9_drawn_112, rX9_drawn_113, rX9_drawn_114, rX9_drawn_117, rX9_drawn_119, rX9_drawn_120, rX9_drawn_121, rX9_drawn_122, rX9_drawn_125, mm_gd_t, mm_kc_v, mm_kc_n, mm_rfs, kl_n, kl_i, kl_r, kl_l, so_0, so_1, so_2, so_3, so_4, beq_self_eq_true, Bool.true_and, Bool.and_true, Bool.or_true, Bool.true_or, Bool.false_or, Bool.or_false, if_true, if_false, ↓reduceIte, decide_true, decide_false, Bool.not_false, Bool.not_true, not_true_eq_false, not_false_eq_true, eq_self, Nat.not_lt_zero, Bool.true_eq_false, Bool.false_eq_true, Nat.reduceAdd, Nat.reduceMul, Nat.reduceSub, Nat.reduceEqDiff, Nat.reduceLeDiff, Nat.reduceLT, Nat.reduceDiv, Nat.reduceMod, zb_0, zb_1, zb_b, on_nI, ml_l, rl_sl1, rl_sl2, rl_eq, rl_nj, rl_nk, qL_0, qL_1, qL_11, qL_10000, nI_lL, lN_add, lN_mul, Nat.zero_add, Nat.add_zero, mm_zr0n, mm_zr1n, mm_zrb, b2_0, b2_1, pk_mul, tn_nI, in_nI, mi_lt, rd_eq, rd_nj, rd_nk, rs_eq, rs_nk, rl_si, rl_sA, nI_add, nI_eqI, nI_leI2, nI_ltI2, ql_0, ql_1, ql_2, ql_3, ql_4, ql_5, ql_6, ql_7, ql_8, ql_9, ql_10, ql_11, ql_12, ql_13, ql_14, ql_15, ql_16, ql_17, ql_18, ql_19, ql_20, ql_24, ql_25, ql_26, ql_27, ql_31, ql_32, ql_33, ql_36, ql_45, ql_46, ql_47, ql_48, ql_49, ql_50, ql_57, ql_63, ql_64, ql_65, ql_66, ql_67, ql_68, ql_69, ql_70, ql_71, ql_72, ql_73, ql_74, ql_75, ql_76, ql_77, ql_78, ql_79, ql_80, ql_81, ql_82, ql_83, ql_84, ql_85, ql_86, ql_87, ql_93, ql_96, ql_97, ql_100, ql_101, ql_120, ql_255, ql_256, ql_257, ql_511, ql_672, ql_900, ql_1000, ql_65536, rho_120_1, rho_120_3, rho_120_5, rho_120_6, rho_120_10, rho_120_11, rho_120_12, rho_120_15, rho_120_17, rho_120_18, rho_120_19, rho_120_20, rho_120_22, rho_120_23, kd_120, n2, h2]
    rw [h3]
  | d + 1, j, h => by
    have ih := x_drawnI hn hS (w1 := w1) (x3 := x3) (w4 := w4) t0 d (j + 1) (by omega)
    obtain ⟨n1, n2, n3, n4⟩ := hn
    have hj : j < S.length := by omega
    have e0 := n4 j hj
    have h2 : ¬ S.length ≤ j := by omega
    have e1 : t0 + (S.take (j + 1)).sum = t0 + (S.take j).sum + S.getD j 0 := by
      rw [List.take_succ, gd_e hj, List.getElem?_eq_getElem hj, List.sum_append]
      show t0 + (_ + (S[j] + 0)) = _
      omega
    rw [e1] at ih
    rw [← ih]
    rw [rX9_drawn_103]
    simp (disch := omega) only [vX9_drawn, rX9_drawn_105, rX9_drawn_106, rX9_drawn_109, rX9_drawn_112, rX9_drawn_113, rX9_drawn_114, rX9_drawn_117, rX9_drawn_119, rX9_drawn_120, rX9_drawn_121, rX9_drawn_122, rX9_drawn_125, mm_gd_t, mm_kc_v, mm_kc_n, mm_rfs, kl_n, kl_i, kl_r, kl_l, so_0, so_1, so_2, so_3, so_4, beq_self_eq_true, Bool.true_and, Bool.and_true, Bool.or_true, Bool.true_or, Bool.false_or, Bool.or_false, if_true, if_false, ↓reduceIte, decide_true, decide_false, Bool.not_false, Bool.not_true, not_true_eq_false, not_false_eq_true, eq_self, Nat.not_lt_zero, Bool.true_eq_false, Bool.false_eq_true, Nat.reduceAdd, Nat.reduceMul, Nat.reduceSub, Nat.reduceEqDiff, Nat.reduceLeDiff, Nat.reduceLT, Nat.reduceDiv, Nat.reduceMod, zb_0, zb_1, zb_b, on_nI, ml_l, rl_sl1, rl_sl2, rl_eq, rl_nj, rl_nk, qL_0, qL_1, qL_11, qL_10000, nI_lL, lN_add, lN_mul, Nat.zero_add, Nat.add_zero, mm_zr0n, mm_zr1n, mm_zrb, b2_0, b2_1, pk_mul, tn_nI, in_nI, mi_lt, rd_eq, rd_nj, rd_nk, rs_eq, rs_nk, rl_si, rl_sA, nI_add, nI_eqI, nI_leI2, nI_ltI2, ql_0, ql_1, ql_2, ql_3, ql_4, ql_5, ql_6, ql_7, ql_8, ql_9, ql_10, ql_11, ql_12, ql_13, ql_14, ql_15, ql_16, ql_17, ql_18, ql_19, ql_20, ql_24, ql_25, ql_26, ql_27, ql_31, ql_32, ql_33, ql_36, ql_45, ql_46, ql_47, ql_48, ql_49, ql_50, ql_57, ql_63, ql_64, ql_65, ql_66, ql_67, ql_68, ql_69, ql_70, ql_71, ql_72, ql_73, ql_74, ql_75, ql_76, ql_77, ql_78, ql_79, ql_80, ql_81, ql_82, ql_83, ql_84, ql_85, ql_86, ql_87, ql_93, ql_96, ql_97, ql_100, ql_101, ql_120, ql_255, ql_256, ql_257, ql_511, ql_672, ql_900, ql_1000, ql_65536, rho_120_1, rho_120_3, rho_120_5, rho_120_6, rho_120_10, rho_120_11, rho_120_12, rho_120_15, rho_120_17, rho_120_18, rho_120_19, rho_120_20, rho_120_22, rho_120_23, kd_120, kd_127, ir_127, iw_127, al_127, n2, h2, e0]
theorem x_drawnL {P : pp_} {m : Nat} (hP : wf_ P) (hm : m ≤ 20) : ∀ (d i t : Nat) (σ : mm_M) (x4 x5 : Option Value), i + d = m → rq_ 0 σ P →
    ∃ σ', mm_run mX9_drawn mm_H 19 [some (.ref 120), some (.int (nI m)), some (.int (nI t)), some (.int (nI i)), x4, x5] [] σ = some (some (.int (nI (dr_ P d (σ.2.1 120 21) t).1)), mm_H, σ') ∧ md_ σ σ' ∧ σ'.2.1 120 21 = (dr_ P d (σ.2.1 120 21) t).2
  | 0, i, t, σ, x4, x5, h, hr => by
    refine ⟨σ, ?_, md_refl _, rfl⟩
    have h2 : m ≤ i := by omega
    rw [rX9_drawn_19]
    simp (disch := omega) only [vX9_drawn, rX9_drawn_20, rX9_drawn_21, rX9_drawn_24, rX9_drawn_25, rX9_drawn_26, rX9_drawn_29, rX9_drawn_32, rX9_drawn_33, rX9_drawn_36, rX9_drawn_37, rX9_drawn_40, rX9_drawn_41, rX9_drawn_44, rX9_drawn_46, rX9_drawn_47, rX9_drawn_48, rX9_drawn_50, rX9_drawn_51, rX9_drawn_53, rX9_drawn_55, rX9_drawn_56, rX9_drawn_58, rX9_drawn_60, rX9_drawn_61, rX9_drawn_63, rX9_drawn_64, rX9_drawn_66, rX9_drawn_69, rX9_drawn_70, rX9_drawn_72, rX9_drawn_73, rX9_drawn_76, rX9_drawn_79, rX9_drawn_80, rX9_drawn_81, rX9_drawn_84, rX9_drawn_85, rX9_drawn_88, rX9_drawn_91, rX9_drawn_93, rX9_drawn_96, rX9_drawn_97, rX9_drawn_98, rX9_drawn_99, rX9_drawn_100, rX9_drawn_101, rX9_drawn_128, rX9_drawn_131, rX9_drawn_134, rX9_drawn_135, mm_gd_t, mm_kc_v, mm_kc_n, mm_rfs, kl_n, kl_i, kl_r, kl_l, so_0, so_1, so_2, so_3, so_4, beq_self_eq_true, Bool.true_and, Bool.and_true, Bool.or_true, Bool.true_or, Bool.false_or, Bool.or_false, if_true, if_false, ↓reduceIte, decide_true, decide_false, Bool.not_false, Bool.not_true, not_true_eq_false, not_false_eq_true, eq_self, Nat.not_lt_zero, Bool.true_eq_false, Bool.false_eq_true, Nat.reduceAdd, Nat.reduceMul, Nat.reduceSub, Nat.reduceEqDiff, Nat.reduceLeDiff, Nat.reduceLT, Nat.reduceDiv, Nat.reduceMod, zb_0, zb_1, zb_b, on_nI, ml_l, rl_sl1, rl_sl2, rl_eq, rl_nj, rl_nk, qL_0, qL_1, qL_11, qL_10000, nI_lL, lN_add, lN_mul, Nat.zero_add, Nat.add_zero, mm_zr0n, mm_zr1n, mm_zrb, b2_0, b2_1, pk_mul, tn_nI, in_nI, mi_lt, rd_eq, rd_nj, rd_nk, rs_eq, rs_nk, rl_si, rl_sA, nI_add, nI_eqI, nI_leI2, nI_ltI2, ql_0, ql_1, ql_2, ql_3, ql_4, ql_5, ql_6, ql_7, ql_8, ql_9, ql_10, ql_11, ql_12, ql_13, ql_14, ql_15, ql_16, ql_17, ql_18, ql_19, ql_20, ql_24, ql_25, ql_26, ql_27, ql_31, ql_32, ql_33, ql_36, ql_45, ql_46, ql_47, ql_48, ql_49, ql_50, ql_57, ql_63, ql_64, ql_65, ql_66, ql_67, ql_68, ql_69, ql_70, ql_71, ql_72, ql_73, ql_74, ql_75, ql_76, ql_77, ql_78, ql_79, ql_80, ql_81, ql_82, ql_83, ql_84, ql_85, ql_86, ql_87, ql_93, ql_96, ql_97, ql_100, ql_101, ql_120, ql_255, ql_256, ql_257, ql_511, ql_672, ql_900, ql_1000, ql_65536, h2, dr_]
  | d + 1, i, t, σ, x4, x5, h, hr => by
    have h9 := hP.1
    have C1 : md_ σ (mm_sl σ 120 21 (nx64 (σ.2.1 120 21))) := ⟨fun _ _ _ => rfl, fun k j hk => by
      by_cases hk0 : k = 120
      · subst hk0; rw [rl_nj (by omega)]
      · rw [rl_nk hk0], rfl⟩
    have hr1 := rq_md hr h9 C1
    obtain ⟨dw1, dw2⟩ := dw_e (nx64 (σ.2.1 120 21))
    have ha : dw_ (nx64 (σ.2.1 120 21)) % 10 ≤ 9 := by omega
    have hb : dw_ (nx64 (σ.2.1 120 21)) / 16 % 10 ≤ 9 := by omega
    have hc : dw_ (nx64 (σ.2.1 120 21)) / 256 % 10 ≤ 9 := by omega
    obtain ⟨σ1, e1, f1, r1⟩ := x_runBy (s := 511) hP (by decide) hr1 ha hb hc
    have hl := (sp_ok hP 511 ha hb hc).2
    have C2 : md_ σ σ1 := md_tr C1 ⟨(ms_R f1).1, fun k j hk => (ms_R f1).2.1 k j hk.1, (ms_R f1).2.2⟩
    have hsd : σ1.2.1 120 21 = nx64 (σ.2.1 120 21) := by rw [f1.2, rl_eq]
    have hnx : σ.2.1 120 21 * 6364136223846793005 + 1442695040888963407 = nx64 (σ.2.1 120 21) := rfl
    have hsk : sk_ 511 (rr_ P (dw_ (nx64 (σ.2.1 120 21)) % 10) (dw_ (nx64 (σ.2.1 120 21)) / 16 % 10) (dw_ (nx64 (σ.2.1 120 21)) / 256 % 10)).2.2 = sp_ P 511 (dw_ (nx64 (σ.2.1 120 21)) % 10) (dw_ (nx64 (σ.2.1 120 21)) / 16 % 10) (dw_ (nx64 (σ.2.1 120 21)) / 256 % 10) := rfl
    rw [hsk] at r1
    have hI := x_drawnI r1 hl (w1 := nI m) (x3 := some (.int (nI i))) (w4 := nI (dw_ (nx64 (σ.2.1 120 21)))) (t + ((sp_ P 511 (dw_ (nx64 (σ.2.1 120 21)) % 10) (dw_ (nx64 (σ.2.1 120 21)) / 16 % 10) (dw_ (nx64 (σ.2.1 120 21)) / 256 % 10)).length + (if (rr_ P (dw_ (nx64 (σ.2.1 120 21)) % 10) (dw_ (nx64 (σ.2.1 120 21)) / 16 % 10) (dw_ (nx64 (σ.2.1 120 21)) / 256 % 10)).2.1 = true then 100 else 0))) _ 0 (Nat.zero_add _)
    have hdv : t + ((sp_ P 511 (dw_ (nx64 (σ.2.1 120 21)) % 10) (dw_ (nx64 (σ.2.1 120 21)) / 16 % 10) (dw_ (nx64 (σ.2.1 120 21)) / 256 % 10)).length + (if (rr_ P (dw_ (nx64 (σ.2.1 120 21)) % 10) (dw_ (nx64 (σ.2.1 120 21)) / 16 % 10) (dw_ (nx64 (σ.2.1 120 21)) / 256 % 10)).2.1 = true then 100 else 0)) + (sp_ P 511 (dw_ (nx64 (σ.2.1 120 21)) % 10) (dw_ (nx64 (σ.2.1 120 21)) / 16 % 10) (dw_ (nx64 (σ.2.1 120 21)) / 256 % 10)).sum = t + dv_ P (nx64 (σ.2.1 120 21)) := by
      unfold dv_; omega
    rw [hdv] at hI
    obtain ⟨σ2, e3, c3, s3⟩ := x_drawnL hP hm d (i + 1) (t + dv_ P (nx64 (σ.2.1 120 21))) σ1 (some (.int (nI (dw_ (nx64 (σ.2.1 120 21)))))) (some (.int (nI (sp_ P 511 (dw_ (nx64 (σ.2.1 120 21)) % 10) (dw_ (nx64 (σ.2.1 120 21)) / 16 % 10) (dw_ (nx64 (σ.2.1 120 21)) / 256 % 10)).length))) (by omega) (rq_md hr h9 C2)
    rw [hsd] at e3 s3
    refine ⟨σ2, ?_, md_tr C2 c3, s3⟩
    show _ = some (some (Value.int (nI (dr_ P d (nx64 (σ.2.1 120 21)) (t + dv_ P (nx64 (σ.2.1 120 21)))).1)), mm_H, σ2)
    have h2 : ¬ m ≤ i := by omega
    have n2 := r1.2.1
    have n3 := r1.2.2.1
    rw [List.take_zero, List.sum_nil, Nat.add_zero] at hI
    rw [rX9_drawn_19]
    cases hR : (rr_ P (dw_ (nx64 (σ.2.1 120 21)) % 10) (dw_ (nx64 (σ.2.1 120 21)) / 16 % 10) (dw_ (nx64 (σ.2.1 120 21)) / 256 % 10)).2.1
    · rw [hR] at n3 hI
      simp only [b2_t, b2_f, if_false, if_true, Bool.false_eq_true, ↓reduceIte, Nat.add_zero] at n3 hI
      simp (disch := omega) only [vX9_drawn, rX9_drawn_20, rX9_drawn_21, rX9_drawn_24, rX9_drawn_25, rX9_drawn_26, rX9_drawn_29, rX9_drawn_32, rX9_drawn_33, rX9_drawn_36, rX9_drawn_37, rX9_drawn_40, rX9_drawn_41, rX9_drawn_44, rX9_drawn_46, rX9_drawn_47, rX9_drawn_48, rX9_drawn_50, rX9_drawn_51, rX9_drawn_53, rX9_drawn_55, rX9_drawn_56, rX9_drawn_58, rX9_drawn_60, rX9_drawn_61, rX9_drawn_63, rX9_drawn_64, rX9_drawn_66, rX9_drawn_69, rX9_drawn_70, rX9_drawn_72, rX9_drawn_73, rX9_drawn_76, rX9_drawn_79, rX9_drawn_80, rX9_drawn_81, rX9_drawn_84, rX9_drawn_85, rX9_drawn_88, rX9_drawn_91, rX9_drawn_93, rX9_drawn_96, rX9_drawn_97, rX9_drawn_98, rX9_drawn_99, rX9_drawn_100, rX9_drawn_101, rX9_drawn_128, rX9_drawn_131, rX9_drawn_134, rX9_drawn_135, mm_gd_t, mm_kc_v, mm_kc_n, mm_rfs, kl_n, kl_i, kl_r, kl_l, so_0, so_1, so_2, so_3, so_4, beq_self_eq_true, Bool.true_and, Bool.and_true, Bool.or_true, Bool.true_or, Bool.false_or, Bool.or_false, if_true, if_false, ↓reduceIte, decide_true, decide_false, Bool.not_false, Bool.not_true, not_true_eq_false, not_false_eq_true, eq_self, Nat.not_lt_zero, Bool.true_eq_false, Bool.false_eq_true, Nat.reduceAdd, Nat.reduceMul, Nat.reduceSub, Nat.reduceEqDiff, Nat.reduceLeDiff, Nat.reduceLT, Nat.reduceDiv, Nat.reduceMod, zb_0, zb_1, zb_b, on_nI, ml_l, rl_sl1, rl_sl2, rl_eq, rl_nj, rl_nk, qL_0, qL_1, qL_11, qL_10000, nI_lL, lN_add, lN_mul, Nat.zero_add, Nat.add_zero, mm_zr0n, mm_zr1n, mm_zrb, b2_0, b2_1, pk_mul, tn_nI, in_nI, mi_lt, rd_eq, rd_nj, rd_nk, rs_eq, rs_nk, rl_si, rl_sA, nI_add, nI_eqI, nI_leI2, nI_ltI2, ql_0, ql_1, ql_2, ql_3, ql_4, ql_5, ql_6, ql_7, ql_8, ql_9, ql_10, ql_11, ql_12, ql_13, ql_14, ql_15, ql_16, ql_17, ql_18, ql_19, ql_20, ql_24, ql_25, ql_26, ql_27, ql_31, ql_32, ql_33, ql_36, ql_45, ql_46, ql_47, ql_48, ql_49, ql_50, ql_57, ql_63, ql_64, ql_65, ql_66, ql_67, ql_68, ql_69, ql_70, ql_71, ql_72, ql_73, ql_74, ql_75, ql_76, ql_77, ql_78, ql_79, ql_80, ql_81, ql_82, ql_83, ql_84, ql_85, ql_86, ql_87, ql_93, ql_96, ql_97, ql_100, ql_101, ql_120, ql_255, ql_256, ql_257, ql_511, ql_672, ql_900, ql_1000, ql_65536, rho_120_1, rho_120_3, rho_120_5, rho_120_6, rho_120_10, rho_120_11, rho_120_12, rho_120_15, rho_120_17, rho_120_18, rho_120_19, rho_120_20, rho_120_22, rho_120_23, kd_120, h2, hnx, dw1, dv_nI, re_nI, e1, n2, n3, hI, e3]
    · rw [hR] at n3 hI
      simp only [b2_t, b2_f, if_false, if_true, Bool.false_eq_true, ↓reduceIte] at n3 hI
      simp (disch := omega) only [vX9_drawn, rX9_drawn_20, rX9_drawn_21, rX9_drawn_24, rX9_drawn_25, rX9_drawn_26, rX9_drawn_29, rX9_drawn_32, rX9_drawn_33, rX9_drawn_36, rX9_drawn_37, rX9_drawn_40, rX9_drawn_41, rX9_drawn_44, rX9_drawn_46, rX9_drawn_47, rX9_drawn_48, rX9_drawn_50, rX9_drawn_51, rX9_drawn_53, rX9_drawn_55, rX9_drawn_56, rX9_drawn_58, rX9_drawn_60, rX9_drawn_61, rX9_drawn_63, rX9_drawn_64, rX9_drawn_66, rX9_drawn_69, rX9_drawn_70, rX9_drawn_72, rX9_drawn_73, rX9_drawn_76, rX9_drawn_79, rX9_drawn_80, rX9_drawn_81, rX9_drawn_84, rX9_drawn_85, rX9_drawn_88, rX9_drawn_91, rX9_drawn_93, rX9_drawn_96, rX9_drawn_97, rX9_drawn_98, rX9_drawn_99, rX9_drawn_100, rX9_drawn_101, rX9_drawn_128, rX9_drawn_131, rX9_drawn_134, rX9_drawn_135, mm_gd_t, mm_kc_v, mm_kc_n, mm_rfs, kl_n, kl_i, kl_r, kl_l, so_0, so_1, so_2, so_3, so_4, beq_self_eq_true, Bool.true_and, Bool.and_true, Bool.or_true, Bool.true_or, Bool.false_or, Bool.or_false, if_true, if_false, ↓reduceIte, decide_true, decide_false, Bool.not_false, Bool.not_true, not_true_eq_false, not_false_eq_true, eq_self, Nat.not_lt_zero, Bool.true_eq_false, Bool.false_eq_true, Nat.reduceAdd, Nat.reduceMul, Nat.reduceSub, Nat.reduceEqDiff, Nat.reduceLeDiff, Nat.reduceLT, Nat.reduceDiv, Nat.reduceMod, zb_0, zb_1, zb_b, on_nI, ml_l, rl_sl1, rl_sl2, rl_eq, rl_nj, rl_nk, qL_0, qL_1, qL_11, qL_10000, nI_lL, lN_add, lN_mul, Nat.zero_add, Nat.add_zero, mm_zr0n, mm_zr1n, mm_zrb, b2_0, b2_1, pk_mul, tn_nI, in_nI, mi_lt, rd_eq, rd_nj, rd_nk, rs_eq, rs_nk, rl_si, rl_sA, nI_add, nI_eqI, nI_leI2, nI_ltI2, ql_0, ql_1, ql_2, ql_3, ql_4, ql_5, ql_6, ql_7, ql_8, ql_9, ql_10, ql_11, ql_12, ql_13, ql_14, ql_15, ql_16, ql_17, ql_18, ql_19, ql_20, ql_24, ql_25, ql_26, ql_27, ql_31, ql_32, ql_33, ql_36, ql_45, ql_46, ql_47, ql_48, ql_49, ql_50, ql_57, ql_63, ql_64, ql_65, ql_66, ql_67, ql_68, ql_69, ql_70, ql_71, ql_72, ql_73, ql_74, ql_75, ql_76, ql_77, ql_78, ql_79, ql_80, ql_81, ql_82, ql_83, ql_84, ql_85, ql_86, ql_87, ql_93, ql_96, ql_97, ql_100, ql_101, ql_120, ql_255, ql_256, ql_257, ql_511, ql_672, ql_900, ql_1000, ql_65536, rho_120_1, rho_120_3, rho_120_5, rho_120_6, rho_120_10, rho_120_11, rho_120_12, rho_120_15, rho_120_17, rho_120_18, rho_120_19, rho_120_20, rho_120_22, rho_120_23, kd_120, h2, hnx, dw1, dv_nI, re_nI, e1, n2, n3, hI, e3]
theorem x_drawn {σ : mm_M} {P : pp_} {m : Int32} (hP : wf_ P) (hr : rq_ 0 σ P) :
    ∃ σ', mm_ev mX9_drawn [.ref 120, .int m] mm_H σ = some (some (.int (a_drawn P (σ.2.1 120 21) m).1), mm_H, σ') ∧ md_ σ σ' ∧ σ'.2.1 120 21 = (a_drawn P (σ.2.1 120 21) m).2 := by
  unfold a_drawn
  have hin : (decide ((lN 1).toInt ≤ m.toInt64.toInt) && decide (m.toInt64.toInt ≤ (20 : Int64).toInt)) = a_drm m := by
    rw [i2l_toInt]; rfl
  cases h : a_drm m
  · refine ⟨σ, ?_, md_refl _, rfl⟩
    rw [h] at hin
    simp (disch := omega) only [vX9_drawn, rX9_drawn_0, rX9_drawn_1, rX9_drawn_2, rX9_drawn_3, rX9_drawn_6, rX9_drawn_9, rX9_drawn_12, rX9_drawn_14, mm_gd_t, mm_kc_v, mm_kc_n, mm_rfs, kl_n, kl_i, kl_r, kl_l, so_0, so_1, so_2, so_3, so_4, beq_self_eq_true, Bool.true_and, Bool.and_true, Bool.or_true, Bool.true_or, Bool.false_or, Bool.or_false, if_true, if_false, ↓reduceIte, decide_true, decide_false, Bool.not_false, Bool.not_true, not_true_eq_false, not_false_eq_true, eq_self, Nat.not_lt_zero, Bool.true_eq_false, Bool.false_eq_true, Nat.reduceAdd, Nat.reduceMul, Nat.reduceSub, Nat.reduceEqDiff, Nat.reduceLeDiff, Nat.reduceLT, Nat.reduceDiv, Nat.reduceMod, zb_0, zb_1, zb_b, on_nI, ml_l, rl_sl1, rl_sl2, rl_eq, rl_nj, rl_nk, qL_0, qL_1, qL_11, qL_10000, nI_lL, lN_add, lN_mul, Nat.zero_add, Nat.add_zero, mm_zr0n, mm_zr1n, mm_zrb, b2_0, b2_1, pk_mul, tn_nI, in_nI, mi_lt, rd_eq, rd_nj, rd_nk, rs_eq, rs_nk, rl_si, rl_sA, nI_add, nI_eqI, nI_leI2, nI_ltI2, ql_0, ql_1, ql_2, ql_3, ql_4, ql_5, ql_6, ql_7, ql_8, ql_9, ql_10, ql_11, ql_12, ql_13, ql_14, ql_15, ql_16, ql_17, ql_18, ql_19, ql_20, ql_24, ql_25, ql_26, ql_27, ql_31, ql_32, ql_33, ql_36, ql_45, ql_46, ql_47, ql_48, ql_49, ql_50, ql_57, ql_63, ql_64, ql_65, ql_66, ql_67, ql_68, ql_69, ql_70, ql_71, ql_72, ql_73, ql_74, ql_75, ql_76, ql_77, ql_78, ql_79, ql_80, ql_81, ql_82, ql_83, ql_84, ql_85, ql_86, ql_87, ql_93, ql_96, ql_97, ql_100, ql_101, ql_120, ql_255, ql_256, ql_257, ql_511, ql_672, ql_900, ql_1000, ql_65536, rho_120_1, rho_120_3, rho_120_5, rho_120_6, rho_120_10, rho_120_11, rho_120_12, rho_120_15, rho_120_17, rho_120_18, rho_120_19, rho_120_20, rho_120_22, rho_120_23, kd_120, s_in, hin]
  · obtain ⟨n, hn1, hn2, rfl⟩ := a_drm_of h
    obtain ⟨σ1, e1, c1, s1⟩ := x_drawnL hP hn2 n 0 0 σ none none (by omega) hr
    rw [h, nI_lL (by omega)] at hin
    refine ⟨σ1, ?_, c1, ?_⟩
    · rw [tn_nI (by omega)]
      simp (disch := omega) only [vX9_drawn, rX9_drawn_0, rX9_drawn_1, rX9_drawn_2, rX9_drawn_3, rX9_drawn_6, rX9_drawn_9, rX9_drawn_12, rX9_drawn_14, rX9_drawn_15, rX9_drawn_16, rX9_drawn_17, rX9_drawn_18, mm_gd_t, mm_kc_v, mm_kc_n, mm_rfs, kl_n, kl_i, kl_r, kl_l, so_0, so_1, so_2, so_3, so_4, beq_self_eq_true, Bool.true_and, Bool.and_true, Bool.or_true, Bool.true_or, Bool.false_or, Bool.or_false, if_true, if_false, ↓reduceIte, decide_true, decide_false, Bool.not_false, Bool.not_true, not_true_eq_false, not_false_eq_true, eq_self, Nat.not_lt_zero, Bool.true_eq_false, Bool.false_eq_true, Nat.reduceAdd, Nat.reduceMul, Nat.reduceSub, Nat.reduceEqDiff, Nat.reduceLeDiff, Nat.reduceLT, Nat.reduceDiv, Nat.reduceMod, zb_0, zb_1, zb_b, on_nI, ml_l, rl_sl1, rl_sl2, rl_eq, rl_nj, rl_nk, qL_0, qL_1, qL_11, qL_10000, nI_lL, lN_add, lN_mul, Nat.zero_add, Nat.add_zero, mm_zr0n, mm_zr1n, mm_zrb, b2_0, b2_1, pk_mul, tn_nI, in_nI, mi_lt, rd_eq, rd_nj, rd_nk, rs_eq, rs_nk, rl_si, rl_sA, nI_add, nI_eqI, nI_leI2, nI_ltI2, ql_0, ql_1, ql_2, ql_3, ql_4, ql_5, ql_6, ql_7, ql_8, ql_9, ql_10, ql_11, ql_12, ql_13, ql_14, ql_15, ql_16, ql_17, ql_18, ql_19, ql_20, ql_24, ql_25, ql_26, ql_27, ql_31, ql_32, ql_33, ql_36, ql_45, ql_46, ql_47, ql_48, ql_49, ql_50, ql_57, ql_63, ql_64, ql_65, ql_66, ql_67, ql_68, ql_69, ql_70, ql_71, ql_72, ql_73, ql_74, ql_75, ql_76, ql_77, ql_78, ql_79, ql_80, ql_81, ql_82, ql_83, ql_84, ql_85, ql_86, ql_87, ql_93, ql_96, ql_97, ql_100, ql_101, ql_120, ql_255, ql_256, ql_257, ql_511, ql_672, ql_900, ql_1000, ql_65536, rho_120_1, rho_120_3, rho_120_5, rho_120_6, rho_120_10, rho_120_11, rho_120_12, rho_120_15, rho_120_17, rho_120_18, rho_120_19, rho_120_20, rho_120_22, rho_120_23, kd_120, s_in, hin]
      exact e1
    · rw [tn_nI (by omega)]; exact s1

/-! ===== a run ===== -/
def th_ (P : pp_) (i : Nat) (v : Nat → Nat) : Nat := if P.2 i 0 = 2 ∧ v (P.2 i 3) = 0 then 1 else if P.2 i 0 = 4 then v (P.2 i 1) else 0
def up_ (v : Nat → Nat) (x a : Nat) : Nat → Nat := fun j => if j = x then a else v j
def nx_ (P : pp_) (i : Nat) (v : Nat → Nat) : Nat := if 0 < th_ P i v then tg_ P i else if P.2 i 0 = 3 ∧ 0 < v (P.2 i 1) then tg_ P i else i + 1
def vl_ (P : pp_) (i : Nat) (v : Nat → Nat) : Nat → Nat := if 0 < th_ P i v then up_ v 4 (th_ P i v) else if P.2 i 0 = 0 then up_ v (P.2 i 1) (P.2 i 2) else if P.2 i 0 = 1 then up_ v (P.2 i 1) ((v (P.2 i 2) + v (P.2 i 3)) % 10) else if P.2 i 0 = 2 then up_ v (P.2 i 1) (v (P.2 i 2) / v (P.2 i 3)) else v
def fl_ (P : pp_) (i : Nat) (v : Nat → Nat) (f : Bool) : Bool := if 0 < th_ P i v then decide (P.2 i 4 = 99) else f
def ou_ (P : pp_) (i : Nat) (v : Nat → Nat) (L : List (Nat × Nat)) : List (Nat × Nat) := if P.2 i 0 = 5 then L ++ [(i, v (P.2 i 1))] else L
def ru_ (P : pp_) : Nat → Nat → (Nat → Nat) → Bool → List (Nat × Nat) → (Nat → Nat) × Bool × List (Nat × Nat)
  | 0, _, v, f, L => (v, f, L)
  | k + 1, i, v, f, L => if i < P.1 then ru_ P k (nx_ P i v) (vl_ P i v) (fl_ P i v f) (ou_ P i v L) else (v, f, L)
def v0_ (a b c : Nat) : Nat → Nat := fun j => if j = 0 then a else if j = 1 then b else if j = 2 then c else 0
def rr_ (P : pp_) (a b c : Nat) : (Nat → Nat) × Bool × List (Nat × Nat) := ru_ P 9 0 (v0_ a b c) false []
/-- what was spoken so far, at line i -/
def ok_ (i : Nat) (v : Nat → Nat) (L : List (Nat × Nat)) : Prop := (∀ j, v j ≤ 9) ∧ (∀ e, e ∈ L → e.1 < i ∧ e.2 ≤ 9) ∧ L.Pairwise (fun a b => a.1 < b.1) ∧ L.length ≤ i
theorem up_le {v : Nat → Nat} (h : ∀ j, v j ≤ 9) (x : Nat) {a : Nat} (ha : a ≤ 9) : ∀ j, up_ v x a j ≤ 9 := by
  intro j; unfold up_; split
  · exact ha
  · exact h j
theorem th_le {P : pp_} {i : Nat} {v : Nat → Nat} (h : ∀ j, v j ≤ 9) : th_ P i v ≤ 9 := by
  unfold th_
  have := h (P.2 i 1)
  split
  · omega
  · split <;> omega
theorem nx_gt {P : pp_} (hP : wf_ P) {i : Nat} (hi : i < P.1) (v : Nat → Nat) : i < nx_ P i v ∧ nx_ P i v ≤ P.1 := by
  have := tg_gt hP hi
  unfold nx_
  split
  · omega
  · split <;> omega
theorem ok_nx {P : pp_} (hP : wf_ P) {i : Nat} (hi : i < P.1) {v : Nat → Nat} {L : List (Nat × Nat)} (h : ok_ i v L) : ok_ (nx_ P i v) (vl_ P i v) (ou_ P i v L) := by
  obtain ⟨hv, hL, hp, hl⟩ := h
  have hn := nx_gt hP hi v
  have hw := hP.2 i hi
  refine ⟨?_, ?_, ?_, ?_⟩
  · unfold vl_
    split
    · exact up_le hv _ (th_le hv)
    · split
      · rename_i h0; exact up_le hv _ (hw.2.2.1 h0)
      · split
        · exact up_le hv _ (by omega)
        · split
          · exact up_le hv _ (Nat.le_trans (Nat.div_le_self _ _) (hv _))
          · exact hv
  · intro e he
    unfold ou_ at he
    split at he
    · rcases List.mem_append.1 he with h | h
      · exact ⟨by have := hL e h; omega, (hL e h).2⟩
      · rw [List.mem_singleton] at h
        subst h
        exact ⟨hn.1, hv _⟩
    · exact ⟨by have := hL e he; omega, (hL e he).2⟩
  · unfold ou_
    split
    · rw [List.pairwise_append]
      refine ⟨hp, List.pairwise_singleton _ _, fun a ha b hb => ?_⟩
      rw [List.mem_singleton] at hb
      subst hb
      exact (hL a ha).1
    · exact hp
  · unfold ou_
    split
    · rw [List.length_append]; simp; omega
    · omega
theorem ok_0 {a b c : Nat} (ha : a ≤ 9) (hb : b ≤ 9) (hc : c ≤ 9) : ok_ 0 (v0_ a b c) [] := by
  refine ⟨fun j => ?_, fun e he => (by cases he), List.Pairwise.nil, Nat.le_refl _⟩
  unfold v0_
  split
  · exact ha
  · split
    · exact hb
    · split
      · exact hc
      · omega
theorem ru_ok {P : pp_} (hP : wf_ P) : ∀ (k i : Nat) (v : Nat → Nat) (f : Bool) (L : List (Nat × Nat)), i ≤ P.1 → ok_ i v L → ok_ P.1 (ru_ P k i v f L).1 (ru_ P k i v f L).2.2
  | 0, i, v, f, L, hi, h => ⟨h.1, fun e he => ⟨by have := h.2.1 e he; omega, (h.2.1 e he).2⟩, h.2.2.1, by have := h.2.2.2; show L.length ≤ P.1; omega⟩
  | k + 1, i, v, f, L, hi, h => by
    unfold ru_
    split
    · rename_i hlt
      exact ru_ok hP k _ _ _ _ (nx_gt hP hlt v).2 (ok_nx hP hlt h)
    · exact ⟨h.1, fun e he => ⟨by have := h.2.1 e he; omega, (h.2.1 e he).2⟩, h.2.2.1, by have := h.2.2.2; show L.length ≤ P.1; omega⟩
theorem rr_ok {P : pp_} (hP : wf_ P) {a b c : Nat} (ha : a ≤ 9) (hb : b ≤ 9) (hc : c ≤ 9) : ok_ P.1 (rr_ P a b c).1 (rr_ P a b c).2.2 := ru_ok hP _ _ _ _ _ (Nat.zero_le _) (ok_0 ha hb hc)
/-- fuel that is enough -/
theorem ru_enough {P : pp_} (hP : wf_ P) : ∀ (k i : Nat) (v : Nat → Nat) (f : Bool) (L : List (Nat × Nat)), P.1 ≤ i + k → ru_ P (k + 1) i v f L = ru_ P k i v f L
  | 0, i, v, f, L, h => by unfold ru_; rw [if_neg (by omega)]
  | k + 1, i, v, f, L, h => by
    by_cases hlt : i < P.1
    · have e1 : ∀ k, ru_ P (k + 1) i v f L = ru_ P k (nx_ P i v) (vl_ P i v) (fl_ P i v f) (ou_ P i v L) := fun k => by rw [ru_, if_pos hlt]
      rw [e1, e1]
      exact ru_enough hP k _ _ _ _ (by have := nx_gt hP hlt v; omega)
    · have e1 : ∀ k, ru_ P (k + 1) i v f L = (v, f, L) := fun k => by rw [ru_, if_neg hlt]
      rw [e1, e1]
/-! the class's runner, cells b .. b + 3 -/
def rb_ (b : Nat) : Prop := mm_kd 135 b = 6 ∧ mm_rho b 2 = some (b + 1) ∧ mm_rho b 3 = some (b + 2) ∧ mm_rho b 4 = some (b + 3) ∧ mm_ir 135 (b + 1) = true ∧ mm_iw 135 (b + 1) = true ∧ mm_ir 135 (b + 2) = true ∧ mm_iw 135 (b + 2) = true ∧ mm_ir 135 (b + 3) = true ∧ mm_iw 135 (b + 3) = true ∧ (∀ σ : mm_M, mm_al σ (b + 1) = 5) ∧ (∀ σ : mm_M, mm_al σ (b + 2) = 9) ∧ (∀ σ : mm_M, mm_al σ (b + 3) = 9) ∧ 26 < b ∧ b + 4 < 1000
theorem rb_72 : rb_ 72 := ⟨rfl, rfl, rfl, rfl, rfl, rfl, rfl, rfl, rfl, rfl, fun _ => rfl, fun _ => rfl, fun _ => rfl, by decide, by decide⟩
theorem rb_76 : rb_ 76 := ⟨rfl, rfl, rfl, rfl, rfl, rfl, rfl, rfl, rfl, rfl, fun _ => rfl, fun _ => rfl, fun _ => rfl, by decide, by decide⟩
theorem rb_81 : rb_ 81 := ⟨rfl, rfl, rfl, rfl, rfl, rfl, rfl, rfl, rfl, rfl, fun _ => rfl, fun _ => rfl, fun _ => rfl, by decide, by decide⟩
theorem rb_114 : rb_ 114 := ⟨rfl, rfl, rfl, rfl, rfl, rfl, rfl, rfl, rfl, rfl, fun _ => rfl, fun _ => rfl, fun _ => rfl, by decide, by decide⟩
def rn_ (b : Nat) (σ : mm_M) (v : Nat → Nat) (f : Bool) (L : List (Nat × Nat)) : Prop := (∀ j, j < 5 → σ.1 (b + 1) j = nI (v j)) ∧ σ.1 b 0 = nI L.length ∧ σ.1 b 1 = nI (b2 f) ∧ ∀ j, j < L.length → σ.1 (b + 2) j = nI (L.getD j (0, 0)).2 ∧ σ.1 (b + 3) j = nI (L.getD j (0, 0)).1
theorem s_beThrown {σ : mm_M} {b : Nat} {w x : Int32} (hb : rb_ b) : mm_ev mX6_beThrown [.ref b, .int w, .int x] mm_H σ = some (none, mm_H, mm_si (mm_si σ (b + 1) 4 w) b 1 (if x = -nI 1 then nI 1 else nI 0)) := by
  obtain ⟨k0, k1, k2, k3, k4, k5, k6, k7, k8, k9, k10, k11, k12, k13, k14⟩ := hb
  by_cases hx : x = -nI 1
  · simp (disch := omega) only [vX6_beThrown, rX6_beThrown_0, rX6_beThrown_1, rX6_beThrown_4, rX6_beThrown_5, rX6_beThrown_6, rX6_beThrown_7, rX6_beThrown_8, rX6_beThrown_9, rX6_beThrown_10, rX6_beThrown_13, rX6_beThrown_14, rX6_beThrown_17, rX6_beThrown_18, rX6_beThrown_21, mm_gd_t, mm_kc_v, mm_kc_n, mm_rfs, kl_n, kl_i, kl_r, kl_l, so_0, so_1, so_2, so_3, so_4, beq_self_eq_true, Bool.true_and, Bool.and_true, Bool.or_true, Bool.true_or, Bool.false_or, Bool.or_false, if_true, if_false, ↓reduceIte, decide_true, decide_false, Bool.not_false, Bool.not_true, not_true_eq_false, not_false_eq_true, eq_self, Nat.not_lt_zero, Bool.true_eq_false, Bool.false_eq_true, Nat.reduceAdd, Nat.reduceMul, Nat.reduceSub, Nat.reduceEqDiff, Nat.reduceLeDiff, Nat.reduceLT, Nat.reduceDiv, Nat.reduceMod, zb_0, zb_1, zb_b, on_nI, ml_l, rl_sl1, rl_sl2, rl_eq, rl_nj, rl_nk, qL_0, qL_1, qL_11, qL_10000, nI_lL, lN_add, lN_mul, Nat.zero_add, Nat.add_zero, mm_zr0n, mm_zr1n, mm_zrb, b2_0, b2_1, pk_mul, tn_nI, in_nI, mi_lt, rd_eq, rd_nj, rd_nk, rs_eq, rs_nk, rl_si, rl_sA, nI_add, nI_eqI, nI_leI2, nI_ltI2, ql_0, ql_1, ql_2, ql_3, ql_4, ql_5, ql_6, ql_7, ql_8, ql_9, ql_10, ql_11, ql_12, ql_13, ql_14, ql_15, ql_16, ql_17, ql_18, ql_19, ql_20, ql_24, ql_25, ql_26, ql_27, ql_31, ql_32, ql_33, ql_36, ql_45, ql_46, ql_47, ql_48, ql_49, ql_50, ql_57, ql_63, ql_64, ql_65, ql_66, ql_67, ql_68, ql_69, ql_70, ql_71, ql_72, ql_73, ql_74, ql_75, ql_76, ql_77, ql_78, ql_79, ql_80, ql_81, ql_82, ql_83, ql_84, ql_85, ql_86, ql_87, ql_93, ql_96, ql_97, ql_100, ql_101, ql_120, ql_255, ql_256, ql_257, ql_511, ql_672, ql_900, ql_1000, ql_65536, k0, k1, k5, k10, hx]
  · simp (disch := omega) only [vX6_beThrown, rX6_beThrown_0, rX6_beThrown_1, rX6_beThrown_4, rX6_beThrown_5, rX6_beThrown_6, rX6_beThrown_7, rX6_beThrown_8, rX6_beThrown_9, rX6_beThrown_10, rX6_beThrown_13, rX6_beThrown_14, rX6_beThrown_17, rX6_beThrown_18, rX6_beThrown_21, mm_gd_t, mm_kc_v, mm_kc_n, mm_rfs, kl_n, kl_i, kl_r, kl_l, so_0, so_1, so_2, so_3, so_4, beq_self_eq_true, Bool.true_and, Bool.and_true, Bool.or_true, Bool.true_or, Bool.false_or, Bool.or_false, if_true, if_false, ↓reduceIte, decide_true, decide_false, Bool.not_false, Bool.not_true, not_true_eq_false, not_false_eq_true, eq_self, Nat.not_lt_zero, Bool.true_eq_false, Bool.false_eq_true, Nat.reduceAdd, Nat.reduceMul, Nat.reduceSub, Nat.reduceEqDiff, Nat.reduceLeDiff, Nat.reduceLT, Nat.reduceDiv, Nat.reduceMod, zb_0, zb_1, zb_b, on_nI, ml_l, rl_sl1, rl_sl2, rl_eq, rl_nj, rl_nk, qL_0, qL_1, qL_11, qL_10000, nI_lL, lN_add, lN_mul, Nat.zero_add, Nat.add_zero, mm_zr0n, mm_zr1n, mm_zrb, b2_0, b2_1, pk_mul, tn_nI, in_nI, mi_lt, rd_eq, rd_nj, rd_nk, rs_eq, rs_nk, rl_si, rl_sA, nI_add, nI_eqI, nI_leI2, nI_ltI2, ql_0, ql_1, ql_2, ql_3, ql_4, ql_5, ql_6, ql_7, ql_8, ql_9, ql_10, ql_11, ql_12, ql_13, ql_14, ql_15, ql_16, ql_17, ql_18, ql_19, ql_20, ql_24, ql_25, ql_26, ql_27, ql_31, ql_32, ql_33, ql_36, ql_45, ql_46, ql_47, ql_48, ql_49, ql_50, ql_57, ql_63, ql_64, ql_65, ql_66, ql_67, ql_68, ql_69, ql_70, ql_71, ql_72, ql_73, ql_74, ql_75, ql_76, ql_77, ql_78, ql_79, ql_80, ql_81, ql_82, ql_83, ql_84, ql_85, ql_86, ql_87, ql_93, ql_96, ql_97, ql_100, ql_101, ql_120, ql_255, ql_256, ql_257, ql_511, ql_672, ql_900, ql_1000, ql_65536, k0, k1, k5, k10, hx]
theorem s_speak {σ : mm_M} {b n : Nat} {l w : Int32} (hb : rb_ b) (hn : n < 9) (h0 : σ.1 b 0 = nI n) : mm_ev mX6_speak [.ref b, .int l, .int w] mm_H σ = some (none, mm_H, mm_si (mm_si (mm_si σ (b + 2) n w) (b + 3) n l) b 0 (nI (n + 1))) := by
  obtain ⟨k0, k1, k2, k3, k4, k5, k6, k7, k8, k9, k10, k11, k12, k13, k14⟩ := hb
  have h9 : ¬ 9 ≤ n := by omega
  simp (disch := omega) only [vX6_speak, rX6_speak_0, rX6_speak_1, rX6_speak_4, rX6_speak_6, rX6_speak_9, rX6_speak_10, rX6_speak_13, rX6_speak_14, rX6_speak_17, rX6_speak_18, rX6_speak_19, rX6_speak_20, rX6_speak_23, rX6_speak_24, rX6_speak_27, rX6_speak_28, rX6_speak_29, rX6_speak_30, rX6_speak_31, rX6_speak_34, rX6_speak_35, rX6_speak_36, rX6_speak_39, mm_gd_t, mm_kc_v, mm_kc_n, mm_rfs, kl_n, kl_i, kl_r, kl_l, so_0, so_1, so_2, so_3, so_4, beq_self_eq_true, Bool.true_and, Bool.and_true, Bool.or_true, Bool.true_or, Bool.false_or, Bool.or_false, if_true, if_false, ↓reduceIte, decide_true, decide_false, Bool.not_false, Bool.not_true, not_true_eq_false, not_false_eq_true, eq_self, Nat.not_lt_zero, Bool.true_eq_false, Bool.false_eq_true, Nat.reduceAdd, Nat.reduceMul, Nat.reduceSub, Nat.reduceEqDiff, Nat.reduceLeDiff, Nat.reduceLT, Nat.reduceDiv, Nat.reduceMod, zb_0, zb_1, zb_b, on_nI, ml_l, rl_sl1, rl_sl2, rl_eq, rl_nj, rl_nk, qL_0, qL_1, qL_11, qL_10000, nI_lL, lN_add, lN_mul, Nat.zero_add, Nat.add_zero, mm_zr0n, mm_zr1n, mm_zrb, b2_0, b2_1, pk_mul, tn_nI, in_nI, mi_lt, rd_eq, rd_nj, rd_nk, rs_eq, rs_nk, rl_si, rl_sA, nI_add, nI_eqI, nI_leI2, nI_ltI2, ql_0, ql_1, ql_2, ql_3, ql_4, ql_5, ql_6, ql_7, ql_8, ql_9, ql_10, ql_11, ql_12, ql_13, ql_14, ql_15, ql_16, ql_17, ql_18, ql_19, ql_20, ql_24, ql_25, ql_26, ql_27, ql_31, ql_32, ql_33, ql_36, ql_45, ql_46, ql_47, ql_48, ql_49, ql_50, ql_57, ql_63, ql_64, ql_65, ql_66, ql_67, ql_68, ql_69, ql_70, ql_71, ql_72, ql_73, ql_74, ql_75, ql_76, ql_77, ql_78, ql_79, ql_80, ql_81, ql_82, ql_83, ql_84, ql_85, ql_86, ql_87, ql_93, ql_96, ql_97, ql_100, ql_101, ql_120, ql_255, ql_256, ql_257, ql_511, ql_672, ql_900, ql_1000, ql_65536, k0, k2, k3, k7, k9, k11, k12, h0, h9]
theorem rn_up {b x a : Nat} {σ : mm_M} {v : Nat → Nat} {f : Bool} {L : List (Nat × Nat)} (h : rn_ b σ v f L) : rn_ b (mm_si σ (b + 1) x (nI a)) (up_ v x a) f L := by
  obtain ⟨n1, n2, n3, n4⟩ := h
  refine ⟨fun j hj => ?_, ?_, ?_, fun j hj => ?_⟩
  · unfold up_
    by_cases h : j = x
    · rw [if_pos h, h, rd_eq]
    · rw [if_neg h, rd_nj h, n1 j hj]
  · rw [rd_nk (by omega), n2]
  · rw [rd_nk (by omega), n3]
  · rw [rd_nk (by omega), rd_nk (by omega)]; exact n4 j hj
theorem rn_th {b a : Nat} {σ : mm_M} {v : Nat → Nat} {f g : Bool} {L : List (Nat × Nat)} (h : rn_ b σ v f L) : rn_ b (mm_si (mm_si σ (b + 1) 4 (nI a)) b 1 (nI (b2 g))) (up_ v 4 a) g L := by
  obtain ⟨n1, n2, n3, n4⟩ := rn_up (x := 4) (a := a) h
  refine ⟨fun j hj => ?_, ?_, ?_, fun j hj => ?_⟩
  · rw [rd_nk (by omega)]; exact n1 j hj
  · rw [rd_nj (by omega), n2]
  · rw [rd_eq]
  · rw [rd_nk (show b + 2 ≠ b by omega), rd_nk (show b + 3 ≠ b by omega)]; exact n4 j hj
theorem gd_r {α : Type} (L : List α) (x d : α) : (L ++ [x]).getD L.length d = x := by simp [List.getD]
theorem gd_l {α : Type} (L : List α) (x d : α) {j : Nat} (h : j < L.length) : (L ++ [x]).getD j d = L.getD j d := by simp [List.getD, List.getElem?_append_left h]
theorem rn_sp {b l w : Nat} {σ : mm_M} {v : Nat → Nat} {f : Bool} {L : List (Nat × Nat)} (h : rn_ b σ v f L) : rn_ b (mm_si (mm_si (mm_si σ (b + 2) L.length (nI w)) (b + 3) L.length (nI l)) b 0 (nI (L.length + 1))) v f (L ++ [(l, w)]) := by
  obtain ⟨n1, n2, n3, n4⟩ := h
  refine ⟨fun j hj => ?_, ?_, ?_, fun j hj => ?_⟩
  · rw [rd_nk (by omega), rd_nk (by omega), rd_nk (by omega)]; exact n1 j hj
  · rw [rd_eq, List.length_append]; rfl
  · rw [rd_nj (by omega), rd_nk (by omega), rd_nk (by omega), n3]
  · rw [List.length_append] at hj
    simp only [List.length_cons, List.length_nil] at hj
    rw [rd_nk (show b + 2 ≠ b by omega), rd_nk (show b + 3 ≠ b by omega), rd_nk (show b + 2 ≠ b + 3 by omega)]
    by_cases he : j = L.length
    · rw [he, rd_eq, rd_eq, gd_r]
      exact ⟨rfl, rfl⟩
    · rw [rd_nj he, rd_nj he, rd_nk (show b + 3 ≠ b + 2 by omega), gd_l _ _ _ (show j < L.length by omega)]
      exact n4 j (by omega)
theorem s_step {σ : mm_M} {b : Nat} {P : pp_} {i : Nat} {v : Nat → Nat} {f : Bool} {L : List (Nat × Nat)} (hb : rb_ b) (hP : wf_ P) (hr : rc_ 15 σ P) (hi : i < P.1) (hn : rn_ b σ v f L) (ho : ok_ i v L) :
    ∃ σ', mm_ev mX6_step [.ref b, .ref 15, .int (nI i)] mm_H σ = some (some (.int (nI (nx_ P i v))), mm_H, σ') ∧ fr_ b (b + 4) σ σ' ∧ rn_ b σ' (vl_ P i v) (fl_ P i v f) (ou_ P i v L) := by
  have hb' := hb
  obtain ⟨k0, k1, k2, k3, k4, k5, k6, k7, k8, k9, k10, k11, k12, k13, k14⟩ := hb
  have h9 := hP.1
  obtain ⟨w0, w1, w2, w3, w4⟩ := hP.2 i hi
  have hn' := hn
  obtain ⟨n1, n2, n3, n4⟩ := hn
  obtain ⟨o1, o2, o3, o4⟩ := ho
  have hK : P.2 i 0 = 0 ∨ P.2 i 0 = 1 ∨ P.2 i 0 = 2 ∨ P.2 i 0 = 3 ∨ P.2 i 0 = 4 ∨ P.2 i 0 = 5 ∨ P.2 i 0 = 6 := by omega
  have c0 := rc_0 hP hr hi
  have c1 := rc_1 hP hr hi
  have c2 := rc_2 hr hi
  have c3 := rc_3 hr hi
  have c4 := rc_4 hr hi
  have vx := n1 (P.2 i 1) (by omega)
  have l1 := o1 (P.2 i 1)
  have hT := s_targetOf hP hr hi
  rcases hK with hK | hK | hK | hK | hK | hK | hK
  · -- becomes
    have w2 := w2 hK
    rw [hK] at c0 c2
    simp only [show hp_ 0 2 = true from rfl, if_true] at c2
    simp only [nx_, th_, vl_, fl_, ou_, hK]
    exact ⟨mm_si σ (b + 1) (P.2 i 1) (nI (P.2 i 2)), by
      simp (disch := omega) only [vX6_step, rX6_step_0, rX6_step_1, rX6_step_4, rX6_step_5, rX6_step_6, rX6_step_7, rX6_step_8, rX6_step_9, rX6_step_10, rX6_step_12, rX6_step_13, rX6_step_14, rX6_step_15_n0, rX6_step_15_n1, rX6_step_15_n2, rX6_step_15_n3, rX6_step_15_n4, rX6_step_15_n5, rX6_step_15_d, rX6_step_52, rX6_step_53, rX6_step_56, rX6_step_58, rX6_step_59, rX6_step_60, rX6_step_61, rX6_step_62, rX6_step_63, rX6_step_64, rX6_step_65, rX6_step_66, rX6_step_67, rX6_step_70, rX6_step_72, rX6_step_73, rX6_step_76, rX6_step_77, rX6_step_78, rX6_step_79, rX6_step_80, rX6_step_81, rX6_step_84, rX6_step_85, rX6_step_86, rX6_step_87, rX6_step_88, rX6_step_89, rX6_step_91, rX6_step_92, rX6_step_93, rX6_step_94, rX6_step_95, rX6_step_96, rX6_step_97, rX6_step_98, rX6_step_101, rX6_step_102, rX6_step_103, rX6_step_104, rX6_step_105, rX6_step_107, rX6_step_109, rX6_step_112, rX6_step_113, rX6_step_114, rX6_step_115, rX6_step_116, rX6_step_117, rX6_step_120, rX6_step_121, rX6_step_122, rX6_step_125, rX6_step_126, rX6_step_127, rX6_step_130, rX6_step_132, rX6_step_133, rX6_step_136, rX6_step_137, rX6_step_138, rX6_step_139, rX6_step_140, rX6_step_142, rX6_step_143, rX6_step_144, rX6_step_145, rX6_step_146, rX6_step_147, rX6_step_148, rX6_step_149, rX6_step_152, rX6_step_154, rX6_step_155, rX6_step_158, rX6_step_159, rX6_step_160, rX6_step_163, rX6_step_166, rX6_step_167, rX6_step_168, rX6_step_169, rX6_step_170, rX6_step_171, rX6_step_174, rX6_step_176, rX6_step_177, rX6_step_180, rX6_step_181, rX6_step_182, rX6_step_183, rX6_step_184, rX6_step_185, rX6_step_186, rX6_step_189, rX6_step_191, rX6_step_192, rX6_step_193, rX6_step_194, rX6_step_195, rX6_step_198, rX6_step_199, rX6_step_200, rX6_step_203, rX6_step_204, rX6_step_205, rX6_step_206, rX6_step_207, rX6_step_210, rX6_step_212, rX6_step_213, rX6_step_216, rX6_step_217, rX6_step_218, rX6_step_219, rX6_step_220, rX6_step_221, rX6_step_222, rX6_step_223, mm_gd_t, mm_kc_v, mm_kc_n, mm_rfs, kl_n, kl_i, kl_r, kl_l, so_0, so_1, so_2, so_3, so_4, beq_self_eq_true, Bool.true_and, Bool.and_true, Bool.or_true, Bool.true_or, Bool.false_or, Bool.or_false, if_true, if_false, ↓reduceIte, decide_true, decide_false, Bool.not_false, Bool.not_true, not_true_eq_false, not_false_eq_true, eq_self, Nat.not_lt_zero, Bool.true_eq_false, Bool.false_eq_true, Nat.reduceAdd, Nat.reduceMul, Nat.reduceSub, Nat.reduceEqDiff, Nat.reduceLeDiff, Nat.reduceLT, Nat.reduceDiv, Nat.reduceMod, zb_0, zb_1, zb_b, on_nI, ml_l, rl_sl1, rl_sl2, rl_eq, rl_nj, rl_nk, qL_0, qL_1, qL_11, qL_10000, nI_lL, lN_add, lN_mul, Nat.zero_add, Nat.add_zero, mm_zr0n, mm_zr1n, mm_zrb, b2_0, b2_1, pk_mul, tn_nI, in_nI, mi_lt, rd_eq, rd_nj, rd_nk, rs_eq, rs_nk, rl_si, rl_sA, nI_add, nI_eqI, nI_leI2, nI_ltI2, ql_0, ql_1, ql_2, ql_3, ql_4, ql_5, ql_6, ql_7, ql_8, ql_9, ql_10, ql_11, ql_12, ql_13, ql_14, ql_15, ql_16, ql_17, ql_18, ql_19, ql_20, ql_24, ql_25, ql_26, ql_27, ql_31, ql_32, ql_33, ql_36, ql_45, ql_46, ql_47, ql_48, ql_49, ql_50, ql_57, ql_63, ql_64, ql_65, ql_66, ql_67, ql_68, ql_69, ql_70, ql_71, ql_72, ql_73, ql_74, ql_75, ql_76, ql_77, ql_78, ql_79, ql_80, ql_81, ql_82, ql_83, ql_84, ql_85, ql_86, ql_87, ql_93, ql_96, ql_97, ql_100, ql_101, ql_120, ql_255, ql_256, ql_257, ql_511, ql_672, ql_900, ql_1000, ql_65536, kd_15, kd_16, rho_15_1, rho_16r, ir_17r, al_16, al_17s, k0, k1, k4, k5, k10, c0, c1, c2]
      (try simp), fr_si (fr_refl _ _ _) (by omega) (by omega), rn_up hn'⟩
  · -- sum
    have w3 := w3 (Or.inl hK)
    rw [hK] at c0 c2 c3
    have vy := n1 (P.2 i 2) (by omega)
    have vz := n1 (P.2 i 3) (by omega)
    have ly := o1 (P.2 i 2)
    have lz := o1 (P.2 i 3)
    simp only [show hp_ 1 2 = true from rfl, show hp_ 1 3 = true from rfl, if_true] at c2 c3
    simp only [nx_, th_, vl_, fl_, ou_, hK]
    exact ⟨mm_si σ (b + 1) (P.2 i 1) (nI ((v (P.2 i 2) + v (P.2 i 3)) % 10)), by
      simp (disch := omega) only [vX6_step, rX6_step_0, rX6_step_1, rX6_step_4, rX6_step_5, rX6_step_6, rX6_step_7, rX6_step_8, rX6_step_9, rX6_step_10, rX6_step_12, rX6_step_13, rX6_step_14, rX6_step_15_n0, rX6_step_15_n1, rX6_step_15_n2, rX6_step_15_n3, rX6_step_15_n4, rX6_step_15_n5, rX6_step_15_d, rX6_step_52, rX6_step_53, rX6_step_56, rX6_step_58, rX6_step_59, rX6_step_60, rX6_step_61, rX6_step_62, rX6_step_63, rX6_step_64, rX6_step_65, rX6_step_66, rX6_step_67, rX6_step_70, rX6_step_72, rX6_step_73, rX6_step_76, rX6_step_77, rX6_step_78, rX6_step_79, rX6_step_80, rX6_step_81, rX6_step_84, rX6_step_85, rX6_step_86, rX6_step_87, rX6_step_88, rX6_step_89, rX6_step_91, rX6_step_92, rX6_step_93, rX6_step_94, rX6_step_95, rX6_step_96, rX6_step_97, rX6_step_98, rX6_step_101, rX6_step_102, rX6_step_103, rX6_step_104, rX6_step_105, rX6_step_107, rX6_step_109, rX6_step_112, rX6_step_113, rX6_step_114, rX6_step_115, rX6_step_116, rX6_step_117, rX6_step_120, rX6_step_121, rX6_step_122, rX6_step_125, rX6_step_126, rX6_step_127, rX6_step_130, rX6_step_132, rX6_step_133, rX6_step_136, rX6_step_137, rX6_step_138, rX6_step_139, rX6_step_140, rX6_step_142, rX6_step_143, rX6_step_144, rX6_step_145, rX6_step_146, rX6_step_147, rX6_step_148, rX6_step_149, rX6_step_152, rX6_step_154, rX6_step_155, rX6_step_158, rX6_step_159, rX6_step_160, rX6_step_163, rX6_step_166, rX6_step_167, rX6_step_168, rX6_step_169, rX6_step_170, rX6_step_171, rX6_step_174, rX6_step_176, rX6_step_177, rX6_step_180, rX6_step_181, rX6_step_182, rX6_step_183, rX6_step_184, rX6_step_185, rX6_step_186, rX6_step_189, rX6_step_191, rX6_step_192, rX6_step_193, rX6_step_194, rX6_step_195, rX6_step_198, rX6_step_199, rX6_step_200, rX6_step_203, rX6_step_204, rX6_step_205, rX6_step_206, rX6_step_207, rX6_step_210, rX6_step_212, rX6_step_213, rX6_step_216, rX6_step_217, rX6_step_218, rX6_step_219, rX6_step_220, rX6_step_221, rX6_step_222, rX6_step_223, mm_gd_t, mm_kc_v, mm_kc_n, mm_rfs, kl_n, kl_i, kl_r, kl_l, so_0, so_1, so_2, so_3, so_4, beq_self_eq_true, Bool.true_and, Bool.and_true, Bool.or_true, Bool.true_or, Bool.false_or, Bool.or_false, if_true, if_false, ↓reduceIte, decide_true, decide_false, Bool.not_false, Bool.not_true, not_true_eq_false, not_false_eq_true, eq_self, Nat.not_lt_zero, Bool.true_eq_false, Bool.false_eq_true, Nat.reduceAdd, Nat.reduceMul, Nat.reduceSub, Nat.reduceEqDiff, Nat.reduceLeDiff, Nat.reduceLT, Nat.reduceDiv, Nat.reduceMod, zb_0, zb_1, zb_b, on_nI, ml_l, rl_sl1, rl_sl2, rl_eq, rl_nj, rl_nk, qL_0, qL_1, qL_11, qL_10000, nI_lL, lN_add, lN_mul, Nat.zero_add, Nat.add_zero, mm_zr0n, mm_zr1n, mm_zrb, b2_0, b2_1, pk_mul, tn_nI, in_nI, mi_lt, rd_eq, rd_nj, rd_nk, rs_eq, rs_nk, rl_si, rl_sA, nI_add, nI_eqI, nI_leI2, nI_ltI2, ql_0, ql_1, ql_2, ql_3, ql_4, ql_5, ql_6, ql_7, ql_8, ql_9, ql_10, ql_11, ql_12, ql_13, ql_14, ql_15, ql_16, ql_17, ql_18, ql_19, ql_20, ql_24, ql_25, ql_26, ql_27, ql_31, ql_32, ql_33, ql_36, ql_45, ql_46, ql_47, ql_48, ql_49, ql_50, ql_57, ql_63, ql_64, ql_65, ql_66, ql_67, ql_68, ql_69, ql_70, ql_71, ql_72, ql_73, ql_74, ql_75, ql_76, ql_77, ql_78, ql_79, ql_80, ql_81, ql_82, ql_83, ql_84, ql_85, ql_86, ql_87, ql_93, ql_96, ql_97, ql_100, ql_101, ql_120, ql_255, ql_256, ql_257, ql_511, ql_672, ql_900, ql_1000, ql_65536, kd_15, kd_16, rho_15_1, rho_16r, ir_17r, al_16, al_17s, k0, k1, k4, k5, k10, c0, c1, c2, c3, vy, vz, re_nI]
      (try simp [mm_gd_t]), fr_si (fr_refl _ _ _) (by omega) (by omega), rn_up hn'⟩
  · -- division
    have w3 := w3 (Or.inr hK)
    have w4 := w4 (by omega) (by omega)
    rw [hK] at c0 c2 c3 c4
    have vy := n1 (P.2 i 2) (by omega)
    have vz := n1 (P.2 i 3) (by omega)
    have ly := o1 (P.2 i 2)
    have lz := o1 (P.2 i 3)
    simp only [show hp_ 2 2 = true from rfl, show hp_ 2 3 = true from rfl, show hp_ 2 4 = true from rfl, if_true] at c2 c3 c4
    by_cases hz : v (P.2 i 3) = 0
    · have hth : th_ P i v = 1 := by simp [th_, hK, hz]
      have hnx : nx_ P i v = tg_ P i := by simp [nx_, hth]
      have hvl : vl_ P i v = up_ v 4 1 := by simp [vl_, hth]
      have hfl : fl_ P i v f = decide (P.2 i 4 = 99) := by simp [fl_, hth]
      have hou : ou_ P i v L = L := by simp [ou_, hK]
      rw [hnx, hvl, hfl, hou]
      have hF : fr_ b (b + 4) σ (mm_si (mm_si σ (b + 1) 4 (nI 1)) b 1 (nI (b2 (decide (P.2 i 4 = 99))))) := fr_si (fr_si (fr_refl _ _ _) (by omega) (by omega)) (by omega) (by omega)
      have hT := s_targetOf hP (rc_fr hr h9 hF (Or.inl (by omega))) hi
      refine ⟨_, ?_, hF, rn_th hn'⟩
      have hB := s_beThrown (σ := σ) (w := nI 1) (x := if P.2 i 4 = 99 then -nI 1 else nI (P.2 i 4)) hb'
      have hX : (if (if P.2 i 4 = 99 then -nI 1 else nI (P.2 i 4)) = -nI 1 then nI 1 else nI 0) = nI (b2 (decide (P.2 i 4 = 99))) := by
        by_cases h99 : P.2 i 4 = 99
        · simp [h99, b2]
        · simp (disch := omega) only [h99, if_false, nI_n1]; simp [b2]
      rw [hX] at hB
      simp (disch := omega) only [vX6_step, rX6_step_0, rX6_step_1, rX6_step_4, rX6_step_5, rX6_step_6, rX6_step_7, rX6_step_8, rX6_step_9, rX6_step_10, rX6_step_12, rX6_step_13, rX6_step_14, rX6_step_15_n0, rX6_step_15_n1, rX6_step_15_n2, rX6_step_15_n3, rX6_step_15_n4, rX6_step_15_n5, rX6_step_15_d, rX6_step_52, rX6_step_53, rX6_step_56, rX6_step_58, rX6_step_59, rX6_step_60, rX6_step_61, rX6_step_62, rX6_step_63, rX6_step_64, rX6_step_65, rX6_step_66, rX6_step_67, rX6_step_70, rX6_step_72, rX6_step_73, rX6_step_76, rX6_step_77, rX6_step_78, rX6_step_79, rX6_step_80, rX6_step_81, rX6_step_84, rX6_step_85, rX6_step_86, rX6_step_87, rX6_step_88, rX6_step_89, rX6_step_91, rX6_step_92, rX6_step_93, rX6_step_94, rX6_step_95, rX6_step_96, rX6_step_97, rX6_step_98, rX6_step_101, rX6_step_102, rX6_step_103, rX6_step_104, rX6_step_105, rX6_step_107, rX6_step_109, rX6_step_112, rX6_step_113, rX6_step_114, rX6_step_115, rX6_step_116, rX6_step_117, rX6_step_120, rX6_step_121, rX6_step_122, rX6_step_125, rX6_step_126, rX6_step_127, rX6_step_130, rX6_step_132, rX6_step_133, rX6_step_136, rX6_step_137, rX6_step_138, rX6_step_139, rX6_step_140, rX6_step_142, rX6_step_143, rX6_step_144, rX6_step_145, rX6_step_146, rX6_step_147, rX6_step_148, rX6_step_149, rX6_step_152, rX6_step_154, rX6_step_155, rX6_step_158, rX6_step_159, rX6_step_160, rX6_step_163, rX6_step_166, rX6_step_167, rX6_step_168, rX6_step_169, rX6_step_170, rX6_step_171, rX6_step_174, rX6_step_176, rX6_step_177, rX6_step_180, rX6_step_181, rX6_step_182, rX6_step_183, rX6_step_184, rX6_step_185, rX6_step_186, rX6_step_189, rX6_step_191, rX6_step_192, rX6_step_193, rX6_step_194, rX6_step_195, rX6_step_198, rX6_step_199, rX6_step_200, rX6_step_203, rX6_step_204, rX6_step_205, rX6_step_206, rX6_step_207, rX6_step_210, rX6_step_212, rX6_step_213, rX6_step_216, rX6_step_217, rX6_step_218, rX6_step_219, rX6_step_220, rX6_step_221, rX6_step_222, rX6_step_223, mm_gd_t, mm_kc_v, mm_kc_n, mm_rfs, kl_n, kl_i, kl_r, kl_l, so_0, so_1, so_2, so_3, so_4, beq_self_eq_true, Bool.true_and, Bool.and_true, Bool.or_true, Bool.true_or, Bool.false_or, Bool.or_false, if_true, if_false, ↓reduceIte, decide_true, decide_false, Bool.not_false, Bool.not_true, not_true_eq_false, not_false_eq_true, eq_self, Nat.not_lt_zero, Bool.true_eq_false, Bool.false_eq_true, Nat.reduceAdd, Nat.reduceMul, Nat.reduceSub, Nat.reduceEqDiff, Nat.reduceLeDiff, Nat.reduceLT, Nat.reduceDiv, Nat.reduceMod, zb_0, zb_1, zb_b, on_nI, ml_l, rl_sl1, rl_sl2, rl_eq, rl_nj, rl_nk, qL_0, qL_1, qL_11, qL_10000, nI_lL, lN_add, lN_mul, Nat.zero_add, Nat.add_zero, mm_zr0n, mm_zr1n, mm_zrb, b2_0, b2_1, pk_mul, tn_nI, in_nI, mi_lt, rd_eq, rd_nj, rd_nk, rs_eq, rs_nk, rl_si, rl_sA, nI_add, nI_eqI, nI_leI2, nI_ltI2, ql_0, ql_1, ql_2, ql_3, ql_4, ql_5, ql_6, ql_7, ql_8, ql_9, ql_10, ql_11, ql_12, ql_13, ql_14, ql_15, ql_16, ql_17, ql_18, ql_19, ql_20, ql_24, ql_25, ql_26, ql_27, ql_31, ql_32, ql_33, ql_36, ql_45, ql_46, ql_47, ql_48, ql_49, ql_50, ql_57, ql_63, ql_64, ql_65, ql_66, ql_67, ql_68, ql_69, ql_70, ql_71, ql_72, ql_73, ql_74, ql_75, ql_76, ql_77, ql_78, ql_79, ql_80, ql_81, ql_82, ql_83, ql_84, ql_85, ql_86, ql_87, ql_93, ql_96, ql_97, ql_100, ql_101, ql_120, ql_255, ql_256, ql_257, ql_511, ql_672, ql_900, ql_1000, ql_65536, kd_15, kd_16, rho_15_1, rho_16r, ir_17r, al_16, al_17s, k0, k1, k4, k5, k10, c0, c1, c2, c3, c4, vy, vz, hz, hB, hT]
    · have hth : th_ P i v = 0 := by simp [th_, hK, hz]
      have hnx : nx_ P i v = i + 1 := by simp [nx_, hth, hK]
      have hvl : vl_ P i v = up_ v (P.2 i 1) (v (P.2 i 2) / v (P.2 i 3)) := by simp [vl_, hth, hK]
      have hfl : fl_ P i v f = f := by simp [fl_, hth]
      have hou : ou_ P i v L = L := by simp [ou_, hK]
      rw [hnx, hvl, hfl, hou]
      refine ⟨mm_si σ (b + 1) (P.2 i 1) (nI (v (P.2 i 2) / v (P.2 i 3))), ?_, fr_si (fr_refl _ _ _) (by omega) (by omega), rn_up hn'⟩
      simp (disch := omega) only [vX6_step, rX6_step_0, rX6_step_1, rX6_step_4, rX6_step_5, rX6_step_6, rX6_step_7, rX6_step_8, rX6_step_9, rX6_step_10, rX6_step_12, rX6_step_13, rX6_step_14, rX6_step_15_n0, rX6_step_15_n1, rX6_step_15_n2, rX6_step_15_n3, rX6_step_15_n4, rX6_step_15_n5, rX6_step_15_d, rX6_step_52, rX6_step_53, rX6_step_56, rX6_step_58, rX6_step_59, rX6_step_60, rX6_step_61, rX6_step_62, rX6_step_63, rX6_step_64, rX6_step_65, rX6_step_66, rX6_step_67, rX6_step_70, rX6_step_72, rX6_step_73, rX6_step_76, rX6_step_77, rX6_step_78, rX6_step_79, rX6_step_80, rX6_step_81, rX6_step_84, rX6_step_85, rX6_step_86, rX6_step_87, rX6_step_88, rX6_step_89, rX6_step_91, rX6_step_92, rX6_step_93, rX6_step_94, rX6_step_95, rX6_step_96, rX6_step_97, rX6_step_98, rX6_step_101, rX6_step_102, rX6_step_103, rX6_step_104, rX6_step_105, rX6_step_107, rX6_step_109, rX6_step_112, rX6_step_113, rX6_step_114, rX6_step_115, rX6_step_116, rX6_step_117, rX6_step_120, rX6_step_121, rX6_step_122, rX6_step_125, rX6_step_126, rX6_step_127, rX6_step_130, rX6_step_132, rX6_step_133, rX6_step_136, rX6_step_137, rX6_step_138, rX6_step_139, rX6_step_140, rX6_step_142, rX6_step_143, rX6_step_144, rX6_step_145, rX6_step_146, rX6_step_147, rX6_step_148, rX6_step_149, rX6_step_152, rX6_step_154, rX6_step_155, rX6_step_158, rX6_step_159, rX6_step_160, rX6_step_163, rX6_step_166, rX6_step_167, rX6_step_168, rX6_step_169, rX6_step_170, rX6_step_171, rX6_step_174, rX6_step_176, rX6_step_177, rX6_step_180, rX6_step_181, rX6_step_182, rX6_step_183, rX6_step_184, rX6_step_185, rX6_step_186, rX6_step_189, rX6_step_191, rX6_step_192, rX6_step_193, rX6_step_194, rX6_step_195, rX6_step_198, rX6_step_199, rX6_step_200, rX6_step_203, rX6_step_204, rX6_step_205, rX6_step_206, rX6_step_207, rX6_step_210, rX6_step_212, rX6_step_213, rX6_step_216, rX6_step_217, rX6_step_218, rX6_step_219, rX6_step_220, rX6_step_221, rX6_step_222, rX6_step_223, mm_gd_t, mm_kc_v, mm_kc_n, mm_rfs, kl_n, kl_i, kl_r, kl_l, so_0, so_1, so_2, so_3, so_4, beq_self_eq_true, Bool.true_and, Bool.and_true, Bool.or_true, Bool.true_or, Bool.false_or, Bool.or_false, if_true, if_false, ↓reduceIte, decide_true, decide_false, Bool.not_false, Bool.not_true, not_true_eq_false, not_false_eq_true, eq_self, Nat.not_lt_zero, Bool.true_eq_false, Bool.false_eq_true, Nat.reduceAdd, Nat.reduceMul, Nat.reduceSub, Nat.reduceEqDiff, Nat.reduceLeDiff, Nat.reduceLT, Nat.reduceDiv, Nat.reduceMod, zb_0, zb_1, zb_b, on_nI, ml_l, rl_sl1, rl_sl2, rl_eq, rl_nj, rl_nk, qL_0, qL_1, qL_11, qL_10000, nI_lL, lN_add, lN_mul, Nat.zero_add, Nat.add_zero, mm_zr0n, mm_zr1n, mm_zrb, b2_0, b2_1, pk_mul, tn_nI, in_nI, mi_lt, rd_eq, rd_nj, rd_nk, rs_eq, rs_nk, rl_si, rl_sA, nI_add, nI_eqI, nI_leI2, nI_ltI2, ql_0, ql_1, ql_2, ql_3, ql_4, ql_5, ql_6, ql_7, ql_8, ql_9, ql_10, ql_11, ql_12, ql_13, ql_14, ql_15, ql_16, ql_17, ql_18, ql_19, ql_20, ql_24, ql_25, ql_26, ql_27, ql_31, ql_32, ql_33, ql_36, ql_45, ql_46, ql_47, ql_48, ql_49, ql_50, ql_57, ql_63, ql_64, ql_65, ql_66, ql_67, ql_68, ql_69, ql_70, ql_71, ql_72, ql_73, ql_74, ql_75, ql_76, ql_77, ql_78, ql_79, ql_80, ql_81, ql_82, ql_83, ql_84, ql_85, ql_86, ql_87, ql_93, ql_96, ql_97, ql_100, ql_101, ql_120, ql_255, ql_256, ql_257, ql_511, ql_672, ql_900, ql_1000, ql_65536, kd_15, kd_16, rho_15_1, rho_16r, ir_17r, al_16, al_17s, k0, k1, k4, k5, k10, c0, c1, c2, c3, c4, vy, vz, hz, dv_nI]
  · -- branch
    rw [hK] at c0
    have hth : th_ P i v = 0 := by simp [th_, hK]
    have hvl : vl_ P i v = v := by simp [vl_, hth, hK]
    have hfl : fl_ P i v f = f := by simp [fl_, hth]
    have hou : ou_ P i v L = L := by simp [ou_, hK]
    rw [hvl, hfl, hou]
    by_cases hz : v (P.2 i 1) = 0
    · have hnx : nx_ P i v = i + 1 := by simp [nx_, hth, hz]
      rw [hnx]
      refine ⟨σ, ?_, fr_refl _ _ _, hn'⟩
      simp (disch := omega) only [vX6_step, rX6_step_0, rX6_step_1, rX6_step_4, rX6_step_5, rX6_step_6, rX6_step_7, rX6_step_8, rX6_step_9, rX6_step_10, rX6_step_12, rX6_step_13, rX6_step_14, rX6_step_15_n0, rX6_step_15_n1, rX6_step_15_n2, rX6_step_15_n3, rX6_step_15_n4, rX6_step_15_n5, rX6_step_15_d, rX6_step_52, rX6_step_53, rX6_step_56, rX6_step_58, rX6_step_59, rX6_step_60, rX6_step_61, rX6_step_62, rX6_step_63, rX6_step_64, rX6_step_65, rX6_step_66, rX6_step_67, rX6_step_70, rX6_step_72, rX6_step_73, rX6_step_76, rX6_step_77, rX6_step_78, rX6_step_79, rX6_step_80, rX6_step_81, rX6_step_84, rX6_step_85, rX6_step_86, rX6_step_87, rX6_step_88, rX6_step_89, rX6_step_91, rX6_step_92, rX6_step_93, rX6_step_94, rX6_step_95, rX6_step_96, rX6_step_97, rX6_step_98, rX6_step_101, rX6_step_102, rX6_step_103, rX6_step_104, rX6_step_105, rX6_step_107, rX6_step_109, rX6_step_112, rX6_step_113, rX6_step_114, rX6_step_115, rX6_step_116, rX6_step_117, rX6_step_120, rX6_step_121, rX6_step_122, rX6_step_125, rX6_step_126, rX6_step_127, rX6_step_130, rX6_step_132, rX6_step_133, rX6_step_136, rX6_step_137, rX6_step_138, rX6_step_139, rX6_step_140, rX6_step_142, rX6_step_143, rX6_step_144, rX6_step_145, rX6_step_146, rX6_step_147, rX6_step_148, rX6_step_149, rX6_step_152, rX6_step_154, rX6_step_155, rX6_step_158, rX6_step_159, rX6_step_160, rX6_step_163, rX6_step_166, rX6_step_167, rX6_step_168, rX6_step_169, rX6_step_170, rX6_step_171, rX6_step_174, rX6_step_176, rX6_step_177, rX6_step_180, rX6_step_181, rX6_step_182, rX6_step_183, rX6_step_184, rX6_step_185, rX6_step_186, rX6_step_189, rX6_step_191, rX6_step_192, rX6_step_193, rX6_step_194, rX6_step_195, rX6_step_198, rX6_step_199, rX6_step_200, rX6_step_203, rX6_step_204, rX6_step_205, rX6_step_206, rX6_step_207, rX6_step_210, rX6_step_212, rX6_step_213, rX6_step_216, rX6_step_217, rX6_step_218, rX6_step_219, rX6_step_220, rX6_step_221, rX6_step_222, rX6_step_223, mm_gd_t, mm_kc_v, mm_kc_n, mm_rfs, kl_n, kl_i, kl_r, kl_l, so_0, so_1, so_2, so_3, so_4, beq_self_eq_true, Bool.true_and, Bool.and_true, Bool.or_true, Bool.true_or, Bool.false_or, Bool.or_false, if_true, if_false, ↓reduceIte, decide_true, decide_false, Bool.not_false, Bool.not_true, not_true_eq_false, not_false_eq_true, eq_self, Nat.not_lt_zero, Bool.true_eq_false, Bool.false_eq_true, Nat.reduceAdd, Nat.reduceMul, Nat.reduceSub, Nat.reduceEqDiff, Nat.reduceLeDiff, Nat.reduceLT, Nat.reduceDiv, Nat.reduceMod, zb_0, zb_1, zb_b, on_nI, ml_l, rl_sl1, rl_sl2, rl_eq, rl_nj, rl_nk, qL_0, qL_1, qL_11, qL_10000, nI_lL, lN_add, lN_mul, Nat.zero_add, Nat.add_zero, mm_zr0n, mm_zr1n, mm_zrb, b2_0, b2_1, pk_mul, tn_nI, in_nI, mi_lt, rd_eq, rd_nj, rd_nk, rs_eq, rs_nk, rl_si, rl_sA, nI_add, nI_eqI, nI_leI2, nI_ltI2, ql_0, ql_1, ql_2, ql_3, ql_4, ql_5, ql_6, ql_7, ql_8, ql_9, ql_10, ql_11, ql_12, ql_13, ql_14, ql_15, ql_16, ql_17, ql_18, ql_19, ql_20, ql_24, ql_25, ql_26, ql_27, ql_31, ql_32, ql_33, ql_36, ql_45, ql_46, ql_47, ql_48, ql_49, ql_50, ql_57, ql_63, ql_64, ql_65, ql_66, ql_67, ql_68, ql_69, ql_70, ql_71, ql_72, ql_73, ql_74, ql_75, ql_76, ql_77, ql_78, ql_79, ql_80, ql_81, ql_82, ql_83, ql_84, ql_85, ql_86, ql_87, ql_93, ql_96, ql_97, ql_100, ql_101, ql_120, ql_255, ql_256, ql_257, ql_511, ql_672, ql_900, ql_1000, ql_65536, kd_15, kd_16, rho_15_1, rho_16r, ir_17r, al_16, al_17s, k0, k1, k4, k5, k10, c0, c1, vx, hz]
    · have hnx : nx_ P i v = tg_ P i := by simp [nx_, hK, show 0 < v (P.2 i 1) by omega]
      rw [hnx]
      refine ⟨σ, ?_, fr_refl _ _ _, hn'⟩
      simp (disch := omega) only [vX6_step, rX6_step_0, rX6_step_1, rX6_step_4, rX6_step_5, rX6_step_6, rX6_step_7, rX6_step_8, rX6_step_9, rX6_step_10, rX6_step_12, rX6_step_13, rX6_step_14, rX6_step_15_n0, rX6_step_15_n1, rX6_step_15_n2, rX6_step_15_n3, rX6_step_15_n4, rX6_step_15_n5, rX6_step_15_d, rX6_step_52, rX6_step_53, rX6_step_56, rX6_step_58, rX6_step_59, rX6_step_60, rX6_step_61, rX6_step_62, rX6_step_63, rX6_step_64, rX6_step_65, rX6_step_66, rX6_step_67, rX6_step_70, rX6_step_72, rX6_step_73, rX6_step_76, rX6_step_77, rX6_step_78, rX6_step_79, rX6_step_80, rX6_step_81, rX6_step_84, rX6_step_85, rX6_step_86, rX6_step_87, rX6_step_88, rX6_step_89, rX6_step_91, rX6_step_92, rX6_step_93, rX6_step_94, rX6_step_95, rX6_step_96, rX6_step_97, rX6_step_98, rX6_step_101, rX6_step_102, rX6_step_103, rX6_step_104, rX6_step_105, rX6_step_107, rX6_step_109, rX6_step_112, rX6_step_113, rX6_step_114, rX6_step_115, rX6_step_116, rX6_step_117, rX6_step_120, rX6_step_121, rX6_step_122, rX6_step_125, rX6_step_126, rX6_step_127, rX6_step_130, rX6_step_132, rX6_step_133, rX6_step_136, rX6_step_137, rX6_step_138, rX6_step_139, rX6_step_140, rX6_step_142, rX6_step_143, rX6_step_144, rX6_step_145, rX6_step_146, rX6_step_147, rX6_step_148, rX6_step_149, rX6_step_152, rX6_step_154, rX6_step_155, rX6_step_158, rX6_step_159, rX6_step_160, rX6_step_163, rX6_step_166, rX6_step_167, rX6_step_168, rX6_step_169, rX6_step_170, rX6_step_171, rX6_step_174, rX6_step_176, rX6_step_177, rX6_step_180, rX6_step_181, rX6_step_182, rX6_step_183, rX6_step_184, rX6_step_185, rX6_step_186, rX6_step_189, rX6_step_191, rX6_step_192, rX6_step_193, rX6_step_194, rX6_step_195, rX6_step_198, rX6_step_199, rX6_step_200, rX6_step_203, rX6_step_204, rX6_step_205, rX6_step_206, rX6_step_207, rX6_step_210, rX6_step_212, rX6_step_213, rX6_step_216, rX6_step_217, rX6_step_218, rX6_step_219, rX6_step_220, rX6_step_221, rX6_step_222, rX6_step_223, mm_gd_t, mm_kc_v, mm_kc_n, mm_rfs, kl_n, kl_i, kl_r, kl_l, so_0, so_1, so_2, so_3, so_4, beq_self_eq_true, Bool.true_and, Bool.and_true, Bool.or_true, Bool.true_or, Bool.false_or, Bool.or_false, if_true, if_false, ↓reduceIte, decide_true, decide_false, Bool.not_false, Bool.not_true, not_true_eq_false, not_false_eq_true, eq_self, Nat.not_lt_zero, Bool.true_eq_false, Bool.false_eq_true, Nat.reduceAdd, Nat.reduceMul, Nat.reduceSub, Nat.reduceEqDiff, Nat.reduceLeDiff, Nat.reduceLT, Nat.reduceDiv, Nat.reduceMod, zb_0, zb_1, zb_b, on_nI, ml_l, rl_sl1, rl_sl2, rl_eq, rl_nj, rl_nk, qL_0, qL_1, qL_11, qL_10000, nI_lL, lN_add, lN_mul, Nat.zero_add, Nat.add_zero, mm_zr0n, mm_zr1n, mm_zrb, b2_0, b2_1, pk_mul, tn_nI, in_nI, mi_lt, rd_eq, rd_nj, rd_nk, rs_eq, rs_nk, rl_si, rl_sA, nI_add, nI_eqI, nI_leI2, nI_ltI2, ql_0, ql_1, ql_2, ql_3, ql_4, ql_5, ql_6, ql_7, ql_8, ql_9, ql_10, ql_11, ql_12, ql_13, ql_14, ql_15, ql_16, ql_17, ql_18, ql_19, ql_20, ql_24, ql_25, ql_26, ql_27, ql_31, ql_32, ql_33, ql_36, ql_45, ql_46, ql_47, ql_48, ql_49, ql_50, ql_57, ql_63, ql_64, ql_65, ql_66, ql_67, ql_68, ql_69, ql_70, ql_71, ql_72, ql_73, ql_74, ql_75, ql_76, ql_77, ql_78, ql_79, ql_80, ql_81, ql_82, ql_83, ql_84, ql_85, ql_86, ql_87, ql_93, ql_96, ql_97, ql_100, ql_101, ql_120, ql_255, ql_256, ql_257, ql_511, ql_672, ql_900, ql_1000, ql_65536, kd_15, kd_16, rho_15_1, rho_16r, ir_17r, al_16, al_17s, k0, k1, k4, k5, k10, c0, c1, vx, hz, hT]
  · -- throw
    have w4 := w4 (by omega) (by omega)
    rw [hK] at c0 c4
    simp only [show hp_ 4 4 = true from rfl, if_true] at c4
    have hth : th_ P i v = v (P.2 i 1) := by simp [th_, hK]
    have hou : ou_ P i v L = L := by simp [ou_, hK]
    rw [hou]
    by_cases hz : v (P.2 i 1) = 0
    · have hnx : nx_ P i v = i + 1 := by simp [nx_, hth, hz]
      have hvl : vl_ P i v = v := by simp [vl_, hth, hK, hz]
      have hfl : fl_ P i v f = f := by simp [fl_, hth, hz]
      rw [hnx, hvl, hfl]
      refine ⟨σ, ?_, fr_refl _ _ _, hn'⟩
      simp (disch := omega) only [vX6_step, rX6_step_0, rX6_step_1, rX6_step_4, rX6_step_5, rX6_step_6, rX6_step_7, rX6_step_8, rX6_step_9, rX6_step_10, rX6_step_12, rX6_step_13, rX6_step_14, rX6_step_15_n0, rX6_step_15_n1, rX6_step_15_n2, rX6_step_15_n3, rX6_step_15_n4, rX6_step_15_n5, rX6_step_15_d, rX6_step_52, rX6_step_53, rX6_step_56, rX6_step_58, rX6_step_59, rX6_step_60, rX6_step_61, rX6_step_62, rX6_step_63, rX6_step_64, rX6_step_65, rX6_step_66, rX6_step_67, rX6_step_70, rX6_step_72, rX6_step_73, rX6_step_76, rX6_step_77, rX6_step_78, rX6_step_79, rX6_step_80, rX6_step_81, rX6_step_84, rX6_step_85, rX6_step_86, rX6_step_87, rX6_step_88, rX6_step_89, rX6_step_91, rX6_step_92, rX6_step_93, rX6_step_94, rX6_step_95, rX6_step_96, rX6_step_97, rX6_step_98, rX6_step_101, rX6_step_102, rX6_step_103, rX6_step_104, rX6_step_105, rX6_step_107, rX6_step_109, rX6_step_112, rX6_step_113, rX6_step_114, rX6_step_115, rX6_step_116, rX6_step_117, rX6_step_120, rX6_step_121, rX6_step_122, rX6_step_125, rX6_step_126, rX6_step_127, rX6_step_130, rX6_step_132, rX6_step_133, rX6_step_136, rX6_step_137, rX6_step_138, rX6_step_139, rX6_step_140, rX6_step_142, rX6_step_143, rX6_step_144, rX6_step_145, rX6_step_146, rX6_step_147, rX6_step_148, rX6_step_149, rX6_step_152, rX6_step_154, rX6_step_155, rX6_step_158, rX6_step_159, rX6_step_160, rX6_step_163, rX6_step_166, rX6_step_167, rX6_step_168, rX6_step_169, rX6_step_170, rX6_step_171, rX6_step_174, rX6_step_176, rX6_step_177, rX6_step_180, rX6_step_181, rX6_step_182, rX6_step_183, rX6_step_184, rX6_step_185, rX6_step_186, rX6_step_189, rX6_step_191, rX6_step_192, rX6_step_193, rX6_step_194, rX6_step_195, rX6_step_198, rX6_step_199, rX6_step_200, rX6_step_203, rX6_step_204, rX6_step_205, rX6_step_206, rX6_step_207, rX6_step_210, rX6_step_212, rX6_step_213, rX6_step_216, rX6_step_217, rX6_step_218, rX6_step_219, rX6_step_220, rX6_step_221, rX6_step_222, rX6_step_223, mm_gd_t, mm_kc_v, mm_kc_n, mm_rfs, kl_n, kl_i, kl_r, kl_l, so_0, so_1, so_2, so_3, so_4, beq_self_eq_true, Bool.true_and, Bool.and_true, Bool.or_true, Bool.true_or, Bool.false_or, Bool.or_false, if_true, if_false, ↓reduceIte, decide_true, decide_false, Bool.not_false, Bool.not_true, not_true_eq_false, not_false_eq_true, eq_self, Nat.not_lt_zero, Bool.true_eq_false, Bool.false_eq_true, Nat.reduceAdd, Nat.reduceMul, Nat.reduceSub, Nat.reduceEqDiff, Nat.reduceLeDiff, Nat.reduceLT, Nat.reduceDiv, Nat.reduceMod, zb_0, zb_1, zb_b, on_nI, ml_l, rl_sl1, rl_sl2, rl_eq, rl_nj, rl_nk, qL_0, qL_1, qL_11, qL_10000, nI_lL, lN_add, lN_mul, Nat.zero_add, Nat.add_zero, mm_zr0n, mm_zr1n, mm_zrb, b2_0, b2_1, pk_mul, tn_nI, in_nI, mi_lt, rd_eq, rd_nj, rd_nk, rs_eq, rs_nk, rl_si, rl_sA, nI_add, nI_eqI, nI_leI2, nI_ltI2, ql_0, ql_1, ql_2, ql_3, ql_4, ql_5, ql_6, ql_7, ql_8, ql_9, ql_10, ql_11, ql_12, ql_13, ql_14, ql_15, ql_16, ql_17, ql_18, ql_19, ql_20, ql_24, ql_25, ql_26, ql_27, ql_31, ql_32, ql_33, ql_36, ql_45, ql_46, ql_47, ql_48, ql_49, ql_50, ql_57, ql_63, ql_64, ql_65, ql_66, ql_67, ql_68, ql_69, ql_70, ql_71, ql_72, ql_73, ql_74, ql_75, ql_76, ql_77, ql_78, ql_79, ql_80, ql_81, ql_82, ql_83, ql_84, ql_85, ql_86, ql_87, ql_93, ql_96, ql_97, ql_100, ql_101, ql_120, ql_255, ql_256, ql_257, ql_511, ql_672, ql_900, ql_1000, ql_65536, kd_15, kd_16, rho_15_1, rho_16r, ir_17r, al_16, al_17s, k0, k1, k4, k5, k10, c0, c1, vx, hz]
    · have hp : 0 < v (P.2 i 1) := by omega
      have hnx : nx_ P i v = tg_ P i := by simp [nx_, hth, hp]
      have hvl : vl_ P i v = up_ v 4 (v (P.2 i 1)) := by simp [vl_, hth, hp]
      have hfl : fl_ P i v f = decide (P.2 i 4 = 99) := by simp [fl_, hth, hp]
      rw [hnx, hvl, hfl]
      have hF : fr_ b (b + 4) σ (mm_si (mm_si σ (b + 1) 4 (nI (v (P.2 i 1)))) b 1 (nI (b2 (decide (P.2 i 4 = 99))))) := fr_si (fr_si (fr_refl _ _ _) (by omega) (by omega)) (by omega) (by omega)
      have hT := s_targetOf hP (rc_fr hr h9 hF (Or.inl (by omega))) hi
      refine ⟨_, ?_, hF, rn_th hn'⟩
      have hB := s_beThrown (σ := σ) (w := nI (v (P.2 i 1))) (x := if P.2 i 4 = 99 then -nI 1 else nI (P.2 i 4)) hb'
      have hX : (if (if P.2 i 4 = 99 then -nI 1 else nI (P.2 i 4)) = -nI 1 then nI 1 else nI 0) = nI (b2 (decide (P.2 i 4 = 99))) := by
        by_cases h99 : P.2 i 4 = 99
        · simp [h99, b2]
        · simp (disch := omega) only [h99, if_false, nI_n1]; simp [b2]
      rw [hX] at hB
      simp (disch := omega) only [vX6_step, rX6_step_0, rX6_step_1, rX6_step_4, rX6_step_5, rX6_step_6, rX6_step_7, rX6_step_8, rX6_step_9, rX6_step_10, rX6_step_12, rX6_step_13, rX6_step_14, rX6_step_15_n0, rX6_step_15_n1, rX6_step_15_n2, rX6_step_15_n3, rX6_step_15_n4, rX6_step_15_n5, rX6_step_15_d, rX6_step_52, rX6_step_53, rX6_step_56, rX6_step_58, rX6_step_59, rX6_step_60, rX6_step_61, rX6_step_62, rX6_step_63, rX6_step_64, rX6_step_65, rX6_step_66, rX6_step_67, rX6_step_70, rX6_step_72, rX6_step_73, rX6_step_76, rX6_step_77, rX6_step_78, rX6_step_79, rX6_step_80, rX6_step_81, rX6_step_84, rX6_step_85, rX6_step_86, rX6_step_87, rX6_step_88, rX6_step_89, rX6_step_91, rX6_step_92, rX6_step_93, rX6_step_94, rX6_step_95, rX6_step_96, rX6_step_97, rX6_step_98, rX6_step_101, rX6_step_102, rX6_step_103, rX6_step_104, rX6_step_105, rX6_step_107, rX6_step_109, rX6_step_112, rX6_step_113, rX6_step_114, rX6_step_115, rX6_step_116, rX6_step_117, rX6_step_120, rX6_step_121, rX6_step_122, rX6_step_125, rX6_step_126, rX6_step_127, rX6_step_130, rX6_step_132, rX6_step_133, rX6_step_136, rX6_step_137, rX6_step_138, rX6_step_139, rX6_step_140, rX6_step_142, rX6_step_143, rX6_step_144, rX6_step_145, rX6_step_146, rX6_step_147, rX6_step_148, rX6_step_149, rX6_step_152, rX6_step_154, rX6_step_155, rX6_step_158, rX6_step_159, rX6_step_160, rX6_step_163, rX6_step_166, rX6_step_167, rX6_step_168, rX6_step_169, rX6_step_170, rX6_step_171, rX6_step_174, rX6_step_176, rX6_step_177, rX6_step_180, rX6_step_181, rX6_step_182, rX6_step_183, rX6_step_184, rX6_step_185, rX6_step_186, rX6_step_189, rX6_step_191, rX6_step_192, rX6_step_193, rX6_step_194, rX6_step_195, rX6_step_198, rX6_step_199, rX6_step_200, rX6_step_203, rX6_step_204, rX6_step_205, rX6_step_206, rX6_step_207, rX6_step_210, rX6_step_212, rX6_step_213, rX6_step_216, rX6_step_217, rX6_step_218, rX6_step_219, rX6_step_220, rX6_step_221, rX6_step_222, rX6_step_223, mm_gd_t, mm_kc_v, mm_kc_n, mm_rfs, kl_n, kl_i, kl_r, kl_l, so_0, so_1, so_2, so_3, so_4, beq_self_eq_true, Bool.true_and, Bool.and_true, Bool.or_true, Bool.true_or, Bool.false_or, Bool.or_false, if_true, if_false, ↓reduceIte, decide_true, decide_false, Bool.not_false, Bool.not_true, not_true_eq_false, not_false_eq_true, eq_self, Nat.not_lt_zero, Bool.true_eq_false, Bool.false_eq_true, Nat.reduceAdd, Nat.reduceMul, Nat.reduceSub, Nat.reduceEqDiff, Nat.reduceLeDiff, Nat.reduceLT, Nat.reduceDiv, Nat.reduceMod, zb_0, zb_1, zb_b, on_nI, ml_l, rl_sl1, rl_sl2, rl_eq, rl_nj, rl_nk, qL_0, qL_1, qL_11, qL_10000, nI_lL, lN_add, lN_mul, Nat.zero_add, Nat.add_zero, mm_zr0n, mm_zr1n, mm_zrb, b2_0, b2_1, pk_mul, tn_nI, in_nI, mi_lt, rd_eq, rd_nj, rd_nk, rs_eq, rs_nk, rl_si, rl_sA, nI_add, nI_eqI, nI_leI2, nI_ltI2, ql_0, ql_1, ql_2, ql_3, ql_4, ql_5, ql_6, ql_7, ql_8, ql_9, ql_10, ql_11, ql_12, ql_13, ql_14, ql_15, ql_16, ql_17, ql_18, ql_19, ql_20, ql_24, ql_25, ql_26, ql_27, ql_31, ql_32, ql_33, ql_36, ql_45, ql_46, ql_47, ql_48, ql_49, ql_50, ql_57, ql_63, ql_64, ql_65, ql_66, ql_67, ql_68, ql_69, ql_70, ql_71, ql_72, ql_73, ql_74, ql_75, ql_76, ql_77, ql_78, ql_79, ql_80, ql_81, ql_82, ql_83, ql_84, ql_85, ql_86, ql_87, ql_93, ql_96, ql_97, ql_100, ql_101, ql_120, ql_255, ql_256, ql_257, ql_511, ql_672, ql_900, ql_1000, ql_65536, kd_15, kd_16, rho_15_1, rho_16r, ir_17r, al_16, al_17s, k0, k1, k4, k5, k10, c0, c1, c4, vx, hz, hB, hT]
  · -- speak
    rw [hK] at c0
    have hth : th_ P i v = 0 := by simp [th_, hK]
    have hnx : nx_ P i v = i + 1 := by simp [nx_, hth, hK]
    have hvl : vl_ P i v = v := by simp [vl_, hth, hK]
    have hfl : fl_ P i v f = f := by simp [fl_, hth]
    have hou : ou_ P i v L = L ++ [(i, v (P.2 i 1))] := by simp [ou_, hK]
    rw [hnx, hvl, hfl, hou]
    refine ⟨_, ?_, fr_si (fr_si (fr_si (fr_refl _ _ _) (by omega) (by omega)) (by omega) (by omega)) (by omega) (by omega), rn_sp hn'⟩
    have hS := s_speak (σ := σ) (l := nI i) (w := nI (v (P.2 i 1))) hb' (show L.length < 9 by omega) n2
    simp (disch := omega) only [vX6_step, rX6_step_0, rX6_step_1, rX6_step_4, rX6_step_5, rX6_step_6, rX6_step_7, rX6_step_8, rX6_step_9, rX6_step_10, rX6_step_12, rX6_step_13, rX6_step_14, rX6_step_15_n0, rX6_step_15_n1, rX6_step_15_n2, rX6_step_15_n3, rX6_step_15_n4, rX6_step_15_n5, rX6_step_15_d, rX6_step_52, rX6_step_53, rX6_step_56, rX6_step_58, rX6_step_59, rX6_step_60, rX6_step_61, rX6_step_62, rX6_step_63, rX6_step_64, rX6_step_65, rX6_step_66, rX6_step_67, rX6_step_70, rX6_step_72, rX6_step_73, rX6_step_76, rX6_step_77, rX6_step_78, rX6_step_79, rX6_step_80, rX6_step_81, rX6_step_84, rX6_step_85, rX6_step_86, rX6_step_87, rX6_step_88, rX6_step_89, rX6_step_91, rX6_step_92, rX6_step_93, rX6_step_94, rX6_step_95, rX6_step_96, rX6_step_97, rX6_step_98, rX6_step_101, rX6_step_102, rX6_step_103, rX6_step_104, rX6_step_105, rX6_step_107, rX6_step_109, rX6_step_112, rX6_step_113, rX6_step_114, rX6_step_115, rX6_step_116, rX6_step_117, rX6_step_120, rX6_step_121, rX6_step_122, rX6_step_125, rX6_step_126, rX6_step_127, rX6_step_130, rX6_step_132, rX6_step_133, rX6_step_136, rX6_step_137, rX6_step_138, rX6_step_139, rX6_step_140, rX6_step_142, rX6_step_143, rX6_step_144, rX6_step_145, rX6_step_146, rX6_step_147, rX6_step_148, rX6_step_149, rX6_step_152, rX6_step_154, rX6_step_155, rX6_step_158, rX6_step_159, rX6_step_160, rX6_step_163, rX6_step_166, rX6_step_167, rX6_step_168, rX6_step_169, rX6_step_170, rX6_step_171, rX6_step_174, rX6_step_176, rX6_step_177, rX6_step_180, rX6_step_181, rX6_step_182, rX6_step_183, rX6_step_184, rX6_step_185, rX6_step_186, rX6_step_189, rX6_step_191, rX6_step_192, rX6_step_193, rX6_step_194, rX6_step_195, rX6_step_198, rX6_step_199, rX6_step_200, rX6_step_203, rX6_step_204, rX6_step_205, rX6_step_206, rX6_step_207, rX6_step_210, rX6_step_212, rX6_step_213, rX6_step_216, rX6_step_217, rX6_step_218, rX6_step_219, rX6_step_220, rX6_step_221, rX6_step_222, rX6_step_223, mm_gd_t, mm_kc_v, mm_kc_n, mm_rfs, kl_n, kl_i, kl_r, kl_l, so_0, so_1, so_2, so_3, so_4, beq_self_eq_true, Bool.true_and, Bool.and_true, Bool.or_true, Bool.true_or, Bool.false_or, Bool.or_false, if_true, if_false, ↓reduceIte, decide_true, decide_false, Bool.not_false, Bool.not_true, not_true_eq_false, not_false_eq_true, eq_self, Nat.not_lt_zero, Bool.true_eq_false, Bool.false_eq_true, Nat.reduceAdd, Nat.reduceMul, Nat.reduceSub, Nat.reduceEqDiff, Nat.reduceLeDiff, Nat.reduceLT, Nat.reduceDiv, Nat.reduceMod, zb_0, zb_1, zb_b, on_nI, ml_l, rl_sl1, rl_sl2, rl_eq, rl_nj, rl_nk, qL_0, qL_1, qL_11, qL_10000, nI_lL, lN_add, lN_mul, Nat.zero_add, Nat.add_zero, mm_zr0n, mm_zr1n, mm_zrb, b2_0, b2_1, pk_mul, tn_nI, in_nI, mi_lt, rd_eq, rd_nj, rd_nk, rs_eq, rs_nk, rl_si, rl_sA, nI_add, nI_eqI, nI_leI2, nI_ltI2, ql_0, ql_1, ql_2, ql_3, ql_4, ql_5, ql_6, ql_7, ql_8, ql_9, ql_10, ql_11, ql_12, ql_13, ql_14, ql_15, ql_16, ql_17, ql_18, ql_19, ql_20, ql_24, ql_25, ql_26, ql_27, ql_31, ql_32, ql_33, ql_36, ql_45, ql_46, ql_47, ql_48, ql_49, ql_50, ql_57, ql_63, ql_64, ql_65, ql_66, ql_67, ql_68, ql_69, ql_70, ql_71, ql_72, ql_73, ql_74, ql_75, ql_76, ql_77, ql_78, ql_79, ql_80, ql_81, ql_82, ql_83, ql_84, ql_85, ql_86, ql_87, ql_93, ql_96, ql_97, ql_100, ql_101, ql_120, ql_255, ql_256, ql_257, ql_511, ql_672, ql_900, ql_1000, ql_65536, kd_15, kd_16, rho_15_1, rho_16r, ir_17r, al_16, al_17s, k0, k1, k4, k5, k10, c0, c1, vx, hS]
  · -- free
    rw [hK] at c0
    have hth : th_ P i v = 0 := by simp [th_, hK]
    have hnx : nx_ P i v = i + 1 := by simp [nx_, hth, hK]
    have hvl : vl_ P i v = v := by simp [vl_, hth, hK]
    have hfl : fl_ P i v f = f := by simp [fl_, hth]
    have hou : ou_ P i v L = L := by simp [ou_, hK]
    rw [hnx, hvl, hfl, hou]
    refine ⟨σ, ?_, fr_refl _ _ _, hn'⟩
    have hd := @rX6_step_15_d
    simp (disch := first | omega | decide) only [vX6_step, rX6_step_0, rX6_step_1, rX6_step_4, rX6_step_5, rX6_step_6, rX6_step_7, rX6_step_8, rX6_step_9, rX6_step_10, rX6_step_12, rX6_step_13, rX6_step_14, rX6_step_15_n0, rX6_step_15_n1, rX6_step_15_n2, rX6_step_15_n3, rX6_step_15_n4, rX6_step_15_n5, rX6_step_15_d, rX6_step_52, rX6_step_53, rX6_step_56, rX6_step_58, rX6_step_59, rX6_step_60, rX6_step_61, rX6_step_62, rX6_step_63, rX6_step_64, rX6_step_65, rX6_step_66, rX6_step_67, rX6_step_70, rX6_step_72, rX6_step_73, rX6_step_76, rX6_step_77, rX6_step_78, rX6_step_79, rX6_step_80, rX6_step_81, rX6_step_84, rX6_step_85, rX6_step_86, rX6_step_87, rX6_step_88, rX6_step_89, rX6_step_91, rX6_step_92, rX6_step_93, rX6_step_94, rX6_step_95, rX6_step_96, rX6_step_97, rX6_step_98, rX6_step_101, rX6_step_102, rX6_step_103, rX6_step_104, rX6_step_105, rX6_step_107, rX6_step_109, rX6_step_112, rX6_step_113, rX6_step_114, rX6_step_115, rX6_step_116, rX6_step_117, rX6_step_120, rX6_step_121, rX6_step_122, rX6_step_125, rX6_step_126, rX6_step_127, rX6_step_130, rX6_step_132, rX6_step_133, rX6_step_136, rX6_step_137, rX6_step_138, rX6_step_139, rX6_step_140, rX6_step_142, rX6_step_143, rX6_step_144, rX6_step_145, rX6_step_146, rX6_step_147, rX6_step_148, rX6_step_149, rX6_step_152, rX6_step_154, rX6_step_155, rX6_step_158, rX6_step_159, rX6_step_160, rX6_step_163, rX6_step_166, rX6_step_167, rX6_step_168, rX6_step_169, rX6_step_170, rX6_step_171, rX6_step_174, rX6_step_176, rX6_step_177, rX6_step_180, rX6_step_181, rX6_step_182, rX6_step_183, rX6_step_184, rX6_step_185, rX6_step_186, rX6_step_189, rX6_step_191, rX6_step_192, rX6_step_193, rX6_step_194, rX6_step_195, rX6_step_198, rX6_step_199, rX6_step_200, rX6_step_203, rX6_step_204, rX6_step_205, rX6_step_206, rX6_step_207, rX6_step_210, rX6_step_212, rX6_step_213, rX6_step_216, rX6_step_217, rX6_step_218, rX6_step_219, rX6_step_220, rX6_step_221, rX6_step_222, rX6_step_223, mm_gd_t, mm_kc_v, mm_kc_n, mm_rfs, kl_n, kl_i, kl_r, kl_l, so_0, so_1, so_2, so_3, so_4, beq_self_eq_true, Bool.true_and, Bool.and_true, Bool.or_true, Bool.true_or, Bool.false_or, Bool.or_false, if_true, if_false, ↓reduceIte, decide_true, decide_false, Bool.not_false, Bool.not_true, not_true_eq_false, not_false_eq_true, eq_self, Nat.not_lt_zero, Bool.true_eq_false, Bool.false_eq_true, Nat.reduceAdd, Nat.reduceMul, Nat.reduceSub, Nat.reduceEqDiff, Nat.reduceLeDiff, Nat.reduceLT, Nat.reduceDiv, Nat.reduceMod, zb_0, zb_1, zb_b, on_nI, ml_l, rl_sl1, rl_sl2, rl_eq, rl_nj, rl_nk, qL_0, qL_1, qL_11, qL_10000, nI_lL, lN_add, lN_mul, Nat.zero_add, Nat.add_zero, mm_zr0n, mm_zr1n, mm_zrb, b2_0, b2_1, pk_mul, tn_nI, in_nI, mi_lt, rd_eq, rd_nj, rd_nk, rs_eq, rs_nk, rl_si, rl_sA, nI_add, nI_eqI, nI_leI2, nI_ltI2, ql_0, ql_1, ql_2, ql_3, ql_4, ql_5, ql_6, ql_7, ql_8, ql_9, ql_10, ql_11, ql_12, ql_13, ql_14, ql_15, ql_16, ql_17, ql_18, ql_19, ql_20, ql_24, ql_25, ql_26, ql_27, ql_31, ql_32, ql_33, ql_36, ql_45, ql_46, ql_47, ql_48, ql_49, ql_50, ql_57, ql_63, ql_64, ql_65, ql_66, ql_67, ql_68, ql_69, ql_70, ql_71, ql_72, ql_73, ql_74, ql_75, ql_76, ql_77, ql_78, ql_79, ql_80, ql_81, ql_82, ql_83, ql_84, ql_85, ql_86, ql_87, ql_93, ql_96, ql_97, ql_100, ql_101, ql_120, ql_255, ql_256, ql_257, ql_511, ql_672, ql_900, ql_1000, ql_65536, kd_15, kd_16, rho_15_1, rho_16r, ir_17r, al_16, al_17s, k0, k1, k4, k5, k10, c0, c1, vx]
theorem rn_fr {b lo hi : Nat} {σ σ' : mm_M} {v : Nat → Nat} {f : Bool} {L : List (Nat × Nat)} (h : rn_ b σ v f L) (hf : fr_ lo hi σ σ') (ho : b + 4 ≤ lo ∨ hi ≤ b) : rn_ b σ' v f L := by
  obtain ⟨n1, n2, n3, n4⟩ := h
  refine ⟨fun j hj => ?_, ?_, ?_, fun j hj => ?_⟩
  · rw [hf.1 (b + 1) (by omega)]; exact n1 j hj
  · rw [hf.1 b (by omega)]; exact n2
  · rw [hf.1 b (by omega)]; exact n3
  · rw [hf.1 (b + 2) (by omega), hf.1 (b + 3) (by omega)]; exact n4 j hj
theorem s_goL {b : Nat} {P : pp_} (hb : rb_ b) (hP : wf_ P) {x2 x3 x4 : Option Value} : ∀ (k : Nat) (σ : mm_M) (i : Nat) (v : Nat → Nat) (f : Bool) (L : List (Nat × Nat)), k ≤ 9 → i ≤ P.1 → rc_ 15 σ P → rn_ b σ v f L → ok_ i v L →
    ∃ σ', mm_run mX6_go mm_H 52 [some (.ref b), some (.ref 15), x2, x3, x4, some (.int (nI i)), some (.int (nI (9 - k)))] [] σ = some (none, mm_H, σ') ∧ fr_ b (b + 4) σ σ' ∧ rn_ b σ' (ru_ P k i v f L).1 (ru_ P k i v f L).2.1 (ru_ P k i v f L).2.2
  | 0, σ, i, v, f, L, hk, hi, hr, hn, ho => by
    refine ⟨σ, ?_, fr_refl _ _ _, hn⟩
    rw [rX6_go_52]
    simp (disch := omega) only [vX6_go, rX6_go_0, rX6_go_1, rX6_go_4, rX6_go_5, rX6_go_6, rX6_go_7, rX6_go_8, rX6_go_11, rX6_go_12, rX6_go_13, rX6_go_14, rX6_go_15, rX6_go_18, rX6_go_19, rX6_go_21, rX6_go_22, rX6_go_23, rX6_go_26, rX6_go_27, rX6_go_28, rX6_go_29, rX6_go_30, rX6_go_33, rX6_go_34, rX6_go_35, rX6_go_36, rX6_go_37, rX6_go_38, rX6_go_41, rX6_go_42, rX6_go_43, rX6_go_46, rX6_go_47, rX6_go_49, rX6_go_50, rX6_go_54, rX6_go_56, rX6_go_59, rX6_go_61, rX6_go_62, rX6_go_65, rX6_go_68, rX6_go_69, rX6_go_70, rX6_go_72, rX6_go_75, rX6_go_77, rX6_go_80, rX6_go_83, mm_gd_t, mm_kc_v, mm_kc_n, mm_rfs, kl_n, kl_i, kl_r, kl_l, so_0, so_1, so_2, so_3, so_4, beq_self_eq_true, Bool.true_and, Bool.and_true, Bool.or_true, Bool.true_or, Bool.false_or, Bool.or_false, if_true, if_false, ↓reduceIte, decide_true, decide_false, Bool.not_false, Bool.not_true, not_true_eq_false, not_false_eq_true, eq_self, Nat.not_lt_zero, Bool.true_eq_false, Bool.false_eq_true, Nat.reduceAdd, Nat.reduceMul, Nat.reduceSub, Nat.reduceEqDiff, Nat.reduceLeDiff, Nat.reduceLT, Nat.reduceDiv, Nat.reduceMod, zb_0, zb_1, zb_b, on_nI, ml_l, rl_sl1, rl_sl2, rl_eq, rl_nj, rl_nk, qL_0, qL_1, qL_11, qL_10000, nI_lL, lN_add, lN_mul, Nat.zero_add, Nat.add_zero, mm_zr0n, mm_zr1n, mm_zrb, b2_0, b2_1, pk_mul, tn_nI, in_nI, mi_lt, rd_eq, rd_nj, rd_nk, rs_eq, rs_nk, rl_si, rl_sA, nI_add, nI_eqI, nI_leI2, nI_ltI2, ql_0, ql_1, ql_2, ql_3, ql_4, ql_5, ql_6, ql_7, ql_8, ql_9, ql_10, ql_11, ql_12, ql_13, ql_14, ql_15, ql_16, ql_17, ql_18, ql_19, ql_20, ql_24, ql_25, ql_26, ql_27, ql_31, ql_32, ql_33, ql_36, ql_45, ql_46, ql_47, ql_48, ql_49, ql_50, ql_57, ql_63, ql_64, ql_65, ql_66, ql_67, ql_68, ql_69, ql_70, ql_71, ql_72, ql_73, ql_74, ql_75, ql_76, ql_77, ql_78, ql_79, ql_80, ql_81, ql_82, ql_83, ql_84, ql_85, ql_86, ql_87, ql_93, ql_96, ql_97, ql_100, ql_101, ql_120, ql_255, ql_256, ql_257, ql_511, ql_672, ql_900, ql_1000, ql_65536]
    try simp
  | k + 1, σ, i, v, f, L, hk, hi, hr, hn, ho => by
    have h9 := hP.1
    have hk0 := hb.1
    have hb26 : 26 < b := hb.2.2.2.2.2.2.2.2.2.2.2.2.2.1
    by_cases hlt : i < P.1
    · obtain ⟨σ1, e1, f1, r1⟩ := s_step hb hP hr hlt hn ho
      obtain ⟨σ2, e2, f2, r2⟩ := s_goL hb hP (x2 := x2) (x3 := x3) (x4 := mm_kl x4) k σ1 _ _ _ _ (by omega) (nx_gt hP hlt v).2 (rc_fr hr h9 f1 (Or.inl (by omega))) r1 (ok_nx hP hlt ho)
      have e : ru_ P (k + 1) i v f L = ru_ P k (nx_ P i v) (vl_ P i v) (fl_ P i v f) (ou_ P i v L) := by rw [ru_, if_pos hlt]
      rw [e]
      refine ⟨σ2, ?_, fr_tr f1 f2, r2⟩
      have hs : 9 - (k + 1) + 1 = 9 - k := by omega
      have hs2 : ¬ 9 ≤ 9 - (k + 1) := by omega
      have hs3 : ¬ P.1 ≤ i := by omega
      rw [rX6_go_52]
      simp (disch := omega) only [vX6_go, rX6_go_0, rX6_go_1, rX6_go_4, rX6_go_5, rX6_go_6, rX6_go_7, rX6_go_8, rX6_go_11, rX6_go_12, rX6_go_13, rX6_go_14, rX6_go_15, rX6_go_18, rX6_go_19, rX6_go_21, rX6_go_22, rX6_go_23, rX6_go_26, rX6_go_27, rX6_go_28, rX6_go_29, rX6_go_30, rX6_go_33, rX6_go_34, rX6_go_35, rX6_go_36, rX6_go_37, rX6_go_38, rX6_go_41, rX6_go_42, rX6_go_43, rX6_go_46, rX6_go_47, rX6_go_49, rX6_go_50, rX6_go_54, rX6_go_56, rX6_go_59, rX6_go_61, rX6_go_62, rX6_go_65, rX6_go_68, rX6_go_69, rX6_go_70, rX6_go_72, rX6_go_75, rX6_go_77, rX6_go_80, rX6_go_83, mm_gd_t, mm_kc_v, mm_kc_n, mm_rfs, kl_n, kl_i, kl_r, kl_l, so_0, so_1, so_2, so_3, so_4, beq_self_eq_true, Bool.true_and, Bool.and_true, Bool.or_true, Bool.true_or, Bool.false_or, Bool.or_false, if_true, if_false, ↓reduceIte, decide_true, decide_false, Bool.not_false, Bool.not_true, not_true_eq_false, not_false_eq_true, eq_self, Nat.not_lt_zero, Bool.true_eq_false, Bool.false_eq_true, Nat.reduceAdd, Nat.reduceMul, Nat.reduceSub, Nat.reduceEqDiff, Nat.reduceLeDiff, Nat.reduceLT, Nat.reduceDiv, Nat.reduceMod, zb_0, zb_1, zb_b, on_nI, ml_l, rl_sl1, rl_sl2, rl_eq, rl_nj, rl_nk, qL_0, qL_1, qL_11, qL_10000, nI_lL, lN_add, lN_mul, Nat.zero_add, Nat.add_zero, mm_zr0n, mm_zr1n, mm_zrb, b2_0, b2_1, pk_mul, tn_nI, in_nI, mi_lt, rd_eq, rd_nj, rd_nk, rs_eq, rs_nk, rl_si, rl_sA, nI_add, nI_eqI, nI_leI2, nI_ltI2, ql_0, ql_1, ql_2, ql_3, ql_4, ql_5, ql_6, ql_7, ql_8, ql_9, ql_10, ql_11, ql_12, ql_13, ql_14, ql_15, ql_16, ql_17, ql_18, ql_19, ql_20, ql_24, ql_25, ql_26, ql_27, ql_31, ql_32, ql_33, ql_36, ql_45, ql_46, ql_47, ql_48, ql_49, ql_50, ql_57, ql_63, ql_64, ql_65, ql_66, ql_67, ql_68, ql_69, ql_70, ql_71, ql_72, ql_73, ql_74, ql_75, ql_76, ql_77, ql_78, ql_79, ql_80, ql_81, ql_82, ql_83, ql_84, ql_85, ql_86, ql_87, ql_93, ql_96, ql_97, ql_100, ql_101, ql_120, ql_255, ql_256, ql_257, ql_511, ql_672, ql_900, ql_1000, ql_65536, kd_15, rc_n hr, hs2, hs3, e1, hk0, hs, e2]
    · have e : ru_ P (k + 1) i v f L = (v, f, L) := by rw [ru_, if_neg hlt]
      rw [e]
      refine ⟨σ, ?_, fr_refl _ _ _, hn⟩
      have hs2 : ¬ 9 ≤ 9 - (k + 1) := by omega
      have hs3 : P.1 ≤ i := by omega
      rw [rX6_go_52]
      simp (disch := omega) only [vX6_go, rX6_go_0, rX6_go_1, rX6_go_4, rX6_go_5, rX6_go_6, rX6_go_7, rX6_go_8, rX6_go_11, rX6_go_12, rX6_go_13, rX6_go_14, rX6_go_15, rX6_go_18, rX6_go_19, rX6_go_21, rX6_go_22, rX6_go_23, rX6_go_26, rX6_go_27, rX6_go_28, rX6_go_29, rX6_go_30, rX6_go_33, rX6_go_34, rX6_go_35, rX6_go_36, rX6_go_37, rX6_go_38, rX6_go_41, rX6_go_42, rX6_go_43, rX6_go_46, rX6_go_47, rX6_go_49, rX6_go_50, rX6_go_54, rX6_go_56, rX6_go_59, rX6_go_61, rX6_go_62, rX6_go_65, rX6_go_68, rX6_go_69, rX6_go_70, rX6_go_72, rX6_go_75, rX6_go_77, rX6_go_80, rX6_go_83, mm_gd_t, mm_kc_v, mm_kc_n, mm_rfs, kl_n, kl_i, kl_r, kl_l, so_0, so_1, so_2, so_3, so_4, beq_self_eq_true, Bool.true_and, Bool.and_true, Bool.or_true, Bool.true_or, Bool.false_or, Bool.or_false, if_true, if_false, ↓reduceIte, decide_true, decide_false, Bool.not_false, Bool.not_true, not_true_eq_false, not_false_eq_true, eq_self, Nat.not_lt_zero, Bool.true_eq_false, Bool.false_eq_true, Nat.reduceAdd, Nat.reduceMul, Nat.reduceSub, Nat.reduceEqDiff, Nat.reduceLeDiff, Nat.reduceLT, Nat.reduceDiv, Nat.reduceMod, zb_0, zb_1, zb_b, on_nI, ml_l, rl_sl1, rl_sl2, rl_eq, rl_nj, rl_nk, qL_0, qL_1, qL_11, qL_10000, nI_lL, lN_add, lN_mul, Nat.zero_add, Nat.add_zero, mm_zr0n, mm_zr1n, mm_zrb, b2_0, b2_1, pk_mul, tn_nI, in_nI, mi_lt, rd_eq, rd_nj, rd_nk, rs_eq, rs_nk, rl_si, rl_sA, nI_add, nI_eqI, nI_leI2, nI_ltI2, ql_0, ql_1, ql_2, ql_3, ql_4, ql_5, ql_6, ql_7, ql_8, ql_9, ql_10, ql_11, ql_12, ql_13, ql_14, ql_15, ql_16, ql_17, ql_18, ql_19, ql_20, ql_24, ql_25, ql_26, ql_27, ql_31, ql_32, ql_33, ql_36, ql_45, ql_46, ql_47, ql_48, ql_49, ql_50, ql_57, ql_63, ql_64, ql_65, ql_66, ql_67, ql_68, ql_69, ql_70, ql_71, ql_72, ql_73, ql_74, ql_75, ql_76, ql_77, ql_78, ql_79, ql_80, ql_81, ql_82, ql_83, ql_84, ql_85, ql_86, ql_87, ql_93, ql_96, ql_97, ql_100, ql_101, ql_120, ql_255, ql_256, ql_257, ql_511, ql_672, ql_900, ql_1000, ql_65536, kd_15, rc_n hr, hs2, hs3]
theorem s_go {σ : mm_M} {b : Nat} {P : pp_} {a c d : Nat} (hb : rb_ b) (hP : wf_ P) (hr : rc_ 15 σ P) (ha : a ≤ 9) (hc : c ≤ 9) (hd : d ≤ 9) :
    ∃ σ', mm_ev mX6_go [.ref b, .ref 15, .int (nI a), .int (nI c), .int (nI d)] mm_H σ = some (none, mm_H, σ') ∧ fr_ b (b + 4) σ σ' ∧ rn_ b σ' (rr_ P a c d).1 (rr_ P a c d).2.1 (rr_ P a c d).2.2 := by
  have hb' := hb
  obtain ⟨k0, k1, k2, k3, k4, k5, k6, k7, k8, k9, k10, k11, k12, k13, k14⟩ := hb
  let σ1 : mm_M := mm_si (mm_si (mm_si (mm_si (mm_si (mm_si (mm_si σ (b + 1) 0 (nI a)) (b + 1) 1 (nI c)) (b + 1) 2 (nI d)) (b + 1) 3 (nI 0)) (b + 1) 4 (nI 0)) b 0 (nI 0)) b 1 (nI 0)
  have f1 : fr_ b (b + 4) σ σ1 := by
    repeat' first | exact fr_refl _ _ _ | refine fr_si ?_ (by omega) (by omega)
  have r1 : rn_ b σ1 (v0_ a c d) false [] := by
    refine ⟨fun j hj => ?_, ?_, ?_, fun j hj => (by cases hj)⟩
    · have : j = 0 ∨ j = 1 ∨ j = 2 ∨ j = 3 ∨ j = 4 := by omega
      rcases this with h | h | h | h | h <;> subst h <;> simp (disch := omega) only [σ1, rd_eq, rd_nj, rd_nk] <;> rfl
    · simp (disch := omega) only [σ1, rd_eq, rd_nj, rd_nk]; rfl
    · simp (disch := omega) only [σ1, rd_eq, rd_nj, rd_nk]; rfl
  obtain ⟨σ2, e2, f2, r2⟩ := s_goL hb' hP (x2 := some (.int (nI a))) (x3 := some (.int (nI c))) (x4 := some (.int (nI d))) 9 σ1 0 _ _ _ (by omega) (by omega) (rc_fr hr hP.1 f1 (Or.inl (by omega))) r1 (ok_0 ha hc hd)
  refine ⟨σ2, ?_, fr_tr f1 f2, r2⟩
  simp (disch := omega) only [vX6_go, rX6_go_0, rX6_go_1, rX6_go_4, rX6_go_5, rX6_go_6, rX6_go_7, rX6_go_8, rX6_go_11, rX6_go_12, rX6_go_13, rX6_go_14, rX6_go_15, rX6_go_18, rX6_go_19, rX6_go_21, rX6_go_22, rX6_go_23, rX6_go_26, rX6_go_27, rX6_go_28, rX6_go_29, rX6_go_30, rX6_go_33, rX6_go_34, rX6_go_35, rX6_go_36, rX6_go_37, rX6_go_38, rX6_go_41, rX6_go_42, rX6_go_43, rX6_go_46, rX6_go_47, rX6_go_49, rX6_go_50, rX6_go_54, rX6_go_56, rX6_go_59, rX6_go_61, rX6_go_62, rX6_go_65, rX6_go_68, rX6_go_69, rX6_go_70, rX6_go_72, rX6_go_75, rX6_go_77, rX6_go_80, rX6_go_83, mm_gd_t, mm_kc_v, mm_kc_n, mm_rfs, kl_n, kl_i, kl_r, kl_l, so_0, so_1, so_2, so_3, so_4, beq_self_eq_true, Bool.true_and, Bool.and_true, Bool.or_true, Bool.true_or, Bool.false_or, Bool.or_false, if_true, if_false, ↓reduceIte, decide_true, decide_false, Bool.not_false, Bool.not_true, not_true_eq_false, not_false_eq_true, eq_self, Nat.not_lt_zero, Bool.true_eq_false, Bool.false_eq_true, Nat.reduceAdd, Nat.reduceMul, Nat.reduceSub, Nat.reduceEqDiff, Nat.reduceLeDiff, Nat.reduceLT, Nat.reduceDiv, Nat.reduceMod, zb_0, zb_1, zb_b, on_nI, ml_l, rl_sl1, rl_sl2, rl_eq, rl_nj, rl_nk, qL_0, qL_1, qL_11, qL_10000, nI_lL, lN_add, lN_mul, Nat.zero_add, Nat.add_zero, mm_zr0n, mm_zr1n, mm_zrb, b2_0, b2_1, pk_mul, tn_nI, in_nI, mi_lt, rd_eq, rd_nj, rd_nk, rs_eq, rs_nk, rl_si, rl_sA, nI_add, nI_eqI, nI_leI2, nI_ltI2, ql_0, ql_1, ql_2, ql_3, ql_4, ql_5, ql_6, ql_7, ql_8, ql_9, ql_10, ql_11, ql_12, ql_13, ql_14, ql_15, ql_16, ql_17, ql_18, ql_19, ql_20, ql_24, ql_25, ql_26, ql_27, ql_31, ql_32, ql_33, ql_36, ql_45, ql_46, ql_47, ql_48, ql_49, ql_50, ql_57, ql_63, ql_64, ql_65, ql_66, ql_67, ql_68, ql_69, ql_70, ql_71, ql_72, ql_73, ql_74, ql_75, ql_76, ql_77, ql_78, ql_79, ql_80, ql_81, ql_82, ql_83, ql_84, ql_85, ql_86, ql_87, ql_93, ql_96, ql_97, ql_100, ql_101, ql_120, ql_255, ql_256, ql_257, ql_511, ql_672, ql_900, ql_1000, ql_65536, k0, k1, k5, k10]
  exact e2

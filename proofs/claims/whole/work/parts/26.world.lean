/-! ===== the world: how the pure memory lies in the heap ===== -/
def ss_ad (B : Nat) (ex : Nat → Nat) (k : Nat) : Nat := if k < 1000 then B + k else ex (k - 1000)
def ss_tr (B : Nat) (ex : Nat → Nat) : Value → Value
  | .ref k => .ref (ss_ad B ex k)
  | v => v
def ss_fv (B : Nat) (ex : Nat → Nat) (θ : mm_T) (σ : mm_M) (k j t : Nat) : Value := match t with
  | 1 => .long (σ.2.1 k j)
  | 2 => va_rf ((θ.2 k j).map (ss_ad B ex))
  | _ => .int (σ.1 k j)
def ss_ce (cA : Nat → ClassId) (B : Nat) (ex : Nat → Nat) (θ : mm_T) (σ : mm_M) (k : Nat) : va_E :=
  if (mm_kt k).1 < 10 then .inr ((mm_kt k).1, (List.range (mm_kt k).2).map (fun j => ss_fv B ex θ σ k j (mm_ft (mm_kt k).1 j)))
  else if (mm_kt k).1 = 20 then .inl (cA 0, (mm_kt k).2, .inl (σ.1 k))
  else if (mm_kt k).1 = 21 then .inl (cA 1, (mm_kt k).2, .inl (σ.1 k))
  else if (mm_kt k).1 = 23 then .inl (cA 2, (mm_kt k).2, .inr (.inl (σ.2.1 k)))
  else if (mm_kt k).1 = 24 then .inl (cA 3, (mm_kt k).2, .inr (.inr (.inr (.inr (fun i => (θ.2 k i).map (ss_ad B ex))))))
  else .inl (cA 4, (mm_kt k).2, .inr (.inr (.inr (.inr (fun i => (θ.2 k i).map (ss_ad B ex))))))
def ss_ws (cA : Nat → ClassId) (B : Nat) (ex : Nat → Nat) (θ : mm_T) (σ : mm_M) : va_W := (List.range θ.1).map (fun k => (B + k, ss_ce cA B ex θ σ k))
def ss_ty (cA : Nat → ClassId) : List (ClassId × FieldType) := [(cA 0, .int), (cA 1, .boolean), (cA 2, .long), (cA 3, .array .int), (cA 4, .object "QuietLines$Lines")]
def ss_W (D : va_G) (cA : Nat → ClassId) (B : Nat) (ex : Nat → Nat) (θ : mm_T) (σ : mm_M) (H : Heap) : Prop := θ.1 ≤ 135 ∧ va_P D vwCl (ss_ws cA B ex θ σ) H
abbrev ss_A (B : Nat) : Nat → Prop := fun q => B ≤ q
/-- words that stay, and words of the nest -/
def lw_g : List Cond := lw_tbl.filter goodWord
def lw_n : List Cond := lw_tbl.filter (fun w => !goodWord w)
/-- what lies outside: the script, the static arrays, the text constant -/
def ss_X (B : Nat) (ex : Nat → Nat) (Lx : Nat) (xs : Nat → Int32) (U : State) : Prop :=
  ((∀ i, ex i < B) ∧ (∀ a i x h, Cond.methodLinkNest a i x h ∈ lw_tbl → va_Nw (.methodLinkNest a i x h) U) ∧ (∀ a i b n d h, Cond.fieldLinkNest a i b n d h ∈ lw_tbl → va_Nw (.fieldLinkNest a i b n d h) U) ∧ vk_R "QuietLines$Text" 50 "KSVBTOD" (ex 3) U) ∧
  va_X (ex 0) Lx xs U U.heap ∧
  (va_Z "QuietLines" "PARTS_OF_KIND" "[I" (.ref (ex 1)) (ss_A B) U U.heap ∧ va_T .int (ex 1) 7 (fun j => .int (mm_x1 j)) (ss_A B) U U.heap) ∧
  (va_Z "QuietLines" "FACTORIALS" "[I" (.ref (ex 2)) (ss_A B) U U.heap ∧ va_T .int (ex 2) 6 (fun j => .int (mm_x2 j)) (ss_A B) U U.heap) ∧
  va_Z "java/lang/String" "COMPACT_STRINGS" "Z" (.int 1) (ss_A B) U U.heap ∧
  va_O "java/lang/String" (ex 3) (ss_A B) U U.heap ∧ va_OF "java/lang/String" "value" "[B" (.ref (ex 4)) (ex 3) (ss_A B) U U.heap ∧ va_OF "java/lang/String" "coder" "B" (.int 0) (ex 3) (ss_A B) U U.heap ∧
  va_T .byte (ex 4) 7 (fun j => .int (mm_x4 j)) (ss_A B) U U.heap ∧
  (Cond.arrayOver (.array .int)).before #[] U = true ∧ va_AO "QuietLines$Lines" U
/-- locals -/
def ss_l (B : Nat) (ex : Nat → Nat) (n : Nat) (L : mm_L) (ls : Array Slot) : Prop := ls.size = n ∧ lv_wf ls ∧ ∀ (i : Nat) (v : Value), L[i]? = some (some v) → ls[i]? = some (Slot.val (ss_tr B ex v))
section SS1
variable {D : va_G} {cA : Nat → ClassId} {B : Nat} {ex : Nat → Nat} {θ θ' : mm_T} {σ σ' : mm_M} {H : Heap}
theorem ss_cat (v : Value) : (ss_tr B ex v).category = v.category := by cases v <;> rfl
theorem ss_sw (st : List Value) : ((st.map (ss_tr B ex)).map fun v => v.category).sum = mm_sw st := by
  unfold mm_sw
  rw [List.map_map]
  congr 1
  exact List.map_congr_left fun v _ => ss_cat v
theorem ss_tr_fv {k j t : Nat} (hk : k < 1000) : ss_tr B ex (mm_fv θ σ k j t) = ss_fv B ex θ σ k j t := by
  have hi : Value.int (mm_i σ k j) = Value.int (σ.1 k j) := by unfold mm_i; rw [if_pos hk]
  match t with
  | 0 => exact hi
  | 1 => rfl
  | 2 =>
    show ss_tr B ex (va_rf (θ.2 k j)) = va_rf ((θ.2 k j).map (ss_ad B ex))
    cases θ.2 k j <;> rfl
  | t + 3 => exact hi
theorem ss_ws_at {k : Nat} (h : k < θ.1) : (ss_ws cA B ex θ σ)[k]? = some (B + k, ss_ce cA B ex θ σ k) := by
  unfold ss_ws
  rw [List.getElem?_map, List.getElem?_range h]
  rfl
theorem ss_ws_out {k : Nat} (h : ¬ k < θ.1) : (ss_ws cA B ex θ σ)[k]? = none := by
  unfold ss_ws
  rw [List.getElem?_map, List.getElem?_eq_none (by rw [List.length_range]; omega)]
  rfl
theorem ss_ws_fst {k : Nat} {q : Nat × va_E} (h : (ss_ws cA B ex θ σ)[k]? = some q) : k < θ.1 ∧ q = (B + k, ss_ce cA B ex θ σ k) := by
  by_cases hk : k < θ.1
  · rw [ss_ws_at hk] at h
    exact ⟨hk, (Option.some.inj h).symm⟩
  · rw [ss_ws_out hk] at h
    cases h
theorem ss_ws_set {k : Nat} {E : va_E} (hk : k < θ.1) (hθ : θ'.1 = θ.1) (h1 : ss_ce cA B ex θ' σ' k = E) (h2 : ∀ a, a ≠ k → ss_ce cA B ex θ' σ' a = ss_ce cA B ex θ σ a) : (ss_ws cA B ex θ σ).set k (B + k, E) = ss_ws cA B ex θ' σ' := by
  apply List.ext_getElem?
  intro i
  have hlen : (ss_ws cA B ex θ σ).length = θ.1 := by unfold ss_ws; rw [List.length_map, List.length_range]
  by_cases hi : i < θ.1
  · rw [ss_ws_at (θ := θ') (by omega)]
    by_cases e : k = i
    · subst e
      rw [List.getElem?_set_self (by omega), h1]
    · rw [List.getElem?_set_ne e, ss_ws_at hi, h2 i (Ne.symm e)]
  · rw [ss_ws_out (θ := θ') (by omega), List.getElem?_eq_none (by rw [List.length_set]; omega)]
theorem ss_D : va_D (ss_A B) (ss_ws cA B ex θ σ) := by
  refine ⟨fun i j p q hi hj hpq => ?_, fun k q hk => ?_⟩
  · obtain ⟨-, rfl⟩ := ss_ws_fst hi
    obtain ⟨-, rfl⟩ := ss_ws_fst hj
    have : B + i = B + j := hpq
    omega
  · obtain ⟨-, rfl⟩ := ss_ws_fst hk
    exact Nat.le_add_right B k
theorem ss_ad_lt {k : Nat} (h : k < 1000) : ss_ad B ex k = B + k := if_pos h
theorem ss_ad_0 : ss_ad B ex 1000 = ex 0 := rfl
theorem ss_ad_1 : ss_ad B ex 1001 = ex 1 := rfl
theorem ss_ad_2 : ss_ad B ex 1002 = ex 2 := rfl
theorem ss_ad_3 : ss_ad B ex 1003 = ex 3 := rfl
theorem ss_ad_4 : ss_ad B ex 1004 = ex 4 := rfl
theorem ss_kt_big {k : Nat} (h : 1000 ≤ k) : 30 ≤ (mm_kt k).1 := by
  unfold mm_kt
  rw [if_neg (by omega)]
  repeat' split
  all_goals decide
theorem ss_kd {n k c : Nat} (h : mm_kd n k = c) (hc : c < 30) : k < n ∧ k < 1000 ∧ (mm_kt k).1 = c := by
  unfold mm_kd at h
  by_cases h2 : k < n ∨ 1000 ≤ k
  · rw [if_pos h2] at h
    have hb : k < 1000 := by
      rcases Nat.lt_or_ge k 1000 with q | q
      · exact q
      · have := ss_kt_big q; omega
    exact ⟨by omega, hb, h⟩
  · rw [if_neg h2] at h; omega
theorem ss_kt_lay {k : Nat} (h : (mm_kt k).1 < 30) : k < 135 := by
  rcases Nat.lt_or_ge k 135 with q | q
  · exact q
  · have : 30 ≤ (mm_kt k).1 := by
      rcases Nat.lt_or_ge k 1000 with q2 | q2
      · unfold mm_kt
        rw [if_pos q2, List.getD_eq_getElem?_getD, List.getElem?_eq_none (by show 135 ≤ k; exact q)]
        decide
      · exact ss_kt_big q2
    omega
/-- the number of an external cell, by its kind -/
theorem ss_kd30 {n k : Nat} (h : mm_kd n k = 30) (hn : n ≤ 135) : k = 1000 := by
  have hk : (mm_kt k).1 = 30 := by
    unfold mm_kd at h
    split at h
    · exact h
    · cases h
  have h1 : ∀ k, k < 135 → (mm_kt k).1 ≠ 30 := by decide +kernel
  unfold mm_kt at hk
  split at hk
  · rename_i q
    rcases Nat.lt_or_ge k 135 with q2 | q2
    · exact absurd (by unfold mm_kt; rw [if_pos q]; exact hk) (h1 k q2)
    · rw [List.getD_eq_getElem?_getD, List.getElem?_eq_none (by show 135 ≤ k; exact q2)] at hk
      cases hk
  · split at hk
    · assumption
    · repeat' split at hk
      all_goals cases hk
theorem ss_kd31 {n k : Nat} (h : mm_kd n k = 31) : k = 1001 ∨ k = 1002 := by
  have hk : (mm_kt k).1 = 31 := by
    unfold mm_kd at h
    split at h
    · exact h
    · cases h
  have h1 : ∀ k, k < 135 → (mm_kt k).1 ≠ 31 := by decide +kernel
  unfold mm_kt at hk
  split at hk
  · rename_i q
    rcases Nat.lt_or_ge k 135 with q2 | q2
    · exact absurd (by unfold mm_kt; rw [if_pos q]; exact hk) (h1 k q2)
    · rw [List.getD_eq_getElem?_getD, List.getElem?_eq_none (by show 135 ≤ k; exact q2)] at hk
      cases hk
  · split at hk
    · cases hk
    · split at hk
      · exact Or.inl (by assumption)
      · split at hk
        · exact Or.inr (by assumption)
        · repeat' split at hk
          all_goals cases hk
theorem ss_kd33 {n k : Nat} (h : mm_kd n k = 33) : k = 1004 := by
  have hk : (mm_kt k).1 = 33 := by
    unfold mm_kd at h
    split at h
    · exact h
    · cases h
  have h1 : ∀ k, k < 135 → (mm_kt k).1 ≠ 33 := by decide +kernel
  unfold mm_kt at hk
  split at hk
  · rename_i q
    rcases Nat.lt_or_ge k 135 with q2 | q2
    · exact absurd (by unfold mm_kt; rw [if_pos q]; exact hk) (h1 k q2)
    · rw [List.getD_eq_getElem?_getD, List.getElem?_eq_none (by show 135 ≤ k; exact q2)] at hk
      cases hk
  · repeat' split at hk
    all_goals first | assumption | cases hk
theorem ss_kd32 {n k : Nat} (h : mm_kd n k = 32) : k = 1003 := by
  have hk : (mm_kt k).1 = 32 := by
    unfold mm_kd at h
    split at h
    · exact h
    · cases h
  have h1 : ∀ k, k < 135 → (mm_kt k).1 ≠ 32 := by decide +kernel
  unfold mm_kt at hk
  split at hk
  · rename_i q
    rcases Nat.lt_or_ge k 135 with q2 | q2
    · exact absurd (by unfold mm_kt; rw [if_pos q]; exact hk) (h1 k q2)
    · rw [List.getD_eq_getElem?_getD, List.getElem?_eq_none (by show 135 ≤ k; exact q2)] at hk
      cases hk
  · repeat' split at hk
    all_goals first | assumption | cases hk
theorem ss_in {i : Int32} {n : Nat} (h : mm_in i n = true) : vp_in i n := by
  unfold mm_in at h
  rw [Bool.and_eq_true] at h
  exact vp_in_iff.mpr ⟨of_decide_eq_true h.1, of_decide_eq_true h.2⟩
end SS1

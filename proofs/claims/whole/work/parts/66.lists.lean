/-! ===== what is spoken, as one number; the first that differs; unlike ones ===== -/
def te_ (S : List Nat) : Nat := S.foldl (fun t v => 11 * t + v + 1) 0
def re_ (S : List Nat) : Nat := S.foldl (fun t v => t * 10 + v) 1
theorem te_app (S : List Nat) (v : Nat) : te_ (S ++ [v]) = 11 * te_ S + v + 1 := by unfold te_; rw [List.foldl_append]; rfl
theorem re_app (S : List Nat) (v : Nat) : re_ (S ++ [v]) = re_ S * 10 + v := by unfold re_; rw [List.foldl_append]; rfl
theorem ls_rev {p : List Nat → Prop} (h0 : p []) (h1 : ∀ S v, p S → p (S ++ [v])) (S : List Nat) : p S := by
  have : ∀ T : List Nat, p T.reverse := by
    intro T
    induction T with
    | nil => exact h0
    | cons a t ih => rw [List.reverse_cons]; exact h1 _ _ ih
  have h := this S.reverse
  rwa [List.reverse_reverse] at h
theorem te_lt (S : List Nat) : (∀ v, v ∈ S → v ≤ 9) → te_ S < 11 ^ S.length := by
  refine ls_rev (p := fun S => (∀ v, v ∈ S → v ≤ 9) → te_ S < 11 ^ S.length) (fun _ => by decide) (fun S v ih h => ?_) S
  have h1 := ih (fun w hw => h w (List.mem_append.2 (Or.inl hw)))
  have h2 := h v (List.mem_append.2 (Or.inr (List.mem_singleton.2 rfl)))
  rw [te_app, List.length_append]
  show _ < 11 ^ (S.length + 1)
  rw [Nat.pow_succ]; omega
theorem re_lt (S : List Nat) : (∀ v, v ∈ S → v ≤ 9) → re_ S < 2 * 10 ^ S.length ∧ 1 ≤ re_ S := by
  refine ls_rev (p := fun S => (∀ v, v ∈ S → v ≤ 9) → re_ S < 2 * 10 ^ S.length ∧ 1 ≤ re_ S) (fun _ => by decide) (fun S v ih h => ?_) S
  have h1 := ih (fun w hw => h w (List.mem_append.2 (Or.inl hw)))
  have h2 := h v (List.mem_append.2 (Or.inr (List.mem_singleton.2 rfl)))
  rw [re_app, List.length_append]
  show _ < 2 * 10 ^ (S.length + 1) ∧ _
  rw [Nat.pow_succ]; omega
theorem te_inj (S : List Nat) : ∀ T : List Nat, (∀ v, v ∈ S → v ≤ 9) → (∀ v, v ∈ T → v ≤ 9) → te_ S = te_ T → S = T := by
  refine ls_rev (p := fun S => ∀ T : List Nat, (∀ v, v ∈ S → v ≤ 9) → (∀ v, v ∈ T → v ≤ 9) → te_ S = te_ T → S = T) (fun T => ?_) (fun S v ih T => ?_) S
  · refine ls_rev (p := fun T => _ → _ → te_ [] = te_ T → [] = T) (fun _ _ _ => rfl) (fun T w _ _ _ h => ?_) T
    rw [te_app] at h
    have : te_ [] = 0 := rfl
    omega
  · refine ls_rev (p := fun T => (∀ v', v' ∈ S ++ [v] → v' ≤ 9) → (∀ v, v ∈ T → v ≤ 9) → te_ (S ++ [v]) = te_ T → S ++ [v] = T) (fun _ _ h => ?_) (fun T w _ h1 h2 h => ?_) T
    · rw [te_app] at h
      have : te_ [] = 0 := rfl
      omega
    · rw [te_app, te_app] at h
      have a1 := h1 v (List.mem_append.2 (Or.inr (List.mem_singleton.2 rfl)))
      have a2 := h2 w (List.mem_append.2 (Or.inr (List.mem_singleton.2 rfl)))
      have e1 : te_ S = te_ T := by omega
      have e2 : v = w := by omega
      rw [ih T (fun u hu => h1 u (List.mem_append.2 (Or.inl hu))) (fun u hu => h2 u (List.mem_append.2 (Or.inl hu))) e1, e2]
theorem re_inj (S : List Nat) : ∀ T : List Nat, (∀ v, v ∈ S → v ≤ 9) → (∀ v, v ∈ T → v ≤ 9) → re_ S = re_ T → S = T := by
  refine ls_rev (p := fun S => ∀ T : List Nat, (∀ v, v ∈ S → v ≤ 9) → (∀ v, v ∈ T → v ≤ 9) → re_ S = re_ T → S = T) (fun T => ?_) (fun S v ih T => ?_) S
  · refine ls_rev (p := fun T => _ → (∀ v, v ∈ T → v ≤ 9) → re_ [] = re_ T → [] = T) (fun _ _ _ => rfl) (fun T w _ _ h2 h => ?_) T
    have := (re_lt T (fun u hu => h2 u (List.mem_append.2 (Or.inl hu)))).2
    rw [re_app] at h
    have : re_ [] = 1 := rfl
    omega
  · refine ls_rev (p := fun T => (∀ v', v' ∈ S ++ [v] → v' ≤ 9) → (∀ v, v ∈ T → v ≤ 9) → re_ (S ++ [v]) = re_ T → S ++ [v] = T) (fun h1 _ h => ?_) (fun T w _ h1 h2 h => ?_) T
    · have := (re_lt S (fun u hu => h1 u (List.mem_append.2 (Or.inl hu)))).2
      rw [re_app] at h
      have : re_ [] = 1 := rfl
      omega
    · rw [re_app, re_app] at h
      have a1 := h1 v (List.mem_append.2 (Or.inr (List.mem_singleton.2 rfl)))
      have a2 := h2 w (List.mem_append.2 (Or.inr (List.mem_singleton.2 rfl)))
      have e1 : re_ S = re_ T := by omega
      have e2 : v = w := by omega
      rw [ih T (fun u hu => h1 u (List.mem_append.2 (Or.inl hu))) (fun u hu => h2 u (List.mem_append.2 (Or.inl hu))) e1, e2]
/-- what a run speaks, by the lines of a set -/
def sp_ (P : pp_) (s a b c : Nat) : List Nat := sk_ s (rr_ P a b c).2.2
theorem sp_ok {P : pp_} (hP : wf_ P) (s : Nat) {a b c : Nat} (ha : a ≤ 9) (hb : b ≤ 9) (hc : c ≤ 9) : (∀ v, v ∈ sp_ P s a b c → v ≤ 9) ∧ (sp_ P s a b c).length ≤ 9 := by
  obtain ⟨o1, o2, o3, o4⟩ := rr_ok hP ha hb hc
  refine ⟨fun v hv => ?_, ?_⟩
  · unfold sp_ sk_ at hv
    obtain ⟨e, he, rfl⟩ := List.mem_map.1 hv
    exact (o2 e (List.mem_filter.1 he).1).2
  · have := sk_len s (rr_ P a b c).2.2
    have := hP.1
    unfold sp_; omega
theorem sk_all {n : Nat} (hn : n ≤ 9) {L : List (Nat × Nat)} (h : ∀ e, e ∈ L → e.1 < n ∧ e.2 ≤ 9) : sk_ 511 L = L.map (fun e => e.2) := by
  unfold sk_
  rw [List.filter_eq_self.2]
  intro e he
  have h1 := (h e he).1
  have : ∀ j, j < 9 → (511 : Nat).testBit j = true := by decide
  exact this _ (by omega)
theorem sp_all {P : pp_} (hP : wf_ P) {a b c : Nat} (ha : a ≤ 9) (hb : b ≤ 9) (hc : c ≤ 9) : sp_ P 511 a b c = (rr_ P a b c).2.2.map (fun e => e.2) := sk_all hP.1 (rr_ok hP ha hb hc).2.1
/-- number i that is spoken -/
def so_ (S : List Nat) (x : Int32) : Int32 := if bl_ x S.length = true then nI (S.getD x.toNatClampNeg 0) else -nI 9
theorem so_nI {S : List Nat} (hS : S.length ≤ 9) {i : Nat} (hi : i ≤ 9) : so_ S (nI i) = if i < S.length then nI (S.getD i 0) else -nI 9 := by
  unfold so_
  rw [bl_nI (by omega), tn_nI (by omega)]
  simp only [decide_eq_true_eq]
/-- the first number from i on, d at most, that is spoken otherwise -/
def fs_ (S T : List Nat) : Nat → Nat → Int32
  | 0, _ => -nI 9
  | d + 1, i => if so_ S (nI i) = so_ T (nI i) then fs_ S T d (i + 1) else nI i
theorem fs_out {S T : List Nat} (hS : S.length ≤ 9) (hT : T.length ≤ 9) : ∀ (d i : Nat), i + d ≤ 9 → S.length ≤ i → T.length ≤ i → fs_ S T d i = -nI 9
  | 0, _, _, _, _ => rfl
  | d + 1, i, h, h1, h2 => by
    unfold fs_
    rw [so_nI hS (by omega), so_nI hT (by omega), if_neg (show ¬ i < S.length by omega), if_neg (show ¬ i < T.length by omega), if_pos rfl]
    exact fs_out hS hT d (i + 1) (by omega) (by omega) (by omega)
theorem fs_cut {S T : List Nat} (hS : S.length ≤ 9) (hT : T.length ≤ 9) : ∀ (d e i : Nat), i + d + e = 9 → S.length ≤ i + d → T.length ≤ i + d → fs_ S T d i = fs_ S T (d + e) i
  | 0, e, i, h, h1, h2 => by rw [fs_out hS hT 0 i (by omega) (by omega) (by omega), fs_out hS hT (0 + e) i (by omega) (by omega) (by omega)]
  | d + 1, e, i, h, h1, h2 => by
    rw [show d + 1 + e = (d + e) + 1 by omega]
    unfold fs_
    rw [fs_cut hS hT d e (i + 1) (by omega) (by omega) (by omega)]
theorem fs_none {S T : List Nat} : ∀ (d i : Nat), i + d ≤ 9 → fs_ S T d i = -nI 9 → ∀ j, i ≤ j → j < i + d → so_ S (nI j) = so_ T (nI j)
  | 0, i, _, _, j, h1, h2 => by omega
  | d + 1, i, h, he, j, h1, h2 => by
    unfold fs_ at he
    split at he
    · rename_i heq
      by_cases hj : j = i
      · rw [hj]; exact heq
      · exact fs_none d (i + 1) (by omega) he j (by omega) (by omega)
    · rw [nI_n1 (by omega) (by omega) (by omega)] at he
      exact he.elim
theorem fs_same {S : List Nat} : ∀ (d i : Nat), fs_ S S d i = -nI 9
  | 0, _ => rfl
  | d + 1, i => by unfold fs_; rw [if_pos rfl]; exact fs_same d (i + 1)
theorem gd_e {U : List Nat} {i d : Nat} (h : i < U.length) : U.getD i d = U[i] := by simp [List.getD, h]
theorem fs_iff {S T : List Nat} (hS : S.length ≤ 9) (hT : T.length ≤ 9) (vS : ∀ v, v ∈ S → v ≤ 9) (vT : ∀ v, v ∈ T → v ≤ 9) : fs_ S T 9 0 = -nI 9 ↔ S = T := by
  refine ⟨fun h => ?_, fun h => by rw [h]; exact fs_same 9 0⟩
  have h := fs_none 9 0 (by omega) h
  have gd : ∀ (U : List Nat), (∀ v, v ∈ U → v ≤ 9) → ∀ i, i < U.length → U.getD i 0 ≤ 9 := by
    intro U vU i hi
    rw [gd_e hi]
    exact vU _ (List.getElem_mem hi)
  have key : ∀ j, j < 9 → (j < S.length ↔ j < T.length) ∧ (j < S.length → S.getD j 0 = T.getD j 0) := by
    intro j hj
    have e := h j (by omega) (by omega)
    rw [so_nI hS (by omega), so_nI hT (by omega)] at e
    by_cases h1 : j < S.length <;> by_cases h2 : j < T.length
    · rw [if_pos h1, if_pos h2] at e
      have g1 := gd S vS j h1
      have g2 := gd T vT j h2
      rw [nI_eqI (by omega) (by omega)] at e
      exact ⟨⟨fun _ => h2, fun _ => h1⟩, fun _ => e⟩
    · rw [if_pos h1, if_neg h2] at e
      have g1 := gd S vS j h1
      rw [nI_n1 (by omega) (by omega) (by omega)] at e
      exact e.elim
    · rw [if_neg h1, if_pos h2] at e
      have g2 := gd T vT j h2
      rw [nI_n2 (by omega) (by omega) (by omega)] at e
      exact e.elim
    · exact ⟨⟨fun h => absurd h h1, fun h => absurd h h2⟩, fun h => absurd h h1⟩
  have hl : S.length = T.length := by
    rcases Nat.lt_trichotomy S.length T.length with h1 | h1 | h1
    · have := (key S.length (by omega)).1; omega
    · exact h1
    · have := (key T.length (by omega)).1; omega
  apply List.ext_getElem hl
  intro i h1 h2
  have := (key i (by omega)).2 h1
  rwa [gd_e h1, gd_e h2] at this
/-- how many unlike ones -/
def fh_ (F : Nat → List Nat) (n : Nat) : Bool := (List.range n).all (fun q => F q != F n)
theorem fh_iff {F : Nat → List Nat} {n : Nat} : fh_ F n = true ↔ ∀ q, q < n → F q ≠ F n := by
  unfold fh_
  rw [List.all_eq_true]
  simp
def dc_ (F : Nat → List Nat) : Nat → Nat
  | 0 => 0
  | n + 1 => dc_ F n + b2 (fh_ F n)
theorem dc_le (F : Nat → List Nat) : ∀ n, dc_ F n ≤ n
  | 0 => Nat.le_refl _
  | n + 1 => by have := dc_le F n; have := b2_lt (fh_ F n); unfold dc_; omega
def ca_ (F : Nat → List Nat) (S : List Nat) : Nat → Nat
  | 0 => 0
  | n + 1 => ca_ F S n + b2 (F n == S)
theorem ca_le (F : Nat → List Nat) (S : List Nat) : ∀ n, ca_ F S n ≤ n
  | 0 => Nat.le_refl _
  | n + 1 => by have := ca_le F S n; have := b2_lt (F n == S); unfold ca_; omega

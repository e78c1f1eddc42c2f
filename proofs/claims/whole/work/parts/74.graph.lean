/-! ===== ways, rows of ways, meetings: pure ===== -/
/-- from i, with k steps at most, one may come to j; b is not gone through (none: b is too large) -/
def wy_ (P : pp_) (b : Nat) : Nat → Nat → Nat → Bool
  | 0, i, j => decide (i = j)
  | k + 1, i, j => decide (i = j) || (decide (i < P.1) && (decide (i ≠ b) && (wy_ P b k (i + 1) j || wy_ P b k (tg_ P i) j)))
theorem wy_enough {P : pp_} (hP : wf_ P) {b : Nat} : ∀ (k i j : Nat), P.1 ≤ i + k → wy_ P b (k + 1) i j = wy_ P b k i j
  | 0, i, j, h => by
    unfold wy_
    rw [decide_eq_false (show ¬ i < P.1 by omega)]; simp
  | k + 1, i, j, h => by
    have e : ∀ k, wy_ P b (k + 1) i j = (decide (i = j) || (decide (i < P.1) && (decide (i ≠ b) && (wy_ P b k (i + 1) j || wy_ P b k (tg_ P i) j)))) := fun k => rfl
    rw [e, e]
    by_cases hi : i < P.1
    · have := tg_gt hP hi
      rw [wy_enough hP k (i + 1) j (by omega), wy_enough hP k (tg_ P i) j (by omega)]
    · rw [decide_eq_false hi]; simp
/-- with enough steps -/
def ww_ (P : pp_) (b i j : Nat) : Bool := wy_ P b 10 i j
theorem wy_up {P : pp_} (hP : wf_ P) {b i j k : Nat} (h : P.1 ≤ i + k) : ∀ d, wy_ P b (k + d) i j = wy_ P b k i j
  | 0 => rfl
  | d + 1 => by rw [show k + (d + 1) = (k + d) + 1 by omega, wy_enough hP (k + d) i j (by omega), wy_up hP h d]
theorem ww_eq {P : pp_} (hP : wf_ P) (b i j : Nat) : ww_ P b i j = (decide (i = j) || (decide (i < P.1) && (decide (i ≠ b) && (ww_ P b (i + 1) j || ww_ P b (tg_ P i) j)))) := by
  have h9 := hP.1
  unfold ww_
  show (decide (i = j) || (decide (i < P.1) && (decide (i ≠ b) && (wy_ P b 9 (i + 1) j || wy_ P b 9 (tg_ P i) j)))) = _
  by_cases hi : i < P.1
  · have := tg_gt hP hi
    rw [wy_enough hP 9 (i + 1) j (by omega), wy_enough hP 9 (tg_ P i) j (by omega)]
  · rw [decide_eq_false hi]; simp
theorem ww_le {P : pp_} (hP : wf_ P) {b : Nat} : ∀ (k i j : Nat), P.1 ≤ i + k → ww_ P b i j = true → i ≤ j
  | 0, i, j, h, hw => by
    rw [ww_eq hP, decide_eq_false (show ¬ i < P.1 by omega)] at hw
    simp at hw; omega
  | k + 1, i, j, h, hw => by
    rw [ww_eq hP] at hw
    by_cases hi : i < P.1
    · have := tg_gt hP hi
      simp only [Bool.or_eq_true, Bool.and_eq_true, decide_eq_true_eq] at hw
      rcases hw with h1 | ⟨_, _, h1 | h1⟩
      · omega
      · have := ww_le hP k (i + 1) j (by omega) h1; omega
      · have := ww_le hP k (tg_ P i) j (by omega) h1; omega
    · rw [decide_eq_false hi] at hw
      simp at hw; omega
theorem ww_le' {P : pp_} (hP : wf_ P) {b i j : Nat} (h : ww_ P b i j = true) : i ≤ j := ww_le hP P.1 i j (by omega) h
theorem ww_refl {P : pp_} (hP : wf_ P) (b i : Nat) : ww_ P b i i = true := by rw [ww_eq hP]; simp
/-- what isn't gone through doesn't matter for what lies ahead of it -/
theorem ww_but {P : pp_} (hP : wf_ P) {b j : Nat} (hj : j ≤ b) : ∀ (k i : Nat), P.1 ≤ i + k → ww_ P b i j = ww_ P 99 i j
  | 0, i, h => by
    rw [ww_eq hP, ww_eq hP 99, decide_eq_false (show ¬ i < P.1 by omega)]; simp
  | k + 1, i, h => by
    have h9 := hP.1
    rw [ww_eq hP, ww_eq hP 99]
    by_cases hi : i < P.1
    · have ht := tg_gt hP hi
      rw [ww_but hP hj k (i + 1) (by omega), ww_but hP hj k (tg_ P i) (by omega)]
      rw [decide_eq_true (show i ≠ 99 by omega)]
      by_cases hb : i = b
      · rw [decide_eq_false (show ¬ i ≠ b by simpa using hb)]
        cases h1 : ww_ P 99 (i + 1) j
        · cases h2 : ww_ P 99 (tg_ P i) j
          · simp
          · have := ww_le' hP h2; omega
        · have := ww_le' hP h1; omega
      · rw [decide_eq_true hb]
    · rw [decide_eq_false hi]; simp
/-- all rows of ways from i to the end go through m -/
def ea_ (P : pp_) : Nat → Nat → Nat → Bool
  | 0, i, m => decide (i = m)
  | k + 1, i, m => decide (i = m) || (decide (i < P.1) && (ea_ P k (i + 1) m && ea_ P k (tg_ P i) m))
def ee_ (P : pp_) (i m : Nat) : Bool := ea_ P (P.1 - i) i m
theorem ea_enough {P : pp_} (hP : wf_ P) : ∀ (k i m : Nat), P.1 ≤ i + k → ea_ P (k + 1) i m = ea_ P k i m
  | 0, i, m, h => by
    unfold ea_
    rw [decide_eq_false (show ¬ i < P.1 by omega)]; simp
  | k + 1, i, m, h => by
    have e : ∀ k, ea_ P (k + 1) i m = (decide (i = m) || (decide (i < P.1) && (ea_ P k (i + 1) m && ea_ P k (tg_ P i) m))) := fun k => rfl
    rw [e, e]
    by_cases hi : i < P.1
    · have := tg_gt hP hi
      rw [ea_enough hP k (i + 1) m (by omega), ea_enough hP k (tg_ P i) m (by omega)]
    · rw [decide_eq_false hi]; simp
theorem ea_up {P : pp_} (hP : wf_ P) {i m k : Nat} (h : P.1 ≤ i + k) : ∀ d, ea_ P (k + d) i m = ea_ P k i m
  | 0 => rfl
  | d + 1 => by rw [show k + (d + 1) = (k + d) + 1 by omega, ea_enough hP (k + d) i m (by omega), ea_up hP h d]
theorem ee_eq {P : pp_} (hP : wf_ P) (i m : Nat) : ee_ P i m = (decide (i = m) || (decide (i < P.1) && (ee_ P (i + 1) m && ee_ P (tg_ P i) m))) := by
  unfold ee_
  by_cases hi : i < P.1
  · have := tg_gt hP hi
    obtain ⟨d, hd⟩ : ∃ d, P.1 - i = d + 1 := ⟨P.1 - i - 1, by omega⟩
    rw [hd]
    show (decide (i = m) || (decide (i < P.1) && (ea_ P d (i + 1) m && ea_ P d (tg_ P i) m))) = _
    have e1 := ea_up hP (i := i + 1) (m := m) (k := P.1 - (i + 1)) (by omega) (d - (P.1 - (i + 1)))
    have e2 := ea_up hP (i := tg_ P i) (m := m) (k := P.1 - tg_ P i) (by omega) (d - (P.1 - tg_ P i))
    rw [show P.1 - (i + 1) + (d - (P.1 - (i + 1))) = d by omega] at e1
    rw [show P.1 - tg_ P i + (d - (P.1 - tg_ P i)) = d by omega] at e2
    rw [e1, e2]
  · rw [show P.1 - i = 0 by omega]
    rw [decide_eq_false hi]
    show decide (i = m) = _
    simp
theorem ee_le {P : pp_} (hP : wf_ P) : ∀ (k i m : Nat), P.1 ≤ i + k → ee_ P i m = true → i ≤ m
  | 0, i, m, h, hw => by
    rw [ee_eq hP, decide_eq_false (show ¬ i < P.1 by omega)] at hw
    simp at hw; omega
  | k + 1, i, m, h, hw => by
    rw [ee_eq hP] at hw
    by_cases hi : i < P.1
    · simp only [Bool.or_eq_true, Bool.and_eq_true, decide_eq_true_eq] at hw
      rcases hw with h1 | ⟨_, h1, _⟩
      · omega
      · have := ee_le hP k (i + 1) m (by omega) h1; omega
    · rw [decide_eq_false hi] at hw
      simp at hw; omega
theorem ee_end {P : pp_} (hP : wf_ P) : ∀ (k i : Nat), P.1 ≤ i + k → i ≤ P.1 → ee_ P i P.1 = true
  | 0, i, h, hi => by rw [ee_eq hP, decide_eq_true (show i = P.1 by omega)]; rfl
  | k + 1, i, h, hi => by
    rw [ee_eq hP]
    by_cases hlt : i < P.1
    · have := tg_gt hP hlt
      rw [ee_end hP k (i + 1) (by omega) (by omega), ee_end hP k (tg_ P i) (by omega) (by omega), decide_eq_true hlt]; simp
    · rw [decide_eq_true (show i = P.1 by omega)]; rfl
/-- the end can be come to -/
theorem ww_end {P : pp_} (hP : wf_ P) : ∀ (k i : Nat), P.1 ≤ i + k → i ≤ P.1 → ww_ P 99 i P.1 = true
  | 0, i, h, hi => by rw [show i = P.1 by omega]; exact ww_refl hP _ _
  | k + 1, i, h, hi => by
    have h9 := hP.1
    rw [ww_eq hP]
    by_cases hlt : i < P.1
    · rw [ww_end hP k (i + 1) (by omega) (by omega), decide_eq_true hlt, decide_eq_true (show i ≠ 99 by omega)]; simp
    · rw [decide_eq_true (show i = P.1 by omega)]; rfl
/-- through m by each row: the end isn't come to otherwise -/
theorem ee_iff {P : pp_} (hP : wf_ P) {m : Nat} (hm : m < P.1) : ∀ (k i : Nat), P.1 ≤ i + k → i ≤ P.1 → ee_ P i m = !ww_ P m i P.1
  | 0, i, h, hi => by
    rw [ee_eq hP, ww_eq hP, decide_eq_false (show ¬ i < P.1 by omega), decide_eq_false (show ¬ i = m by omega), decide_eq_true (show i = P.1 by omega)]; rfl
  | k + 1, i, h, hi => by
    by_cases hlt : i < P.1
    · have ht := tg_gt hP hlt
      rw [ee_eq hP, ww_eq hP, ee_iff hP hm k (i + 1) (by omega) (by omega), ee_iff hP hm k (tg_ P i) (by omega) (by omega), decide_eq_true hlt, decide_eq_false (show ¬ i = P.1 by omega)]
      by_cases him : i = m
      · rw [decide_eq_true him, decide_eq_false (show ¬ i ≠ m by simpa using him)]; simp
      · rw [decide_eq_false him, decide_eq_true him]; simp
    · rw [ee_eq hP, ww_eq hP, decide_eq_false hlt, decide_eq_false (show ¬ i = m by omega), decide_eq_true (show i = P.1 by omega)]; rfl
/-- what each row goes through can be come to -/
theorem ee_ww {P : pp_} (hP : wf_ P) {m : Nat} : ∀ (k i : Nat), P.1 ≤ i + k → ee_ P i m = true → ww_ P 99 i m = true
  | 0, i, h, he => by
    rw [ee_eq hP, decide_eq_false (show ¬ i < P.1 by omega)] at he
    simp at he
    rw [he]; exact ww_refl hP _ _
  | k + 1, i, h, he => by
    have h9 := hP.1
    rw [ee_eq hP] at he
    by_cases hlt : i < P.1
    · simp only [Bool.or_eq_true, Bool.and_eq_true, decide_eq_true_eq] at he
      rcases he with h1 | ⟨_, h1, _⟩
      · rw [h1]; exact ww_refl hP _ _
      · rw [ww_eq hP, ee_ww hP k (i + 1) (by omega) h1, decide_eq_true hlt, decide_eq_true (show i ≠ 99 by omega)]; simp
    · rw [decide_eq_false hlt] at he
      simp at he
      rw [he]; exact ww_refl hP _ _
/-- the meeting: the least from m on, d at most, on each row behind i -/
def mt_ (P : pp_) (i : Nat) : Nat → Nat → Nat
  | 0, m => m
  | d + 1, m => if (ee_ P (i + 1) m && ee_ P (tg_ P i) m) = true then m else mt_ P i d (m + 1)
def me_ (P : pp_) (i : Nat) : Nat := mt_ P i (P.1 - (i + 1)) (i + 1)
theorem mt_spec {P : pp_} {i : Nat} : ∀ (d m : Nat), m ≤ mt_ P i d m ∧ mt_ P i d m ≤ m + d ∧ (∀ q, m ≤ q → q < mt_ P i d m → (ee_ P (i + 1) q && ee_ P (tg_ P i) q) = false) ∧ (mt_ P i d m < m + d → (ee_ P (i + 1) (mt_ P i d m) && ee_ P (tg_ P i) (mt_ P i d m)) = true)
  | 0, m => ⟨Nat.le_refl _, Nat.le_refl _, fun q h1 h2 => by have : mt_ P i 0 m = m := rfl; omega, fun h => by have : mt_ P i 0 m = m := rfl; omega⟩
  | d + 1, m => by
    have ih := mt_spec (P := P) (i := i) d (m + 1)
    unfold mt_
    by_cases hc : (ee_ P (i + 1) m && ee_ P (tg_ P i) m) = true
    · rw [if_pos hc]
      exact ⟨Nat.le_refl _, by omega, fun q h1 h2 => by omega, fun _ => hc⟩
    · rw [if_neg hc]
      refine ⟨by omega, by omega, fun q h1 h2 => ?_, fun h => ih.2.2.2 (by omega)⟩
      by_cases hq : q = m
      · subst hq; simpa using hc
      · exact ih.2.2.1 q (by omega) h2
theorem me_gt {P : pp_} {i : Nat} (hi : i < P.1) : i < me_ P i ∧ me_ P i ≤ P.1 := by
  have := mt_spec (P := P) (i := i) (P.1 - (i + 1)) (i + 1)
  unfold me_; omega

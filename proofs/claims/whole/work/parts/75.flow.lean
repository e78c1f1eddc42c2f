/-! ===== masks; labels, contexts, what is reached: pure ===== -/
def bm_ (f : Nat → Bool) : Nat → Nat
  | 0 => 0
  | n + 1 => bm_ f n ||| (if f n = true then 2 ^ n else 0)
theorem bm_lt (f : Nat → Bool) : ∀ n, bm_ f n < 2 ^ n
  | 0 => by show 0 < 1; decide
  | n + 1 => by
    have h1 := bm_lt f n
    have h2 : 2 ^ n < 2 ^ (n + 1) := Nat.pow_lt_pow_right (by decide) (by omega)
    unfold bm_
    apply Nat.or_lt_two_pow
    · omega
    · split
      · exact h2
      · exact Nat.two_pow_pos _
theorem bm_bit (f : Nat → Bool) : ∀ n m, (bm_ f n).testBit m = (decide (m < n) && f m)
  | 0, m => by unfold bm_; simp
  | n + 1, m => by
    unfold bm_
    rw [Nat.testBit_or, bm_bit f n m]
    by_cases hm : m = n
    · subst hm
      cases hf : f m
      · simp
      · simp [Nat.testBit_two_pow_self]
    · have : ((if f n = true then 2 ^ n else 0).testBit m) = false := by
        split
        · rw [Nat.testBit_two_pow]; simp; omega
        · simp
      rw [this, Bool.or_false]
      congr 1
      exact decide_eq_decide.2 (by omega)
theorem bm_ext {f g : Nat → Bool} {n : Nat} (h : ∀ m, m < n → f m = g m) : bm_ f n = bm_ g n := by
  apply Nat.eq_of_testBit_eq
  intro m
  rw [bm_bit, bm_bit]
  by_cases hm : m < n
  · rw [h m hm]
  · simp [hm]
theorem bm_and (f g : Nat → Bool) (n : Nat) : bm_ f n &&& bm_ g n = bm_ (fun m => f m && g m) n := by
  apply Nat.eq_of_testBit_eq
  intro m
  rw [Nat.testBit_and, bm_bit, bm_bit, bm_bit]
  cases decide (m < n) <;> simp
theorem bm_or (f g : Nat → Bool) (n : Nat) : bm_ f n ||| bm_ g n = bm_ (fun m => f m || g m) n := by
  apply Nat.eq_of_testBit_eq
  intro m
  rw [Nat.testBit_or, bm_bit, bm_bit, bm_bit]
  cases decide (m < n) <;> simp
theorem bm_one {l n : Nat} (h : l < n) : 2 ^ l = bm_ (fun m => decide (m = l)) n := by
  apply Nat.eq_of_testBit_eq
  intro m
  rw [Nat.testBit_two_pow, bm_bit]
  by_cases hm : m = l
  · subst hm; simp [h]
  · rw [decide_eq_false (show ¬ l = m by omega), decide_eq_false hm]; simp
theorem bm_orone {f : Nat → Bool} {l n : Nat} (h : l < n) : bm_ f n ||| 2 ^ l = bm_ (fun m => f m || decide (m = l)) n := by
  rw [bm_one h, bm_or]
theorem bm_0 {f : Nat → Bool} : ∀ {n : Nat}, (∀ m, m < n → f m = false) → bm_ f n = 0
  | 0, _ => rfl
  | n + 1, h => by unfold bm_; rw [bm_0 (fun m hm => h m (by omega)), h n (by omega)]; simp
theorem bm_z {f : Nat → Bool} {n : Nat} (h : bm_ f n = 0) : ∀ m, m < n → f m = false := by
  intro m hm
  have := bm_bit f n m
  rw [h, decide_eq_true hm] at this
  simpa using this.symm
theorem bm_9 (f : Nat → Bool) : bm_ f 9 < 512 := bm_lt f 9
theorem bm_10 (f : Nat → Bool) : bm_ f 10 < 1024 := bm_lt f 10
/-- how many zeros are behind the last one -/
def tz_ (m : Nat) : Nat → Nat → Nat
  | 0, k => k
  | d + 1, k => if m.testBit k = true then k else tz_ m d (k + 1)
theorem tz_at {m : Nat} : ∀ (d k q : Nat), k ≤ q → q < k + d → m.testBit q = true → (∀ r, k ≤ r → r < q → m.testBit r = false) → tz_ m d k = q
  | 0, k, q, h1, h2, _, _ => by omega
  | d + 1, k, q, h1, h2, hb, hr => by
    unfold tz_
    by_cases hk : k = q
    · subst hk; rw [if_pos hb]
    · rw [if_neg (by rw [hr k (by omega) (by omega)]; decide)]
      exact tz_at d (k + 1) q (by omega) (by omega) hb (fun r h1 h2 => hr r (by omega) h2)
/-! the flow -/
abbrev fw_ : Type := (Nat → Bool) × (Nat → Nat → Int32)
def lk_ (P : pp_) (L : Nat → Nat → Int32) (i : Nat) : Int32 := if P.2 i 0 = 2 then L i (P.2 i 3) else if P.2 i 0 = 3 ∨ P.2 i 0 = 4 then L i (P.2 i 1) else nI 0
def cx_ (P : pp_) (s : fw_) (l : Nat) : Nat → Int32
  | 0 => nI 0
  | i + 1 => cx_ P s l i ||| (if (s.1 i && (ww_ P 99 i l && decide (l < me_ P i))) = true then lk_ P s.2 i else nI 0)
def cm_ (n t : Nat) (lv : Nat → Int32) (s : fw_) : fw_ := if t < n then (fun j => s.1 j || decide (j = t), fun j v => if j = t then s.2 j v ||| lv v else s.2 j v) else s
def ln_ (P : pp_) (s : fw_) (l : Nat) (c : Int32) (v : Nat) : Int32 := if v = P.2 l 1 then (if P.2 l 0 = 0 ∨ P.2 l 0 = 6 then c else if P.2 l 0 = 1 ∨ P.2 l 0 = 2 then s.2 l (P.2 l 2) ||| s.2 l (P.2 l 3) ||| c else s.2 l v) else s.2 l v
def lt_ (P : pp_) (s : fw_) (l : Nat) (c : Int32) (v : Nat) : Int32 := if v = 4 ∧ P.2 l 0 ≠ 3 then lk_ P s.2 l ||| c else s.2 l v
def fp2_ (P : pp_) (l : Nat) (s : fw_) : fw_ := if s.1 l = true then (if hw_ (P.2 l 0) = true then cm_ P.1 (tg_ P l) (lt_ P s l (cx_ P s l l)) (cm_ P.1 (l + 1) (ln_ P s l (cx_ P s l l)) s) else cm_ P.1 (l + 1) (ln_ P s l (cx_ P s l l)) s) else s
def fs0_ (P : pp_) (lb : Nat → Int32) : fw_ := (fun j => decide (j = 0) && decide (0 < P.1), fun j v => if j = 0 ∧ v < 3 then lb v else nI 0)
def fw (P : pp_) (lb : Nat → Int32) : Nat → fw_
  | 0 => fs0_ P lb
  | l + 1 => fp2_ P l (fw P lb l)
def fF (P : pp_) (lb : Nat → Int32) : fw_ := fw P lb P.1
theorem cm_lo {n t : Nat} {lv : Nat → Int32} {s : fw_} {j : Nat} (h : j ≠ t) : (cm_ n t lv s).1 j = s.1 j ∧ (cm_ n t lv s).2 j = s.2 j := by
  unfold cm_
  split
  · simp [h]
  · exact ⟨rfl, rfl⟩
theorem fp2_lo {P : pp_} (hP : wf_ P) {l : Nat} (hl : l < P.1) {s : fw_} {j : Nat} (hj : j ≤ l) : (fp2_ P l s).1 j = s.1 j ∧ (fp2_ P l s).2 j = s.2 j := by
  have ht := tg_gt hP hl
  unfold fp2_
  split
  · split
    · have a := cm_lo (n := P.1) (t := tg_ P l) (lv := lt_ P s l (cx_ P s l l)) (s := cm_ P.1 (l + 1) (ln_ P s l (cx_ P s l l)) s) (j := j) (by omega)
      have b := cm_lo (n := P.1) (t := l + 1) (lv := ln_ P s l (cx_ P s l l)) (s := s) (j := j) (by omega)
      exact ⟨a.1.trans b.1, a.2.trans b.2⟩
    · exact cm_lo (by omega)
  · exact ⟨rfl, rfl⟩
theorem fw_lo {P : pp_} (hP : wf_ P) {lb : Nat → Int32} {l j : Nat} (hj : j ≤ l) : ∀ d, l + d ≤ P.1 → (fw P lb (l + d)).1 j = (fw P lb l).1 j ∧ (fw P lb (l + d)).2 j = (fw P lb l).2 j
  | 0, _ => ⟨rfl, rfl⟩
  | d + 1, h => by
    have ih := fw_lo hP (lb := lb) hj d (by omega)
    have a := fp2_lo hP (l := l + d) (s := fw P lb (l + d)) (j := j) (by omega) (by omega)
    exact ⟨a.1.trans ih.1, a.2.trans ih.2⟩
theorem fF_lo {P : pp_} (hP : wf_ P) {lb : Nat → Int32} {l : Nat} (hl : l ≤ P.1) {j : Nat} (hj : j ≤ l) : (fF P lb).1 j = (fw P lb l).1 j ∧ (fF P lb).2 j = (fw P lb l).2 j := by
  have := fw_lo hP (lb := lb) hj (P.1 - l) (by omega)
  rw [show l + (P.1 - l) = P.1 by omega] at this
  exact this
theorem cx_cg {P : pp_} {s s' : fw_} {l : Nat} : ∀ i, (∀ j, j < i → s.1 j = s'.1 j ∧ s.2 j = s'.2 j) → cx_ P s l i = cx_ P s' l i
  | 0, _ => rfl
  | i + 1, h => by
    have h1 := h i (by omega)
    unfold cx_
    rw [cx_cg i (fun j hj => h j (by omega)), h1.1]
    have : lk_ P s.2 i = lk_ P s'.2 i := by unfold lk_; rw [h1.2]
    rw [this]
/-- the context of a line -/
def co_ (P : pp_) (lb : Nat → Int32) (l : Nat) : Int32 := cx_ P (fw P lb l) l l
theorem co_F {P : pp_} (hP : wf_ P) {lb : Nat → Int32} {l : Nat} (hl : l ≤ P.1) : cx_ P (fF P lb) l l = co_ P lb l := by
  unfold co_
  apply cx_cg
  intro j hj
  exact fF_lo hP hl (by omega)
def wr_ (P : pp_) (lb : Nat → Int32) (l : Nat) : Bool := (fF P lb).1 l && (decide (P.2 l 0 = 5) && decide (((fF P lb).2 l (P.2 l 1) ||| co_ P lb l) ≠ nI 0))
/-- nothing beyond the last line is reached -/
theorem fw_hi {P : pp_} {lb : Nat → Int32} {j : Nat} (hj : P.1 ≤ j) : ∀ l, (fw P lb l).1 j = false
  | 0 => by show (decide (j = 0) && decide (0 < P.1)) = false; simp; omega
  | l + 1 => by
    have ih := fw_hi (lb := lb) hj l
    have a : ∀ (t : Nat) (lv : Nat → Int32) (s : fw_), s.1 j = false → (cm_ P.1 t lv s).1 j = false := by
      intro t lv s hs
      unfold cm_
      split
      · simp [hs]; omega
      · exact hs
    show (fp2_ P l (fw P lb l)).1 j = false
    unfold fp2_
    split
    · split
      · exact a _ _ _ (a _ _ _ ih)
      · exact a _ _ _ ih
    · exact ih

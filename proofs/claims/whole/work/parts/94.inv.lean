/-! ===== what holds between calls ===== -/
def pT_ (σ : mm_M) (s : Nat) (L : Nat → Nat) : Prop := lt_ok σ s L ∧ lm_ok σ s L
def pP_ (σ : mm_M) (P : pp_) (lb : Nat → Int32) : Prop := wf_ P ∧ rc_ 15 σ P ∧ rq_ 0 σ P ∧ lc_ σ lb ∧ lm_ σ lb
def pH_ (σ : mm_M) (h : Nat) (D : Nat → Nat → Nat) : Prop := hc_ σ h D ∧ hm_ σ h D
def pS_ (σ : mm_M) : Prop := σ.2.1 0 13 = σ.2.1 120 21
/-- what is kept in slot t -/
def kq_ (σ : mm_M) (n t : Nat) : Prop := ∃ (Q : pp_) (lq : Nat → Int32), Q.1 = n ∧ wf_ Q ∧ rc_ (30 + 12 * t) σ Q ∧ (∀ k, k < 3 → σ.1 (41 + 12 * t) k = lq k) ∧ rm_ (48 * t) (σ.1 134) Q ∧ ∀ k, k < 3 → σ.1 134 (48 * t + 45 + k) = lq k
def pK_ (σ : mm_M) (n : Nat) : Prop := ∀ t, t < 2 → ∃ b : Bool, σ.1 54 t = nI (b2 b) ∧ σ.1 133 t = nI (b2 b) ∧ (b = true → kq_ σ n t)
abbrev sp2_ : Type := pp_ × (Nat → Int32)
/-- an act: what was there, in the class's row at o -/
def dl_ (n : Nat) (f : Nat → Int32) (o : Nat) (x y : sp2_) : Prop :=
  (∃ i, i < n ∧ f o = nI i ∧ (∀ q, q < 5 → f (o + 1 + q) = cv_ (x.1.2 i 0) q (x.1.2 i q)) ∧ (∀ i', i' < n → i' ≠ i → x.1.2 i' = y.1.2 i') ∧ ∀ k, k < 3 → x.2 k = y.2 k) ∨
  (∃ t, t < 3 ∧ f o = nI (9 + t) ∧ f (o + 1) = x.2 t ∧ (∀ i', i' < n → x.1.2 i' = y.1.2 i') ∧ ∀ k, k < 3 → k ≠ t → x.2 k = y.2 k)
/-- a program as it was, in the reference's row -/
def sn2_ (n : Nat) (f : Nat → Int32) (slot : Nat) (x : sp2_) : Prop := x.1.1 = n ∧ wf_ x.1 ∧ rm_ (48 * slot) f x.1 ∧ ∀ k, k < 3 → f (48 * slot + 45 + k) = x.2 k
def pA_ (σ : mm_M) (P : pp_) (lb : Nat → Int32) (a : Nat) : Prop := a ≤ 14 ∧ σ.1 27 0 = nI a ∧ σ.1 120 8 = nI a ∧ ∃ (nx : Nat) (S : Nat → sp2_), nx < 14 ∧ σ.1 120 9 = nI nx ∧ (S a).1.1 = P.1 ∧ (∀ i, i < P.1 → (S a).1.2 i = P.2 i) ∧ (∀ k, k < 3 → (S a).2 k = lb k) ∧ ∀ j, j < a → sn2_ P.1 (σ.1 125) ((nx + 14 - a + j) % 14) (S j) ∧ dl_ P.1 (σ.1 28) (6 * j) (S j) (S (j + 1))
def iv_ (σ : mm_M) (s : Nat) (L : Nat → Nat) (P : pp_) (lb : Nat → Int32) (h : Nat) (D : Nat → Nat → Nat) (a : Nat) : Prop := pT_ σ s L ∧ pP_ σ P lb ∧ pH_ σ h D ∧ pS_ σ ∧ pK_ σ P.1 ∧ pA_ σ P lb a
def IV (σ : mm_M) : Prop := ∃ s L P lb h D a, iv_ σ s L P lb h D a
theorem pT_cg {σ σ' : mm_M} {s : Nat} {L : Nat → Nat} (h : pT_ σ s L) (h1 : σ'.1 1 0 = σ.1 1 0) (h2 : ∀ j, σ'.1 2 j = σ.1 2 j) (h3 : σ'.1 120 4 = σ.1 120 4) (h4 : ∀ j, σ'.1 122 j = σ.1 122 j) : pT_ σ' s L := by
  obtain ⟨⟨a, b, c, d⟩, ⟨a', b', c', d'⟩⟩ := h
  exact ⟨⟨a, by rw [h1]; exact b, fun j hj => by rw [h2]; exact c j hj, d⟩, ⟨a', by rw [h3]; exact b', fun j hj => by rw [h4]; exact c' j hj, d'⟩⟩
theorem pP_cg {σ σ' : mm_M} {P : pp_} {lb : Nat → Int32} (h : pP_ σ P lb) (h1 : ∀ k j, 15 ≤ k → k < 27 → σ'.1 k j = σ.1 k j) (h2 : σ'.1 120 0 = σ.1 120 0) (h3 : ∀ j, j < 48 → σ'.1 121 j = σ.1 121 j) : pP_ σ' P lb := by
  obtain ⟨w, c, q, l, m⟩ := h
  have h9 := w.1
  refine ⟨w, ⟨by rw [h1 15 0 (by omega) (by omega)]; exact c.1, fun i hi p hp => by rw [h1 _ p (by omega) (by omega)]; exact c.2 i hi p hp⟩, ⟨by rw [h2]; exact q.1, rm_cg q.2 h9 (fun j _ hj => h3 j (by omega))⟩, fun k hk => by rw [h1 26 k (by omega) (by omega)]; exact l k hk, fun k hk => by rw [h3 _ (by omega)]; exact m k hk⟩
theorem pH_cg {σ σ' : mm_M} {h : Nat} {D : Nat → Nat → Nat} (hh : pH_ σ h D) (h1 : ∀ k j, 87 ≤ k → k < 95 → σ'.1 k j = σ.1 k j) (h2 : σ'.1 120 16 = σ.1 120 16) (h3 : ∀ k j, 129 ≤ k → k < 133 → σ'.1 k j = σ.1 k j) : pH_ σ' h D := by
  obtain ⟨⟨a, b, c, d⟩, ⟨a', b', c', d'⟩⟩ := hh
  exact ⟨⟨a, b, by rw [h1 87 0 (by omega) (by omega)]; exact c, fun k hk q hq => by rw [h1 _ q (by omega) (by omega)]; exact d k hk q hq⟩, ⟨a', b', by rw [h2]; exact c', fun k hk => by rw [h3 129 k (by omega) (by omega), h3 130 k (by omega) (by omega), h3 131 k (by omega) (by omega), h3 132 k (by omega) (by omega)]; exact d' k hk⟩⟩
theorem kq_cg {σ σ' : mm_M} {n t : Nat} (ht : t < 2) (h : kq_ σ n t) (h1 : ∀ k j, 30 ≤ k → k < 54 → σ'.1 k j = σ.1 k j) (h3 : ∀ j, σ'.1 134 j = σ.1 134 j) : kq_ σ' n t := by
  obtain ⟨Q, lq, a, w, c, d, e, f⟩ := h
  have h9 := w.1
  refine ⟨Q, lq, a, w, ⟨by rw [h1 _ 0 (by omega) (by omega)]; exact c.1, fun i hi p hp => by rw [h1 _ p (by omega) (by omega)]; exact c.2 i hi p hp⟩, fun k hk => by rw [h1 _ k (by omega) (by omega)]; exact d k hk, rm_cg e h9 (fun j _ _ => h3 j), fun k hk => by rw [h3]; exact f k hk⟩
theorem pK_cg {σ σ' : mm_M} {n : Nat} (h : pK_ σ n) (h1 : ∀ k j, 30 ≤ k → k < 55 → σ'.1 k j = σ.1 k j) (h2 : ∀ j, σ'.1 133 j = σ.1 133 j) (h3 : ∀ j, σ'.1 134 j = σ.1 134 j) : pK_ σ' n := fun t ht => by
  obtain ⟨b, x, y, z⟩ := h t ht
  exact ⟨b, by rw [h1 54 t (by omega) (by omega)]; exact x, by rw [h2]; exact y, fun hb => kq_cg ht (z hb) (fun k j a b => h1 k j a (by omega)) h3⟩
theorem pA_cg {σ σ' : mm_M} {P : pp_} {lb : Nat → Int32} {a : Nat} (h : pA_ σ P lb a) (h1 : σ'.1 27 0 = σ.1 27 0) (h2 : ∀ j, σ'.1 28 j = σ.1 28 j) (h3 : σ'.1 120 8 = σ.1 120 8) (h4 : σ'.1 120 9 = σ.1 120 9) (h5 : ∀ j, σ'.1 125 j = σ.1 125 j) : pA_ σ' P lb a := by
  have e1 : σ'.1 28 = σ.1 28 := funext h2
  have e2 : σ'.1 125 = σ.1 125 := funext h5
  obtain ⟨a1, a2, a3, nx, S, a4, a5, a6, a7, a8, a9⟩ := h
  exact ⟨a1, by rw [h1]; exact a2, by rw [h3]; exact a3, nx, S, a4, by rw [h4]; exact a5, a6, a7, a8, by rw [e1, e2]; exact a9⟩
/-- all that is kept between calls -/
def eq_ (σ σ' : mm_M) : Prop := (∀ k j, ((k < 3 ∨ (15 ≤ k ∧ k < 55) ∨ (87 ≤ k ∧ k < 95) ∨ (k = 120 ∧ (j = 0 ∨ j = 4 ∨ j = 8 ∨ j = 9 ∨ j = 16)) ∨ (k = 121 ∧ j < 48) ∨ k = 122 ∨ k = 125 ∨ 129 ≤ k)) → σ'.1 k j = σ.1 k j) ∧ σ'.2.1 0 13 = σ.2.1 0 13 ∧ σ'.2.1 120 21 = σ.2.1 120 21 ∧ σ'.2.2 = σ.2.2
theorem eq_cs {σ σ' : mm_M} (h : cs_ σ σ') : eq_ σ σ' := ⟨fun k j hk => by rw [h.1 k (by omega) (by omega)], by rw [h.2], by rw [h.2], by rw [h.2]⟩
theorem eq_ms {σ σ' : mm_M} (h : ms_ σ σ') : eq_ σ σ' := ⟨fun k j hk => h.1 k j (by omega), h.2.1 0 13 (by omega), h.2.1 120 21 (by omega), h.2.2⟩
theorem iv_eq {σ σ' : mm_M} {s : Nat} {L : Nat → Nat} {P : pp_} {lb : Nat → Int32} {h : Nat} {D : Nat → Nat → Nat} {a : Nat} (hi : iv_ σ s L P lb h D a) (e : eq_ σ σ') : iv_ σ' s L P lb h D a := by
  obtain ⟨h1, h2, h3, h4, h5, h6⟩ := hi
  obtain ⟨g, g1, g2, _⟩ := e
  exact ⟨pT_cg h1 (g 1 0 (by omega)) (fun j => g 2 j (by omega)) (g 120 4 (by omega)) (fun j => g 122 j (by omega)),
    pP_cg h2 (fun k j _ _ => g k j (by omega)) (g 120 0 (by omega)) (fun j _ => g 121 j (by omega)),
    pH_cg h3 (fun k j _ _ => g k j (by omega)) (g 120 16 (by omega)) (fun k j _ _ => g k j (by omega)),
    by unfold pS_ at *; rw [g1, g2]; exact h4,
    pK_cg h5 (fun k j _ _ => g k j (by omega)) (fun j => g 133 j (by omega)) (fun j => g 134 j (by omega)),
    pA_cg h6 (g 27 0 (by omega)) (fun j => g 28 j (by omega)) (g 120 8 (by omega)) (g 120 9 (by omega)) (fun j => g 125 j (by omega))⟩
/-- a call on both sides: one answer, and all holds again -/
def SM (ec em : mm_M → mm_R) (σ : mm_M) : Prop := ∃ (r : Value) (σ1 σ2 : mm_M), ec σ = some (some r, mm_H, σ1) ∧ em σ1 = some (some r, mm_H, σ2) ∧ IV σ2 ∧ σ2.2.2 = σ.2.2 ∧ (∃ x, r = .int x) ∧ σ1.2.2 = σ.2.2
def SL (ec em : mm_M → mm_R) (σ : mm_M) : Prop := ∃ (r : Value) (σ1 σ2 : mm_M), ec σ = some (some r, mm_H, σ1) ∧ em σ1 = some (some r, mm_H, σ2) ∧ IV σ2 ∧ σ2.2.2 = σ.2.2 ∧ (∃ x, r = .long x) ∧ σ1.2.2 = σ.2.2
/-- a call that asks -/
theorem sm_q {ec em : mm_M → mm_R} {σ : mm_M} (h : IV σ) (hc : ∀ s L P lb hh D a, iv_ σ s L P lb hh D a → ∃ A : Int32, (∃ σ', ec σ = some (some (.int A), mm_H, σ') ∧ cs_ σ σ') ∧ (∀ τ, iv_ τ s L P lb hh D a → ∃ σ', em τ = some (some (.int A), mm_H, σ') ∧ ms_ τ σ')) : SM ec em σ := by
  obtain ⟨s, L, P, lb, hh, D, a, hi⟩ := h
  obtain ⟨A, ⟨σ1, e1, f1⟩, hm⟩ := hc s L P lb hh D a hi
  have i1 := iv_eq hi (eq_cs f1)
  obtain ⟨σ2, e2, f2⟩ := hm σ1 i1
  exact ⟨.int A, σ1, σ2, e1, e2, ⟨s, L, P, lb, hh, D, a, iv_eq i1 (eq_ms f2)⟩, by rw [f2.2.2, f1.2], ⟨A, rfl⟩, by rw [f1.2]⟩
theorem m_line {σ : mm_M} (h : IV σ) {x y : Int32} : SM (mm_ev mX8_line [.ref 0, .int x, .int y] mm_H) (mm_ev mX9_line [.ref 120, .int x, .int y] mm_H) σ := sm_q h (fun s L P lb hh D a hi => ⟨_, ⟨σ, s_line hi.2.1.1 hi.2.1.2.1, cs_refl _⟩, fun τ ht => ⟨τ, x_line ht.2.1.1 ht.2.1.2.2.1, ms_refl _⟩⟩)
theorem m_label {σ : mm_M} (h : IV σ) {x y : Int32} : SM (mm_ev mX8_label [.ref 0, .int x, .int y] mm_H) (mm_ev mX9_label [.ref 120, .int x, .int y] mm_H) σ := sm_q h (fun s L P lb hh D a hi => ⟨_, s_label hi.2.1.1 hi.2.1.2.1 hi.2.1.2.2.2.1, fun τ ht => x_label ht.2.1.1 ht.2.1.2.2.1 ht.2.1.2.2.2.2⟩)
theorem m_context {σ : mm_M} (h : IV σ) {x y : Int32} : SM (mm_ev mX8_context [.ref 0, .int x, .int y] mm_H) (mm_ev mX9_context [.ref 120, .int x, .int y] mm_H) σ := sm_q h (fun s L P lb hh D a hi => ⟨_, s_context hi.2.1.1 hi.2.1.2.1 hi.2.1.2.2.2.1, fun τ ht => x_context ht.2.1.1 ht.2.1.2.2.1 ht.2.1.2.2.2.2⟩)
theorem m_wrong {σ : mm_M} (h : IV σ) : SM (mm_ev mX8_wrong [.ref 0] mm_H) (mm_ev mX9_wrong [.ref 120] mm_H) σ := sm_q h (fun s L P lb hh D a hi => ⟨_, s_wrong hi.2.1.1 hi.2.1.2.1 hi.2.1.2.2.2.1, fun τ ht => x_wrong ht.2.1.1 ht.2.1.2.2.1 ht.2.1.2.2.2.2⟩)
theorem m_run {σ : mm_M} (h : IV σ) {a b c x : Int32} : SM (mm_ev mX8_run [.ref 0, .int a, .int b, .int c, .int x] mm_H) (mm_ev mX9_run [.ref 120, .int a, .int b, .int c, .int x] mm_H) σ := sm_q h (fun s L P lb hh D a hi => ⟨_, s_run hi.2.1.1 hi.2.1.2.1, fun τ ht => x_run ht.2.1.1 ht.2.1.2.2.1⟩)
theorem m_ends {σ : mm_M} (h : IV σ) {a b c x : Int32} : SM (mm_ev mX8_ends [.ref 0, .int a, .int b, .int c, .int x] mm_H) (mm_ev mX9_ends [.ref 120, .int a, .int b, .int c, .int x] mm_H) σ := sm_q h (fun s L P lb hh D a hi => ⟨_, s_ends hi.2.1.1 hi.2.1.2.1, fun τ ht => x_ends ht.2.1.1 ht.2.1.2.2.1⟩)
theorem m_leak {σ : mm_M} (h : IV σ) {x : Int32} : SM (mm_ev mX8_leak [.ref 0, .int x] mm_H) (mm_ev mX9_leak [.ref 120, .int x] mm_H) σ := sm_q h (fun s L P lb hh D a hi => ⟨_, s_leak hi.2.1.1 hi.2.1.2.1, fun τ ht => x_leak ht.2.1.1 ht.2.1.2.2.1⟩)
theorem m_worlds {σ : mm_M} (h : IV σ) {x : Int32} : SM (mm_ev mX8_worlds [.ref 0, .int x] mm_H) (mm_ev mX9_worlds [.ref 120, .int x] mm_H) σ := sm_q h (fun s L P lb hh D a hi => ⟨_, s_worlds hi.2.1.1 hi.2.1.2.1, fun τ ht => x_worlds ht.2.1.1 ht.2.1.2.2.1⟩)
theorem m_alike {σ : mm_M} (h : IV σ) {a b c : Int32} : SM (mm_ev mX8_alike [.ref 0, .int a, .int b, .int c] mm_H) (mm_ev mX9_alike [.ref 120, .int a, .int b, .int c] mm_H) σ := sm_q h (fun s L P lb hh D a hi => ⟨_, s_alike hi.2.1.1 hi.2.1.2.1, fun τ ht => x_alike ht.2.1.1 ht.2.1.2.2.1⟩)
theorem m_judge {σ : mm_M} (h : IV σ) {n : Int32} {r : Int64} : SM (mm_ev mX8_judge [.ref 0, .int n, .long r] mm_H) (mm_ev mX9_judge [.ref 120, .int n, .long r] mm_H) σ := sm_q h (fun s L P lb hh D a hi => ⟨_, s_judge hi.2.1.1 hi.2.1.2.1 hi.2.1.2.2.2.1, fun τ ht => x_judge ht.2.1.1 ht.2.1.2.2.1 ht.2.1.2.2.2.2⟩)
theorem m_secrets {σ : mm_M} (h : IV σ) {x : Int32} : SM (mm_ev mX8_secrets [.ref 0, .int x] mm_H) (mm_ev mX9_secrets [.ref 120, .int x] mm_H) σ := sm_q h (fun s L P lb hh D a hi => ⟨_, s_secrets hi.2.1.1 hi.2.1.2.1 hi.2.2.1.1, fun τ ht => x_secrets ht.2.1.1 ht.2.1.2.2.1 ht.2.2.1.2⟩)
theorem m_share {σ : mm_M} (h : IV σ) {x a : Int32} {u : Bool} : SM (mm_ev mX8_share [.ref 0, .int x, .int a, .int (nI (b2 u))] mm_H) (mm_ev mX9_share [.ref 120, .int x, .int a, .int (nI (b2 u))] mm_H) σ := sm_q h (fun s L P lb hh D a hi => ⟨_, s_share hi.2.1.1 hi.2.1.2.1, fun τ ht => x_share ht.2.1.1 ht.2.1.2.2.1⟩)
theorem m_muted {σ : mm_M} (h : IV σ) {x : Int32} {u : Bool} : SM (mm_ev mX8_muted [.ref 0, .int x, .int (nI (b2 u))] mm_H) (mm_ev mX9_muted [.ref 120, .int x, .int (nI (b2 u))] mm_H) σ := sm_q h (fun s L P lb hh D a hi => ⟨_, s_muted hi.2.1.1 hi.2.1.2.1 hi.2.1.2.2.2.1, fun τ ht => x_muted ht.2.1.1 ht.2.1.2.2.1 ht.2.1.2.2.2.2⟩)
theorem m_count {σ : mm_M} (h : IV σ) {x : Int32} : SM (mm_ev mX8_count [.ref 0, .int x] mm_H) (mm_ev mX9_count [.ref 120, .int x] mm_H) σ := sm_q h (fun s L P lb hh D a hi => ⟨_, s_count hi.2.1.1 hi.2.1.2.1 hi.2.1.2.2.2.1 hi.1.1.2.1 hi.2.2.2.2.2.2.1 hi.2.2.1.1.2.2.1, fun τ ht => x_count ht.2.1.1 ht.2.1.2.2.1 ht.2.1.2.2.2.2 ht.1.2.2.1 ht.2.2.2.2.2.2.2.1 ht.2.2.1.2.2.2.1⟩)

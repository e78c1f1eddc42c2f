/-! ===== numbers, places, frames (fa_and, fa_or: from kit/laws) ===== -/
theorem ql_0 : (0 : Int32) = nI 0 := rfl
theorem ql_1 : (1 : Int32) = nI 1 := rfl
theorem ql_2 : (2 : Int32) = nI 2 := rfl
theorem ql_3 : (3 : Int32) = nI 3 := rfl
theorem ql_4 : (4 : Int32) = nI 4 := rfl
theorem ql_5 : (5 : Int32) = nI 5 := rfl
theorem ql_6 : (6 : Int32) = nI 6 := rfl
theorem ql_7 : (7 : Int32) = nI 7 := rfl
theorem ql_8 : (8 : Int32) = nI 8 := rfl
theorem ql_9 : (9 : Int32) = nI 9 := rfl
theorem ql_10 : (10 : Int32) = nI 10 := rfl
theorem ql_11 : (11 : Int32) = nI 11 := rfl
theorem ql_12 : (12 : Int32) = nI 12 := rfl
theorem ql_13 : (13 : Int32) = nI 13 := rfl
theorem ql_14 : (14 : Int32) = nI 14 := rfl
theorem ql_15 : (15 : Int32) = nI 15 := rfl
theorem ql_16 : (16 : Int32) = nI 16 := rfl
theorem ql_17 : (17 : Int32) = nI 17 := rfl
theorem ql_18 : (18 : Int32) = nI 18 := rfl
theorem ql_19 : (19 : Int32) = nI 19 := rfl
theorem ql_20 : (20 : Int32) = nI 20 := rfl
theorem ql_24 : (24 : Int32) = nI 24 := rfl
theorem ql_25 : (25 : Int32) = nI 25 := rfl
theorem ql_26 : (26 : Int32) = nI 26 := rfl
theorem ql_27 : (27 : Int32) = nI 27 := rfl
theorem ql_31 : (31 : Int32) = nI 31 := rfl
theorem ql_32 : (32 : Int32) = nI 32 := rfl
theorem ql_33 : (33 : Int32) = nI 33 := rfl
theorem ql_36 : (36 : Int32) = nI 36 := rfl
theorem ql_45 : (45 : Int32) = nI 45 := rfl
theorem ql_46 : (46 : Int32) = nI 46 := rfl
theorem ql_47 : (47 : Int32) = nI 47 := rfl
theorem ql_48 : (48 : Int32) = nI 48 := rfl
theorem ql_49 : (49 : Int32) = nI 49 := rfl
theorem ql_50 : (50 : Int32) = nI 50 := rfl
theorem ql_57 : (57 : Int32) = nI 57 := rfl
theorem ql_63 : (63 : Int32) = nI 63 := rfl
theorem ql_64 : (64 : Int32) = nI 64 := rfl
theorem ql_65 : (65 : Int32) = nI 65 := rfl
theorem ql_66 : (66 : Int32) = nI 66 := rfl
theorem ql_67 : (67 : Int32) = nI 67 := rfl
theorem ql_68 : (68 : Int32) = nI 68 := rfl
theorem ql_69 : (69 : Int32) = nI 69 := rfl
theorem ql_70 : (70 : Int32) = nI 70 := rfl
theorem ql_71 : (71 : Int32) = nI 71 := rfl
theorem ql_72 : (72 : Int32) = nI 72 := rfl
theorem ql_73 : (73 : Int32) = nI 73 := rfl
theorem ql_74 : (74 : Int32) = nI 74 := rfl
theorem ql_75 : (75 : Int32) = nI 75 := rfl
theorem ql_76 : (76 : Int32) = nI 76 := rfl
theorem ql_77 : (77 : Int32) = nI 77 := rfl
theorem ql_78 : (78 : Int32) = nI 78 := rfl
theorem ql_79 : (79 : Int32) = nI 79 := rfl
theorem ql_80 : (80 : Int32) = nI 80 := rfl
theorem ql_81 : (81 : Int32) = nI 81 := rfl
theorem ql_82 : (82 : Int32) = nI 82 := rfl
theorem ql_83 : (83 : Int32) = nI 83 := rfl
theorem ql_84 : (84 : Int32) = nI 84 := rfl
theorem ql_85 : (85 : Int32) = nI 85 := rfl
theorem ql_86 : (86 : Int32) = nI 86 := rfl
theorem ql_87 : (87 : Int32) = nI 87 := rfl
theorem ql_93 : (93 : Int32) = nI 93 := rfl
theorem ql_96 : (96 : Int32) = nI 96 := rfl
theorem ql_97 : (97 : Int32) = nI 97 := rfl
theorem ql_100 : (100 : Int32) = nI 100 := rfl
theorem ql_101 : (101 : Int32) = nI 101 := rfl
theorem ql_120 : (120 : Int32) = nI 120 := rfl
theorem ql_255 : (255 : Int32) = nI 255 := rfl
theorem ql_256 : (256 : Int32) = nI 256 := rfl
theorem ql_257 : (257 : Int32) = nI 257 := rfl
theorem ql_511 : (511 : Int32) = nI 511 := rfl
theorem ql_672 : (672 : Int32) = nI 672 := rfl
theorem ql_900 : (900 : Int32) = nI 900 := rfl
theorem ql_65536 : (65536 : Int32) = nI 65536 := rfl
theorem ql_1000 : (1000 : Int32) = nI 1000 := rfl
theorem kl_n : mm_kl none = none := rfl
theorem kl_i {v : Int32} : mm_kl (some (.int v)) = some (.int v) := rfl
theorem kl_r {v : Nat} : mm_kl (some (.ref v)) = some (.ref v) := rfl
theorem kl_l {v : Int64} : mm_kl (some (.long v)) = none := rfl
theorem ml_l {σ : mm_M} {k j : Nat} : mm_l σ k j = σ.2.1 k j := rfl
theorem qL_0 : (0 : Int64) = lN 0 := rfl
theorem qL_1 : (1 : Int64) = lN 1 := rfl
theorem qL_11 : (11 : Int64) = lN 11 := rfl
theorem qL_10000 : (10000 : Int64) = lN 10000 := rfl
theorem nI_lL {n : Nat} (h : n < 2147483648) : (nI n).toInt64 = lN n := nI_l h
theorem lN_eqI {a b : Nat} (ha : a < 9223372036854775808) (hb : b < 9223372036854775808) : (lN a = lN b) = (a = b) := propext (pk_lEQ ha hb)
theorem on_nI {n : Nat} : Int32.ofNat n = nI n := rfl
theorem cat_le (v : Value) : v.category ≤ 2 := by cases v <;> exact Nat.le_of_ble_eq_true rfl
theorem so_0 : mm_so [] = true := rfl
theorem so_1 {a : Value} : mm_so [a] = true := by have := cat_le a; simp [mm_so, mm_sw]; omega
theorem so_2 {a b : Value} : mm_so [a, b] = true := by have := cat_le a; have := cat_le b; simp [mm_so, mm_sw]; omega
theorem so_3 {a b c : Value} : mm_so [a, b, c] = true := by have := cat_le a; have := cat_le b; have := cat_le c; simp [mm_so, mm_sw]; omega
theorem so_4 {a b c d : Value} : mm_so [a, b, c, d] = true := by have := cat_le a; have := cat_le b; have := cat_le c; have := cat_le d; simp [mm_so, mm_sw]; omega
theorem mm_zr0n {θ : mm_T} {σ : mm_M} : mm_zr (nI 0) θ σ = some (some (.int (nI 0)), θ, σ) := rfl
theorem mm_zr1n {θ : mm_T} {σ : mm_M} : mm_zr (nI 1) θ σ = some (some (.int (nI 1)), θ, σ) := rfl
theorem tn_nI {n : Nat} (h : n < 2147483648) : (nI n).toNatClampNeg = n := nI_clamp h
theorem in_nI {a n : Nat} (h : a < n) (hn : n < 2147483648) : mm_in (nI a) n = true := by
  unfold mm_in
  rw [nI_toInt (show a < 2 ^ 31 by omega)]
  simp; omega
theorem nI_eqI {a b : Nat} (ha : a < 2147483648) (hb : b < 2147483648) : (nI a = nI b) = (a = b) := propext (nI_eq ha hb)
theorem nI_leI2 {a b : Nat} (ha : a < 2147483648) (hb : b < 2147483648) : (nI a ≤ nI b) = (a ≤ b) := propext (nI_leI ha hb)
theorem nI_ltI2 {a b : Nat} (ha : a < 2147483648) (hb : b < 2147483648) : (nI a < nI b) = (a < b) := propext (nI_ltI ha hb)
theorem re_nI {a d : Nat} (ha : a < 2147483648) (h0 : 0 < d) (hd : d < 2147483648) : mm_re (nI a) (nI d) = nI (a % d) := pk_rem ha h0 hd
theorem dv_nI {a d : Nat} (ha : a < 2147483648) (h0 : 0 < d) (hd : d < 2147483648) : nI a / nI d = nI (a / d) := pk_div ha h0 hd
theorem mi_lt {σ : mm_M} {k j : Nat} (h : k < 1000) : mm_i σ k j = σ.1 k j := by unfold mm_i; rw [if_pos h]
section RD
variable {σ : mm_M} {k j k' j' : Nat} {v : Int32} {f : Nat → Int32} {w : Int64}
theorem rd_eq : (mm_si σ k j v).1 k j = v := by simp [mm_si, mm_sA, upd]
theorem rd_nj (h : j' ≠ j) : (mm_si σ k j v).1 k j' = σ.1 k j' := by simp [mm_si, mm_sA, upd, h]
theorem rd_nk (h : k' ≠ k) : (mm_si σ k j v).1 k' = σ.1 k' := by simp [mm_si, mm_sA, h]
theorem rd_k : (mm_si σ k j v).1 k = upd (σ.1 k) j v := by simp [mm_si, mm_sA]
theorem rs_eq : (mm_sA σ k f).1 k = f := by simp [mm_sA]
theorem rs_nk (h : k' ≠ k) : (mm_sA σ k f).1 k' = σ.1 k' := by simp [mm_sA, h]
theorem rl_si : (mm_si σ k j v).2 = σ.2 := rfl
theorem rl_sA : (mm_sA σ k f).2 = σ.2 := rfl
theorem rl_sl1 : (mm_sl σ k j w).1 = σ.1 := rfl
theorem rl_sl2 : (mm_sl σ k j w).2.2 = σ.2.2 := rfl
theorem rl_eq : (mm_sl σ k j w).2.1 k j = w := by simp [mm_sl, vp_updL]
theorem rl_nj (h : j' ≠ j) : (mm_sl σ k j w).2.1 k j' = σ.2.1 k j' := by simp [mm_sl, vp_updL, h]
theorem rl_nk (h : k' ≠ k) : (mm_sl σ k j w).2.1 k' = σ.2.1 k' := by simp [mm_sl, h]
end RD
/-- a truth as a number -/
def b2 (c : Bool) : Nat := if c = true then 1 else 0
theorem b2_t : b2 true = 1 := rfl
theorem b2_f : b2 false = 0 := rfl
theorem b2_lt (c : Bool) : b2 c < 2 := by cases c <;> decide
theorem b2_0 {c : Bool} : (nI (b2 c) = nI 0) = (c = false) := by cases c <;> simp [b2, nI_eqI]
theorem b2_1 {c : Bool} : (nI (b2 c) = nI 1) = (c = true) := by cases c <;> simp [b2, nI_eqI]
theorem mm_zrb {c : Bool} {θ : mm_T} {σ : mm_M} : mm_zr (nI (b2 c)) θ σ = some (some (.int (nI (b2 c))), θ, σ) := by cases c <;> rfl
theorem fa_and (a b : Nat) : nI a &&& nI b = nI (a &&& b) := by
  apply Int32.toBitVec_inj.1
  show BitVec.ofNat 32 a &&& BitVec.ofNat 32 b = BitVec.ofNat 32 (a &&& b)
  apply BitVec.eq_of_getLsbD_eq
  intro i hi
  simp [hi]
theorem fa_or (a b : Nat) : nI a ||| nI b = nI (a ||| b) := by
  apply Int32.toBitVec_inj.1
  show BitVec.ofNat 32 a ||| BitVec.ofNat 32 b = BitVec.ofNat 32 (a ||| b)
  apply BitVec.eq_of_getLsbD_eq
  intro i hi
  simp [hi]
theorem s_l32 : ∀ n, n < 32 → ((nI n &&& nI 31).toBitVec.smod 32).toNat = n := by decide +kernel
theorem shr_nI {m k : Nat} (hm : m < 2147483648) (hk : k < 32) : nI m >>> (nI k &&& nI 31) = nI (m / 2 ^ k) := pk_shrN hm _ k (s_l32 k hk)
theorem shl_nI {k : Nat} (hk : k < 31) : nI 1 <<< (nI k &&& nI 31) = nI (2 ^ k) := by
  rw [pk_shlN (n := 1) (nI k &&& nI 31) k (s_l32 k (by omega)) (by rw [Nat.one_mul]; exact Nat.pow_lt_pow_right (by decide) (by omega)), Nat.one_mul]
theorem bit_nI {m k : Nat} (hm : m < 2147483648) (hk : k < 32) : nI m >>> (nI k &&& nI 31) &&& nI 1 = nI (b2 (m.testBit k)) := by
  rw [shr_nI hm hk, fa_and, Nat.and_one_is_mod, Nat.testBit_eq_decide_div_mod_eq]
  have : m / 2 ^ k % 2 = 0 ∨ m / 2 ^ k % 2 = 1 := by omega
  rcases this with h | h <;> rw [h] <;> rfl
/-- nothing has changed but cells lo .. hi - 1 -/
def fr_ (lo hi : Nat) (σ σ' : mm_M) : Prop := (∀ k, (k < lo ∨ hi ≤ k) → σ'.1 k = σ.1 k) ∧ σ'.2 = σ.2
theorem fr_refl (lo hi : Nat) (σ : mm_M) : fr_ lo hi σ σ := ⟨fun _ _ => rfl, rfl⟩
theorem fr_tr {lo hi : Nat} {a b c : mm_M} (h1 : fr_ lo hi a b) (h2 : fr_ lo hi b c) : fr_ lo hi a c := ⟨fun k hk => (h2.1 k hk).trans (h1.1 k hk), h2.2.trans h1.2⟩
theorem fr_wd {lo hi lo' hi' : Nat} {a b : mm_M} (h1 : fr_ lo hi a b) (hl : lo' ≤ lo) (hh : hi ≤ hi') : fr_ lo' hi' a b := ⟨fun k hk => h1.1 k (by omega), h1.2⟩
theorem fr_si {lo hi : Nat} {σ σ' : mm_M} {k j : Nat} {v : Int32} (h : fr_ lo hi σ σ') (h1 : lo ≤ k) (h2 : k < hi) : fr_ lo hi σ (mm_si σ' k j v) := ⟨fun k' hk => (rd_nk (by omega)).trans (h.1 k' hk), h.2⟩
theorem fr_sA {lo hi : Nat} {σ σ' : mm_M} {k : Nat} {f : Nat → Int32} (h : fr_ lo hi σ σ') (h1 : lo ≤ k) (h2 : k < hi) : fr_ lo hi σ (mm_sA σ' k f) := ⟨fun k' hk => (rs_nk (by omega)).trans (h.1 k' hk), h.2⟩
/-- is x one of 0 .. n - 1? -/
def bl_ (x : Int32) (n : Nat) : Bool := decide (0 ≤ x.toInt) && decide (x.toInt < (n : Int))
theorem bl_nI {a n : Nat} (ha : a < 2147483648) : bl_ (nI a) n = decide (a < n) := by
  unfold bl_
  rw [nI_toInt (show a < 2 ^ 31 by omega)]
  by_cases h : a < n <;> simp [h]
theorem bl_of {x : Int32} {n : Nat} (hn : n < 2147483648) (h : bl_ x n = true) : ∃ a, a < n ∧ x = nI a := by
  unfold bl_ at h
  rw [Bool.and_eq_true, decide_eq_true_iff, decide_eq_true_iff] at h
  refine ⟨x.toInt.toNat, by omega, ?_⟩
  apply Int32.toInt_inj.1
  rw [nI_toInt (show x.toInt.toNat < 2 ^ 31 by omega)]
  omega
theorem bl_ix {x : Int32} {n : Nat} (hn : n < 2147483648) : bl_ x n = false ∨ ∃ a, a < n ∧ x = nI a := by
  cases h : bl_ x n
  · exact Or.inl rfl
  · exact Or.inr (bl_of hn h)
/-! rows of tables -/
theorem rho_16r : ∀ i, i < 9 → mm_rho 16 i = some (17 + i) := by decide
theorem rho_4r : ∀ i, i < 9 → mm_rho 4 i = some (5 + i) := by decide
theorem rho_59r : ∀ i, i < 9 → mm_rho 59 i = some (60 + i) := by decide
theorem rho_100r : ∀ i, i < 9 → mm_rho 100 i = some (101 + i) := by decide
theorem rho_88r : ∀ i, i < 6 → mm_rho 88 i = some (89 + i) := by decide
theorem ir_17r : ∀ i, i < 9 → mm_ir 135 (17 + i) = true := by decide
theorem iw_17r : ∀ i, i < 9 → mm_iw 135 (17 + i) = true := by decide
theorem ir_5r : ∀ i, i < 9 → mm_ir 135 (5 + i) = true := by decide
theorem iw_5r : ∀ i, i < 9 → mm_iw 135 (5 + i) = true := by decide
theorem ir_89r : ∀ i, i < 6 → mm_ir 135 (89 + i) = true := by decide
theorem iw_89r : ∀ i, i < 6 → mm_iw 135 (89 + i) = true := by decide
theorem al_17r : ∀ i, i < 9 → (mm_kt (17 + i)).2 = 5 := by decide
theorem al_5r : ∀ i, i < 9 → (mm_kt (5 + i)).2 = 5 := by decide
theorem al_89r : ∀ i, i < 6 → (mm_kt (89 + i)).2 = 4 := by decide
theorem al_kt {σ : mm_M} {k : Nat} (h : k < 1000) : mm_al σ k = (mm_kt k).2 := by unfold mm_al; rw [if_neg (by omega)]
theorem al_17s {σ : mm_M} {i : Nat} (h : i < 9) : mm_al σ (17 + i) = 5 := (al_kt (by omega)).trans (al_17r i h)
theorem al_5s {σ : mm_M} {i : Nat} (h : i < 9) : mm_al σ (5 + i) = 5 := (al_kt (by omega)).trans (al_5r i h)
theorem al_89s {σ : mm_M} {i : Nat} (h : i < 6) : mm_al σ (89 + i) = 4 := (al_kt (by omega)).trans (al_89r i h)
theorem zb_1 : (nI 1 == nI 0 || nI 1 == nI 1) = true := rfl
theorem zb_0 : (nI 0 == nI 0 || nI 0 == nI 1) = true := rfl
theorem zb_b {c : Bool} : (nI (b2 c) == nI 0 || nI (b2 c) == nI 1) = true := by cases c <;> rfl

/-! ===== switches, arrays, fields, constants ===== -/
section ST2
variable {D : va_G} {cA : Nat → ClassId} {B : Nat} {ex : Nat → Nat} {Lx : Nat} {xs : Nat → Int32} {p : Program} {l : Launch} {e : Env} {R : Room} {s : State} {m : MethodId} {args : Array Value} {below : List Frame} {meth : Method} {c : Code} {y : mm_Y} {n0 : Nat} {Q : State → Prop} {θ θ1 : mm_T} {pc pc' len : Nat} {L L' : mm_L} {st st' : List Value} {σ σ1 : mm_M}
theorem ss_ce20 {k : Nat} (h : (mm_kt k).1 = 20) : ss_ce cA B ex θ σ k = .inl (cA 0, (mm_kt k).2, .inl (σ.1 k)) := by
  unfold ss_ce
  rw [if_neg (by omega), if_pos h]
theorem ss_ce21 {k : Nat} (h : (mm_kt k).1 = 21) : ss_ce cA B ex θ σ k = .inl (cA 1, (mm_kt k).2, .inl (σ.1 k)) := by
  unfold ss_ce
  rw [if_neg (by omega), if_neg (by omega), if_pos h]
theorem ss_ce23 {k : Nat} (h : (mm_kt k).1 = 23) : ss_ce cA B ex θ σ k = .inl (cA 2, (mm_kt k).2, .inr (.inl (σ.2.1 k))) := by
  unfold ss_ce
  rw [if_neg (by omega), if_neg (by omega), if_neg (by omega), if_pos h]
theorem ss_ce24 {k : Nat} (h : (mm_kt k).1 = 24) : ss_ce cA B ex θ σ k = .inl (cA 3, (mm_kt k).2, .inr (.inr (.inr (.inr (fun i => (θ.2 k i).map (ss_ad B ex)))))) := by
  unfold ss_ce
  rw [if_neg (by omega), if_neg (by omega), if_neg (by omega), if_neg (by omega), if_pos h]
theorem ss_ce25 {k : Nat} (h : (mm_kt k).1 = 25) : ss_ce cA B ex θ σ k = .inl (cA 4, (mm_kt k).2, .inr (.inr (.inr (.inr (fun i => (θ.2 k i).map (ss_ad B ex)))))) := by
  unfold ss_ce
  rw [if_neg (by omega), if_neg (by omega), if_neg (by omega), if_neg (by omega), if_neg (by omega)]
theorem ss_ceO {k : Nat} (h : (mm_kt k).1 < 10) : ss_ce cA B ex θ σ k = .inr ((mm_kt k).1, (List.range (mm_kt k).2).map (fun j => ss_fv B ex θ σ k j (mm_ft (mm_kt k).1 j))) := by
  unfold ss_ce
  rw [if_pos h]
theorem ss_al {k : Nat} (h : k < 1000) : mm_al σ k = (mm_kt k).2 := by
  unfold mm_al
  rw [if_neg (by omega)]
theorem ss_i {k j : Nat} (h : k < 1000) : mm_i σ k j = σ.1 k j := by
  unfold mm_i
  rw [if_pos h]
/-- another value of ints in one cell -/
theorem ss_ce_sA {k a : Nat} {f : Nat → Int32} (h : a ≠ k) : ss_ce cA B ex θ (mm_sA σ k f) a = ss_ce cA B ex θ σ a := by
  unfold ss_ce ss_fv mm_sA
  simp only [if_neg h]
theorem ss_ce_sl {k j a : Nat} {v : Int64} (h : a ≠ k) : ss_ce cA B ex θ (mm_sl σ k j v) a = ss_ce cA B ex θ σ a := by
  unfold ss_ce ss_fv mm_sl
  simp only [if_neg h]
theorem ss_ce_sr {k j a : Nat} {v : Option Nat} (h : a ≠ k) : ss_ce cA B ex (mm_sr θ k j v) σ a = ss_ce cA B ex θ σ a := by
  unfold ss_ce ss_fv mm_sr
  simp only [if_neg h]
theorem ss_sA_row {k : Nat} {f : Nat → Int32} : (mm_sA σ k f).1 k = f := by
  unfold mm_sA
  simp
theorem ss_si_row {k j : Nat} {v : Int32} : (mm_si σ k j v).1 k = upd (σ.1 k) j v := ss_sA_row
theorem ss_sl_row {k j : Nat} {v : Int64} : (mm_sl σ k j v).2.1 k = vp_updL (σ.2.1 k) j v := by
  unfold mm_sl
  simp
theorem ss_sr_row {k j : Nat} {v : Option Nat} : (mm_sr θ k j v).2 k = va_up (θ.2 k) j v := by
  unfold mm_sr
  simp
theorem ss_get {k : Nat} (h : k < θ.1) {E : va_E} (hE : ss_ce cA B ex θ σ k = E) : (ss_ws cA B ex θ σ)[k]? = some (B + k, E) := by rw [ss_ws_at h, hE]
theorem st_tableswitch {df lo hi : Int} {offs : Array Int} (hd : decode (mm_cd y) pc = .ok (.tableswitch df lo hi offs, len)) (h : mm_sp y θ pc L st σ (.tableswitch df lo hi offs) len = some (.inl (pc', L', st', θ1, σ1))) (C : ss_C D cA B ex Lx xs p R s m args meth c y n0) (hn0 : n0 ≤ θ.1) (hcl : θ1.1 - n0 ≤ R.cells) (hsl : mm_sl0 θ1.1 - mm_sl0 n0 ≤ R.slots) (K : ss_J D cA B ex Lx xs p l e R s m args below meth c y n0 Q θ1 pc' L' st' σ1) : ss_J D cA B ex Lx xs p l e R s m args below meth c y n0 Q θ pc L st σ := by
  obtain ⟨x, st2, rfl, h1⟩ := mm_p1_inv h
  clear h
  have h1 : (if x.toInt < lo ∨ hi < x.toInt then mm_jp pc df L st2 θ σ else match offs[(x.toInt - lo).toNat]? with
    | some off => mm_jp pc off L st2 θ σ
    | none => none) = some (.inl (pc', L', st', θ1, σ1)) := h1
  by_cases hc : x.toInt < lo ∨ hi < x.toInt
  · rw [if_pos hc] at h1
    obtain ⟨tgt, ht, h3⟩ := mm_jp_inv h1
    cases h3
    intro H locs ls hW hx hS hl
    exact lv_tableOut C.1.1 C.1.2.1 hd hc ht (K H locs ls hW hx hS hl)
  · rw [if_neg hc] at h1
    cases ho : offs[(x.toInt - lo).toNat]? with
    | none => rw [ho] at h1; cases h1
    | some off =>
      rw [ho] at h1
      obtain ⟨tgt, ht, h3⟩ := mm_jp_inv h1
      cases h3
      intro H locs ls hW hx hS hl
      exact lv_tableIn C.1.1 C.1.2.1 hd (fun q => hc (Or.inl q)) (fun q => hc (Or.inr q)) ho ht (K H locs ls hW hx hS hl)

theorem st_iaload (hd : decode (mm_cd y) pc = .ok (.iaload, len)) (h : mm_sp y θ pc L st σ (.iaload) len = some (.inl (pc', L', st', θ1, σ1))) (C : ss_C D cA B ex Lx xs p R s m args meth c y n0) (hn0 : n0 ≤ θ.1) (hcl : θ1.1 - n0 ≤ R.cells) (hsl : mm_sl0 θ1.1 - mm_sl0 n0 ≤ R.slots) (K : ss_J D cA B ex Lx xs p l e R s m args below meth c y n0 Q θ1 pc' L' st' σ1) : ss_J D cA B ex Lx xs p l e R s m args below meth c y n0 Q θ pc L st σ := by
  obtain ⟨i, k, st2, rfl, h1⟩ := mm_a2_inv h
  clear h
  obtain ⟨hl, h2⟩ := mm_ck_inv h1
  clear h1
  rw [Bool.and_eq_true, Bool.and_eq_true] at hl
  obtain ⟨hl1, hl2, hl3⟩ := hl
  obtain rfl := eq_of_beq hl1
  cases h2
  intro H locs ls hW hx hS hl
  have K := K H locs ls hW hx hS hl
  unfold mm_ir at hl2
  rw [Bool.or_eq_true, Bool.or_eq_true] at hl2
  rcases hl2 with (hk | hk) | hk
  · obtain ⟨k1, k2, k3⟩ := ss_kd (eq_of_beq hk) (by decide)
    rw [ss_al k2] at hl3
    rw [ss_i k2] at K
    show W p l e R s m args below meth c H locs _ _ Q (F0 m pc ls (.int i :: .ref (ss_ad B ex k) :: st2.map (ss_tr B ex)))
    rw [ss_ad_lt k2]
    exact va_iald C.1.1 C.1.2.1 C.2.1.1 hW.2 k 0 (ss_get k1 (ss_ce20 k3)) rfl (ss_in hl3) hd K
  · obtain rfl := ss_kd30 (eq_of_beq hk) hW.1
    have e1 : mm_al σ 1000 = Lx := by show σ.2.2.1 = Lx; rw [hx]
    have e2 : mm_i σ 1000 i.toNatClampNeg = xs i.toNatClampNeg := by show σ.2.2.2 _ = _; rw [hx]
    rw [e1] at hl3
    rw [e2] at K
    have hX := C.2.1.2
    have hb := hX.1.1 0
    exact va_sld C.1.1 C.1.2.1 hX.2.1 (by rw [C.2.2.2.2]; omega) (show ¬ B ≤ ex 0 by omega) hS (ss_in hl3) hd K
  · have hX := C.2.1.2
    rcases ss_kd31 (eq_of_beq hk) with rfl | rfl
    · exact va_ti C.1.1 C.1.2.1 hX.2.2.1.2 hS (ss_in hl3) rfl hd K
    · exact va_ti C.1.1 C.1.2.1 hX.2.2.2.1.2 hS (ss_in hl3) rfl hd K

theorem st_baload (hd : decode (mm_cd y) pc = .ok (.baload, len)) (h : mm_sp y θ pc L st σ (.baload) len = some (.inl (pc', L', st', θ1, σ1))) (C : ss_C D cA B ex Lx xs p R s m args meth c y n0) (hn0 : n0 ≤ θ.1) (hcl : θ1.1 - n0 ≤ R.cells) (hsl : mm_sl0 θ1.1 - mm_sl0 n0 ≤ R.slots) (K : ss_J D cA B ex Lx xs p l e R s m args below meth c y n0 Q θ1 pc' L' st' σ1) : ss_J D cA B ex Lx xs p l e R s m args below meth c y n0 Q θ pc L st σ := by
  obtain ⟨i, k, st2, rfl, h1⟩ := mm_a2_inv h
  clear h
  obtain ⟨hl, h2⟩ := mm_ck_inv h1
  clear h1
  rw [Bool.and_eq_true, Bool.and_eq_true] at hl
  obtain ⟨hl1, hl2, hl3⟩ := hl
  obtain rfl := eq_of_beq hl1
  cases h2
  intro H locs ls hW hx hS hl
  have K := K H locs ls hW hx hS hl
  rw [Bool.or_eq_true] at hl2
  rcases hl2 with hk | hk
  · obtain ⟨k1, k2, k3⟩ := ss_kd (eq_of_beq hk) (by decide)
    rw [ss_al k2] at hl3
    rw [ss_i k2] at K
    show W p l e R s m args below meth c H locs _ _ Q (F0 m pc ls (.int i :: .ref (ss_ad B ex k) :: st2.map (ss_tr B ex)))
    rw [ss_ad_lt k2]
    exact va_zald C.1.1 C.1.2.1 C.2.1.1 hW.2 k 1 (ss_get k1 (ss_ce21 k3)) rfl (ss_in hl3) hd K
  · obtain rfl := ss_kd33 (eq_of_beq hk)
    exact va_tb C.1.1 C.1.2.1 C.2.1.2.2.2.2.2.2.2.2.2.1 hS (ss_in hl3) rfl hd K

theorem st_laload (hd : decode (mm_cd y) pc = .ok (.laload, len)) (h : mm_sp y θ pc L st σ (.laload) len = some (.inl (pc', L', st', θ1, σ1))) (C : ss_C D cA B ex Lx xs p R s m args meth c y n0) (hn0 : n0 ≤ θ.1) (hcl : θ1.1 - n0 ≤ R.cells) (hsl : mm_sl0 θ1.1 - mm_sl0 n0 ≤ R.slots) (K : ss_J D cA B ex Lx xs p l e R s m args below meth c y n0 Q θ1 pc' L' st' σ1) : ss_J D cA B ex Lx xs p l e R s m args below meth c y n0 Q θ pc L st σ := by
  obtain ⟨i, k, st2, rfl, h1⟩ := mm_a2_inv h
  clear h
  obtain ⟨hl, h2⟩ := mm_ck_inv h1
  clear h1
  rw [Bool.and_eq_true, Bool.and_eq_true] at hl
  obtain ⟨hl1, hk, hl3⟩ := hl
  obtain rfl := eq_of_beq hl1
  cases h2
  intro H locs ls hW hx hS hl
  have K := K H locs ls hW hx hS hl
  obtain ⟨k1, k2, k3⟩ := ss_kd (eq_of_beq hk) (by decide)
  rw [ss_al k2] at hl3
  show W p l e R s m args below meth c H locs _ _ Q (F0 m pc ls (.int i :: .ref (ss_ad B ex k) :: st2.map (ss_tr B ex)))
  rw [ss_ad_lt k2]
  exact va_lald C.1.1 C.1.2.1 C.2.1.1 hW.2 k 2 (ss_get k1 (ss_ce23 k3)) rfl (ss_in hl3) hd K

theorem st_aaload (hd : decode (mm_cd y) pc = .ok (.aaload, len)) (h : mm_sp y θ pc L st σ (.aaload) len = some (.inl (pc', L', st', θ1, σ1))) (C : ss_C D cA B ex Lx xs p R s m args meth c y n0) (hn0 : n0 ≤ θ.1) (hcl : θ1.1 - n0 ≤ R.cells) (hsl : mm_sl0 θ1.1 - mm_sl0 n0 ≤ R.slots) (K : ss_J D cA B ex Lx xs p l e R s m args below meth c y n0 Q θ1 pc' L' st' σ1) : ss_J D cA B ex Lx xs p l e R s m args below meth c y n0 Q θ pc L st σ := by
  obtain ⟨i, k, st2, rfl, h1⟩ := mm_a2_inv h
  clear h
  obtain ⟨hl, h2⟩ := mm_ck_inv h1
  clear h1
  rw [Bool.and_eq_true, Bool.and_eq_true] at hl
  obtain ⟨hl1, hl2, hl3⟩ := hl
  obtain rfl := eq_of_beq hl1
  cases h2
  intro H locs ls hW hx hS hl
  have K := K H locs ls hW hx hS hl
  have hv : ss_tr B ex (va_rf (θ.2 k i.toNatClampNeg)) = va_rf ((θ.2 k i.toNatClampNeg).map (ss_ad B ex)) := by cases θ.2 k i.toNatClampNeg <;> rfl
  have K : W p l e R s m args below meth c H locs _ _ Q (F0 m (pc + 1) ls (ss_tr B ex (va_rf (θ.2 k i.toNatClampNeg)) :: st2.map (ss_tr B ex))) := K
  rw [hv] at K
  have hin := ss_in hl3
  rw [Bool.or_eq_true] at hl2
  rcases hl2 with hk | hk
  · obtain ⟨k1, k2, k3⟩ := ss_kd (eq_of_beq hk) (by decide)
    rw [ss_al k2] at hin
    show W p l e R s m args below meth c H locs _ _ Q (F0 m pc ls (.int i :: .ref (ss_ad B ex k) :: st2.map (ss_tr B ex)))
    rw [ss_ad_lt k2]
    have hlt : i.toNatClampNeg < (mm_kt k).2 := Nat.not_le.mp fun q => hin (Or.inr q)
    have hc : H[B + k]? = some (vp_cell (cA 3) ((mm_kt k).2, .inr (.inr (.inr (.inr (fun i => (θ.2 k i).map (ss_ad B ex))))))) := hW.2 k _ (ss_get k1 (ss_ce24 k3))
    rw [vp_cell_q] at hc
    exact W.aald (v := va_rf ((θ.2 k i.toNatClampNeg).map (ss_ad B ex))) (ty := .array .int) C.1.1 C.1.2.1 hc ((C.2.1.1.2 3 _ rfl).1 _ _) rfl (fun q => by cases q) (by show ¬ (i < 0 ∨ (arrV _ _ _).slots.size ≤ _); rw [arrV_size]; exact hin) (by show (arrV _ _ _).slots[_]? = _; rw [arrV_read _ _ hlt]) rfl rfl hd K
  · obtain ⟨k1, k2, k3⟩ := ss_kd (eq_of_beq hk) (by decide)
    rw [ss_al k2] at hin
    show W p l e R s m args below meth c H locs _ _ Q (F0 m pc ls (.int i :: .ref (ss_ad B ex k) :: st2.map (ss_tr B ex)))
    rw [ss_ad_lt k2]
    exact va_aldq (C := "QuietLines$Lines") C.1.1 C.1.2.1 C.2.1.1 hW.2 k 4 (ss_get k1 (ss_ce25 k3)) rfl hin hd K

theorem st_iastore (hd : decode (mm_cd y) pc = .ok (.iastore, len)) (h : mm_sp y θ pc L st σ (.iastore) len = some (.inl (pc', L', st', θ1, σ1))) (C : ss_C D cA B ex Lx xs p R s m args meth c y n0) (hn0 : n0 ≤ θ.1) (hcl : θ1.1 - n0 ≤ R.cells) (hsl : mm_sl0 θ1.1 - mm_sl0 n0 ≤ R.slots) (K : ss_J D cA B ex Lx xs p l e R s m args below meth c y n0 Q θ1 pc' L' st' σ1) : ss_J D cA B ex Lx xs p l e R s m args below meth c y n0 Q θ pc L st σ := by
  obtain ⟨v, i, k, st2, rfl, h1⟩ := mm_a3_inv h
  clear h
  match v, h1 with
  | .int x, h1 =>
    obtain ⟨hl, h2⟩ := mm_ck_inv h1
    clear h1
    rw [Bool.and_eq_true, Bool.and_eq_true] at hl
    obtain ⟨hl1, hk, hl3⟩ := hl
    obtain rfl := eq_of_beq hl1
    cases h2
    intro H locs ls hW hx hS hl
    obtain ⟨k1, k2, k3⟩ := ss_kd (eq_of_beq hk) (by decide)
    rw [ss_al k2] at hl3
    show W p l e R s m args below meth c H locs _ _ Q (F0 m pc ls (.int x :: .int i :: .ref (ss_ad B ex k) :: st'.map (ss_tr B ex)))
    rw [ss_ad_lt k2]
    refine va_iast C.1.1 C.1.2.1 C.2.1.1 hW.2 ss_D hS k 0 (ss_get k1 (ss_ce20 k3)) rfl (ss_in hl3) hd (fun H1 locs1 hP1 _ hS1 => ?_)
    rw [ss_ws_set (θ' := θ) (σ' := mm_si σ k i.toNatClampNeg x) k1 rfl (by rw [ss_ce20 k3, ss_si_row]) (fun a ha => ss_ce_sA ha)] at hP1
    exact K H1 locs1 ls ⟨hW.1, hP1⟩ hx hS1 hl

theorem st_bastore (hd : decode (mm_cd y) pc = .ok (.bastore, len)) (h : mm_sp y θ pc L st σ (.bastore) len = some (.inl (pc', L', st', θ1, σ1))) (C : ss_C D cA B ex Lx xs p R s m args meth c y n0) (hn0 : n0 ≤ θ.1) (hcl : θ1.1 - n0 ≤ R.cells) (hsl : mm_sl0 θ1.1 - mm_sl0 n0 ≤ R.slots) (K : ss_J D cA B ex Lx xs p l e R s m args below meth c y n0 Q θ1 pc' L' st' σ1) : ss_J D cA B ex Lx xs p l e R s m args below meth c y n0 Q θ pc L st σ := by
  obtain ⟨v, i, k, st2, rfl, h1⟩ := mm_a3_inv h
  clear h
  match v, h1 with
  | .int x, h1 =>
    obtain ⟨hl, h2⟩ := mm_ck_inv h1
    clear h1
    rw [Bool.and_eq_true, Bool.and_eq_true, Bool.and_eq_true, Bool.and_eq_true] at hl
    obtain ⟨hl1, -, hx01, hk, hl3⟩ := hl
    obtain rfl := eq_of_beq hl1
    cases h2
    intro H locs ls hW hx hS hl
    obtain ⟨k1, k2, k3⟩ := ss_kd (eq_of_beq hk) (by decide)
    rw [ss_al k2] at hl3
    show W p l e R s m args below meth c H locs _ _ Q (F0 m pc ls (.int x :: .int i :: .ref (ss_ad B ex k) :: st'.map (ss_tr B ex)))
    rw [ss_ad_lt k2]
    have hnr : vp_nar .boolean x = x := by
      rw [Bool.or_eq_true] at hx01
      rcases hx01 with q | q <;> (rw [eq_of_beq q]; rfl)
    refine va_zast C.1.1 C.1.2.1 C.2.1.1 hW.2 ss_D hS k 1 (ss_get k1 (ss_ce21 k3)) rfl (ss_in hl3) hd (fun H1 locs1 hP1 _ hS1 => ?_)
    rw [hnr, ss_ws_set (θ' := θ) (σ' := mm_si σ k i.toNatClampNeg x) k1 rfl (by rw [ss_ce21 k3, ss_si_row]) (fun a ha => ss_ce_sA ha)] at hP1
    exact K H1 locs1 ls ⟨hW.1, hP1⟩ hx hS1 hl

theorem st_lastore (hd : decode (mm_cd y) pc = .ok (.lastore, len)) (h : mm_sp y θ pc L st σ (.lastore) len = some (.inl (pc', L', st', θ1, σ1))) (C : ss_C D cA B ex Lx xs p R s m args meth c y n0) (hn0 : n0 ≤ θ.1) (hcl : θ1.1 - n0 ≤ R.cells) (hsl : mm_sl0 θ1.1 - mm_sl0 n0 ≤ R.slots) (K : ss_J D cA B ex Lx xs p l e R s m args below meth c y n0 Q θ1 pc' L' st' σ1) : ss_J D cA B ex Lx xs p l e R s m args below meth c y n0 Q θ pc L st σ := by
  obtain ⟨v, i, k, st2, rfl, h1⟩ := mm_a3_inv h
  clear h
  match v, h1 with
  | .long x, h1 =>
    obtain ⟨hl, h2⟩ := mm_ck_inv h1
    clear h1
    rw [Bool.and_eq_true, Bool.and_eq_true, Bool.and_eq_true] at hl
    obtain ⟨hl1, -, hk, hl3⟩ := hl
    obtain rfl := eq_of_beq hl1
    cases h2
    intro H locs ls hW hx hS hl
    obtain ⟨k1, k2, k3⟩ := ss_kd (eq_of_beq hk) (by decide)
    rw [ss_al k2] at hl3
    show W p l e R s m args below meth c H locs _ _ Q (F0 m pc ls (.long x :: .int i :: .ref (ss_ad B ex k) :: st'.map (ss_tr B ex)))
    rw [ss_ad_lt k2]
    refine va_last C.1.1 C.1.2.1 C.2.1.1 hW.2 ss_D hS k 2 (ss_get k1 (ss_ce23 k3)) rfl (ss_in hl3) hd (fun H1 locs1 hP1 _ hS1 => ?_)
    rw [ss_ws_set (θ' := θ) (σ' := mm_sl σ k i.toNatClampNeg x) k1 rfl (by rw [ss_ce23 k3, ss_sl_row]) (fun a ha => ss_ce_sl ha)] at hP1
    exact K H1 locs1 ls ⟨hW.1, hP1⟩ hx hS1 hl

theorem st_aastore (hd : decode (mm_cd y) pc = .ok (.aastore, len)) (h : mm_sp y θ pc L st σ (.aastore) len = some (.inl (pc', L', st', θ1, σ1))) (C : ss_C D cA B ex Lx xs p R s m args meth c y n0) (hn0 : n0 ≤ θ.1) (hcl : θ1.1 - n0 ≤ R.cells) (hsl : mm_sl0 θ1.1 - mm_sl0 n0 ≤ R.slots) (K : ss_J D cA B ex Lx xs p l e R s m args below meth c y n0 Q θ1 pc' L' st' σ1) : ss_J D cA B ex Lx xs p l e R s m args below meth c y n0 Q θ pc L st σ := by
  obtain ⟨v, i, k, st2, rfl, h1⟩ := mm_a3_inv h
  clear h
  match v, h1 with
  | .ref x, h1 =>
    obtain ⟨hl, h2⟩ := mm_ck_inv h1
    clear h1
    rw [Bool.and_eq_true, Bool.and_eq_true, Bool.and_eq_true] at hl
    obtain ⟨hl1, hk, hv, hl3⟩ := hl
    obtain rfl := eq_of_beq hl1
    cases h2
    intro H locs ls hW hx hS hl
    obtain ⟨k1, k2, k3⟩ := ss_kd (eq_of_beq hk) (by decide)
    obtain ⟨v1, v2, v3⟩ := ss_kd (eq_of_beq hv) (by decide)
    rw [ss_al k2] at hl3
    show W p l e R s m args below meth c H locs _ _ Q (F0 m pc ls (.ref (ss_ad B ex x) :: .int i :: .ref (ss_ad B ex k) :: st'.map (ss_tr B ex)))
    rw [ss_ad_lt k2, ss_ad_lt v2]
    have hO := ss_ceO (cA := cA) (B := B) (ex := ex) (θ := θ) (σ := σ) (k := x) (by omega)
    rw [v3] at hO
    refine va_astq (r := (RX4, TX4, 3)) C.1.1 C.1.2.1 C.2.1.1 hW.2 ss_D hS k 4 x 4 (ss_get k1 (ss_ce25 k3)) rfl (ss_get v1 hO) rfl (ss_in hl3) hd (fun H1 locs1 hP1 _ hS1 => ?_)
    rw [ss_ws_set (θ' := mm_sr θ k i.toNatClampNeg (some x)) (σ' := σ) k1 rfl (by
      rw [ss_ce25 k3, ss_sr_row]
      congr 7
      funext q
      unfold va_up
      by_cases hq : q = i.toNatClampNeg
      · simp only [hq, if_true]
        show some (ss_ad B ex x) = _
        rw [ss_ad_lt v2]
      · simp only [if_neg hq]) (fun a ha => ss_ce_sr ha)] at hP1
    exact K H1 locs1 ls ⟨hW.1, hP1⟩ hx hS1 hl

theorem st_arraylength (hd : decode (mm_cd y) pc = .ok (.arraylength, len)) (h : mm_sp y θ pc L st σ (.arraylength) len = some (.inl (pc', L', st', θ1, σ1))) (C : ss_C D cA B ex Lx xs p R s m args meth c y n0) (hn0 : n0 ≤ θ.1) (hcl : θ1.1 - n0 ≤ R.cells) (hsl : mm_sl0 θ1.1 - mm_sl0 n0 ≤ R.slots) (K : ss_J D cA B ex Lx xs p l e R s m args below meth c y n0 Q θ1 pc' L' st' σ1) : ss_J D cA B ex Lx xs p l e R s m args below meth c y n0 Q θ pc L st σ := by
  obtain ⟨k, st2, rfl, h1⟩ := mm_a1_inv h
  clear h
  obtain ⟨hl, h2⟩ := mm_ck_inv h1
  clear h1
  rw [Bool.and_eq_true] at hl
  obtain ⟨hl1, hl2⟩ := hl
  obtain rfl := eq_of_beq hl1
  cases h2
  intro H locs ls hW hx hS hl
  have K := K H locs ls hW hx hS hl
  unfold mm_ir at hl2
  rw [Bool.or_eq_true, Bool.or_eq_true, Bool.or_eq_true] at hl2
  rcases hl2 with ((hk | hk) | hk) | hk
  · obtain ⟨k1, k2, k3⟩ := ss_kd (eq_of_beq hk) (by decide)
    rw [ss_al k2] at K
    show W p l e R s m args below meth c H locs _ _ Q (F0 m pc ls (.ref (ss_ad B ex k) :: st2.map (ss_tr B ex)))
    rw [ss_ad_lt k2]
    exact va_alen C.1.1 C.1.2.1 C.2.1.1 hW.2 k 0 (ss_get k1 (ss_ce20 k3)) rfl rfl hd K
  · obtain rfl := ss_kd30 (eq_of_beq hk) hW.1
    have e1 : mm_al σ 1000 = Lx := by show σ.2.2.1 = Lx; rw [hx]
    rw [e1] at K
    have hX := C.2.1.2
    have hb := hX.1.1 0
    exact va_slen (b := ex 0) C.1.1 C.1.2.1 hX.2.1 (by rw [C.2.2.2.2]; omega) (show ¬ B ≤ ex 0 by omega) hS hd K
  · have hX := C.2.1.2
    rcases ss_kd31 (eq_of_beq hk) with rfl | rfl
    · exact va_tlen C.1.1 C.1.2.1 hX.2.2.1.2 hS rfl hd K
    · exact va_tlen C.1.1 C.1.2.1 hX.2.2.2.1.2 hS rfl hd K
  · obtain rfl := ss_kd33 (eq_of_beq hk)
    exact va_tlen C.1.1 C.1.2.1 C.2.1.2.2.2.2.2.2.2.2.2.1 hS rfl hd K

theorem st_ldc {idx : Nat} (hd : decode (mm_cd y) pc = .ok (.ldc idx, len)) (h : mm_sp y θ pc L st σ (.ldc idx) len = some (.inl (pc', L', st', θ1, σ1))) (C : ss_C D cA B ex Lx xs p R s m args meth c y n0) (hn0 : n0 ≤ θ.1) (hcl : θ1.1 - n0 ≤ R.cells) (hsl : mm_sl0 θ1.1 - mm_sl0 n0 ≤ R.slots) (K : ss_J D cA B ex Lx xs p l e R s m args below meth c y n0 Q θ1 pc' L' st' σ1) : ss_J D cA B ex Lx xs p l e R s m args below meth c y n0 Q θ pc L st σ := by
  obtain ⟨hl, h2⟩ := mm_ck_inv h
  clear h
  rw [Bool.and_eq_true, Bool.and_eq_true] at hl
  obtain ⟨hl1, hl2, hl3⟩ := hl
  obtain rfl := eq_of_beq hl1
  obtain rfl := eq_of_beq hl3
  cases h2
  intro H locs ls hW hx hS hl
  have hown := C.1.2.2.2.1
  rw [eq_of_beq hl2] at hown
  exact va_ldcS C.1.1 C.1.2.1 (own := "QuietLines$Text") hown C.2.1.2.1.2.2.2 hd (K H locs ls hW hx hS hl)

theorem st_ldc_w {idx : Nat} (hd : decode (mm_cd y) pc = .ok (.ldc_w idx, len)) (h : mm_sp y θ pc L st σ (.ldc_w idx) len = some (.inl (pc', L', st', θ1, σ1))) (C : ss_C D cA B ex Lx xs p R s m args meth c y n0) (hn0 : n0 ≤ θ.1) (hcl : θ1.1 - n0 ≤ R.cells) (hsl : mm_sl0 θ1.1 - mm_sl0 n0 ≤ R.slots) (K : ss_J D cA B ex Lx xs p l e R s m args below meth c y n0 Q θ1 pc' L' st' σ1) : ss_J D cA B ex Lx xs p l e R s m args below meth c y n0 Q θ pc L st σ := by
  obtain ⟨hl, h2⟩ := mm_ck_inv h
  clear h
  obtain rfl := eq_of_beq hl
  cases hk : mm_lk mm_tI (mm_cn y) idx with
  | none => rw [hk] at h2; cases h2
  | some q =>
    obtain ⟨v, q⟩ := q
    rw [hk] at h2
    cases h2
    intro H locs ls hW hx hS hl
    have hw := of_decide_eq_true (List.all_eq_true.mp ss_tI _ (mm_lk_mem hk))
    exact lv_ldcw C.1.1 C.1.2.1 C.1.2.2.2.1 (C.1.2.2.2.2 _ (lw_at hw rfl)) hd (K H locs ls hW hx hS hl)

theorem st_ldc2_w {idx : Nat} (hd : decode (mm_cd y) pc = .ok (.ldc2_w idx, len)) (h : mm_sp y θ pc L st σ (.ldc2_w idx) len = some (.inl (pc', L', st', θ1, σ1))) (C : ss_C D cA B ex Lx xs p R s m args meth c y n0) (hn0 : n0 ≤ θ.1) (hcl : θ1.1 - n0 ≤ R.cells) (hsl : mm_sl0 θ1.1 - mm_sl0 n0 ≤ R.slots) (K : ss_J D cA B ex Lx xs p l e R s m args below meth c y n0 Q θ1 pc' L' st' σ1) : ss_J D cA B ex Lx xs p l e R s m args below meth c y n0 Q θ pc L st σ := by
  obtain ⟨hl, h2⟩ := mm_ck_inv h
  clear h
  obtain rfl := eq_of_beq hl
  cases hk : mm_lk mm_tL (mm_cn y) idx with
  | none => rw [hk] at h2; cases h2
  | some q =>
    obtain ⟨v, q⟩ := q
    rw [hk] at h2
    cases h2
    intro H locs ls hW hx hS hl
    have hw := of_decide_eq_true (List.all_eq_true.mp ss_tL _ (mm_lk_mem hk))
    exact lv_ldc2 C.1.1 C.1.2.1 C.1.2.2.2.1 (C.1.2.2.2.2 _ (lw_at hw rfl)) hd (K H locs ls hW hx hS hl)

theorem st_getstatic {idx : Nat} (hd : decode (mm_cd y) pc = .ok (.getstatic idx, len)) (h : mm_sp y θ pc L st σ (.getstatic idx) len = some (.inl (pc', L', st', θ1, σ1))) (C : ss_C D cA B ex Lx xs p R s m args meth c y n0) (hn0 : n0 ≤ θ.1) (hcl : θ1.1 - n0 ≤ R.cells) (hsl : mm_sl0 θ1.1 - mm_sl0 n0 ≤ R.slots) (K : ss_J D cA B ex Lx xs p l e R s m args below meth c y n0 Q θ1 pc' L' st' σ1) : ss_J D cA B ex Lx xs p l e R s m args below meth c y n0 Q θ pc L st σ := by
  obtain ⟨hl, h2⟩ := mm_ck_inv h
  clear h
  obtain rfl := eq_of_beq hl
  have hown := C.1.2.2.2.1
  have hX := C.2.1.2
  by_cases h1 : mm_cn y = 4 ∧ idx = 34
  · rw [if_pos h1] at h2
    cases h2
    obtain ⟨q1, rfl⟩ := h1
    rw [q1] at hown
    intro H locs ls hW hx hS hl
    exact va_getsN C.1.1 C.1.2.1 (own := "QuietLines$Lines") (host := "QuietLines") hX.2.2.1.1 hS hown (va_Nw.use rfl (hX.1.2.2.1 _ _ _ _ _ _ ss_w2)) (fun _ q => q) hd (K H locs ls hW hx hS hl)
  · rw [if_neg h1] at h2
    by_cases h1 : mm_cn y = 8 ∧ idx = 230
    · rw [if_pos h1] at h2
      cases h2
      obtain ⟨q1, rfl⟩ := h1
      rw [q1] at hown
      intro H locs ls hW hx hS hl
      exact va_gets C.1.1 C.1.2.1 (own := "QuietLines") hX.2.2.2.1.1 hS hown (C.1.2.2.2.2 _ ss_w1.2.2.2.2.2.2.2.2.1) (fun _ q => q) hd (K H locs ls hW hx hS hl)
    · rw [if_neg h1] at h2
      by_cases h1 : mm_cn y = 11 ∧ idx = 38
      · rw [if_pos h1] at h2
        cases h2
        obtain ⟨q1, rfl⟩ := h1
        rw [q1] at hown
        intro H locs ls hW hx hS hl
        exact va_gets C.1.1 C.1.2.1 (own := "java/lang/String") hX.2.2.2.2.1 hS hown (C.1.2.2.2.2 _ ss_w1.2.2.2.2.2.2.2.2.2.1) (fun _ q => q) hd (K H locs ls hW hx hS hl)
      · rw [if_neg h1] at h2
        cases h2

end ST2

/-! ===== calls, and the whole run ===== -/
section ST6
variable {D : va_G} {cA : Nat → ClassId} {B : Nat} {ex : Nat → Nat} {Lx : Nat} {xs : Nat → Int32} {p : Program} {l : Launch} {e : Env} {R : Room} {s : State} {m : MethodId} {args : Array Value} {below : List Frame} {meth : Method} {c : Code} {y : mm_Y} {n0 : Nat} {Q : State → Prop} {θ θ1 θ2 : mm_T} {pc pc' len : Nat} {L L' : mm_L} {st st' : List Value} {σ σ1 σ2 : mm_M} {H : Heap} {locs : List Loc} {cells slots : Nat} {g : JFrame}
abbrev ss_M (l : Launch) (D : va_G) (cA : Nat → ClassId) (B : Nat) (ex : Nat → Nat) (Lx : Nat) (xs : Nat → Int32) (yc : mm_Y) (vs : List Value) (θ : mm_T) (σ : mm_M) (v : Option Value) (θ2 : mm_T) (σ2 : mm_M) : Prop :=
  Met l (mm_nm yc) (ss_ws0 yc) (ss_rm yc (θ2.1 - θ.1) (mm_sl0 θ2.1 - mm_sl0 θ.1)) (ss_Pc D cA B ex Lx xs vs θ σ) (ss_Qc D cA B ex v θ2 σ2) (θ2.1 - θ.1) (mm_sl0 θ2.1 - mm_sl0 θ.1) (ss_A B)
theorem ss_rooms (hn0 : n0 ≤ θ.1) (hle : θ.1 ≤ θ2.1) : θ.1 - n0 + (θ2.1 - θ.1) = θ2.1 - n0 ∧ mm_sl0 θ.1 - mm_sl0 n0 + (mm_sl0 θ2.1 - mm_sl0 θ.1) = mm_sl0 θ2.1 - mm_sl0 n0 := by
  have := mm_sl0_le hn0
  have := mm_sl0_le hle
  omega
theorem ss_kk {v : Option Value} {rest : List Value} (hn0 : n0 ≤ θ.1) (hle : θ.1 ≤ θ2.1) (hx2 : σ2.2.2 = (Lx, xs)) {ls : Array Slot} (hl : ss_l B ex (mm_ml y) L ls) (K : ss_J D cA B ex Lx xs p l e R s m args below meth c y n0 Q θ2 (pc + 3) L (v.toList ++ rest) σ2) :
    ∀ (H1 : Heap) (locs1 : List Loc), ss_W D cA B ex θ2 σ2 H1 → va_S (ss_A B) s.heap H1 locs1 → W p l e R s m args below meth c H1 locs1 (θ.1 - n0 + (θ2.1 - θ.1)) (mm_sl0 θ.1 - mm_sl0 n0 + (mm_sl0 θ2.1 - mm_sl0 θ.1)) Q (F0 m (pc + 3) ls ((v.map (ss_tr B ex)).toList ++ rest.map (ss_tr B ex))) := by
  intro H1 locs1 hW1 hS1
  have h := K H1 locs1 ls hW1 hx2 hS1 hl
  rw [(ss_rooms hn0 hle).1, (ss_rooms hn0 hle).2]
  rw [List.map_append] at h
  cases v <;> exact h
theorem ss_take {na : Nat} {rest : List Value} (hr : st.drop na = rest) : st.map (ss_tr B ex) = ((st.take na).reverse.map (ss_tr B ex)).reverse ++ rest.map (ss_tr B ex) := by
  rw [← List.map_reverse, List.reverse_reverse, ← hr, ← List.map_append, List.take_append_drop]
theorem ss_call {yc : mm_Y} {Lc : mm_L} {pc2 : Nat} {st2 : List Value} (hs : mm_s y θ pc L st σ = some (.inr (.inl (yc, Lc, pc2, st2)))) :
    ∃ vs, Lc = mm_en (mm_ml yc) vs ∧ (mm_ar vs).length ≤ mm_ml yc ∧ pc2 = pc + 3 ∧ (mm_nm yc).cls = mm_cl (mm_cn yc) ∧ plainName (mm_nm yc).cls = true ∧
      ∀ (D : va_G) (cA : Nat → ClassId) (B : Nat) (ex : Nat → Nat) (Lx : Nat) (xs : Nat → Int32) (p : Program) (l : Launch) (e : Env) (R : Room) (s : State) (m : MethodId) (args : Array Value) (below : List Frame) (meth : Method) (c : Code) (n0 : Nat) (Q : State → Prop), ss_C D cA B ex Lx xs p R s m args meth c y n0 → n0 ≤ θ.1 → ∀ (v : Option Value) (θ2 : mm_T) (σ2 : mm_M), θ.1 ≤ θ2.1 → θ2.1 - n0 ≤ R.cells → mm_sl0 θ2.1 - mm_sl0 n0 ≤ R.slots → σ2.2.2 = (Lx, xs) → ss_M l D cA B ex Lx xs yc vs θ σ v θ2 σ2 → ss_J D cA B ex Lx xs p l e R s m args below meth c y n0 Q θ2 pc2 L (v.toList ++ st2) σ2 → ss_J D cA B ex Lx xs p l e R s m args below meth c y n0 Q θ pc L st σ := by
  unfold mm_s at hs
  cases hd : decode (mm_cd y) pc with
  | error er => rw [hd] at hs; cases hs
  | ok q =>
    obtain ⟨ins, len⟩ := q
    rw [hd] at hs
    have hs : mm_sp y θ pc L st σ ins len = some (.inr (.inl (yc, Lc, pc2, st2))) := hs
    rcases mm_sp_cls (ins := ins) with ho | ⟨idx, rfl⟩ | ⟨idx, rfl⟩ | ⟨idx, rfl⟩ | rfl | rfl | rfl
    · obtain ⟨z, hz, -⟩ := mm_I_sp ho _ hs
      cases hz
    · -- invokestatic
      obtain ⟨hlen, h⟩ := mm_ck_inv hs
      clear hs
      obtain rfl := eq_of_beq hlen
      split at h
      · obtain ⟨z, hz, -⟩ := mm_I_ac _ h; cases hz
      · split at h
        · obtain ⟨z, hz, -⟩ := mm_I_mh _ h; cases hz
        · unfold mm_inv at h
          split at h
          · rename_i kind na yc' ps hlk
            rw [if_pos rfl] at h
            obtain ⟨h1, h⟩ := mm_ck_inv h
            obtain ⟨h2, h⟩ := mm_ck_inv h
            simp only [Bool.and_eq_true, decide_eq_true_eq, Bool.or_eq_true] at h1 h2
            cases h
            obtain ⟨t1, t2, t3, t4, t5, t6, t7, -⟩ := ss_tab hlk
            refine ⟨_, rfl, h2.2.2.2, rfl, t3, t4, ?_⟩
            intro D cA B ex Lx xs p l e R s m args below meth c n0 Q C hn0 v θ2 σ2 hle hcl hsl hx2 hM K H locs ls hW hx hS hl
            refine ss_Wsz (fun hsz => ?_)
            have hsz := ss_size hW hS C.2.2.2.2 hn0 hsz
            have hR : mm_rf yc + 1 ≤ R.frames ∧ 8 + (mm_ml yc + 11) + mm_rl yc ≤ R.locals := by have := C.2.2.2.1; omega
            have hcr : θ.1 - n0 + (θ2.1 - θ.1) ≤ R.cells ∧ mm_sl0 θ.1 - mm_sl0 n0 + (mm_sl0 θ2.1 - mm_sl0 θ.1) ≤ R.slots := by rw [(ss_rooms hn0 hle).1, (ss_rooms hn0 hle).2]; exact ⟨hcl, hsl⟩
            have hst : st.map (ss_tr B ex) = ((st.take na).reverse.map (ss_tr B ex)).reverse ++ (st.drop na).map (ss_tr B ex) := ss_take rfl
            have hnl : ((st.take na).reverse.map (ss_tr B ex)).length = na := by rw [List.length_map, List.length_reverse]; exact h1.2
            have hsw : ((List.map (ss_tr B ex) (st.drop na)).map fun v => v.category).sum ≤ 8 := ss_sw8 h2.1
            rw [hst]
            rcases h1.1 with hk | hk
            · obtain rfl := eq_of_beq hk
              have hg : GoodIn lw_g (va_wsS (mm_cl (mm_cn y)) idx (mm_nm yc) (ss_ws0 yc)) := by
                intro w hw
                rcases List.mem_append.mp hw with hw | hw
                · have h9 : goodWord w = true := by
                    simp only [List.mem_cons, List.not_mem_nil, or_false] at hw
                    rcases hw with rfl | rfl | rfl <;> rfl
                  exact ⟨lw_g_of (t1 w hw) h9, good_of_word h9⟩
                · exact ss_good yc t2 w hw
              exact ss_callg (va_runS (As := (st.take na).reverse.map (ss_tr B ex)) (rest := (st.drop na).map (ss_tr B ex)) ⟨C.1.1, C.1.2.1, C.1.2.2.1, C.1.2.2.2.1, C.1.2.2.2.2⟩ hM (va_cwS na C.1.2.2.2.2 hg rfl rfl rfl ⟨t5, t6, t7⟩ hR) ⟨ss_blind, ss_pre C hW hS hsz⟩ rfl hnl hl.1 rfl (Nat.le_trans (Nat.le_of_eq (Nat.zero_add _)) hsw) hd hcr) hS (ss_kk hn0 hle hx2 hl K)
            · obtain rfl := eq_of_beq hk
              have w1 := t1 _ List.mem_cons_self
              have w2 := lw_g_of (t1 _ (List.mem_cons_of_mem _ List.mem_cons_self)) rfl
              have w3 := lw_g_of (t1 _ (List.mem_cons_of_mem _ (List.mem_cons_of_mem _ List.mem_cons_self))) rfl
              exact ss_callg (va_runSN (host := "QuietLines") (As := (st.take na).reverse.map (ss_tr B ex)) (rest := (st.drop na).map (ss_tr B ex)) ⟨C.1.1, C.1.2.1, C.1.2.2.1, C.1.2.2.2.1, C.1.2.2.2.2⟩ hM ⟨va_cnB na C.1.2.2.2.2 (ss_good yc t2) rfl rfl rfl (C.2.1.2.1.2.1 _ _ _ _ w1) (C.1.2.2.2.2 _ w3) ⟨t5, t6, t7⟩ hR, C.1.2.2.2.2 _ w2, trivial⟩ ⟨ss_blind, ss_pre C hW hS hsz⟩ rfl hnl hl.1 rfl (Nat.le_trans (Nat.le_of_eq (Nat.zero_add _)) hsw) hd hcr) hS (ss_kk hn0 hle hx2 hl K)
          · cases h
    · -- invokevirtual
      obtain ⟨hlen, h⟩ := mm_ck_inv hs
      clear hs
      obtain rfl := eq_of_beq hlen
      unfold mm_inv at h
      split at h
      · rename_i kind na yc' ps hlk
        rw [if_neg (by decide)] at h
        split at h
        · rename_i b rest hdrop
          rw [if_pos rfl] at h
          obtain ⟨h1, h⟩ := mm_ck_inv h
          obtain ⟨h2, h⟩ := mm_ck_inv h
          simp only [Bool.and_eq_true, decide_eq_true_eq] at h1 h2
          cases h
          obtain ⟨⟨hk, hkd⟩, hna⟩ := h1
          obtain rfl := eq_of_beq hk
          have hkd := eq_of_beq hkd
          obtain ⟨t1, t2, t3, t4, t5, t6, t7, -⟩ := ss_tab hlk
          refine ⟨_, rfl, h2.2.2.2, rfl, t3, t4, ?_⟩
          intro D cA B ex Lx xs p l e R s m args below meth c n0 Q C hn0 v θ2 σ2 hle hcl hsl hx2 hM K H locs ls hW hx hS hl
          refine ss_Wsz (fun hsz => ?_)
          have hsz := ss_size hW hS C.2.2.2.2 hn0 hsz
          have hR : mm_rf yc + 1 ≤ R.frames ∧ 8 + (mm_ml yc + 11) + mm_rl yc ≤ R.locals := by have := C.2.2.2.1; omega
          have hcr : θ.1 - n0 + (θ2.1 - θ.1) ≤ R.cells ∧ mm_sl0 θ.1 - mm_sl0 n0 + (mm_sl0 θ2.1 - mm_sl0 θ.1) ≤ R.slots := by rw [(ss_rooms hn0 hle).1, (ss_rooms hn0 hle).2]; exact ⟨hcl, hsl⟩
          have hst : st.map (ss_tr B ex) = ((st.take na).reverse.map (ss_tr B ex)).reverse ++ .ref (ss_ad B ex b) :: st2.map (ss_tr B ex) := ss_take hdrop
          have hnl : ((st.take na).reverse.map (ss_tr B ex)).length = na := by rw [List.length_map, List.length_reverse]; exact hna
          have hsw : ((List.map (ss_tr B ex) st2).map fun v => v.category).sum ≤ 8 := ss_sw8 h2.1
          rw [hst]
          have hg : GoodIn lw_g (wsV (mm_cl (mm_cn y)) idx (mm_nm yc).cls (mm_nm yc) (ss_ws0 yc)) := by
            intro w hw
            rcases List.mem_append.mp hw with hw | hw
            · have h9 : goodWord w = true := by
                simp only [List.mem_cons, List.not_mem_nil, or_false] at hw
                rcases hw with rfl | rfl | rfl | rfl <;> rfl
              exact ⟨lw_g_of (t1 w hw) h9, good_of_word h9⟩
            · exact ss_good yc t2 w hw
          have hrecv : ∃ cellB : Cell, H[ss_ad B ex b]? = some cellB ∧ cellB.vm.isStatics = false ∧ s.vm.findClass (mm_nm yc).cls = some cellB.cls := by
            rw [t3]
            by_cases h11 : mm_cn yc = 11
            · rw [if_pos h11] at hkd
              obtain rfl := ss_kd32 hkd
              rw [h11]
              obtain ⟨cell, c1, c2, c3, -⟩ := (C.2.1.2.2.2.2.2.2.1).kept hS.2.1
              exact ⟨cell, c1, c2, c3⟩
            · rw [if_neg h11] at hkd
              have h10 : mm_cn yc < 10 := by
                have h9 : ∀ k, k < 135 → (mm_kt k).1 < 10 ∨ 20 ≤ (mm_kt k).1 := by decide +kernel
                have h8 : mm_cn yc < 16 := by
                  rcases Nat.lt_or_ge (mm_cn yc) 16 with q | q
                  · exact q
                  · have h7 : mm_cl (mm_cn yc) = "" := by
                      unfold mm_cl
                      rw [List.getD_eq_getElem?_getD, List.getElem?_eq_none (by exact q)]
                      rfl
                    have h6 := t1 (.initialized (mm_nm yc).cls) (List.mem_cons_of_mem _ (List.mem_cons_of_mem _ (List.mem_cons_of_mem _ List.mem_cons_self)))
                    rw [t3, h7] at h6
                    exact absurd h6 (by decide +kernel)
                obtain ⟨k1, k2, k3⟩ := ss_kd hkd (by omega)
                have := h9 b (ss_kt_lay (by omega))
                omega
              obtain ⟨q, hq⟩ : ∃ q, vwCl[mm_cn yc]? = some q := ⟨_, List.getElem?_eq_getElem (by exact h10)⟩
              obtain ⟨ty, hcb⟩ := ss_cls hq
              obtain ⟨k1, k2, k3, k4⟩ := ss_obj (cA := cA) (B := B) (ex := ex) (σ := σ) hq hkd
              rw [ss_ad_lt k2]
              have h6 := va_recv C.2.1.1 hW.2 hq (ss_get k1 k4)
              rw [hcb.2.2.2.2] at h6
              exact h6
          exact ss_callg (va_runV (As := (st.take na).reverse.map (ss_tr B ex)) (rest := st2.map (ss_tr B ex)) ⟨C.1.1, C.1.2.1, C.1.2.2.1, C.1.2.2.2.1, C.1.2.2.2.2⟩ hM (cwV na C.1.2.2.2.2 hg rfl rfl rfl ⟨rfl, t5, t6, t7⟩ hR) ⟨ss_blind, hrecv, ss_pre C hW hS hsz⟩ rfl hnl hl.1 rfl (Nat.le_trans (Nat.le_of_eq (Nat.zero_add _)) hsw) hd hcr) hS (ss_kk hn0 hle hx2 hl K)
        · cases h
      · cases h
    · -- invokespecial
      obtain ⟨hlen, h⟩ := mm_ck_inv hs
      clear hs
      obtain rfl := eq_of_beq hlen
      split at h
      · obtain ⟨z, hz, -⟩ := mm_I_oi _ h; cases hz
      · unfold mm_inv at h
        split at h
        · rename_i kind na yc' ps hlk
          rw [if_neg (by decide)] at h
          split at h
          · rename_i b rest hdrop
            rw [if_neg (by decide)] at h
            obtain ⟨h1, h⟩ := mm_ck_inv h
            obtain ⟨h2, h⟩ := mm_ck_inv h
            simp only [Bool.and_eq_true, decide_eq_true_eq, Bool.or_eq_true] at h1 h2
            cases h
            obtain ⟨hk, hna⟩ := h1
            obtain ⟨t1, t2, t3, t4, t5, t6, t7, t8⟩ := ss_tab hlk
            refine ⟨_, rfl, h2.2.2.2, rfl, t3, t4, ?_⟩
            intro D cA B ex Lx xs p l e R s m args below meth c n0 Q C hn0 v θ2 σ2 hle hcl hsl hx2 hM K H locs ls hW hx hS hl
            refine ss_Wsz (fun hsz => ?_)
            have hsz := ss_size hW hS C.2.2.2.2 hn0 hsz
            have hR : mm_rf yc + 1 ≤ R.frames ∧ 8 + (mm_ml yc + 11) + mm_rl yc ≤ R.locals := by have := C.2.2.2.1; omega
            have hcr : θ.1 - n0 + (θ2.1 - θ.1) ≤ R.cells ∧ mm_sl0 θ.1 - mm_sl0 n0 + (mm_sl0 θ2.1 - mm_sl0 θ.1) ≤ R.slots := by rw [(ss_rooms hn0 hle).1, (ss_rooms hn0 hle).2]; exact ⟨hcl, hsl⟩
            have hst : st.map (ss_tr B ex) = ((st.take na).reverse.map (ss_tr B ex)).reverse ++ .ref (ss_ad B ex b) :: st2.map (ss_tr B ex) := ss_take hdrop
            have hnl : ((st.take na).reverse.map (ss_tr B ex)).length = na := by rw [List.length_map, List.length_reverse]; exact hna
            have hsw : ((List.map (ss_tr B ex) st2).map fun v => v.category).sum ≤ 8 := ss_sw8 h2.1
            rw [hst]
            rcases hk with hk | hk
            · obtain rfl := eq_of_beq hk
              obtain ⟨u1, u2⟩ := t8 (Or.inl rfl)
              have w1 := lw_g_of (t1 _ List.mem_cons_self) rfl
              have w2 := lw_g_of (t1 _ (List.mem_cons_of_mem _ List.mem_cons_self)) rfl
              have w3 := lw_g_of (t1 _ (List.mem_cons_of_mem _ (List.mem_cons_of_mem _ List.mem_cons_self))) rfl
              exact ss_callg (va_runI (As := (st.take na).reverse.map (ss_tr B ex)) (rest := st2.map (ss_tr B ex)) ⟨C.1.1, C.1.2.1, C.1.2.2.1, C.1.2.2.2.1, C.1.2.2.2.2⟩ hM (cwI (ws' := lw_g) na C.1.2.2.2.2 (ss_good yc t2) (by unfold ss_ws0; rw [u2]) rfl rfl (C.1.2.2.2.2 _ w3) (C.1.2.2.2.2 _ w1) (C.1.2.2.2.2 _ w2) u1 ⟨t5, t6, t7⟩ hR) ⟨ss_blind, ss_pre (vs := .ref b :: (st.take na).reverse) C hW hS hsz⟩ rfl hnl hl.1 rfl (Nat.le_trans (Nat.le_of_eq (Nat.zero_add _)) hsw) hd hcr) hS (ss_kk hn0 hle hx2 hl K)
            · obtain rfl := eq_of_beq hk
              obtain ⟨u1, u2⟩ := t8 (Or.inr rfl)
              have w1 := t1 _ List.mem_cons_self
              have w2 := lw_g_of (t1 _ (List.mem_cons_of_mem _ List.mem_cons_self)) rfl
              have w3 := lw_g_of (t1 _ (List.mem_cons_of_mem _ (List.mem_cons_of_mem _ List.mem_cons_self))) rfl
              exact ss_callg (va_runIN (host := "QuietLines") (As := (st.take na).reverse.map (ss_tr B ex)) (rest := st2.map (ss_tr B ex)) ⟨C.1.1, C.1.2.1, C.1.2.2.1, C.1.2.2.2.1, C.1.2.2.2.2⟩ hM ⟨va_cnB (ws' := lw_g) na C.1.2.2.2.2 (ss_good yc t2) (by unfold ss_ws0; rw [u2]) rfl rfl (C.2.1.2.1.2.1 _ _ _ _ w1) (C.1.2.2.2.2 _ w3) ⟨t5, t6, t7⟩ hR, u1, C.1.2.2.2.2 _ w2⟩ ⟨ss_blind, ss_pre (vs := .ref b :: (st.take na).reverse) C hW hS hsz⟩ rfl hnl hl.1 rfl (Nat.le_trans (Nat.le_of_eq (Nat.zero_add _)) hsw) hd hcr) hS (ss_kk hn0 hle hx2 hl K)
          · cases h
        · cases h
    · have hs : (match st, mm_rt y with
        | [.int v], some ty => mm_ck (len == 1 && decide (narrow ty (.int v) = .int v)) (some (.inr (.inr (some (.int v)))))
        | _, _ => none) = some (.inr (.inl (yc, Lc, pc2, st2))) := hs
      split at hs
      · obtain ⟨-, h⟩ := mm_ck_inv hs; cases h
      · cases hs
    · have hs : (match st, mm_rt y with
        | [.long v], some .long => mm_ck (len == 1) (some (.inr (.inr (some (.long v)))))
        | _, _ => none) = some (.inr (.inl (yc, Lc, pc2, st2))) := hs
      split at hs
      · obtain ⟨-, h⟩ := mm_ck_inv hs; cases h
      · cases hs
    · have hs : (match st, mm_rt y with
        | [], none => mm_ck (len == 1) (some (.inr (.inr none)))
        | _, _ => none) = some (.inr (.inl (yc, Lc, pc2, st2))) := hs
      split at hs
      · obtain ⟨-, h⟩ := mm_ck_inv hs; cases h
      · cases hs
/-- the locals at a method's entry -/
theorem ss_entry (n : Nat) (vs : List Value) (h : (mm_ar vs).length ≤ n) : ss_l B ex n (mm_en n vs) ((lg_sl (vs.map (ss_tr B ex)) ++ List.replicate (n - (lg_sl (vs.map (ss_tr B ex))).length) Slot.unset).toArray) := by
  have e1 : ∀ vs : List Value, lg_sl (vs.map (ss_tr B ex)) = (mm_ar vs).map (fun o => match o with | some v => Slot.val (ss_tr B ex v) | none => Slot.second) := by
    intro vs
    induction vs with
    | nil => rfl
    | cons v vs ih =>
      unfold lg_sl mm_ar at ih ⊢
      rw [List.map_cons, List.flatMap_cons, List.flatMap_cons, List.map_append, ih, ss_cat]
      congr 1
      by_cases h2 : v.category = 2
      · rw [if_pos h2, if_pos h2]; rfl
      · rw [if_neg h2, if_neg h2]; rfl
  have e2 : (lg_sl (vs.map (ss_tr B ex))).length = (mm_ar vs).length := by rw [e1, List.length_map]
  have h3 := lv_entry (vs.map (ss_tr B ex)) (n := n) (by rw [e2]; exact h)
  refine ⟨h3.1, h3.2.1, fun i v hi => ?_⟩
  unfold mm_en at hi
  by_cases hlt : i < (mm_ar vs).length
  · rw [List.getElem?_append_left hlt] at hi
    rw [List.getElem?_toArray, List.getElem?_append_left (by rw [e2]; exact hlt), e1, List.getElem?_map, hi]
    rfl
  · rw [List.getElem?_append_right (by omega)] at hi
    rw [List.getElem?_replicate] at hi
    split at hi
    · cases hi
    · cases hi
/-- THE WHOLE RUN: what the pure machine does, the JVM does -/
theorem ss_main : ∀ (f : Nat) (y : mm_Y) (θ : mm_T) (pc : Nat) (L : mm_L) (st : List Value) (σ : mm_M) (r : Option Value) (θ' : mm_T) (σ' : mm_M), mm_f f y θ pc L st σ = some (r, θ', σ') →
    ∀ (D : va_G) (cA : Nat → ClassId) (B : Nat) (ex : Nat → Nat) (Lx : Nat) (xs : Nat → Int32) (p : Program) (l : Launch) (e : Env) (R : Room) (s : State) (m : MethodId) (args : Array Value) (below : List Frame) (meth : Method) (c : Code) (n0 : Nat) (Q : State → Prop), ss_C D cA B ex Lx xs p R s m args meth c y n0 → n0 ≤ θ.1 → θ'.1 - n0 ≤ R.cells → mm_sl0 θ'.1 - mm_sl0 n0 ≤ R.slots → σ.2.2 = (Lx, xs) →
      (∀ (pc' : Nat) (L' : mm_L) (st' : List Value), mm_ret y pc' st' r → ss_J D cA B ex Lx xs p l e R s m args below meth c y n0 Q θ' pc' L' st' σ') → ss_J D cA B ex Lx xs p l e R s m args below meth c y n0 Q θ pc L st σ
  | 0, _, _, _, _, _, _, _, _, _, h => by cases h
  | f + 1, y, θ, pc, L, st, σ, r, θ', σ', h => by
    have ih := ss_main f
    have h : mm_bd (mm_f f) (mm_s y θ pc L st σ) y θ L σ = some (r, θ', σ') := h
    intro D cA B ex Lx xs p l e R s m args below meth c n0 Q C hn0 hcl hsl hx hQ
    match hs : mm_s y θ pc L st σ with
    | none => rw [hs] at h; cases h
    | some (.inl (pc1, L1, st1, θ1, σ1)) =>
      rw [hs] at h
      have h : mm_f f y θ1 pc1 L1 st1 σ1 = some (r, θ', σ') := h
      have m1 := mm_s_mono hs
      have m2 := mm_f_mono _ _ _ _ _ _ _ _ h
      have m1a : θ.1 ≤ θ1.1 := m1.1
      have m2a : θ1.1 ≤ θ'.1 := m2.1
      have m3 := mm_sl0_le m2a
      exact ss_step hs C hn0 (by omega) (by omega) (ih _ _ _ _ _ _ _ _ _ h D cA B ex Lx xs p l e R s m args below meth c n0 Q C (by omega) hcl hsl (m1.2.trans hx) hQ)
    | some (.inr (.inl (yc, Lc, pc1, st1))) =>
      rw [hs] at h
      have h : mm_kF (mm_f f) (mm_f f yc θ 0 Lc [] σ) y pc1 L st1 = some (r, θ', σ') := h
      cases hq : mm_f f yc θ 0 Lc [] σ with
      | none => rw [hq] at h; cases h
      | some q =>
        obtain ⟨v, θ2, σ2⟩ := q
        rw [hq] at h
        have h8 : mm_f f y θ2 pc1 L (v.toList ++ st1) σ2 = some (r, θ', σ') := h
        clear h
        have m1 := mm_f_mono _ _ _ _ _ _ _ _ hq
        have m2 := mm_f_mono _ _ _ _ _ _ _ _ h8
        have m1a : θ.1 ≤ θ2.1 := m1.1
        have m2a : θ2.1 ≤ θ'.1 := m2.1
        have m3 := mm_sl0_le m2a
        obtain ⟨vs, rfl, hvl, rfl, hcls, hpn, hcall⟩ := ss_call hs
        have hx2 : σ2.2.2 = (Lx, xs) := m1.2.trans hx
        have hM : ss_M l D cA B ex Lx xs yc vs θ σ v θ2 σ2 := by
          refine Met.ofW (cc := mm_cd yc) (maxL := mm_ml yc) (ret := mm_rt yc) hpn rfl ?_
          intro p e s m args below meth c s₁ Bd hml hv
          obtain ⟨rfl, hW, hK, hX, hsz⟩ := hv
          have hts := atoms_spec (ws := ss_ws0 yc) Bd.pre
          have hown : s.vm.findClass (mm_nm yc).cls = some m.cls := findClass_of_methodNamed Bd.named
          rw [hcls] at hown
          have C2 : ss_C D cA B ex Lx xs p (ss_rm yc (θ2.1 - θ.1) (mm_sl0 θ2.1 - mm_sl0 θ.1)) s m (vs.map (ss_tr B ex)).toArray meth c yc θ.1 :=
            ⟨⟨Bd.exec, Bd.bytes, hml, hown, fun w hw => hts w (List.mem_cons_of_mem _ hw)⟩, ⟨hK, hX⟩, fun h9 => (name_of_methodNamed Bd.named Bd.method).1.trans h9, ⟨Nat.le_refl _, Nat.le_refl _⟩, hsz⟩
          have hlocks := Bd.notSynchronized
          have hr := Bd.returns
          rw [lg_entry_eq]
          have key := ih _ _ _ _ _ _ _ _ _ hq D cA B ex Lx xs p l e (ss_rm yc (θ2.1 - θ.1) (mm_sl0 θ2.1 - mm_sl0 θ.1)) s m (vs.map (ss_tr B ex)).toArray below meth c θ.1 (MQ below (ss_Qc D cA B ex v θ2 σ2) (vs.map (ss_tr B ex)).toArray s (θ2.1 - θ.1) (mm_sl0 θ2.1 - mm_sl0 θ.1) (ss_A B)) C2 (Nat.le_refl _) (Nat.le_refl _) (Nat.le_refl _) hx (by
            intro pc' L' st' hret H1 locs1 ls1 hW1 _ hS1 _
            rcases hret with ⟨w, ty, d1, rfl, rfl, d4, d5⟩ | ⟨w, d1, rfl, rfl, d4⟩ | ⟨d1, rfl, rfl, d4⟩
            · exact W.zret (ty := ty) Bd.exec Bd.bytes (hr.trans d4) d5 (fun t ht hWm => ⟨rfl, by rw [ht]; exact hW1, hS1.F ht⟩) hS1.2.2 d1 hlocks
            · exact W.lret Bd.exec Bd.bytes (hr.trans d4) (fun t ht hWm => ⟨rfl, by rw [ht]; exact hW1, hS1.F ht⟩) hS1.2.2 d1 hlocks
            · exact W.vret Bd.exec Bd.bytes (hr.trans d4) (fun t ht hWm => ⟨rfl, by rw [ht]; exact hW1, hS1.F ht⟩) hS1.2.2 d1 hlocks) s.heap [] _ hW hx va_S.rf (ss_entry _ _ hvl)
          rw [Nat.sub_self, Nat.sub_self] at key
          exact key
        exact hcall D cA B ex Lx xs p l e R s m args below meth c n0 Q C hn0 v θ2 σ2 m1a (by omega) (by omega) hx2 hM (ih _ _ _ _ _ _ _ _ _ h8 D cA B ex Lx xs p l e R s m args below meth c n0 Q C (by omega) hcl hsl hx2 hQ)
    | some (.inr (.inr r9)) =>
      rw [hs] at h
      cases h
      exact hQ _ _ _ (mm_ret_of hs)
end ST6

/-! THE CLAIM OUT OF ONE WALK OF THE LAW'S BODY. Your part is whole_start (and what it stands on); all else here is the same for every law, but numbers. -/
def R_law : String := "QuietLinesLaw"
def lw_P (b : Addr) (xs : List Int32) (args : Array Value) (s : State) : Prop := args = #[.ref b] ∧ s.IntsAt b xs ∧ xs.length ≤ 3584 ∧ (Jvm.Cond.and given_1 narrow_1).before args s = true
def lw_Q (_ : Array Value) (s : State) (o : Outcome) (t : State) : Prop := o = .returned (some (.int 1)) ∧ Framed s o t [] 600000 7302250
def lw_Z (below : List Frame) (a : Array Value) (s : State) : State → Prop := fun t => ∃ o, t.status = .running ∧ Ended t below o ∧ lw_Q a s o t
/-- the law's own end, with 1 on the stack, nothing written that was there before, its room as the claim has it -/
theorem lw_ret {p : Program} {l : Launch} {e : Env} {s : State} {m : MethodId} {below : List Frame} {meth : Method} {c : Code} {b : Nat} (hx : p.tables.exec = Jvm.exec) (hb : c.code = code) (hr : meth.sig.returnType = ret) (hlocks : meth.locks = false) {pc : Nat} {H : Heap} {ls : Array Slot} (hdg : decode code pc = .ok (.ireturn, 1)) : W p l e room_1 s m #[Value.ref b] below meth c H [] 600000 7302250 (lw_Z below #[Value.ref b] s) (F0 m pc ls [.int 1]) := by
  intro T hT X
  obtain ⟨fs, hret, hrun, hended, hW, hframe⟩ := X.leave (v := some (.int 1)) (hlocks := hlocks) (fun h => by rw [hr] at h; cases h)
  have hmeth' : T.vm.method? m = some meth := X.method'
  refine ⟨T.setFrames fs, ?_, .returned (some (.int 1)), hrun, hended, rfl, ⟨_, rfl⟩, hW, hframe⟩
  jvm_step X.here [X.here.top, hx, hb, hdg, hmeth', hr, ret, narrow_b1]
  (try refine ⟨rfl, ?_⟩); (try refine ⟨rfl, ?_⟩)
  first | (intro acts; rw [hret _ acts rfl rfl rfl]) | rw [hret _ _ rfl rfl rfl]
  exact Steps.refl _
/-- what holds at the law's entry: the machine, the code, the tables' words (any of lw_tbl by 'hts w (by decide +kernel)'), the script of L ints xs at the cell b, what the Statement gives of the start (any of its parts by flat_of_before) -/
def lw_At (p : Program) (s : State) (m : MethodId) (meth : Method) (c : Code) (b L : Nat) (xs : Nat → Int32) : Prop :=
  p.tables.exec = Jvm.exec ∧ c.code = code ∧ meth.sig.returnType = ret ∧ c.maxLocals = 4 ∧ s.vm.findClass R_law = some m.cls ∧ (∀ w ∈ lw_tbl, w.before #[Value.ref b] s = true) ∧ va_X b L xs s s.heap ∧ b < s.heap.size ∧ meth.locks = false ∧ (Jvm.Cond.and given_1 narrow_1).before #[Value.ref b] s = true

def ll_th : mm_T := (0, fun _ _ => none)
def ll_si (L : Nat) (xs : Nat → Int32) : mm_M := (fun _ _ => 0, fun _ _ => 0, L, xs)
theorem ss_inst : vwCl.all (fun q => decide (Cond.instantiable q.1 q.2.2 ∈ lw_tbl)) = true := by decide +kernel
/-- the classes as the tables have them -/
theorem ss_K0 {s : State} {args : Array Value} (hts : ∀ w ∈ lw_tbl, w.before args s = true) : ∃ (D : va_G) (cA : Nat → ClassId), va_K D vwCl (ss_ty cA) s := by
  have h1 : ∀ k : Nat, ∃ q : ClassId × (Nat → Nat), ∀ r, vwCl[k]? = some r → u_Kn s r.1 r.2.1 r.2.2 q.1 q.2 := by
    intro k
    cases hk : vwCl[k]? with
    | none => exact ⟨(0, fun _ => 0), fun r h => by cases h⟩
    | some r =>
      obtain ⟨ty, hcb⟩ := ss_cls hk
      have hi := of_decide_eq_true (List.all_eq_true.mp ss_inst r (List.mem_of_getElem? hk))
      obtain ⟨cC, iS, hKn⟩ := u_known (n := r.2.2) (fun w hw => hts w (List.mem_filter.mp hw).1) hcb.1 (hts _ hi)
      exact ⟨(cC, iS), fun r2 h => by cases h; exact hKn⟩
  obtain ⟨f, hf⟩ := Classical.axiomOfChoice h1
  have hp : ∀ ty : FieldType, Cond.arrayClass ty ∈ lw_g → (∀ C, ty ≠ .object C) → ∃ cA : ClassId, ArrOfT s cA ty ∧ va_RA s cA ty := by
    intro ty hw hne
    obtain ⟨c, k, comp, h2, h3, h4⟩ := Cond.arrayClass_spec (hts _ (List.mem_filter.mp hw).1)
    refine ⟨c, fun N z => ⟨(fun q hq => by cases hq), k, h3, comp, h4⟩, ?_⟩
    cases ty <;> first | exact h2 | exact absurd rfl (hne _)
  obtain ⟨c0, p0⟩ := hp .int ss_w1.2.2.2.2.2.1 (fun _ h => by cases h)
  obtain ⟨c1, p1⟩ := hp .boolean ss_w1.2.2.2.2.2.2.1 (fun _ h => by cases h)
  obtain ⟨c2, p2⟩ := hp .long ss_w1.2.2.2.2.2.2.2.1 (fun _ h => by cases h)
  obtain ⟨comp3, c3, k3, -, -, q3, r3, u3⟩ := arrayOverA_spec (t := .int) (hts (.arrayOver (.array .int)) (by decide +kernel))
  obtain ⟨comp4, c4, k4, o4, -, q4, r4, u4⟩ := Cond.arrayOver_spec (n := "QuietLines$Lines") (hts (.arrayOver (.object "QuietLines$Lines")) (by decide +kernel))
  refine ⟨(fun k => (f k).1, fun k => (f k).2), fun k => match k with | 0 => c0 | 1 => c1 | 2 => c2 | 3 => c3 | _ => c4, fun k q hq => hf k q hq, fun k q hq => ?_⟩
  match k, hq with
  | 0, hq => cases hq; exact p0
  | 1, hq => cases hq; exact p1
  | 2, hq => cases hq; exact p2
  | 3, hq => cases hq; exact ⟨fun N z => ⟨(fun q hq => by cases hq), k3, q3, comp3, r3⟩, u3⟩
  | 4, hq => cases hq; exact ⟨fun N z => ⟨(fun q hq => by cases hq), k4, q4, comp4, r4⟩, k4, comp4, q4, r4, o4, u4⟩
  | k + 5, hq => simp [ss_ty] at hq
theorem ss_X0 {s : State} {b L : Nat} {xs : Nat → Int32} (hts : ∀ w ∈ lw_tbl, w.before #[Value.ref b] s = true) (hX : va_X b L xs s s.heap) (hbl : b < s.heap.size) (hgv : (Jvm.Cond.and given_1 narrow_1).before #[Value.ref b] s = true) : ∃ ex : Nat → Nat, ex 0 = b ∧ ss_X s.heap.size ex L xs s := by
  have hA : ∀ a : Nat, a < s.heap.size → ¬ ss_A s.heap.size a := fun a h q => by have q : s.heap.size ≤ a := q; omega
  have hs := flat_of_before _ hgv
  have hT1 : ∃ t : Nat, (Term.static "QuietLines" "PARTS_OF_KIND" "[I").eval #[Value.ref b] s none [] s = some (.ref t) ∧ va_T .int t 7 (fun j => .int (mm_x1 j)) (ss_A s.heap.size) s s.heap := by
    refine va_Tof (by decide) (hs _ (by decide +kernel)) (va_eqt (z := 7) (hs _ (by decide +kernel))) (fun j hj => ?_) hA
    match j, hj with
    | 0, _ => exact va_eqt (hs _ (by decide +kernel))
    | 1, _ => exact va_eqt (hs _ (by decide +kernel))
    | 2, _ => exact va_eqt (hs _ (by decide +kernel))
    | 3, _ => exact va_eqt (hs _ (by decide +kernel))
    | 4, _ => exact va_eqt (hs _ (by decide +kernel))
    | 5, _ => exact va_eqt (hs _ (by decide +kernel))
    | 6, _ => exact va_eqt (hs _ (by decide +kernel))
    | n + 7, h => exact absurd h (by omega)
  have hT2 : ∃ t : Nat, (Term.static "QuietLines" "FACTORIALS" "[I").eval #[Value.ref b] s none [] s = some (.ref t) ∧ va_T .int t 6 (fun j => .int (mm_x2 j)) (ss_A s.heap.size) s s.heap := by
    refine va_Tof (by decide) (hs _ (by decide +kernel)) (va_eqt (z := 6) (hs _ (by decide +kernel))) (fun j hj => ?_) hA
    match j, hj with
    | 0, _ => exact va_eqt (hs _ (by decide +kernel))
    | 1, _ => exact va_eqt (hs _ (by decide +kernel))
    | 2, _ => exact va_eqt (hs _ (by decide +kernel))
    | 3, _ => exact va_eqt (hs _ (by decide +kernel))
    | 4, _ => exact va_eqt (hs _ (by decide +kernel))
    | 5, _ => exact va_eqt (hs _ (by decide +kernel))
    | n + 6, h => exact absurd h (by omega)
  have hT4 : ∃ t : Nat, (Term.field (Term.string "QuietLines$Text" 50) "java/lang/String" "value" "[B").eval #[Value.ref b] s none [] s = some (.ref t) ∧ va_T .byte t 7 (fun j => .int (mm_x4 j)) (ss_A s.heap.size) s s.heap := by
    refine va_Tof (by decide) (hs _ (by decide +kernel)) (va_eqt (z := 7) (hs _ (by decide +kernel))) (fun j hj => ?_) hA
    match j, hj with
    | 0, _ => exact va_eqt (hs _ (by decide +kernel))
    | 1, _ => exact va_eqt (hs _ (by decide +kernel))
    | 2, _ => exact va_eqt (hs _ (by decide +kernel))
    | 3, _ => exact va_eqt (hs _ (by decide +kernel))
    | 4, _ => exact va_eqt (hs _ (by decide +kernel))
    | 5, _ => exact va_eqt (hs _ (by decide +kernel))
    | 6, _ => exact va_eqt (hs _ (by decide +kernel))
    | n + 7, h => exact absurd h (by omega)
  obtain ⟨t1, e1, v1⟩ := hT1
  obtain ⟨t2, e2, v2⟩ := hT2
  obtain ⟨t4, e4, v4⟩ := hT4
  have hex : (Cond.exactly (Term.string "QuietLines$Text" 50) "java/lang/String").before #[Value.ref b] s = true := hs _ (by decide +kernel)
  obtain ⟨t3, c3, cell3, k3, e3, -, g3, -⟩ := Cond.exactly_spec (args := #[Value.ref b]) (first := s) (o := none) (s := s) (idx := []) hex
  have l1 : t1 < s.heap.size := by obtain ⟨cell, h, -⟩ := v1; exact (Array.getElem?_eq_some_iff.mp h).1
  have l2 : t2 < s.heap.size := by obtain ⟨cell, h, -⟩ := v2; exact (Array.getElem?_eq_some_iff.mp h).1
  have l4 : t4 < s.heap.size := by obtain ⟨cell, h, -⟩ := v4; exact (Array.getElem?_eq_some_iff.mp h).1
  have l3 : t3 < s.heap.size := (Array.getElem?_eq_some_iff.mp g3).1
  refine ⟨fun i => match i with | 0 => b | 1 => t1 | 2 => t2 | 3 => t3 | _ => t4, rfl, ⟨fun i => ?_, fun a i x h hm => va_Nw.of rfl (hts _ hm), fun a i b n d h hm => va_Nw.of rfl (hts _ hm), ?_⟩, ?_⟩
  · match i with
    | 0 => exact hbl
    | 1 => exact l1
    | 2 => exact l2
    | 3 => exact l3
    | n + 4 => exact l4
  · exact vk_R.of (hts (.stringRef "QuietLines$Text" 50 "KSVBTOD") (by decide +kernel)) e3
  · exact ⟨hX, ⟨va_Zof (hts _ (by decide +kernel)) (hts _ (by decide +kernel)) e1 hA, v1⟩, ⟨va_Zof (hts _ (by decide +kernel)) (hts _ (by decide +kernel)) e2 hA, v2⟩, va_Zof (hts _ (by decide +kernel)) (hts _ (by decide +kernel)) (va_eqi (hs _ (by decide +kernel))) hA, va_Oof hex e3 hA, vk_OFof e3 e4 hA, vk_OFof e3 (va_eqt (hs _ (by decide +kernel))) hA, v4, hts (.arrayOver (.array .int)) (by decide +kernel), va_AO.of (hts (.arrayOver (.object "QuietLines$Lines")) (by decide +kernel))⟩
theorem ss_sl135 : mm_sl0 135 ≤ 7302250 := by decide +kernel
theorem whole_start {p : Program} {e : Env} {s : State} {m : MethodId} {below : List Frame} {meth : Method} {c : Code} (l : Launch) {b L : Nat} {xs : Nat → Int32} (hL : L ≤ 3584) (C0 : lw_At p s m meth c b L xs) : W p l e room_1 s m #[Value.ref b] below meth c s.heap [] 0 0 (lw_Z below #[Value.ref b] s) (entryFrame m ([Value.ref b] : List Value).toArray 4) := by
  obtain ⟨hx, hb, hr, hml, hown, hts, hX, hbl, hlocks, hgv⟩ := id C0
  obtain ⟨D, cA, hK⟩ := ss_K0 hts
  obtain ⟨ex, hex0, hSX⟩ := ss_X0 hts hX hbl hgv
  obtain ⟨θ', σ', hrun, hθ⟩ := law_ok L xs hL
  obtain ⟨f, hf⟩ := mm_run_to hrun
  have C : ss_C D cA s.heap.size ex L xs p room_1 s m #[Value.ref b] meth c mL_law 0 :=
    ⟨⟨hx, hb, hml, hown, fun w hw => hts w (List.mem_filter.mp hw).1⟩, ⟨hK, hSX⟩, fun h => absurd h (by decide), ⟨by decide, by decide⟩, rfl⟩
  rw [lg_entry_eq]
  have hm := mm_sl0_le hθ
  have hm2 := ss_sl135
  have hrc : room_1.cells = 600000 := rfl
  have hrs : room_1.slots = 7302250 := rfl
  have key := ss_main f mL_law ll_th 0 [some (.ref 1000), none, none, none] [] (ll_si L xs) _ θ' σ' hf D cA s.heap.size ex L xs p l e room_1 s m #[Value.ref b] below meth c 0 (lw_Z below #[Value.ref b] s) C (Nat.le_refl _) (by omega) (by omega) rfl (by
    intro pc' L' st' hret H1 locs1 ls1 hW1 _ hS1 _
    rcases hret with ⟨w, ty, d1, rfl, d3, d4, d5⟩ | ⟨w, d1, rfl, d3, d4⟩ | ⟨d1, rfl, d3, d4⟩
    · cases d3
      refine va_forget (fun q hq => hS1.2.2 q hq) ?_
      refine W.widen (k := 600000) (n := 7302250) (by omega) (by omega) ?_
      exact lw_ret hx hb hr hlocks d1
    · cases d3
    · cases d3) s.heap [] _ (by
      refine ⟨by decide, fun k q hk => ?_⟩
      have := (ss_ws_fst hk).1
      exact absurd this (Nat.not_lt_zero k)) rfl va_S.rf (ss_entry 4 [.ref 1000] (by decide))
  have he : ([Value.ref 1000] : List Value).map (ss_tr s.heap.size ex) = [Value.ref b] := by
    show [Value.ref (ss_ad s.heap.size ex 1000)] = _
    rw [ss_ad_0, hex0]
  rw [he] at key
  exact key
-- ===== YOUR PART ENDS =====
set_option maxHeartbeats 4000000 in
theorem lw_walk (l : Launch) (b : Addr) (xs : List Int32) : MetFree l x (headSpec (Jvm.Cond.code x code maxLocals ret :: tables_1) room_1) (lw_P b xs) (fun _ _ _ _ _ => True) lw_Q := by
  refine MetFree.of_bodyS (code := code) (maxLocals := maxLocals) (ret := ret) (by decide) ?_ ?_
  · intro args s m h hn
    obtain ⟨meth, c, h1, h2, h3, h4, h5, h6, -, -⟩ := Cond.code_spec hn (atoms_spec (ws := Jvm.Cond.code x code maxLocals ret :: tables_1) h _ List.mem_cons_self)
    exact ⟨meth, c, h1, h2, h3, h4, h5, h6⟩
  · intro p e s m args below meth c s₁ B hml0 hP _
    obtain ⟨rfl, hx, hbd, hgv⟩ := hP
    obtain ⟨scr, harrAt, hlist, hof, hsmall⟩ := hx
    obtain ⟨hcb, hkn, -, -⟩ := State.arrayAt?_spec harrAt
    have hown : s.vm.findClass R_law = some m.cls := findClass_of_methodNamed B.named
    have hts0 : ∀ c ∈ (Jvm.Cond.code x code maxLocals ret :: tables_1), c.before #[Value.ref b] s = true := atoms_spec (ws := Jvm.Cond.code x code maxLocals ret :: tables_1) B.pre
    have hts : ∀ w ∈ lw_tbl, w.before #[Value.ref b] s = true := k2_hts_sels lw_privs (fun w hw => hts0 w (List.mem_cons_of_mem _ hw)) lw_privs_ok
    have hml : c.maxLocals = 4 := B.maxLocals_eq (hts0 _ List.mem_cons_self)
    have X₀ : Stand p l e room_1 s m #[Value.ref b] below meth c s₁ [] 0 0 := Stand.of_body B
    have hh0 : s₁.heap = s.heap := by rw [B.state]; rfl
    have hsz : scr.slots.size = xs.length := by rw [← Array.length_toList, hlist, List.length_map]
    have hval : ∀ j : Nat, j < xs.length → scr.slots[j]? = some (.int (xs.getD j 0)) := fun j hj => by
      rw [← Array.getElem?_toList, hlist]
      simp [hj]
    have hbl : b < s.heap.size := (Array.getElem?_eq_some_iff.mp hcb).1
    have hX : va_X b xs.length (fun j => xs.getD j 0) s s.heap := ⟨scr, hcb, hof, hkn, hsz, hval⟩
    have K : W p l e room_1 s m #[Value.ref b] below meth c s₁.heap [] 0 0 (lw_Z below #[Value.ref b] s) (entryFrame m ([Value.ref b] : List Value).toArray 4) := by
      rw [hh0]
      exact whole_start l hbd ⟨B.exec, B.bytes, B.returns, hml, hown, hts, hX, hbl, B.notSynchronized, hgv⟩
    obtain ⟨t, a1, o, b1, b2, b3⟩ := K s₁ rfl X₀
    exact ⟨t, o, a1, b1, b2, b3⟩
theorem lw_pre_spec {args : Array Value} {s : State} (h : (Jvm.Cond.and given_1 narrow_1).before args s = true) (hr : rest_1_c.before args s = true) : ∃ (b : Addr) (xs : List Int32), lw_P b xs args s := by
  have hs := flat_of_before _ h
  have hq := flat_of_before _ hr
  have hc : (Cond.count 1).before args s = true := hs _ (by decide +kernel)
  have harr : (Cond.arrayOf (.arg 0) .int).before args s = true := hs _ (by decide +kernel)
  have hle : (Cond.le (.length (.arg 0)) (.int 3584)).before args s = true := hs _ (by decide +kernel)
  have hlen : (Cond.isInt (.length (.arg 0))).before args s = true := hq _ (by decide +kernel)
  have hall : (Cond.all (.arg 0) (.isInt (.elem (.arg 0) (.index 0)))).before args s = true := hq _ (by decide +kernel)
  obtain ⟨b, xs, hb, hx⟩ := State.ints_of_pre rfl harr hlen hall
  have hsm : xs.length < 2 ^ 31 := hx.choose_spec.2.2.2
  have hev : (Term.length (.arg 0)).eval args s none [] s = some (.int xs.length.toInt32) := hx.length_eval hb
  have hv := Cond.le_ints hev (show (Term.int 3584).eval args s none [] s = some (.int 3584) from rfl)
  have hd : xs.length.toInt32 ≤ 3584 := by
    simpa [Cond.before, Cond.holds, hv] using hle
  have hN : xs.length ≤ 3584 := (Int32.ofNat_le_ofNat hsm (by decide)).mp (show Int32.ofNat xs.length ≤ Int32.ofNat 3584 from hd)
  exact ⟨b, xs, Cond.one_arg hc (show args[0]? = some (.ref b) from hb), hx, hN, h⟩
theorem lw_comes (l : Launch) : Comes l x (Jvm.Cond.code x code maxLocals ret :: tables_1) room_1 (fun tb e args s => Calls_1 tb e args s ∧ rest_1 tb e args s ∧ Pre_1 tb e args s)
    (fun _ _ args s o t => lw_Q args s o t) := by
  intro p e ha hc hk s m args below hf hfit hheap happ hpre
  obtain ⟨b, xs, hP⟩ := lw_pre_spec hpre.2.2 hpre.2.1
  obtain ⟨k, o, h1, h2, h3, hQ⟩ := lw_walk l b xs p e ha hc hk s m args below hf ((Spec.applies_iff_loose hf).mp happ).1 hP trivial
  exact ⟨k, o, h1, h2, h3, hQ⟩
theorem lw_frame {s t : State} {o : Outcome} {args : Array Value} (h : Framed s o t [] 600000 7302250) :
    Framed s o t (fieldLocs frame_1_writes args s ++ arrayLocs frame_1_arrays args s ++ staticLocs frame_1_statics s) 600000 7302250 := h
theorem lw_limb (L : Cond) (hL : ∀ (args : Array Value) (s t : State), L.after args s (.returned (some (.int 1))) t = true) :
    ArmFor flags0 classFile x code maxLocals ret World_1 tables_1 room_1 Calls_1 rest_1 Pre_1
      (fun tb e a s o t => postC L tb e a s o t ∧ Framed s o t (fieldLocs frame_1_writes a s ++ arrayLocs frame_1_arrays a s ++ staticLocs frame_1_statics s) 600000 7302250) := by
  intro l _ _ _ p e ha hc hk s m args below hf hfit hheap happ hpre
  obtain ⟨k, o, h1, h2, h3, rfl, hF⟩ := lw_comes l p e ha hc hk s m args below hf hfit hheap happ hpre
  exact ⟨k, _, h1, h2, h3, hL args s _, lw_frame hF⟩
theorem i_vc : Claimed_1_1 ∧ Claimed_1_2 := ⟨lw_limb limb_1_1 (fun args s t => by simp [limb_1_1, Cond.after, Cond.holds, Cond.value]), lw_limb limb_1_2 (fun args s t => Cond.after_iff.mpr (by
  first | (rw [show limb_1_2 = Cond.eq .result (.int 1) from rfl, Cond.eq_ints (x := 1) (y := 1) rfl rfl]; simp; done) | (simp [limb_1_2, Cond.value, Term.eval]; done)))⟩

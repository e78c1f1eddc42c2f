/-! ===== calls by contract; whole runs ===== -/
def ss_ws0 (y : mm_Y) : List Cond := Cond.code (mm_nm y) (mm_cd y) (mm_ml y) (mm_rt y) :: lw_g
def ss_rm (y : mm_Y) (mc ms : Nat) : Room := { frames := mm_rf y, cells := mc, slots := ms, locals := mm_rl y }
def ss_Pc (D : va_G) (cA : Nat → ClassId) (B : Nat) (ex : Nat → Nat) (Lx : Nat) (xs : Nat → Int32) (vs : List Value) (θ : mm_T) (σ : mm_M) : Array Value → State → Prop := va_Pc (vs.map (ss_tr B ex)) (fun U => ss_W D cA B ex θ σ U.heap ∧ va_K D vwCl (ss_ty cA) U ∧ ss_X B ex Lx xs U ∧ U.heap.size = B + θ.1)
def ss_Qc (D : va_G) (cA : Nat → ClassId) (B : Nat) (ex : Nat → Nat) (v : Option Value) (θ : mm_T) (σ : mm_M) : Array Value → State → Outcome → State → Prop := fun _ st oc t => oc = .returned (v.map (ss_tr B ex)) ∧ ss_W D cA B ex θ σ t.heap ∧ va_F (ss_A B) st t
section ST5
variable {D : va_G} {cA : Nat → ClassId} {B : Nat} {ex : Nat → Nat} {Lx : Nat} {xs : Nat → Int32} {p : Program} {l : Launch} {e : Env} {R : Room} {s : State} {m : MethodId} {args : Array Value} {below : List Frame} {meth : Method} {c : Code} {y : mm_Y} {n0 : Nat} {Q : State → Prop} {θ θ1 θ2 : mm_T} {pc pc' len : Nat} {L L' : mm_L} {st st' : List Value} {σ σ1 σ2 : mm_M} {H : Heap} {locs : List Loc} {cells slots : Nat} {g : JFrame}
/-- an array class over arrays, at a state whose tables are alike -/
theorem ss_AOm {t : FieldType} {u U : State} (hvm : u.vm.Alike U.vm) (h : (Cond.arrayOver (.array t)).before #[] u = true) : (Cond.arrayOver (.array t)).before #[] U = true := by
  obtain ⟨comp, c, k, h1, h2, h3, h4, h5⟩ := arrayOverA_spec h
  obtain ⟨k', hk', he⟩ := hvm.2.2 _ _ h3
  have hi : (U.vm.classes.findIdx? fun (x : Class) => match x.kind with | .array component _ => component == comp | _ => false) = some c := by
    have e1 := va_idx_bare U.vm comp
    have e2 := va_idx_bare u.vm comp
    have e3 : U.vm.bare = u.vm.bare := by first | exact hvm.bare_eq | exact hvm.bare_eq.symm
    rw [e3] at e1
    exact (e1.symm.trans e2).trans h2
  have hkind : k'.kind = .array comp (.array t) := by rw [he]; exact h4
  have f1 : U.vm.findClass (FieldType.array t).toString = some comp := by rw [hvm.findClass]; exact h1
  have f2 : U.vm.findClass ("[" ++ (FieldType.array t).toString) = some c := by rw [hvm.findClass]; exact h5
  unfold Cond.before Cond.holds
  simp only [Cond.value]
  rw [f1, Option.bind_some]
  refine (congrArg (fun o : Option Nat => (o.bind (fun c => (U.vm.classes[c]?).map fun (k : Class) => match k.kind with | .array _ ty => decide (ty = FieldType.array t) && decide (U.vm.findClass ("[" ++ (FieldType.array t).toString) = some c) | _ => false) == some true)) hi).trans ?_
  simp [hk', hkind, f2]
theorem ss_X_same {u U : State} (hv : U.vm = u.vm) (hh : U.heap = u.heap) (h : ss_X B ex Lx xs u) : ss_X B ex Lx xs U := by
  have hal : u.vm.Alike U.vm := by rw [hv]; exact Vm.Alike.refl _
  obtain ⟨⟨a1, a2, a3, a4⟩, b, ⟨c1, c2⟩, ⟨d1, d2⟩, e1, f1, f2, f3, g1, g2, g3⟩ := h
  refine ⟨⟨a1, fun a i x h hm => va_Nw.same rfl hv.symm (a2 a i x h hm), fun a i b n d h hm => va_Nw.same rfl hv.symm (a3 a i b n d h hm), vk_R.same hv a4⟩, ?_⟩
  rw [hh]
  exact ⟨b.moved hal, ⟨c1.moved hal, c2.moved hal⟩, ⟨d1.moved hal, d2.moved hal⟩, e1.moved hal, f1.moved hal, f2.moved hal, f3.moved hal, g1.moved hal, ss_AOm hal g2, g3.moved hal⟩
theorem ss_X_warm {u U : State} (hW : u.WarmedH U.vm) (hS : va_S (ss_A B) u.heap U.heap locs) (hB : B ≤ u.heap.size) (h : ss_X B ex Lx xs u) : ss_X B ex Lx xs U := by
  have hal := hW.alike
  have hq : ∀ a : Nat, a < u.heap.size → ¬ ss_A B a → U.heap[a]? = u.heap[a]? := hS.2.1
  obtain ⟨⟨a1, a2, a3, a4⟩, b, ⟨c1, c2⟩, ⟨d1, d2⟩, e1, f1, f2, f3, g1, g2, g3⟩ := h
  have h0 := a1 0
  refine ⟨⟨a1, fun a i x h hm => va_Nw.warmM hW (a2 a i x h hm), fun a i b n d h hm => va_Nw.warmF hW (a3 a i b n d h hm), vk_R.warm hW a4⟩, ?_⟩
  exact ⟨(b.moved hal).kept (hq _ (by omega) (show ¬ B ≤ ex 0 by omega)), ⟨(c1.moved hal).kept hq, (c2.moved hal).kept hq⟩, ⟨(d1.moved hal).kept hq, (d2.moved hal).kept hq⟩, (e1.moved hal).kept hq, (f1.moved hal).kept hq, (f2.moved hal).kept hq, (f3.moved hal).kept hq, (g1.moved hal).kept hq, ss_AOm hal g2, g3.moved hal⟩
theorem ss_blind {vs : List Value} : FrameBlind (ss_Pc D cA B ex Lx xs vs θ σ) := by
  intro a U g mk q
  obtain ⟨q0, q1, q2, q3, q4⟩ := q
  exact ⟨q0, q1, va_K.moved (u := U) (U := U.calling g mk a) (Vm.Alike.refl U.vm) q2, ss_X_same (U := U.calling g mk a) rfl rfl q3, q4⟩
theorem ss_pre {vs : List Value} (C : ss_C D cA B ex Lx xs p R s m args meth c y n0) (hW : ss_W D cA B ex θ σ H) (hS : va_S (ss_A B) s.heap H locs) (hsz : H.size = B + θ.1) : ∀ U : State, U.heap = H → s.WarmedH U.vm → ss_Pc D cA B ex Lx xs vs θ σ (vs.map (ss_tr B ex)).toArray U := by
  intro U hU hWm
  refine ⟨rfl, by rw [hU]; exact hW, va_K.moved hWm.alike C.2.1.1, ss_X_warm (locs := locs) hWm (by rw [hU]; exact hS) (by rw [C.2.2.2.2]; omega) C.2.1.2, by rw [hU]; exact hsz⟩
/-- behind a call -/
theorem ss_callg {ls : Array Slot} {st0 rest : List Value} {mc ms : Nat} {v : Option Value} {a : Array Value} (hr : va_Run p l e R s m args below meth c H locs cells slots mc ms (F0 m pc ls st0) rest (ss_Qc D cA B ex v θ2 σ2 a) (ss_A B)) (hS : va_S (ss_A B) s.heap H locs)
    (kk : ∀ (H1 : Heap) (locs1 : List Loc), ss_W D cA B ex θ2 σ2 H1 → va_S (ss_A B) s.heap H1 locs1 → W p l e R s m args below meth c H1 locs1 (cells + mc) (slots + ms) Q (F0 m (pc + 3) ls ((v.map (ss_tr B ex)).toList ++ rest))) : W p l e R s m args below meth c H locs cells slots Q (F0 m pc ls st0) := by
  intro T hT X
  obtain ⟨v', st₀, t, T', L, h0, X', hL, e1, e2, ⟨hv, hB, hz, hk⟩, st⟩ := hr T hT X
  cases hv
  rw [h0] at hz hk
  have hS1 : va_S (ss_A B) s.heap T'.heap (locs ++ L) := ⟨Nat.le_trans hS.1 (by rw [e1]; exact hz), fun q h1 h2 => by rw [e1, hk q (Nat.lt_of_lt_of_le h1 hS.1) h2]; exact hS.2.1 q h1 h2, fun q hq => by
    rcases List.mem_append.mp hq with h | h
    · exact hS.2.2 q h
    · exact hL q h⟩
  obtain ⟨t2, a1, b1⟩ := kk T'.heap (locs ++ L) (by rw [e1]; exact hB) hS1 T' rfl X'
  exact ⟨t2, st t2 a1, b1⟩
theorem ss_good (y : mm_Y) (h : Cond.code (mm_nm y) (mm_cd y) (mm_ml y) (mm_rt y) ∈ lw_g) : GoodIn lw_g (ss_ws0 y) := by
  intro w hw
  rcases List.mem_cons.mp hw with rfl | hw
  · exact ⟨h, good_of_word (List.mem_filter.mp h).2⟩
  · exact ⟨hw, good_of_word (List.mem_filter.mp hw).2⟩
/-- what the call table says of an entry -/
theorem ss_tab {idx kind na : Nat} {yc : mm_Y} {ps : List Nat} (h : mm_lk (mm_tC (mm_cn y)) (mm_cn y) idx = some (kind, na, yc, ps)) :
    (∀ w ∈ ss_need (mm_cn y) idx kind (mm_nm yc), w ∈ lw_tbl) ∧ Cond.code (mm_nm yc) (mm_cd yc) (mm_ml yc) (mm_rt yc) ∈ lw_g ∧ (mm_nm yc).cls = mm_cl (mm_cn yc) ∧ plainName (mm_nm yc).cls = true ∧ (mm_nm yc).cls ≠ "java/lang/invoke/MethodHandle" ∧ (mm_nm yc).cls ≠ "java/lang/invoke/VarHandle" ∧ (parseMethodDescriptor (mm_nm yc).desc).map (fun d => d.parameters.length) = some na ∧ ((kind = 4 ∨ kind = 5) → (mm_nm yc).name = "<init>" ∧ mm_rt yc = none) := by
  obtain ⟨h1, h2⟩ := ss_tC _ (mm_lk_mem h)
  simp only [Bool.and_eq_true, decide_eq_true_eq, Bool.or_eq_true] at h2
  have hw : ∀ w ∈ ss_need (mm_cn y) idx kind (mm_nm yc) ++ [Cond.code (mm_nm yc) (mm_cd yc) (mm_ml yc) (mm_rt yc)], w ∈ lw_tbl := by
    intro w hw
    have h1' : some w ∈ ps.map (fun p => lw_tbl[p]?) := by rw [h1]; exact List.mem_map.mpr ⟨w, hw, rfl⟩
    obtain ⟨pp, -, h3⟩ := List.mem_map.mp h1'
    exact List.mem_of_getElem? h3
  refine ⟨fun w h => hw w (List.mem_append_left _ h), lw_g_of (hw _ (List.mem_append_right _ List.mem_cons_self)) rfl, h2.1, h2.2.1, h2.2.2.1, h2.2.2.2.1, h2.2.2.2.2.1, fun hk => ?_⟩
  rcases h2.2.2.2.2.2 with q | q
  · rcases hk with rfl | rfl
    · exact absurd q.1 (by decide)
    · exact absurd q.2 (by decide)
  · exact q
end ST5

/-! ===== the tables hold what the words say ===== -/
theorem ss_in0 : ∀ w ∈ wsX00, w ∈ lw_tbl := by decide +kernel
theorem ss_gd0 : ∀ w ∈ wsX00, goodWord w = true := by decide +kernel
theorem ss_in1 : ∀ w ∈ wsX10, w ∈ lw_tbl := by decide +kernel
theorem ss_gd1 : ∀ w ∈ wsX10, goodWord w = true := by decide +kernel
theorem ss_in2 : ∀ w ∈ wsX20, w ∈ lw_tbl := by decide +kernel
theorem ss_gd2 : ∀ w ∈ wsX20, goodWord w = true := by decide +kernel
theorem ss_in3 : ∀ w ∈ wsX30, w ∈ lw_tbl := by decide +kernel
theorem ss_gd3 : ∀ w ∈ wsX30, goodWord w = true := by decide +kernel
theorem ss_in4 : ∀ w ∈ wsX40, w ∈ lw_tbl := by decide +kernel
theorem ss_gd4 : ∀ w ∈ wsX40, goodWord w = true := by decide +kernel
theorem ss_in5 : ∀ w ∈ wsX50, w ∈ lw_tbl := by decide +kernel
theorem ss_gd5 : ∀ w ∈ wsX50, goodWord w = true := by decide +kernel
theorem ss_in6 : ∀ w ∈ wsX60, w ∈ lw_tbl := by decide +kernel
theorem ss_gd6 : ∀ w ∈ wsX60, goodWord w = true := by decide +kernel
theorem ss_in7 : ∀ w ∈ wsX70, w ∈ lw_tbl := by decide +kernel
theorem ss_gd7 : ∀ w ∈ wsX70, goodWord w = true := by decide +kernel
theorem ss_in8 : ∀ w ∈ wsX80, w ∈ lw_tbl := by decide +kernel
theorem ss_gd8 : ∀ w ∈ wsX80, goodWord w = true := by decide +kernel
theorem ss_in9 : ∀ w ∈ wsX90, w ∈ lw_tbl := by decide +kernel
theorem ss_gd9 : ∀ w ∈ wsX90, goodWord w = true := by decide +kernel
theorem lw_g_of {w : Cond} (h : w ∈ lw_tbl) (hg : goodWord w = true) : w ∈ lw_g := List.mem_filter.mpr ⟨h, hg⟩
theorem lw_at {p : Nat} {w : Cond} (h : lw_tbl[p]? = some w) (hg : goodWord w = true) : w ∈ lw_g := lw_g_of (List.mem_of_getElem? h) hg
/-- a class: its words, its fields' types by their kinds -/
def ss_fk (ci j : Nat) (t : FieldType) (fin : Bool) : Bool := match mm_ft ci j with
  | 0 => decide (t = .int) && !fin
  | 1 => decide (t = .long) && !fin
  | 3 => decide (t = .boolean) && !fin
  | 2 => t.isReference && fin
  | _ => false
def ss_cb (ci : Nat) (q : vw_C) (ty : Nat → FieldType) : Prop := (∀ w ∈ u_ws q.1 q.2.1 q.2.2, w ∈ lw_g) ∧ (∀ k, k < q.2.2 → parseFieldDescriptor (q.2.1 k).2.2.1 = some (ty k)) ∧ (∀ a, a < q.2.2 → ∀ b, b < q.2.2 → a ≠ b → (q.2.1 a).2.1 ≠ (q.2.1 b).2.1) ∧ (∀ j, j < q.2.2 → ss_fk ci j (ty j) (q.2.1 j).2.2.2 = true ∧ (q.2.1 j).1 = mm_cl ci) ∧ q.1 = mm_cl ci
theorem ss_cb0 : ss_cb 0 (RX0, TX0, 2) tyX0 := ⟨fun w h => lw_g_of (ss_in0 w h) (ss_gd0 w h), tyX0_ok, nmX0, by decide +kernel, rfl⟩
theorem ss_cb1 : ss_cb 1 (RX1, TX1, 8) tyX1 := ⟨fun w h => lw_g_of (ss_in1 w h) (ss_gd1 w h), tyX1_ok, nmX1, by decide +kernel, rfl⟩
theorem ss_cb2 : ss_cb 2 (RX2, TX2, 2) tyX2 := ⟨fun w h => lw_g_of (ss_in2 w h) (ss_gd2 w h), tyX2_ok, nmX2, by decide +kernel, rfl⟩
theorem ss_cb3 : ss_cb 3 (RX3, TX3, 3) tyX3 := ⟨fun w h => lw_g_of (ss_in3 w h) (ss_gd3 w h), tyX3_ok, nmX3, by decide +kernel, rfl⟩
theorem ss_cb4 : ss_cb 4 (RX4, TX4, 3) tyX4 := ⟨fun w h => lw_g_of (ss_in4 w h) (ss_gd4 w h), tyX4_ok, nmX4, by decide +kernel, rfl⟩
theorem ss_cb5 : ss_cb 5 (RX5, TX5, 3) tyX5 := ⟨fun w h => lw_g_of (ss_in5 w h) (ss_gd5 w h), tyX5_ok, nmX5, by decide +kernel, rfl⟩
theorem ss_cb6 : ss_cb 6 (RX6, TX6, 5) tyX6 := ⟨fun w h => lw_g_of (ss_in6 w h) (ss_gd6 w h), tyX6_ok, nmX6, by decide +kernel, rfl⟩
theorem ss_cb7 : ss_cb 7 (RX7, TX7, 2) tyX7 := ⟨fun w h => lw_g_of (ss_in7 w h) (ss_gd7 w h), tyX7_ok, nmX7, by decide +kernel, rfl⟩
theorem ss_cb8 : ss_cb 8 (RX8, TX8, 14) tyX8 := ⟨fun w h => lw_g_of (ss_in8 w h) (ss_gd8 w h), tyX8_ok, nmX8, by decide +kernel, rfl⟩
theorem ss_cb9 : ss_cb 9 (RX9, TX9, 24) tyX9 := ⟨fun w h => lw_g_of (ss_in9 w h) (ss_gd9 w h), tyX9_ok, nmX9, by decide +kernel, rfl⟩
theorem ss_cls {ci : Nat} {q : vw_C} (h : vwCl[ci]? = some q) : ∃ ty, ss_cb ci q ty := by
  match ci, h with
  | 0, h => cases h; exact ⟨_, ss_cb0⟩
  | 1, h => cases h; exact ⟨_, ss_cb1⟩
  | 2, h => cases h; exact ⟨_, ss_cb2⟩
  | 3, h => cases h; exact ⟨_, ss_cb3⟩
  | 4, h => cases h; exact ⟨_, ss_cb4⟩
  | 5, h => cases h; exact ⟨_, ss_cb5⟩
  | 6, h => cases h; exact ⟨_, ss_cb6⟩
  | 7, h => cases h; exact ⟨_, ss_cb7⟩
  | 8, h => cases h; exact ⟨_, ss_cb8⟩
  | 9, h => cases h; exact ⟨_, ss_cb9⟩
  | n + 10, h => simp [vwCl] at h
theorem ss_lay : ∀ k, k < 135 → (mm_kt k).1 < 10 → (vwCl[(mm_kt k).1]?).map (fun q => q.2.2) = some (mm_kt k).2 := by decide +kernel
theorem mm_lk_mem {α : Type} {t : List ((Nat × Nat) × α)} {c i : Nat} {x : α} (h : mm_lk t c i = some x) : ((c, i), x) ∈ t := by
  unfold mm_lk at h
  obtain ⟨e, he, rfl⟩ := Option.map_eq_some_iff.mp h
  have h1 := List.mem_of_find?_eq_some he
  have h2 := List.find?_some he
  simp only [Bool.and_eq_true, beq_iff_eq] at h2
  obtain ⟨⟨a, b⟩, c'⟩ := e
  obtain ⟨rfl, rfl⟩ := h2
  exact h1
def ss_okF (e : (Nat × Nat) × (Nat × Nat × Nat)) : Bool := match vwCl[e.2.1]? with
  | some q => decide (e.2.2.1 < q.2.2) && decide (lw_tbl[e.2.2.2]? = some (.fieldLink (mm_cl e.1.1) e.1.2 (q.2.1 e.2.2.1).1 (q.2.1 e.2.2.1).2.1 (q.2.1 e.2.2.1).2.2.1))
  | none => false
theorem ss_tF : mm_tF.all ss_okF = true := by decide +kernel
def ss_need (cn idx kind : Nat) (y : MethodName) : List Cond := match kind with
  | 0 => [.methodLink (mm_cl cn) idx y, .static y, .initialized y.cls]
  | 1 => [.methodLinkNest (mm_cl cn) idx y "QuietLines", .static y, .initialized y.cls]
  | 2 => [.methodLink (mm_cl cn) idx y, .instanceMethod y, .selects y.cls y y, .initialized y.cls]
  | 4 => [.methodLink (mm_cl cn) idx y, .instanceMethod y, .initialized y.cls]
  | _ => [.methodLinkNest (mm_cl cn) idx y "QuietLines", .instanceMethod y, .initialized y.cls]
def ss_PC (e : (Nat × Nat) × (Nat × Nat × mm_Y × List Nat)) : Prop :=
  e.2.2.2.2.map (fun p => lw_tbl[p]?) = (ss_need e.1.1 e.1.2 e.2.1 (mm_nm e.2.2.2.1) ++ [Cond.code (mm_nm e.2.2.2.1) (mm_cd e.2.2.2.1) (mm_ml e.2.2.2.1) (mm_rt e.2.2.2.1)]).map some ∧
  (decide ((mm_nm e.2.2.2.1).cls = mm_cl (mm_cn e.2.2.2.1)) && (plainName (mm_nm e.2.2.2.1).cls && (decide ((mm_nm e.2.2.2.1).cls ≠ "java/lang/invoke/MethodHandle") && (decide ((mm_nm e.2.2.2.1).cls ≠ "java/lang/invoke/VarHandle") && (decide ((parseMethodDescriptor (mm_nm e.2.2.2.1).desc).map (fun d => d.parameters.length) = some e.2.2.1) && (e.2.1 != 4 && e.2.1 != 5 || decide ((mm_nm e.2.2.2.1).name = "<init>") && decide (mm_rt e.2.2.2.1 = none))))))) = true
set_option maxRecDepth 100000 in
theorem oc_0_19 : ss_PC ((0, 19), (2, 0, mX0_placeForOne, [469, 471, 1, 48, 472])) := ⟨rfl, by decide +kernel⟩
theorem ss_tC0 : ∀ e ∈ mm_tC0, ss_PC e := List.forall_mem_cons.mpr ⟨oc_0_19, fun _ h => absurd h List.not_mem_nil⟩
set_option maxRecDepth 100000 in
theorem oc_1_39 : ss_PC ((1, 39), (2, 1, mX1_readWays, [499, 501, 2, 49, 502])) := ⟨rfl, by decide +kernel⟩
set_option maxRecDepth 100000 in
theorem oc_1_43 : ss_PC ((1, 43), (2, 1, mX1_clearLabels, [511, 513, 3, 49, 514])) := ⟨rfl, by decide +kernel⟩
set_option maxRecDepth 100000 in
theorem oc_1_52 : ss_PC ((1, 52), (2, 1, mX1_isReached, [517, 518, 519, 49, 520])) := ⟨rfl, by decide +kernel⟩
set_option maxRecDepth 100000 in
theorem oc_1_56 : ss_PC ((1, 56), (2, 2, mX1_contextOf, [521, 523, 4, 49, 524])) := ⟨rfl, by decide +kernel⟩
set_option maxRecDepth 100000 in
theorem oc_1_60 : ss_PC ((1, 60), (2, 2, mX1_leaveByNext, [529, 531, 6, 49, 532])) := ⟨rfl, by decide +kernel⟩
set_option maxRecDepth 100000 in
theorem oc_1_67 : ss_PC ((1, 67), (2, 2, mX1_leaveByTarget, [537, 539, 8, 49, 540])) := ⟨rfl, by decide +kernel⟩
set_option maxRecDepth 100000 in
theorem oc_1_70 : ss_PC ((1, 70), (2, 2, mX1_isSpokenWrong, [541, 543, 9, 49, 544])) := ⟨rfl, by decide +kernel⟩
set_option maxRecDepth 100000 in
theorem oc_1_74 : ss_PC ((1, 74), (2, 1, mX4_targetOf, [503, 504, 505, 47, 506])) := ⟨rfl, by decide +kernel⟩
set_option maxRecDepth 100000 in
theorem oc_1_78 : ss_PC ((1, 78), (0, 1, mJ6_numberOfTrailingZeros_0f7a4, [507, 508, 63, 509])) := ⟨rfl, by decide +kernel⟩
set_option maxRecDepth 100000 in
theorem oc_1_83 : ss_PC ((1, 83), (0, 2, mJ7_fill_53178, [515, 413, 61, 414])) := ⟨rfl, by decide +kernel⟩
set_option maxRecDepth 100000 in
theorem oc_1_95 : ss_PC ((1, 95), (2, 2, mX1_lookedAt, [525, 527, 5, 49, 528])) := ⟨rfl, by decide +kernel⟩
set_option maxRecDepth 100000 in
theorem oc_1_99 : ss_PC ((1, 99), (2, 2, mX1_comeTo, [533, 535, 7, 49, 536])) := ⟨rfl, by decide +kernel⟩
theorem ss_tC1 : ∀ e ∈ mm_tC1, ss_PC e := List.forall_mem_cons.mpr ⟨oc_1_39, List.forall_mem_cons.mpr ⟨oc_1_43, List.forall_mem_cons.mpr ⟨oc_1_52, List.forall_mem_cons.mpr ⟨oc_1_56, List.forall_mem_cons.mpr ⟨oc_1_60, List.forall_mem_cons.mpr ⟨oc_1_67, List.forall_mem_cons.mpr ⟨oc_1_70, List.forall_mem_cons.mpr ⟨oc_1_74, List.forall_mem_cons.mpr ⟨oc_1_78, List.forall_mem_cons.mpr ⟨oc_1_83, List.forall_mem_cons.mpr ⟨oc_1_95, List.forall_mem_cons.mpr ⟨oc_1_99, fun _ h => absurd h List.not_mem_nil⟩⟩⟩⟩⟩⟩⟩⟩⟩⟩⟩⟩
set_option maxRecDepth 100000 in
theorem oc_2_20 : ss_PC ((2, 20), (2, 4, mX6_go, [679, 562, 563, 50, 564])) := ⟨rfl, by decide +kernel⟩
set_option maxRecDepth 100000 in
theorem oc_2_26 : ss_PC ((2, 26), (2, 1, mX6_spoken, [680, 579, 580, 50, 581])) := ⟨rfl, by decide +kernel⟩
theorem ss_tC2 : ∀ e ∈ mm_tC2, ss_PC e := List.forall_mem_cons.mpr ⟨oc_2_20, List.forall_mem_cons.mpr ⟨oc_2_26, fun _ h => absurd h List.not_mem_nil⟩⟩
set_option maxRecDepth 100000 in
theorem oc_3_17 : ss_PC ((3, 17), (5, 0, mX1_init, [242, 135, 49, 136])) := ⟨rfl, by decide +kernel⟩
set_option maxRecDepth 100000 in
theorem oc_3_24 : ss_PC ((3, 24), (5, 0, mX5_init, [244, 205, 51, 206])) := ⟨rfl, by decide +kernel⟩
set_option maxRecDepth 100000 in
theorem oc_3_40 : ss_PC ((3, 40), (2, 2, mX1_read, [644, 496, 497, 49, 498])) := ⟨rfl, by decide +kernel⟩
set_option maxRecDepth 100000 in
theorem oc_3_44 : ss_PC ((3, 44), (0, 1, mX3_rowsOf, [645, 636, 53, 637])) := ⟨rfl, by decide +kernel⟩
set_option maxRecDepth 100000 in
theorem oc_3_48 : ss_PC ((3, 48), (2, 2, mX3_isSo, [646, 648, 16, 53, 649])) := ⟨rfl, by decide +kernel⟩
set_option maxRecDepth 100000 in
theorem oc_3_52 : ss_PC ((3, 52), (2, 3, mX3_isLabelled, [650, 652, 17, 53, 653])) := ⟨rfl, by decide +kernel⟩
set_option maxRecDepth 100000 in
theorem oc_3_56 : ss_PC ((3, 56), (2, 1, mX4_has, [655, 451, 452, 47, 453])) := ⟨rfl, by decide +kernel⟩
set_option maxRecDepth 100000 in
theorem oc_3_60 : ss_PC ((3, 60), (2, 1, mX1_isReached, [656, 518, 519, 49, 520])) := ⟨rfl, by decide +kernel⟩
set_option maxRecDepth 100000 in
theorem oc_3_63 : ss_PC ((3, 63), (1, 2, mX8_isBelow, [654, 419, 45, 420])) := ⟨rfl, by decide +kernel⟩
set_option maxRecDepth 100000 in
theorem oc_3_80 : ss_PC ((3, 80), (2, 2, mX5_listen, [657, 606, 607, 51, 608])) := ⟨rfl, by decide +kernel⟩
set_option maxRecDepth 100000 in
theorem oc_3_84 : ss_PC ((3, 84), (2, 1, mX5_unlikeRows, [658, 612, 613, 51, 614])) := ⟨rfl, by decide +kernel⟩
theorem ss_tC3 : ∀ e ∈ mm_tC3, ss_PC e := List.forall_mem_cons.mpr ⟨oc_3_17, List.forall_mem_cons.mpr ⟨oc_3_24, List.forall_mem_cons.mpr ⟨oc_3_40, List.forall_mem_cons.mpr ⟨oc_3_44, List.forall_mem_cons.mpr ⟨oc_3_48, List.forall_mem_cons.mpr ⟨oc_3_52, List.forall_mem_cons.mpr ⟨oc_3_56, List.forall_mem_cons.mpr ⟨oc_3_60, List.forall_mem_cons.mpr ⟨oc_3_63, List.forall_mem_cons.mpr ⟨oc_3_80, List.forall_mem_cons.mpr ⟨oc_3_84, fun _ h => absurd h List.not_mem_nil⟩⟩⟩⟩⟩⟩⟩⟩⟩⟩⟩
set_option maxRecDepth 100000 in
theorem oc_4_24 : ss_PC ((4, 24), (1, 2, mX8_isBelow, [424, 419, 45, 420])) := ⟨rfl, by decide +kernel⟩
theorem ss_tC4 : ∀ e ∈ mm_tC4, ss_PC e := List.forall_mem_cons.mpr ⟨oc_4_24, fun _ h => absurd h List.not_mem_nil⟩
set_option maxRecDepth 100000 in
theorem oc_5_11 : ss_PC ((5, 11), (5, 0, mX6_init, [209, 177, 50, 178])) := ⟨rfl, by decide +kernel⟩
set_option maxRecDepth 100000 in
theorem oc_5_25 : ss_PC ((5, 25), (0, 2, mJ7_fill_53178, [609, 413, 61, 414])) := ⟨rfl, by decide +kernel⟩
set_option maxRecDepth 100000 in
theorem oc_5_31 : ss_PC ((5, 31), (2, 4, mX6_go, [610, 562, 563, 50, 564])) := ⟨rfl, by decide +kernel⟩
set_option maxRecDepth 100000 in
theorem oc_5_45 : ss_PC ((5, 45), (2, 2, mX5_rowOf, [615, 617, 14, 51, 618])) := ⟨rfl, by decide +kernel⟩
set_option maxRecDepth 100000 in
theorem oc_5_49 : ss_PC ((5, 49), (2, 1, mX5_placeOf, [619, 621, 15, 51, 622])) := ⟨rfl, by decide +kernel⟩
theorem ss_tC5 : ∀ e ∈ mm_tC5, ss_PC e := List.forall_mem_cons.mpr ⟨oc_5_11, List.forall_mem_cons.mpr ⟨oc_5_25, List.forall_mem_cons.mpr ⟨oc_5_31, List.forall_mem_cons.mpr ⟨oc_5_45, List.forall_mem_cons.mpr ⟨oc_5_49, fun _ h => absurd h List.not_mem_nil⟩⟩⟩⟩⟩
set_option maxRecDepth 100000 in
theorem oc_6_34 : ss_PC ((6, 34), (2, 2, mX6_step, [565, 567, 10, 50, 568])) := ⟨rfl, by decide +kernel⟩
set_option maxRecDepth 100000 in
theorem oc_6_42 : ss_PC ((6, 42), (2, 2, mX6_beThrown, [569, 571, 11, 50, 572])) := ⟨rfl, by decide +kernel⟩
set_option maxRecDepth 100000 in
theorem oc_6_46 : ss_PC ((6, 46), (2, 1, mX4_targetOf, [573, 504, 505, 47, 506])) := ⟨rfl, by decide +kernel⟩
set_option maxRecDepth 100000 in
theorem oc_6_50 : ss_PC ((6, 50), (2, 2, mX6_speak, [574, 576, 12, 50, 577])) := ⟨rfl, by decide +kernel⟩
set_option maxRecDepth 100000 in
theorem oc_6_53 : ss_PC ((6, 53), (1, 2, mX8_isBelow, [582, 419, 45, 420])) := ⟨rfl, by decide +kernel⟩
set_option maxRecDepth 100000 in
theorem oc_6_63 : ss_PC ((6, 63), (2, 1, mX6_spoken, [600, 579, 580, 50, 581])) := ⟨rfl, by decide +kernel⟩
theorem ss_tC6 : ∀ e ∈ mm_tC6, ss_PC e := List.forall_mem_cons.mpr ⟨oc_6_34, List.forall_mem_cons.mpr ⟨oc_6_42, List.forall_mem_cons.mpr ⟨oc_6_46, List.forall_mem_cons.mpr ⟨oc_6_50, List.forall_mem_cons.mpr ⟨oc_6_53, List.forall_mem_cons.mpr ⟨oc_6_63, fun _ h => absurd h List.not_mem_nil⟩⟩⟩⟩⟩⟩
set_option maxRecDepth 100000 in
theorem oc_7_19 : ss_PC ((7, 19), (2, 0, mX4_clear, [318, 319, 320, 47, 321])) := ⟨rfl, by decide +kernel⟩
set_option maxRecDepth 100000 in
theorem oc_7_24 : ss_PC ((7, 24), (0, 2, mX7_begin, [322, 323, 46, 324])) := ⟨rfl, by decide +kernel⟩
set_option maxRecDepth 100000 in
theorem oc_7_33 : ss_PC ((7, 33), (0, 3, mX7_valueOf, [415, 416, 46, 417])) := ⟨rfl, by decide +kernel⟩
set_option maxRecDepth 100000 in
theorem oc_7_37 : ss_PC ((7, 37), (0, 5, mX4_fits, [421, 422, 47, 423])) := ⟨rfl, by decide +kernel⟩
set_option maxRecDepth 100000 in
theorem oc_7_47 : ss_PC ((7, 47), (0, 2, mX7_partBehind, [426, 427, 46, 428])) := ⟨rfl, by decide +kernel⟩
set_option maxRecDepth 100000 in
theorem oc_7_52 : ss_PC ((7, 52), (2, 1, mJ0_indexOf_0f7a4, [326, 327, 328, 55, 329])) := ⟨rfl, by decide +kernel⟩
set_option maxRecDepth 100000 in
theorem oc_7_58 : ss_PC ((7, 58), (0, 2, mJ7_fill_53178, [412, 413, 61, 414])) := ⟨rfl, by decide +kernel⟩
set_option maxRecDepth 100000 in
theorem oc_7_64 : ss_PC ((7, 64), (1, 2, mX8_isBelow, [418, 419, 45, 420])) := ⟨rfl, by decide +kernel⟩
set_option maxRecDepth 100000 in
theorem oc_7_68 : ss_PC ((7, 68), (0, 2, mX4_hasPart, [429, 430, 47, 431])) := ⟨rfl, by decide +kernel⟩
theorem ss_tC7 : ∀ e ∈ mm_tC7, ss_PC e := List.forall_mem_cons.mpr ⟨oc_7_19, List.forall_mem_cons.mpr ⟨oc_7_24, List.forall_mem_cons.mpr ⟨oc_7_33, List.forall_mem_cons.mpr ⟨oc_7_37, List.forall_mem_cons.mpr ⟨oc_7_47, List.forall_mem_cons.mpr ⟨oc_7_52, List.forall_mem_cons.mpr ⟨oc_7_58, List.forall_mem_cons.mpr ⟨oc_7_64, List.forall_mem_cons.mpr ⟨oc_7_68, fun _ h => absurd h List.not_mem_nil⟩⟩⟩⟩⟩⟩⟩⟩⟩
set_option maxRecDepth 100000 in
theorem oc_8_11 : ss_PC ((8, 11), (5, 0, mX7_init, [74, 75, 46, 76])) := ⟨rfl, by decide +kernel⟩
set_option maxRecDepth 100000 in
theorem oc_8_18 : ss_PC ((8, 18), (5, 0, mX4_init, [89, 90, 47, 91])) := ⟨rfl, by decide +kernel⟩
set_option maxRecDepth 100000 in
theorem oc_8_28 : ss_PC ((8, 28), (5, 0, mX0_init, [119, 120, 48, 121])) := ⟨rfl, by decide +kernel⟩
set_option maxRecDepth 100000 in
theorem oc_8_47 : ss_PC ((8, 47), (5, 0, mX1_init, [134, 135, 49, 136])) := ⟨rfl, by decide +kernel⟩
set_option maxRecDepth 100000 in
theorem oc_8_54 : ss_PC ((8, 54), (5, 0, mX6_init, [176, 177, 50, 178])) := ⟨rfl, by decide +kernel⟩
set_option maxRecDepth 100000 in
theorem oc_8_64 : ss_PC ((8, 64), (5, 0, mX5_init, [204, 205, 51, 206])) := ⟨rfl, by decide +kernel⟩
set_option maxRecDepth 100000 in
theorem oc_8_71 : ss_PC ((8, 71), (5, 0, mX2_init, [222, 223, 52, 224])) := ⟨rfl, by decide +kernel⟩
set_option maxRecDepth 100000 in
theorem oc_8_78 : ss_PC ((8, 78), (5, 0, mX3_init, [237, 238, 53, 239])) := ⟨rfl, by decide +kernel⟩
set_option maxRecDepth 100000 in
theorem oc_8_87 : ss_PC ((8, 87), (2, 1, mX7_add, [302, 303, 304, 46, 305])) := ⟨rfl, by decide +kernel⟩
set_option maxRecDepth 100000 in
theorem oc_8_95 : ss_PC ((8, 95), (2, 1, mX7_readInto, [314, 315, 316, 46, 317])) := ⟨rfl, by decide +kernel⟩
set_option maxRecDepth 100000 in
theorem oc_8_99 : ss_PC ((8, 99), (2, 1, mX4_copy, [439, 440, 441, 47, 442])) := ⟨rfl, by decide +kernel⟩
set_option maxRecDepth 100000 in
theorem oc_8_105 : ss_PC ((8, 105), (2, 1, mX4_has, [450, 451, 452, 47, 453])) := ⟨rfl, by decide +kernel⟩
set_option maxRecDepth 100000 in
theorem oc_8_108 : ss_PC ((8, 108), (0, 2, mX8_isBelow, [454, 419, 45, 420])) := ⟨rfl, by decide +kernel⟩
set_option maxRecDepth 100000 in
theorem oc_8_116 : ss_PC ((8, 116), (2, 1, mX8_makeTold, [459, 461, 0, 45, 462])) := ⟨rfl, by decide +kernel⟩
set_option maxRecDepth 100000 in
theorem oc_8_119 : ss_PC ((8, 119), (2, 2, mX0_addTold, [465, 466, 467, 48, 468])) := ⟨rfl, by decide +kernel⟩
set_option maxRecDepth 100000 in
theorem oc_8_129 : ss_PC ((8, 129), (0, 2, mX4_hasPart, [463, 430, 47, 431])) := ⟨rfl, by decide +kernel⟩
set_option maxRecDepth 100000 in
theorem oc_8_132 : ss_PC ((8, 132), (0, 5, mX4_fits, [464, 422, 47, 423])) := ⟨rfl, by decide +kernel⟩
set_option maxRecDepth 100000 in
theorem oc_8_139 : ss_PC ((8, 139), (2, 2, mX0_addLabelled, [479, 480, 481, 48, 482])) := ⟨rfl, by decide +kernel⟩
set_option maxRecDepth 100000 in
theorem oc_8_142 : ss_PC ((8, 142), (2, 1, mX0_takeBack, [487, 488, 489, 48, 490])) := ⟨rfl, by decide +kernel⟩
set_option maxRecDepth 100000 in
theorem oc_8_146 : ss_PC ((8, 146), (2, 2, mX1_read, [495, 496, 497, 49, 498])) := ⟨rfl, by decide +kernel⟩
set_option maxRecDepth 100000 in
theorem oc_8_150 : ss_PC ((8, 150), (2, 1, mX1_isReached, [545, 518, 519, 49, 520])) := ⟨rfl, by decide +kernel⟩
set_option maxRecDepth 100000 in
theorem oc_8_164 : ss_PC ((8, 164), (0, 3, mX8_areFigures, [558, 559, 45, 560])) := ⟨rfl, by decide +kernel⟩
set_option maxRecDepth 100000 in
theorem oc_8_168 : ss_PC ((8, 168), (2, 4, mX6_go, [561, 562, 563, 50, 564])) := ⟨rfl, by decide +kernel⟩
set_option maxRecDepth 100000 in
theorem oc_8_172 : ss_PC ((8, 172), (2, 1, mX6_spoken, [578, 579, 580, 50, 581])) := ⟨rfl, by decide +kernel⟩
set_option maxRecDepth 100000 in
theorem oc_8_186 : ss_PC ((8, 186), (2, 1, mX8_leastUnlike, [591, 593, 13, 45, 594])) := ⟨rfl, by decide +kernel⟩
set_option maxRecDepth 100000 in
theorem oc_8_189 : ss_PC ((8, 189), (2, 1, mX6_firstUnlike, [595, 596, 597, 50, 598])) := ⟨rfl, by decide +kernel⟩
set_option maxRecDepth 100000 in
theorem oc_8_193 : ss_PC ((8, 193), (2, 2, mX5_listen, [605, 606, 607, 51, 608])) := ⟨rfl, by decide +kernel⟩
set_option maxRecDepth 100000 in
theorem oc_8_196 : ss_PC ((8, 196), (2, 1, mX5_unlikeRows, [611, 612, 613, 51, 614])) := ⟨rfl, by decide +kernel⟩
set_option maxRecDepth 100000 in
theorem oc_8_199 : ss_PC ((8, 199), (2, 1, mX5_rowsLike, [627, 628, 629, 51, 630])) := ⟨rfl, by decide +kernel⟩
set_option maxRecDepth 100000 in
theorem oc_8_202 : ss_PC ((8, 202), (0, 1, mX3_rowsOf, [635, 636, 53, 637])) := ⟨rfl, by decide +kernel⟩
set_option maxRecDepth 100000 in
theorem oc_8_206 : ss_PC ((8, 206), (2, 3, mX3_firstNotSo, [639, 640, 641, 53, 642])) := ⟨rfl, by decide +kernel⟩
set_option maxRecDepth 100000 in
theorem oc_8_210 : ss_PC ((8, 210), (2, 4, mX2_add, [663, 664, 665, 52, 666])) := ⟨rfl, by decide +kernel⟩
set_option maxRecDepth 100000 in
theorem oc_8_214 : ss_PC ((8, 214), (2, 4, mX2_isAllSo, [675, 676, 677, 52, 678])) := ⟨rfl, by decide +kernel⟩
set_option maxRecDepth 100000 in
theorem oc_8_218 : ss_PC ((8, 218), (2, 1, mX4_linesOfKind, [685, 686, 687, 47, 688])) := ⟨rfl, by decide +kernel⟩
set_option maxRecDepth 100000 in
theorem oc_8_221 : ss_PC ((8, 221), (0, 1, mJ6_bitCount_0f7a4, [689, 690, 63, 691])) := ⟨rfl, by decide +kernel⟩
set_option maxRecDepth 100000 in
theorem oc_8_226 : ss_PC ((8, 226), (2, 3, mX8_gainInAllOrders, [695, 697, 18, 45, 698])) := ⟨rfl, by decide +kernel⟩
set_option maxRecDepth 100000 in
theorem oc_8_233 : ss_PC ((8, 233), (0, 3, mX8_fraction, [701, 702, 45, 703])) := ⟨rfl, by decide +kernel⟩
set_option maxRecDepth 100000 in
theorem oc_8_241 : ss_PC ((8, 241), (2, 0, mX6_sumOfSpoken, [724, 725, 726, 50, 727])) := ⟨rfl, by decide +kernel⟩
set_option maxRecDepth 100000 in
theorem oc_8_253 : ss_PC ((8, 253), (0, 2, mX8_greatestDivisor, [707, 708, 45, 709])) := ⟨rfl, by decide +kernel⟩
theorem ss_tC8 : ∀ e ∈ mm_tC8, ss_PC e := List.forall_mem_cons.mpr ⟨oc_8_11, List.forall_mem_cons.mpr ⟨oc_8_18, List.forall_mem_cons.mpr ⟨oc_8_28, List.forall_mem_cons.mpr ⟨oc_8_47, List.forall_mem_cons.mpr ⟨oc_8_54, List.forall_mem_cons.mpr ⟨oc_8_64, List.forall_mem_cons.mpr ⟨oc_8_71, List.forall_mem_cons.mpr ⟨oc_8_78, List.forall_mem_cons.mpr ⟨oc_8_87, List.forall_mem_cons.mpr ⟨oc_8_95, List.forall_mem_cons.mpr ⟨oc_8_99, List.forall_mem_cons.mpr ⟨oc_8_105, List.forall_mem_cons.mpr ⟨oc_8_108, List.forall_mem_cons.mpr ⟨oc_8_116, List.forall_mem_cons.mpr ⟨oc_8_119, List.forall_mem_cons.mpr ⟨oc_8_129, List.forall_mem_cons.mpr ⟨oc_8_132, List.forall_mem_cons.mpr ⟨oc_8_139, List.forall_mem_cons.mpr ⟨oc_8_142, List.forall_mem_cons.mpr ⟨oc_8_146, List.forall_mem_cons.mpr ⟨oc_8_150, List.forall_mem_cons.mpr ⟨oc_8_164, List.forall_mem_cons.mpr ⟨oc_8_168, List.forall_mem_cons.mpr ⟨oc_8_172, List.forall_mem_cons.mpr ⟨oc_8_186, List.forall_mem_cons.mpr ⟨oc_8_189, List.forall_mem_cons.mpr ⟨oc_8_193, List.forall_mem_cons.mpr ⟨oc_8_196, List.forall_mem_cons.mpr ⟨oc_8_199, List.forall_mem_cons.mpr ⟨oc_8_202, List.forall_mem_cons.mpr ⟨oc_8_206, List.forall_mem_cons.mpr ⟨oc_8_210, List.forall_mem_cons.mpr ⟨oc_8_214, List.forall_mem_cons.mpr ⟨oc_8_218, List.forall_mem_cons.mpr ⟨oc_8_221, List.forall_mem_cons.mpr ⟨oc_8_226, List.forall_mem_cons.mpr ⟨oc_8_233, List.forall_mem_cons.mpr ⟨oc_8_241, List.forall_mem_cons.mpr ⟨oc_8_253, fun _ h => absurd h List.not_mem_nil⟩⟩⟩⟩⟩⟩⟩⟩⟩⟩⟩⟩⟩⟩⟩⟩⟩⟩⟩⟩⟩⟩⟩⟩⟩⟩⟩⟩⟩⟩⟩⟩⟩⟩⟩⟩⟩⟩⟩
set_option maxRecDepth 100000 in
theorem oc_9_54 : ss_PC ((9, 54), (2, 1, mX9_findLabels, [746, 748, 19, 54, 749])) := ⟨rfl, by decide +kernel⟩
set_option maxRecDepth 100000 in
theorem oc_9_60 : ss_PC ((9, 60), (0, 3, mX9_in, [778, 779, 54, 780])) := ⟨rfl, by decide +kernel⟩
set_option maxRecDepth 100000 in
theorem oc_9_79 : ss_PC ((9, 79), (0, 1, mX9_kindOf, [887, 888, 54, 889])) := ⟨rfl, by decide +kernel⟩
set_option maxRecDepth 100000 in
theorem oc_9_83 : ss_PC ((9, 83), (2, 2, mX9_readLine, [890, 892, 29, 54, 893])) := ⟨rfl, by decide +kernel⟩
set_option maxRecDepth 100000 in
theorem oc_9_87 : ss_PC ((9, 87), (0, 1, mX9_hasWay, [773, 774, 54, 775])) := ⟨rfl, by decide +kernel⟩
set_option maxRecDepth 100000 in
theorem oc_9_91 : ss_PC ((9, 91), (0, 1, mX9_hasThree, [789, 790, 54, 791])) := ⟨rfl, by decide +kernel⟩
set_option maxRecDepth 100000 in
theorem oc_9_94 : ss_PC ((9, 94), (2, 1, mX9_variableAt, [894, 896, 30, 54, 897])) := ⟨rfl, by decide +kernel⟩
set_option maxRecDepth 100000 in
theorem oc_9_101 : ss_PC ((9, 101), (2, 0, mX9_readText, [883, 885, 28, 54, 886])) := ⟨rfl, by decide +kernel⟩
set_option maxRecDepth 100000 in
theorem oc_9_111 : ss_PC ((9, 111), (2, 1, mX9_isLine, [910, 912, 31, 54, 913])) := ⟨rfl, by decide +kernel⟩
set_option maxRecDepth 100000 in
theorem oc_9_114 : ss_PC ((9, 114), (2, 3, mX9_at, [769, 771, 24, 54, 772])) := ⟨rfl, by decide +kernel⟩
set_option maxRecDepth 100000 in
theorem oc_9_118 : ss_PC ((9, 118), (0, 2, mX9_has, [762, 763, 54, 764])) := ⟨rfl, by decide +kernel⟩
set_option maxRecDepth 100000 in
theorem oc_9_122 : ss_PC ((9, 122), (2, 2, mX9_wayOf, [765, 767, 23, 54, 768])) := ⟨rfl, by decide +kernel⟩
set_option maxRecDepth 100000 in
theorem oc_9_125 : ss_PC ((9, 125), (2, 4, mX9_comes, [758, 760, 22, 54, 761])) := ⟨rfl, by decide +kernel⟩
set_option maxRecDepth 100000 in
theorem oc_9_129 : ss_PC ((9, 129), (2, 2, mX9_meetingOf, [754, 756, 21, 54, 757])) := ⟨rfl, by decide +kernel⟩
set_option maxRecDepth 100000 in
theorem oc_9_135 : ss_PC ((9, 135), (2, 2, mX9_looksAt, [781, 783, 25, 54, 784])) := ⟨rfl, by decide +kernel⟩
set_option maxRecDepth 100000 in
theorem oc_9_138 : ss_PC ((9, 138), (2, 2, mX9_findContext, [750, 752, 20, 54, 753])) := ⟨rfl, by decide +kernel⟩
set_option maxRecDepth 100000 in
theorem oc_9_142 : ss_PC ((9, 142), (2, 2, mX9_flow, [785, 787, 26, 54, 788])) := ⟨rfl, by decide +kernel⟩
set_option maxRecDepth 100000 in
theorem oc_9_145 : ss_PC ((9, 145), (2, 3, mX9_join, [792, 794, 27, 54, 795])) := ⟨rfl, by decide +kernel⟩
set_option maxRecDepth 100000 in
theorem oc_9_149 : ss_PC ((9, 149), (2, 1, mX9_isVariable, [918, 920, 32, 54, 921])) := ⟨rfl, by decide +kernel⟩
set_option maxRecDepth 100000 in
theorem oc_9_152 : ss_PC ((9, 152), (2, 1, mX9_wrongOn, [930, 932, 33, 54, 933])) := ⟨rfl, by decide +kernel⟩
set_option maxRecDepth 100000 in
theorem oc_9_162 : ss_PC ((9, 162), (2, 6, mX9_isTold, [938, 940, 34, 54, 941])) := ⟨rfl, by decide +kernel⟩
set_option maxRecDepth 100000 in
theorem oc_9_166 : ss_PC ((9, 166), (2, 0, mX9_keepAct, [944, 946, 35, 54, 947])) := ⟨rfl, by decide +kernel⟩
set_option maxRecDepth 100000 in
theorem oc_9_178 : ss_PC ((9, 178), (2, 2, mX9_stepBy, [968, 970, 37, 54, 971])) := ⟨rfl, by decide +kernel⟩
set_option maxRecDepth 100000 in
theorem oc_9_181 : ss_PC ((9, 181), (0, 3, mX9_areValues, [961, 962, 54, 963])) := ⟨rfl, by decide +kernel⟩
set_option maxRecDepth 100000 in
theorem oc_9_185 : ss_PC ((9, 185), (2, 4, mX9_runBy, [964, 966, 36, 54, 967])) := ⟨rfl, by decide +kernel⟩
set_option maxRecDepth 100000 in
theorem oc_9_191 : ss_PC ((9, 191), (2, 4, mX9_run, [989, 958, 959, 54, 960])) := ⟨rfl, by decide +kernel⟩
set_option maxRecDepth 100000 in
theorem oc_9_195 : ss_PC ((9, 195), (2, 2, mX9_tellAll, [980, 982, 38, 54, 983])) := ⟨rfl, by decide +kernel⟩
set_option maxRecDepth 100000 in
theorem oc_9_198 : ss_PC ((9, 198), (2, 3, mX9_firstUnlike, [985, 987, 39, 54, 988])) := ⟨rfl, by decide +kernel⟩
set_option maxRecDepth 100000 in
theorem oc_9_201 : ss_PC ((9, 201), (2, 2, mX9_worldsBy, [994, 996, 40, 54, 997])) := ⟨rfl, by decide +kernel⟩
set_option maxRecDepth 100000 in
theorem oc_9_206 : ss_PC ((9, 206), (0, 1, mX9_tenThousandTo, [1006, 1007, 54, 1008])) := ⟨rfl, by decide +kernel⟩
set_option maxRecDepth 100000 in
theorem oc_9_210 : ss_PC ((9, 210), (2, 4, mX9_tryThing, [1010, 1012, 41, 54, 1013])) := ⟨rfl, by decide +kernel⟩
set_option maxRecDepth 100000 in
theorem oc_9_218 : ss_PC ((9, 218), (2, 0, mX9_speakers, [1031, 1033, 42, 54, 1034])) := ⟨rfl, by decide +kernel⟩
set_option maxRecDepth 100000 in
theorem oc_9_221 : ss_PC ((9, 221), (0, 1, mX9_ones, [1035, 1036, 54, 1037])) := ⟨rfl, by decide +kernel⟩
set_option maxRecDepth 100000 in
theorem oc_9_224 : ss_PC ((9, 224), (0, 1, mX9_factorial, [1038, 1039, 54, 1040])) := ⟨rfl, by decide +kernel⟩
set_option maxRecDepth 100000 in
theorem oc_9_227 : ss_PC ((9, 227), (0, 2, mX9_common, [1041, 1042, 54, 1043])) := ⟨rfl, by decide +kernel⟩
set_option maxRecDepth 100000 in
theorem oc_9_242 : ss_PC ((9, 242), (2, 0, mX9_freed, [1072, 1074, 43, 54, 1075])) := ⟨rfl, by decide +kernel⟩
theorem ss_tC9 : ∀ e ∈ mm_tC9, ss_PC e := List.forall_mem_cons.mpr ⟨oc_9_54, List.forall_mem_cons.mpr ⟨oc_9_60, List.forall_mem_cons.mpr ⟨oc_9_79, List.forall_mem_cons.mpr ⟨oc_9_83, List.forall_mem_cons.mpr ⟨oc_9_87, List.forall_mem_cons.mpr ⟨oc_9_91, List.forall_mem_cons.mpr ⟨oc_9_94, List.forall_mem_cons.mpr ⟨oc_9_101, List.forall_mem_cons.mpr ⟨oc_9_111, List.forall_mem_cons.mpr ⟨oc_9_114, List.forall_mem_cons.mpr ⟨oc_9_118, List.forall_mem_cons.mpr ⟨oc_9_122, List.forall_mem_cons.mpr ⟨oc_9_125, List.forall_mem_cons.mpr ⟨oc_9_129, List.forall_mem_cons.mpr ⟨oc_9_135, List.forall_mem_cons.mpr ⟨oc_9_138, List.forall_mem_cons.mpr ⟨oc_9_142, List.forall_mem_cons.mpr ⟨oc_9_145, List.forall_mem_cons.mpr ⟨oc_9_149, List.forall_mem_cons.mpr ⟨oc_9_152, List.forall_mem_cons.mpr ⟨oc_9_162, List.forall_mem_cons.mpr ⟨oc_9_166, List.forall_mem_cons.mpr ⟨oc_9_178, List.forall_mem_cons.mpr ⟨oc_9_181, List.forall_mem_cons.mpr ⟨oc_9_185, List.forall_mem_cons.mpr ⟨oc_9_191, List.forall_mem_cons.mpr ⟨oc_9_195, List.forall_mem_cons.mpr ⟨oc_9_198, List.forall_mem_cons.mpr ⟨oc_9_201, List.forall_mem_cons.mpr ⟨oc_9_206, List.forall_mem_cons.mpr ⟨oc_9_210, List.forall_mem_cons.mpr ⟨oc_9_218, List.forall_mem_cons.mpr ⟨oc_9_221, List.forall_mem_cons.mpr ⟨oc_9_224, List.forall_mem_cons.mpr ⟨oc_9_227, List.forall_mem_cons.mpr ⟨oc_9_242, fun _ h => absurd h List.not_mem_nil⟩⟩⟩⟩⟩⟩⟩⟩⟩⟩⟩⟩⟩⟩⟩⟩⟩⟩⟩⟩⟩⟩⟩⟩⟩⟩⟩⟩⟩⟩⟩⟩⟩⟩⟩⟩
set_option maxRecDepth 100000 in
theorem oc_10_9 : ss_PC ((10, 9), (4, 0, mX8_init, [66, 67, 45, 68])) := ⟨rfl, by decide +kernel⟩
set_option maxRecDepth 100000 in
theorem oc_10_12 : ss_PC ((10, 12), (4, 0, mX9_init, [742, 743, 54, 744])) := ⟨rfl, by decide +kernel⟩
set_option maxRecDepth 100000 in
theorem oc_10_13 : ss_PC ((10, 13), (2, 1, mX8_write, [298, 299, 300, 45, 301])) := ⟨rfl, by decide +kernel⟩
set_option maxRecDepth 100000 in
theorem oc_10_17 : ss_PC ((10, 17), (2, 1, mX9_write, [870, 871, 872, 54, 873])) := ⟨rfl, by decide +kernel⟩
set_option maxRecDepth 100000 in
theorem oc_10_18 : ss_PC ((10, 18), (2, 0, mX8_wipe, [306, 307, 308, 45, 309])) := ⟨rfl, by decide +kernel⟩
set_option maxRecDepth 100000 in
theorem oc_10_22 : ss_PC ((10, 22), (2, 0, mX9_wipe, [875, 876, 877, 54, 878])) := ⟨rfl, by decide +kernel⟩
set_option maxRecDepth 100000 in
theorem oc_10_23 : ss_PC ((10, 23), (2, 0, mX8_fault, [310, 311, 312, 45, 313])) := ⟨rfl, by decide +kernel⟩
set_option maxRecDepth 100000 in
theorem oc_10_26 : ss_PC ((10, 26), (2, 0, mX9_fault, [879, 880, 881, 54, 882])) := ⟨rfl, by decide +kernel⟩
set_option maxRecDepth 100000 in
theorem oc_10_27 : ss_PC ((10, 27), (2, 0, mX8_program, [435, 436, 437, 45, 438])) := ⟨rfl, by decide +kernel⟩
set_option maxRecDepth 100000 in
theorem oc_10_30 : ss_PC ((10, 30), (2, 0, mX9_program, [902, 903, 904, 54, 905])) := ⟨rfl, by decide +kernel⟩
set_option maxRecDepth 100000 in
theorem oc_10_31 : ss_PC ((10, 31), (2, 2, mX8_line, [446, 447, 448, 45, 449])) := ⟨rfl, by decide +kernel⟩
set_option maxRecDepth 100000 in
theorem oc_10_35 : ss_PC ((10, 35), (2, 2, mX9_line, [906, 907, 908, 54, 909])) := ⟨rfl, by decide +kernel⟩
set_option maxRecDepth 100000 in
theorem oc_10_36 : ss_PC ((10, 36), (2, 6, mX8_tell, [455, 456, 457, 45, 458])) := ⟨rfl, by decide +kernel⟩
set_option maxRecDepth 100000 in
theorem oc_10_40 : ss_PC ((10, 40), (2, 6, mX9_tell, [934, 935, 936, 54, 937])) := ⟨rfl, by decide +kernel⟩
set_option maxRecDepth 100000 in
theorem oc_10_41 : ss_PC ((10, 41), (2, 2, mX8_relabel, [475, 476, 477, 45, 478])) := ⟨rfl, by decide +kernel⟩
set_option maxRecDepth 100000 in
theorem oc_10_44 : ss_PC ((10, 44), (2, 2, mX9_relabel, [948, 949, 950, 54, 951])) := ⟨rfl, by decide +kernel⟩
set_option maxRecDepth 100000 in
theorem oc_10_45 : ss_PC ((10, 45), (2, 0, mX8_undo, [483, 484, 485, 45, 486])) := ⟨rfl, by decide +kernel⟩
set_option maxRecDepth 100000 in
theorem oc_10_48 : ss_PC ((10, 48), (2, 0, mX9_undo, [953, 954, 955, 54, 956])) := ⟨rfl, by decide +kernel⟩
set_option maxRecDepth 100000 in
theorem oc_10_49 : ss_PC ((10, 49), (2, 2, mX8_label, [491, 492, 493, 45, 494])) := ⟨rfl, by decide +kernel⟩
set_option maxRecDepth 100000 in
theorem oc_10_52 : ss_PC ((10, 52), (2, 2, mX9_label, [914, 915, 916, 54, 917])) := ⟨rfl, by decide +kernel⟩
set_option maxRecDepth 100000 in
theorem oc_10_53 : ss_PC ((10, 53), (2, 2, mX8_context, [546, 547, 548, 45, 549])) := ⟨rfl, by decide +kernel⟩
set_option maxRecDepth 100000 in
theorem oc_10_56 : ss_PC ((10, 56), (2, 2, mX9_context, [922, 923, 924, 54, 925])) := ⟨rfl, by decide +kernel⟩
set_option maxRecDepth 100000 in
theorem oc_10_57 : ss_PC ((10, 57), (2, 0, mX8_wrong, [550, 551, 552, 45, 553])) := ⟨rfl, by decide +kernel⟩
set_option maxRecDepth 100000 in
theorem oc_10_60 : ss_PC ((10, 60), (2, 0, mX9_wrong, [926, 927, 928, 54, 929])) := ⟨rfl, by decide +kernel⟩
set_option maxRecDepth 100000 in
theorem oc_10_61 : ss_PC ((10, 61), (2, 4, mX8_run, [554, 555, 556, 45, 557])) := ⟨rfl, by decide +kernel⟩
set_option maxRecDepth 100000 in
theorem oc_10_65 : ss_PC ((10, 65), (2, 4, mX9_run, [957, 958, 959, 54, 960])) := ⟨rfl, by decide +kernel⟩
set_option maxRecDepth 100000 in
theorem oc_10_66 : ss_PC ((10, 66), (2, 4, mX8_ends, [583, 584, 585, 45, 586])) := ⟨rfl, by decide +kernel⟩
set_option maxRecDepth 100000 in
theorem oc_10_69 : ss_PC ((10, 69), (2, 4, mX9_ends, [972, 973, 974, 54, 975])) := ⟨rfl, by decide +kernel⟩
set_option maxRecDepth 100000 in
theorem oc_10_70 : ss_PC ((10, 70), (2, 1, mX8_leak, [587, 588, 589, 45, 590])) := ⟨rfl, by decide +kernel⟩
set_option maxRecDepth 100000 in
theorem oc_10_73 : ss_PC ((10, 73), (2, 1, mX9_leak, [976, 977, 978, 54, 979])) := ⟨rfl, by decide +kernel⟩
set_option maxRecDepth 100000 in
theorem oc_10_74 : ss_PC ((10, 74), (2, 1, mX8_worlds, [601, 602, 603, 45, 604])) := ⟨rfl, by decide +kernel⟩
set_option maxRecDepth 100000 in
theorem oc_10_77 : ss_PC ((10, 77), (2, 1, mX9_worlds, [990, 991, 992, 54, 993])) := ⟨rfl, by decide +kernel⟩
set_option maxRecDepth 100000 in
theorem oc_10_78 : ss_PC ((10, 78), (2, 3, mX8_alike, [623, 624, 625, 45, 626])) := ⟨rfl, by decide +kernel⟩
set_option maxRecDepth 100000 in
theorem oc_10_82 : ss_PC ((10, 82), (2, 3, mX9_alike, [998, 999, 1000, 54, 1001])) := ⟨rfl, by decide +kernel⟩
set_option maxRecDepth 100000 in
theorem oc_10_85 : ss_PC ((10, 85), (2, 2, mX8_judge, [631, 632, 633, 45, 634])) := ⟨rfl, by decide +kernel⟩
set_option maxRecDepth 100000 in
theorem oc_10_89 : ss_PC ((10, 89), (2, 2, mX9_judge, [1002, 1003, 1004, 54, 1005])) := ⟨rfl, by decide +kernel⟩
set_option maxRecDepth 100000 in
theorem oc_10_90 : ss_PC ((10, 90), (2, 4, mX8_hear, [659, 660, 661, 45, 662])) := ⟨rfl, by decide +kernel⟩
set_option maxRecDepth 100000 in
theorem oc_10_93 : ss_PC ((10, 93), (2, 4, mX9_hear, [1014, 1015, 1016, 54, 1017])) := ⟨rfl, by decide +kernel⟩
set_option maxRecDepth 100000 in
theorem oc_10_94 : ss_PC ((10, 94), (2, 0, mX8_unhear, [667, 668, 669, 45, 670])) := ⟨rfl, by decide +kernel⟩
set_option maxRecDepth 100000 in
theorem oc_10_97 : ss_PC ((10, 97), (2, 0, mX9_unhear, [1019, 1020, 1021, 54, 1022])) := ⟨rfl, by decide +kernel⟩
set_option maxRecDepth 100000 in
theorem oc_10_98 : ss_PC ((10, 98), (2, 1, mX8_secrets, [671, 672, 673, 45, 674])) := ⟨rfl, by decide +kernel⟩
set_option maxRecDepth 100000 in
theorem oc_10_101 : ss_PC ((10, 101), (2, 1, mX9_secrets, [1023, 1024, 1025, 54, 1026])) := ⟨rfl, by decide +kernel⟩
set_option maxRecDepth 100000 in
theorem oc_10_102 : ss_PC ((10, 102), (2, 3, mX8_share, [681, 682, 683, 45, 684])) := ⟨rfl, by decide +kernel⟩
set_option maxRecDepth 100000 in
theorem oc_10_106 : ss_PC ((10, 106), (2, 3, mX9_share, [1027, 1028, 1029, 54, 1030])) := ⟨rfl, by decide +kernel⟩
set_option maxRecDepth 100000 in
theorem oc_10_107 : ss_PC ((10, 107), (2, 2, mX8_muted, [710, 711, 712, 45, 713])) := ⟨rfl, by decide +kernel⟩
set_option maxRecDepth 100000 in
theorem oc_10_111 : ss_PC ((10, 111), (2, 2, mX9_muted, [1044, 1045, 1046, 54, 1047])) := ⟨rfl, by decide +kernel⟩
set_option maxRecDepth 100000 in
theorem oc_10_112 : ss_PC ((10, 112), (2, 1, mX8_seed, [714, 715, 716, 45, 717])) := ⟨rfl, by decide +kernel⟩
set_option maxRecDepth 100000 in
theorem oc_10_116 : ss_PC ((10, 116), (2, 1, mX9_seed, [1049, 1050, 1051, 54, 1052])) := ⟨rfl, by decide +kernel⟩
set_option maxRecDepth 100000 in
theorem oc_10_117 : ss_PC ((10, 117), (2, 1, mX8_drawn, [718, 719, 720, 45, 721])) := ⟨rfl, by decide +kernel⟩
set_option maxRecDepth 100000 in
theorem oc_10_120 : ss_PC ((10, 120), (2, 1, mX9_drawn, [1053, 1054, 1055, 54, 1056])) := ⟨rfl, by decide +kernel⟩
set_option maxRecDepth 100000 in
theorem oc_10_121 : ss_PC ((10, 121), (2, 1, mX8_keep, [728, 729, 730, 45, 731])) := ⟨rfl, by decide +kernel⟩
set_option maxRecDepth 100000 in
theorem oc_10_124 : ss_PC ((10, 124), (2, 1, mX9_keep, [1060, 1061, 1062, 54, 1063])) := ⟨rfl, by decide +kernel⟩
set_option maxRecDepth 100000 in
theorem oc_10_125 : ss_PC ((10, 125), (2, 1, mX8_again, [732, 733, 734, 45, 735])) := ⟨rfl, by decide +kernel⟩
set_option maxRecDepth 100000 in
theorem oc_10_128 : ss_PC ((10, 128), (2, 1, mX9_again, [1064, 1065, 1066, 54, 1067])) := ⟨rfl, by decide +kernel⟩
set_option maxRecDepth 100000 in
theorem oc_10_129 : ss_PC ((10, 129), (2, 1, mX8_count, [736, 737, 738, 45, 739])) := ⟨rfl, by decide +kernel⟩
set_option maxRecDepth 100000 in
theorem oc_10_132 : ss_PC ((10, 132), (2, 1, mX9_count, [1068, 1069, 1070, 54, 1071])) := ⟨rfl, by decide +kernel⟩
theorem ss_tC10 : ∀ e ∈ mm_tC10, ss_PC e := List.forall_mem_cons.mpr ⟨oc_10_9, List.forall_mem_cons.mpr ⟨oc_10_12, List.forall_mem_cons.mpr ⟨oc_10_13, List.forall_mem_cons.mpr ⟨oc_10_17, List.forall_mem_cons.mpr ⟨oc_10_18, List.forall_mem_cons.mpr ⟨oc_10_22, List.forall_mem_cons.mpr ⟨oc_10_23, List.forall_mem_cons.mpr ⟨oc_10_26, List.forall_mem_cons.mpr ⟨oc_10_27, List.forall_mem_cons.mpr ⟨oc_10_30, List.forall_mem_cons.mpr ⟨oc_10_31, List.forall_mem_cons.mpr ⟨oc_10_35, List.forall_mem_cons.mpr ⟨oc_10_36, List.forall_mem_cons.mpr ⟨oc_10_40, List.forall_mem_cons.mpr ⟨oc_10_41, List.forall_mem_cons.mpr ⟨oc_10_44, List.forall_mem_cons.mpr ⟨oc_10_45, List.forall_mem_cons.mpr ⟨oc_10_48, List.forall_mem_cons.mpr ⟨oc_10_49, List.forall_mem_cons.mpr ⟨oc_10_52, List.forall_mem_cons.mpr ⟨oc_10_53, List.forall_mem_cons.mpr ⟨oc_10_56, List.forall_mem_cons.mpr ⟨oc_10_57, List.forall_mem_cons.mpr ⟨oc_10_60, List.forall_mem_cons.mpr ⟨oc_10_61, List.forall_mem_cons.mpr ⟨oc_10_65, List.forall_mem_cons.mpr ⟨oc_10_66, List.forall_mem_cons.mpr ⟨oc_10_69, List.forall_mem_cons.mpr ⟨oc_10_70, List.forall_mem_cons.mpr ⟨oc_10_73, List.forall_mem_cons.mpr ⟨oc_10_74, List.forall_mem_cons.mpr ⟨oc_10_77, List.forall_mem_cons.mpr ⟨oc_10_78, List.forall_mem_cons.mpr ⟨oc_10_82, List.forall_mem_cons.mpr ⟨oc_10_85, List.forall_mem_cons.mpr ⟨oc_10_89, List.forall_mem_cons.mpr ⟨oc_10_90, List.forall_mem_cons.mpr ⟨oc_10_93, List.forall_mem_cons.mpr ⟨oc_10_94, List.forall_mem_cons.mpr ⟨oc_10_97, List.forall_mem_cons.mpr ⟨oc_10_98, List.forall_mem_cons.mpr ⟨oc_10_101, List.forall_mem_cons.mpr ⟨oc_10_102, List.forall_mem_cons.mpr ⟨oc_10_106, List.forall_mem_cons.mpr ⟨oc_10_107, List.forall_mem_cons.mpr ⟨oc_10_111, List.forall_mem_cons.mpr ⟨oc_10_112, List.forall_mem_cons.mpr ⟨oc_10_116, List.forall_mem_cons.mpr ⟨oc_10_117, List.forall_mem_cons.mpr ⟨oc_10_120, List.forall_mem_cons.mpr ⟨oc_10_121, List.forall_mem_cons.mpr ⟨oc_10_124, List.forall_mem_cons.mpr ⟨oc_10_125, List.forall_mem_cons.mpr ⟨oc_10_128, List.forall_mem_cons.mpr ⟨oc_10_129, List.forall_mem_cons.mpr ⟨oc_10_132, fun _ h => absurd h List.not_mem_nil⟩⟩⟩⟩⟩⟩⟩⟩⟩⟩⟩⟩⟩⟩⟩⟩⟩⟩⟩⟩⟩⟩⟩⟩⟩⟩⟩⟩⟩⟩⟩⟩⟩⟩⟩⟩⟩⟩⟩⟩⟩⟩⟩⟩⟩⟩⟩⟩⟩⟩⟩⟩⟩⟩⟩⟩
set_option maxRecDepth 100000 in
theorem oc_11_335 : ss_PC ((11, 335), (2, 0, mJ0_coder_7d493, [344, 345, 346, 55, 347])) := ⟨rfl, by decide +kernel⟩
set_option maxRecDepth 100000 in
theorem oc_11_492 : ss_PC ((11, 492), (2, 0, mJ0_isLatin1_aae02, [334, 335, 336, 55, 337])) := ⟨rfl, by decide +kernel⟩
set_option maxRecDepth 100000 in
theorem oc_11_505 : ss_PC ((11, 505), (2, 0, mJ0_length_8abf5, [340, 341, 342, 55, 343])) := ⟨rfl, by decide +kernel⟩
set_option maxRecDepth 100000 in
theorem oc_11_633 : ss_PC ((11, 633), (2, 2, mJ0_indexOf_7cf53, [330, 331, 332, 55, 333])) := ⟨rfl, by decide +kernel⟩
set_option maxRecDepth 100000 in
theorem oc_11_637 : ss_PC ((11, 637), (0, 4, mJ1_indexOf_4cfef, [348, 349, 56, 350])) := ⟨rfl, by decide +kernel⟩
theorem ss_tC11 : ∀ e ∈ mm_tC11, ss_PC e := List.forall_mem_cons.mpr ⟨oc_11_335, List.forall_mem_cons.mpr ⟨oc_11_492, List.forall_mem_cons.mpr ⟨oc_11_505, List.forall_mem_cons.mpr ⟨oc_11_633, List.forall_mem_cons.mpr ⟨oc_11_637, fun _ h => absurd h List.not_mem_nil⟩⟩⟩⟩⟩
set_option maxRecDepth 100000 in
theorem oc_12_88 : ss_PC ((12, 88), (0, 1, mJ1_canEncode_9a6ad, [351, 352, 56, 353])) := ⟨rfl, by decide +kernel⟩
set_option maxRecDepth 100000 in
theorem oc_12_95 : ss_PC ((12, 95), (0, 4, mJ1_indexOfChar_4cfef, [360, 361, 56, 362])) := ⟨rfl, by decide +kernel⟩
theorem ss_tC12 : ∀ e ∈ mm_tC12, ss_PC e := List.forall_mem_cons.mpr ⟨oc_12_88, List.forall_mem_cons.mpr ⟨oc_12_95, fun _ h => absurd h List.not_mem_nil⟩⟩
theorem ss_tC13 : ∀ e ∈ mm_tC13, ss_PC e := fun _ h => absurd h List.not_mem_nil
theorem ss_tC14 : ∀ e ∈ mm_tC14, ss_PC e := fun _ h => absurd h List.not_mem_nil
theorem ss_tC15 : ∀ e ∈ mm_tC15, ss_PC e := fun _ h => absurd h List.not_mem_nil
theorem ss_tC {c : Nat} : ∀ e ∈ mm_tC c, ss_PC e := by
  match c with
  | 0 => exact ss_tC0
  | 1 => exact ss_tC1
  | 2 => exact ss_tC2
  | 3 => exact ss_tC3
  | 4 => exact ss_tC4
  | 5 => exact ss_tC5
  | 6 => exact ss_tC6
  | 7 => exact ss_tC7
  | 8 => exact ss_tC8
  | 9 => exact ss_tC9
  | 10 => exact ss_tC10
  | 11 => exact ss_tC11
  | 12 => exact ss_tC12
  | 13 => exact ss_tC13
  | 14 => exact ss_tC14
  | 15 => exact ss_tC15
  | n + 16 => exact fun _ h => absurd h List.not_mem_nil
theorem ss_tO : mm_tO.all (fun e => decide (lw_tbl[e.2]? = some (.methodLink (mm_cl e.1.1) e.1.2 objectInit))) = true := by decide +kernel
theorem ss_tH : mm_tH.all (fun e => decide (lw_tbl[e.2.2]? = some (.methodLink (mm_cl e.1.1) e.1.2 (match e.2.1 with | 0 => Lib.Math.max.name | 1 => Lib.Math.min.name | _ => Lib.Math.abs.name)))) = true := by decide +kernel
set_option maxRecDepth 100000 in
theorem ss_w3 : (Cond.static Lib.Math.max.name ∈ lw_g ∧ Cond.static Lib.Math.min.name ∈ lw_g ∧ Cond.static Lib.Math.abs.name ∈ lw_g ∧ Cond.initialized "java/lang/Math" ∈ lw_g) := by
  refine ⟨?_, ?_, ?_, ?_⟩ <;> exact lw_g_of (by decide +kernel) (by decide +kernel)
theorem ss_tA : mm_tA.all (fun e => decide (lw_tbl[e.2]? = some (.methodLink (mm_cl e.1.1) e.1.2 arraycopyName))) = true := by decide +kernel
theorem ss_tN : mm_tN.all (fun e => match vwCl[e.2.1]? with | some q => decide (e.2.2.map (fun p => lw_tbl[p]?) = ([.classLink (mm_cl e.1.1) e.1.2 q.1, .instantiable q.1 q.2.2, .initialized q.1] : List Cond).map some) | none => false) = true := by decide +kernel
theorem ss_tM : mm_tM.all (fun e => decide (lw_tbl[e.2]? = some (.classLink (mm_cl e.1.1) e.1.2 "[[I"))) = true := by decide +kernel
theorem ss_tQ : mm_tQ.all (fun e => decide (lw_tbl[e.2]? = some (.classLink (mm_cl e.1.1) e.1.2 "QuietLines$Lines"))) = true := by decide +kernel
theorem ss_tI : mm_tI.all (fun e => decide (lw_tbl[e.2.2]? = some (.constant (mm_cl e.1.1) e.1.2 e.2.1))) = true := by decide +kernel
theorem ss_tL : mm_tL.all (fun e => decide (lw_tbl[e.2.2]? = some (.constantLong (mm_cl e.1.1) e.1.2 e.2.1))) = true := by decide +kernel
theorem ss_w1 : Cond.instanceMethod objectInit ∈ lw_g ∧ Cond.code objectInit ⟨#[0xb1]⟩ 1 none ∈ lw_g ∧ Cond.native arraycopyName ∈ lw_g ∧ Cond.static arraycopyName ∈ lw_g ∧ Cond.initialized "java/lang/System" ∈ lw_g ∧ Cond.arrayClass .int ∈ lw_g ∧ Cond.arrayClass .boolean ∈ lw_g ∧ Cond.arrayClass .long ∈ lw_g ∧ Cond.fieldLink "QuietLines" 230 "QuietLines" "FACTORIALS" "[I" ∈ lw_g ∧ Cond.fieldLink "java/lang/String" 38 "java/lang/String" "COMPACT_STRINGS" "Z" ∈ lw_g ∧ Cond.fieldLink "java/lang/String" 9 "java/lang/String" "value" "[B" ∈ lw_g ∧ Cond.fieldLink "java/lang/String" 15 "java/lang/String" "coder" "B" ∈ lw_g := by
  refine ⟨?_, ?_, ?_, ?_, ?_, ?_, ?_, ?_, ?_, ?_, ?_, ?_⟩ <;> exact lw_g_of (by decide +kernel) (by decide +kernel)
theorem ss_w2 : Cond.fieldLinkNest "QuietLines$Lines" 34 "QuietLines" "PARTS_OF_KIND" "[I" "QuietLines" ∈ lw_tbl := by decide +kernel

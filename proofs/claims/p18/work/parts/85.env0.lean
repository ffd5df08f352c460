theorem arr_known {s : State} {args : Array Value} {ty : FieldType} (h : (Cond.arrayClass ty).before args s = true) : ∃ c : ClassId, ArrOfT s c ty ∧ s.vm.findClass ("[" ++ ty.toString) = some c := by
  obtain ⟨c, k, comp, h1, h2, h3⟩ := Cond.arrayClass_spec h
  exact ⟨c, fun n z => ⟨fun k h => (by cases h), k, h2, comp, h3⟩, h1⟩
theorem str_known {s : State} {args : Array Value} {i : Nat} {tx : String} (h1 : (Cond.stringRef RX1 i tx).before args s = true) (h2 : (Cond.exactly (.string RX1 i) "java/lang/String").before args s = true) : ∃ a, vk_R RX1 i tx a s := by
  obtain ⟨a, c, cell, k, he, -⟩ := Cond.exactly_spec h2
  exact ⟨a, vk_R.of h1 he⟩
theorem gv_mem {s : State} {b : Nat} (h : (Jvm.Cond.and given_1 narrow_1).before #[Value.ref b] s = true) : ∀ w ∈ flatC (Jvm.Cond.and given_1 narrow_1), w.before #[Value.ref b] s = true := flat_of_before _ h
theorem in_NW : ∀ w ∈ NWl, w ∈ lw_tbl := by decide +kernel
theorem in_EX : ∀ w ∈ EXl, w ∈ lw_tbl := by decide +kernel
theorem in_s134 : Cond.stringRef RX1 134 "x and y are 0 to 7" ∈ lw_tbl := by decide +kernel
theorem in_x134 : Cond.exactly (.string RX1 134) "java/lang/String" ∈ flatC (Jvm.Cond.and given_1 narrow_1) := by decide +kernel
theorem in_s139 : Cond.stringRef RX1 139 "a lot is 0 to 63" ∈ lw_tbl := by decide +kernel
theorem in_x139 : Cond.exactly (.string RX1 139) "java/lang/String" ∈ flatC (Jvm.Cond.and given_1 narrow_1) := by decide +kernel
theorem in_s143 : Cond.stringRef RX1 143 "kind is 3 to 5" ∈ lw_tbl := by decide +kernel
theorem in_x143 : Cond.exactly (.string RX1 143) "java/lang/String" ∈ flatC (Jvm.Cond.and given_1 narrow_1) := by decide +kernel
theorem in_s146 : Cond.stringRef RX1 146 "months are 1 to 60" ∈ lw_tbl := by decide +kernel
theorem in_x146 : Cond.exactly (.string RX1 146) "java/lang/String" ∈ flatC (Jvm.Cond.and given_1 narrow_1) := by decide +kernel
theorem in_s148 : Cond.stringRef RX1 148 "the lot is not drained" ∈ lw_tbl := by decide +kernel
theorem in_x148 : Cond.exactly (.string RX1 148) "java/lang/String" ∈ flatC (Jvm.Cond.and given_1 narrow_1) := by decide +kernel
theorem in_s150 : Cond.stringRef RX1 150 "there are not so many coins" ∈ lw_tbl := by decide +kernel
theorem in_x150 : Cond.exactly (.string RX1 150) "java/lang/String" ∈ flatC (Jvm.Cond.and given_1 narrow_1) := by decide +kernel
theorem in_s29 : Cond.stringRef RX1 29 "only marsh is drained" ∈ lw_tbl := by decide +kernel
theorem in_x29 : Cond.exactly (.string RX1 29) "java/lang/String" ∈ flatC (Jvm.Cond.and given_1 narrow_1) := by decide +kernel
theorem in_s46 : Cond.stringRef RX1 46 "only marsh and drained lots are dug out" ∈ lw_tbl := by decide +kernel
theorem in_x46 : Cond.exactly (.string RX1 46) "java/lang/String" ∈ flatC (Jvm.Cond.and given_1 narrow_1) := by decide +kernel
theorem in_s58 : Cond.stringRef RX1 58 "a bridge needs a canal without one" ∈ lw_tbl := by decide +kernel
theorem in_x58 : Cond.exactly (.string RX1 58) "java/lang/String" ∈ flatC (Jvm.Cond.and given_1 narrow_1) := by decide +kernel
theorem in_s63 : Cond.stringRef RX1 63 "nothing is built there" ∈ lw_tbl := by decide +kernel
theorem in_x63 : Cond.exactly (.string RX1 63) "java/lang/String" ∈ flatC (Jvm.Cond.and given_1 narrow_1) := by decide +kernel
theorem in_s71 : Cond.stringRef RX1 71 "what is 0 to 5" ∈ lw_tbl := by decide +kernel
theorem in_x71 : Cond.exactly (.string RX1 71) "java/lang/String" ∈ flatC (Jvm.Cond.and given_1 narrow_1) := by decide +kernel
theorem in_s77 : Cond.stringRef RX1 77 "what is 0 to 12" ∈ lw_tbl := by decide +kernel
theorem in_x77 : Cond.exactly (.string RX1 77) "java/lang/String" ∈ flatC (Jvm.Cond.and given_1 narrow_1) := by decide +kernel
theorem in_s89 : Cond.stringRef RX1 89 "both lots must be land" ∈ lw_tbl := by decide +kernel
theorem in_x89 : Cond.exactly (.string RX1 89) "java/lang/String" ∈ flatC (Jvm.Cond.and given_1 narrow_1) := by decide +kernel
theorem in_s97 : Cond.stringRef RX1 97 "the lot must be water" ∈ lw_tbl := by decide +kernel
theorem in_x97 : Cond.exactly (.string RX1 97) "java/lang/String" ∈ flatC (Jvm.Cond.and given_1 narrow_1) := by decide +kernel
theorem in_s108 : Cond.stringRef RX1 108 "what is 1 to 12" ∈ lw_tbl := by decide +kernel
theorem in_x108 : Cond.exactly (.string RX1 108) "java/lang/String" ∈ flatC (Jvm.Cond.and given_1 narrow_1) := by decide +kernel
theorem law_BLT {s : State} {b : Nat} (hts : ∀ w ∈ lw_tbl, w.before #[Value.ref b] s = true) (hf : ∀ w ∈ flatC (Jvm.Cond.and given_1 narrow_1), w.before #[Value.ref b] s = true) : BLT (fun q => s.heap.size ≤ q) s s.heap := by
  have hA : ∀ a : Nat, a < s.heap.size → ¬ s.heap.size ≤ a := fun a h => Nat.not_le.mpr h
  obtain ⟨t, ht, hT⟩ := va_Tof (tm := .static "CanalCityLaw" "COSTS" "[I") (ty := .int) (N := 7) (f := blt) (by decide) (hf (.arrayOf (.static "CanalCityLaw" "COSTS" "[I") .int) (by decide +kernel)) (va_eqt (hf (.eq (.length (.static "CanalCityLaw" "COSTS" "[I")) (.int 7)) (by decide +kernel))) (fun j hj => by
    rcases (show j = 0 ∨ j = 1 ∨ j = 2 ∨ j = 3 ∨ j = 4 ∨ j = 5 ∨ j = 6 by omega) with rfl | rfl | rfl | rfl | rfl | rfl | rfl
    · exact va_eqt (hf (.eq (.elem (.static "CanalCityLaw" "COSTS" "[I") (.int 0)) (.int 0)) (by decide +kernel))
    · exact va_eqt (hf (.eq (.elem (.static "CanalCityLaw" "COSTS" "[I") (.int 1)) (.int 0)) (by decide +kernel))
    · exact va_eqt (hf (.eq (.elem (.static "CanalCityLaw" "COSTS" "[I") (.int 2)) (.int 0)) (by decide +kernel))
    · exact va_eqt (hf (.eq (.elem (.static "CanalCityLaw" "COSTS" "[I") (.int 3)) (.int 4)) (by decide +kernel))
    · exact va_eqt (hf (.eq (.elem (.static "CanalCityLaw" "COSTS" "[I") (.int 4)) (.int 6)) (by decide +kernel))
    · exact va_eqt (hf (.eq (.elem (.static "CanalCityLaw" "COSTS" "[I") (.int 5)) (.int 5)) (by decide +kernel))
    · exact va_eqt (hf (.eq (.elem (.static "CanalCityLaw" "COSTS" "[I") (.int 6)) (.int 7)) (by decide +kernel))) hA
  exact ⟨t, va_Zof (hts (.laysStatic "CanalCityLaw" "COSTS" "[I") (by decide +kernel)) (hts (.initialized "CanalCityLaw") (by decide +kernel)) ht hA, hT⟩
theorem over_known {s : State} {args : Array Value} {t : FieldType} (h : (Cond.arrayOver (.array t)).before args s = true) : ∃ c : ClassId, ArrOfT s c (.array t) ∧ s.vm.findClass ("[" ++ (FieldType.array t).toString) = some c := by
  obtain ⟨comp, c, k, h1, h2, h3, h4, h5⟩ := arrayOverA_spec h
  exact ⟨c, fun n z => ⟨fun k h => (by cases h), k, h3, comp, h4⟩, h5⟩
theorem law_env {p : Program} {l : Launch} {s : State} {m : MethodId} {meth : Method} {c : Code} {b L : Nat} {xs : Nat → Int32} (hflags : l.flags = flags0) (C0 : lw_At p s m meth c b L xs) : ∃ (G : va_G) (cs : Nat → ClassId), LwE p l s m c b L xs G cs (fun q => s.heap.size ≤ q) := by
  obtain ⟨hx, hb, hr, hml, hown, hts, hX, hbl, hlocks, hgv⟩ := C0
  have hf := gv_mem hgv
  have hA : ∀ a : Nat, a < s.heap.size → ¬ s.heap.size ≤ a := fun a h => Nat.not_le.mpr h
  obtain ⟨e0, a0, b0⟩ := arr_known (hts (.arrayClass .int) (by decide +kernel))
  obtain ⟨e1, a1, b1⟩ := over_known (hts (.arrayOver (.array .int)) (by decide +kernel))
  obtain ⟨e2, a2, b2⟩ := over_known (hts (.arrayOver (.array (.array .int))) (by decide +kernel))
  obtain ⟨e3, a3, b3⟩ := arr_known (hts (.arrayClass .boolean) (by decide +kernel))
  obtain ⟨e4, a4, b4⟩ := over_known (hts (.arrayOver (.array .boolean)) (by decide +kernel))
  obtain ⟨c0, i0, k0⟩ := u_known hts inX0 (hts (.instantiable RX0 13) (by decide +kernel))
  obtain ⟨c1, i1, k1⟩ := u_known hts inX1 (hts (.instantiable RX1 2) (by decide +kernel))
  obtain ⟨c2, i2, k2⟩ := u_known hts inX2 (hts (.instantiable RX2 4) (by decide +kernel))
  have hcl : ∀ (j : Nat) (q : vw_C), vwCl[j]? = some q → u_Kn s q.1 q.2.1 q.2.2 ((fun z => match z with | 0 => c0 | 1 => c1 | _ => c2) j) ((fun z => match z with | 0 => i0 | 1 => i1 | _ => i2) j) := by
    intro j q hq
    have hj : j < 3 := (List.getElem?_eq_some_iff.mp hq).1
    rcases (show j = 0 ∨ j = 1 ∨ j = 2 by omega) with rfl | rfl | rfl
    · cases hq; exact k0
    · cases hq; exact k1
    · cases hq; exact k2
  have all : ∀ (k : Nat) (q : ClassId × FieldType), (TYX (fun z => match z with | 0 => e0 | 1 => e1 | 2 => e2 | 3 => e3 | _ => e4))[k]? = some q → ArrOfT s q.1 q.2 ∧ va_RA s q.1 q.2 := by
    intro k q hq
    have hk : k < 5 := (List.getElem?_eq_some_iff.mp hq).1
    rcases (show k = 0 ∨ k = 1 ∨ k = 2 ∨ k = 3 ∨ k = 4 by omega) with rfl | rfl | rfl | rfl | rfl
    · cases hq; exact ⟨a0, b0⟩
    · cases hq; exact ⟨a1, b1⟩
    · cases hq; exact ⟨a2, b2⟩
    · cases hq; exact ⟨a3, b3⟩
    · cases hq; exact ⟨a4, b4⟩
  refine ⟨(fun z => match z with | 0 => c0 | 1 => c1 | _ => c2, fun z => match z with | 0 => i0 | 1 => i1 | _ => i2), (fun z => match z with | 0 => e0 | 1 => e1 | 2 => e2 | 3 => e3 | _ => e4), hx, hb, hml, hown, fun w h => hts w (wsL_law_in w h), ?_, ⟨hcl, all⟩, ⟨?_, ⟨?_, ?_, ?_⟩, ⟨?_, ?_⟩⟩, ?_, ?_, ?_, law_BLT hts hf, fun _ h => h, hX, hbl, hA _ hbl⟩
  · unfold Launch.stackTraces
    rw [hflags]
    decide +kernel
  · exact fun w hw => va_Nw.of (NW_on w hw) (hts w (in_NW w hw))
  · exact over_moved (Vm.Alike.refl s.vm) (hts (.arrayOver (.array .int)) (by decide +kernel))
  · exact over_moved (Vm.Alike.refl s.vm) (hts (.arrayOver (.array (.array .int))) (by decide +kernel))
  · exact over_moved (Vm.Alike.refl s.vm) (hts (.arrayOver (.array .boolean)) (by decide +kernel))
  · exact va_Nw.of rfl (hts (.classLink RX2 57 ("[" ++ (FieldType.array (.array .int)).toString)) (by decide +kernel))
  · exact arrC_same rfl (hts (.arrayClass .int) (by decide +kernel))
  · exact ⟨str_known (hts _ in_s134) (hf _ in_x134), str_known (hts _ in_s139) (hf _ in_x139), str_known (hts _ in_s143) (hf _ in_x143), str_known (hts _ in_s146) (hf _ in_x146), str_known (hts _ in_s148) (hf _ in_x148), str_known (hts _ in_s150) (hf _ in_x150), str_known (hts _ in_s29) (hf _ in_x29), str_known (hts _ in_s46) (hf _ in_x46), str_known (hts _ in_s58) (hf _ in_x58), str_known (hts _ in_s63) (hf _ in_x63), str_known (hts _ in_s71) (hf _ in_x71), str_known (hts _ in_s77) (hf _ in_x77), str_known (hts _ in_s89) (hf _ in_x89), str_known (hts _ in_s97) (hf _ in_x97), str_known (hts _ in_s108) (hf _ in_x108)⟩
  · exact fun w hw => va_Nw.of (EXl_tab hw) (hts w (in_EX w hw))
  · exact ⟨vx_Zqof (hts (.laysStatic Bundle.tN "UNASSIGNED_STACK" Bundle.steD) (by decide +kernel)) (hts (.initialized Bundle.tN) (by decide +kernel)) (hf (.isRef (.static Bundle.tN "UNASSIGNED_STACK" Bundle.steD)) (by decide +kernel)) hA, vx_Zqof (hts (.laysStatic Bundle.tN "SUPPRESSED_SENTINEL" Bundle.listD) (by decide +kernel)) (hts (.initialized Bundle.tN) (by decide +kernel)) (hf (.isRef (.static Bundle.tN "SUPPRESSED_SENTINEL" Bundle.listD)) (by decide +kernel)) hA⟩

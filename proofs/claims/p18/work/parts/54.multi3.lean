/-! new int[2][n][m]: the outer array, then two of two dimensions -/
section M3
variable {E : CtlPost} {e : Env} {d : Bool} {acts : List Action} {s : State}
/-- two arrays of arrays, and the array of both -/
def m3a (s : State) (c c1 c2 : ClassId) (N M : Nat) (dv : Value) : State := Jvm.Free.Multi.fill (s.pushCell (Jvm.Free.Multi.outerC c 2 s.heap.size 0)) c1 c2 N M dv N
def m3b (s : State) (c c1 c2 : ClassId) (N M : Nat) (dv : Value) : State := (m3a s c c1 c2 N M dv).setCell s.heap.size ((Jvm.Free.Multi.outerC c 2 s.heap.size 0).setSlot 0 (.ref (s.heap.size + 1)))
def m3c (s : State) (c c1 c2 : ClassId) (N M : Nat) (dv : Value) : State := Jvm.Free.Multi.fill (m3b s c c1 c2 N M dv) c1 c2 N M dv N
def m3o (c : ClassId) (h0 N : Nat) : Cell := ((Jvm.Free.Multi.outerC c 2 h0 0).setSlot 0 (.ref (h0 + 1))).setSlot 1 (.ref (h0 + 2 + N))
def m3 (s : State) (c c1 c2 : ClassId) (N M : Nat) (dv : Value) : State := (m3c s c c1 c2 N M dv).setCell s.heap.size (m3o c s.heap.size N)
theorem m3_facts (s : State) (c c1 c2 : ClassId) (N M : Nat) (dv : Value) :
    ((m3a s c c1 c2 N M dv).heap.size = s.heap.size + 2 + N ∧ (m3a s c c1 c2 N M dv).vm = s.vm ∧ (m3a s c c1 c2 N M dv).slotsUsed = s.slotsUsed + 2 + N + N * M ∧ (m3a s c c1 c2 N M dv).heap[s.heap.size]? = some (Jvm.Free.Multi.outerC c 2 s.heap.size 0)) ∧
    ((m3b s c c1 c2 N M dv).heap.size = s.heap.size + 2 + N ∧ (m3b s c c1 c2 N M dv).vm = s.vm ∧ (m3b s c c1 c2 N M dv).slotsUsed = s.slotsUsed + 2 + N + N * M ∧ (m3b s c c1 c2 N M dv).heap[s.heap.size]? = some ((Jvm.Free.Multi.outerC c 2 s.heap.size 0).setSlot 0 (.ref (s.heap.size + 1)))) ∧
    ((m3c s c c1 c2 N M dv).heap.size = s.heap.size + 3 + 2 * N ∧ (m3c s c c1 c2 N M dv).vm = s.vm ∧ (m3c s c c1 c2 N M dv).slotsUsed = s.slotsUsed + 2 + 2 * N + 2 * (N * M) ∧ (m3c s c c1 c2 N M dv).heap[s.heap.size]? = some ((Jvm.Free.Multi.outerC c 2 s.heap.size 0).setSlot 0 (.ref (s.heap.size + 1)))) := by
  have hp : (s.pushCell (Jvm.Free.Multi.outerC c 2 s.heap.size 0)).heap.size = s.heap.size + 1 := by simp
  have hu : (s.pushCell (Jvm.Free.Multi.outerC c 2 s.heap.size 0)).slotsUsed = s.slotsUsed + 2 := by simp [Jvm.Free.Multi.outerC]
  obtain ⟨a1, a2, a3, a4⟩ := Jvm.Free.Multi.fill_facts (s.pushCell (Jvm.Free.Multi.outerC c 2 s.heap.size 0)) c1 c2 N M dv N
  have a0 : (m3a s c c1 c2 N M dv).heap[s.heap.size]? = some (Jvm.Free.Multi.outerC c 2 s.heap.size 0) := by
    show (Jvm.Free.Multi.fill (s.pushCell (Jvm.Free.Multi.outerC c 2 s.heap.size 0)) c1 c2 N M dv N).heap[s.heap.size]? = _
    rw [Jvm.Free.Multi.fill_old (a := s.heap.size) _ c1 c2 N M dv (by rw [hp]; exact Nat.lt_succ_self _) N]
    exact State.heap_pushCell_size _ _
  have f1 : (m3a s c c1 c2 N M dv).heap.size = s.heap.size + 2 + N := by
    show (Jvm.Free.Multi.fill (s.pushCell (Jvm.Free.Multi.outerC c 2 s.heap.size 0)) c1 c2 N M dv N).heap.size = _
    rw [a1, hp]
  have f2 : (m3a s c c1 c2 N M dv).vm = s.vm := a3.trans (by simp)
  have f3 : (m3a s c c1 c2 N M dv).slotsUsed = s.slotsUsed + 2 + N + N * M := a4.trans (by rw [hu])
  have b0 : (m3b s c c1 c2 N M dv).heap[s.heap.size]? = some ((Jvm.Free.Multi.outerC c 2 s.heap.size 0).setSlot 0 (.ref (s.heap.size + 1))) := State.heap_setCell_self a0
  have b1 : (m3b s c c1 c2 N M dv).heap.size = s.heap.size + 2 + N := by rw [← f1]; simp [m3b, State.setCell]
  have b2 : (m3b s c c1 c2 N M dv).vm = s.vm := by rw [← f2]; simp [m3b]
  have b3 : (m3b s c c1 c2 N M dv).slotsUsed = s.slotsUsed + 2 + N + N * M := by rw [← f3]; simp [m3b]
  obtain ⟨c1', c2', c3', c4'⟩ := Jvm.Free.Multi.fill_facts (m3b s c c1 c2 N M dv) c1 c2 N M dv N
  refine ⟨⟨f1, f2, f3, a0⟩, ⟨b1, b2, b3, b0⟩, ?_, c3'.trans b2, ?_, ?_⟩
  · show (Jvm.Free.Multi.fill (m3b s c c1 c2 N M dv) c1 c2 N M dv N).heap.size = _
    rw [c1', b1]; omega
  · show (Jvm.Free.Multi.fill (m3b s c c1 c2 N M dv) c1 c2 N M dv N).slotsUsed = _
    rw [c4', b3]; omega
  · show (Jvm.Free.Multi.fill (m3b s c c1 c2 N M dv) c1 c2 N M dv N).heap[s.heap.size]? = _
    rw [Jvm.Free.Multi.fill_old (a := s.heap.size) _ c1 c2 N M dv (by rw [b1]; exact Nat.lt_of_lt_of_le (Nat.lt_add_of_pos_right (by decide : 0 < 2)) (Nat.le_add_right _ _)) N]
    exact b0
theorem wp_make3 {c c1 c2 c3 : ClassId} {k k1 k2 : Class} {t0 t1 type : FieldType} {n m : Int32} (hk : s.vm.classes[c]? = some k) (hkind : k.kind = .array c1 t0) (href : t0.isReference = true)
    (hk1 : s.vm.classes[c1]? = some k1) (hkind1 : k1.kind = .array c2 t1) (href1 : t1.isReference = true) (hk2 : s.vm.classes[c2]? = some k2) (hkind2 : k2.kind = .array c3 type) (hn : ¬ n < 0) (hm : ¬ m < 0)
    (hl0 : ¬ 2 > e.platform.arrayLengthLimit) (hh0 : ¬ 2 * componentBytes t0 > e.platform.maxHeapBytes)
    (hl1 : ¬ n.toNatClampNeg > e.platform.arrayLengthLimit) (hh1 : ¬ n.toNatClampNeg * componentBytes t1 > e.platform.maxHeapBytes)
    (hl2 : ¬ m.toNatClampNeg > e.platform.arrayLengthLimit) (hh2 : ¬ m.toNatClampNeg * componentBytes type > e.platform.maxHeapBytes)
    (hdf : fits type (defaultValue type) = true) (hdd : (defaultValue type).isDefault = true)
    (hc : s.heap.size + 3 + 2 * n.toNatClampNeg ≤ e.platform.maxCells) (hs : s.slotsUsed + 2 + 2 * n.toNatClampNeg + 2 * (n.toNatClampNeg * m.toNatClampNeg) ≤ e.platform.maxSlots)
    {Q : Addr → Pre} (hq : ∀ d' acts', Q s.heap.size d' acts' (m3 s c c1 c2 n.toNatClampNeg m.toNatClampNeg (defaultValue type))) :
    wp (Jvm.Op.multianewarray.make c [2, n, m]) Q E e d acts s := by
  have hfind : ([n, m].find? (· < 0)) = none := by simp [hn, hm]
  obtain ⟨⟨a1, a2, a3, a0⟩, ⟨b1, b2, b3, b0⟩, ⟨d1, d2, d3, d0⟩⟩ := m3_facts s c c1 c2 n.toNatClampNeg m.toNatClampNeg (defaultValue type)
  rw [Jvm.Op.multianewarray.make]
  simp only [wp_bind', W.ite, show ¬ ((2 : Int32) < 0) by decide, if_false, wp_pure', W.theClass, hk, hkind, Option.some.injEq, exists_eq_left']
  refine Jvm.Free.Multi.wp_newArray hk hkind hl0 hh0 (Jvm.Free.Multi.refFits href _ (Or.inl rfl)) rfl (by omega) (by show s.slotsUsed + 2 ≤ _; omega) ?_
  simp only [hfind]
  rw [ite_self, wp_bind', Std.Legacy.Range.forIn_eq_forIn_range']
  have hsz : ([:(2 : Int32).toNatClampNeg] : Std.Legacy.Range).size = 2 := by decide
  rw [hsz]
  show wp (forIn [0, 1] PUnit.unit _) _ E e d acts (s.pushCell (Jvm.Free.Multi.outerC c 2 s.heap.size 0))
  have hmul : n.toNatClampNeg * m.toNatClampNeg ≤ 2 * (n.toNatClampNeg * m.toNatClampNeg) := by omega
  have hp : (s.pushCell (Jvm.Free.Multi.outerC c 2 s.heap.size 0)).heap.size = s.heap.size + 1 := by simp
  have hu : (s.pushCell (Jvm.Free.Multi.outerC c 2 s.heap.size 0)).slotsUsed = s.slotsUsed + 2 := by simp [Jvm.Free.Multi.outerC]
  have hv : (s.pushCell (Jvm.Free.Multi.outerC c 2 s.heap.size 0)).vm = s.vm := by simp
  rw [List.forIn_cons]
  simp only [wp_bind']
  refine Jvm.Free.Multi.wp_make2 (by rw [hv]; exact hk1) hkind1 href1 (by rw [hv]; exact hk2) hkind2 hn hm hl1 hh1 hl2 hh2 hdf hdd (by rw [hp]; omega) (by rw [hu]; omega) (fun d1' acts1 => ?_)
  rw [hp]
  simp only [wp_bind', W.writeLoc, wp_pure']
  refine ⟨Jvm.Free.Multi.outerC c 2 s.heap.size 0, a0, by simp [Jvm.Free.Multi.outerC], by simp [Jvm.Free.Multi.outerC], ?_, ?_⟩
  · show State.fitsSlot (m3a s c c1 c2 n.toNatClampNeg m.toNatClampNeg (defaultValue type)) _ _ _ _ = true
    simp [State.fitsSlot, State.slotType?, Jvm.Free.Multi.outerC, a2, hk, hkind, Jvm.Free.Multi.refFits href _ (Or.inr ⟨_, rfl⟩)]
  rw [List.forIn_cons]
  simp only [wp_bind']
  show wp _ _ E e _ _ (m3b s c c1 c2 n.toNatClampNeg m.toNatClampNeg (defaultValue type))
  refine Jvm.Free.Multi.wp_make2 (by rw [b2]; exact hk1) hkind1 href1 (by rw [b2]; exact hk2) hkind2 hn hm hl1 hh1 hl2 hh2 hdf hdd (by rw [b1]; omega) (by rw [b3]; omega) (fun d2' acts2 => ?_)
  rw [b1]
  simp only [wp_bind', W.writeLoc, wp_pure']
  refine ⟨(Jvm.Free.Multi.outerC c 2 s.heap.size 0).setSlot 0 (.ref (s.heap.size + 1)), d0, by simp [Jvm.Free.Multi.outerC, Cell.setSlot], by simp [Jvm.Free.Multi.outerC, Cell.setSlot], ?_, ?_⟩
  · show State.fitsSlot (m3c s c c1 c2 n.toNatClampNeg m.toNatClampNeg (defaultValue type)) _ _ _ _ = true
    simp [State.fitsSlot, State.slotType?, Jvm.Free.Multi.outerC, Cell.setSlot, d2, hk, hkind, Jvm.Free.Multi.refFits href _ (Or.inr ⟨_, rfl⟩)]
  rw [List.forIn_nil]
  simp only [wp_pure']
  exact hq _ _
end M3

theorem m3_setTop (s : State) (f : JFrame) (c c1 c2 : ClassId) (N M : Nat) (dv : Value) : m3 (s.setTop f) c c1 c2 N M dv = (m3 s c c1 c2 N M dv).setTop f := by
  simp only [m3, m3c, m3b, m3a, State.heap_setTop, State.pushCell_setTop, Jvm.Free.Multi.fill_setTop, State.setCell_setTop]
theorem m3_heap (s : State) (c c1 c2 : ClassId) (N M : Nat) (dv : Value) :
    (m3 s c c1 c2 N M dv).heap.size = s.heap.size + 3 + 2 * N ∧ (∀ a, a < s.heap.size → (m3 s c c1 c2 N M dv).heap[a]? = s.heap[a]?) ∧ (m3 s c c1 c2 N M dv).heap[s.heap.size]? = some (m3o c s.heap.size N) ∧
    (m3 s c c1 c2 N M dv).heap[s.heap.size + 1]? = some (Jvm.Free.Multi.outerC c1 N (s.heap.size + 1) N) ∧ (∀ j, j < N → (m3 s c c1 c2 N M dv).heap[s.heap.size + 2 + j]? = some (Jvm.Free.Multi.innerC c2 M dv)) ∧
    (m3 s c c1 c2 N M dv).heap[s.heap.size + 2 + N]? = some (Jvm.Free.Multi.outerC c1 N (s.heap.size + 2 + N) N) ∧ (∀ j, j < N → (m3 s c c1 c2 N M dv).heap[s.heap.size + 3 + N + j]? = some (Jvm.Free.Multi.innerC c2 M dv)) := by
  obtain ⟨⟨a1, a2, a3, a0⟩, ⟨b1, b2, b3, b0⟩, ⟨d1, d2, d3, d0⟩⟩ := m3_facts s c c1 c2 N M dv
  have hp : (s.pushCell (Jvm.Free.Multi.outerC c 2 s.heap.size 0)).heap.size = s.heap.size + 1 := by simp
  obtain ⟨x1, x2, -, -⟩ := Jvm.Free.Multi.fill_facts (s.pushCell (Jvm.Free.Multi.outerC c 2 s.heap.size 0)) c1 c2 N M dv N
  obtain ⟨y1, y2, -, -⟩ := Jvm.Free.Multi.fill_facts (m3b s c c1 c2 N M dv) c1 c2 N M dv N
  have z1 : ∀ a, a ≠ s.heap.size → (m3 s c c1 c2 N M dv).heap[a]? = (m3c s c c1 c2 N M dv).heap[a]? := fun a ha => State.heap_setCell_other (Ne.symm ha)
  have z2 : ∀ a, a < s.heap.size + 2 + N → (m3c s c c1 c2 N M dv).heap[a]? = (m3b s c c1 c2 N M dv).heap[a]? := fun a ha => Jvm.Free.Multi.fill_old _ c1 c2 N M dv (by rw [b1]; exact ha) N
  have z3 : ∀ a, a ≠ s.heap.size → (m3b s c c1 c2 N M dv).heap[a]? = (m3a s c c1 c2 N M dv).heap[a]? := fun a ha => State.heap_setCell_other (Ne.symm ha)
  have z4 : ∀ a, a < s.heap.size → (m3a s c c1 c2 N M dv).heap[a]? = s.heap[a]? := fun a ha => (Jvm.Free.Multi.fill_old (a := a) _ c1 c2 N M dv (by rw [hp]; exact Nat.lt_succ_of_lt ha) N).trans (State.heap_pushCell_of_lt _ _ ha)
  refine ⟨?_, fun a ha => ?_, State.heap_setCell_self d0, ?_, fun j hj => ?_, ?_, fun j hj => ?_⟩
  · rw [← d1]; simp [m3, State.setCell]
  · rw [z1 a (by omega), z2 a (by omega), z3 a (by omega), z4 a ha]
  · rw [z1 _ (by omega), z2 _ (by omega), z3 _ (by omega)]
    rw [hp] at x2
    exact x2
  · rw [z1 _ (by omega), z2 _ (by omega), z3 _ (by omega)]
    have := Jvm.Free.Multi.fill_inner (s.pushCell (Jvm.Free.Multi.outerC c 2 s.heap.size 0)) c1 c2 N M dv N j hj
    rw [hp] at this
    exact this
  · rw [z1 _ (by omega)]
    rw [b1] at y2
    exact y2
  · rw [z1 _ (by omega)]
    have := Jvm.Free.Multi.fill_inner (m3b s c c1 c2 N M dv) c1 c2 N M dv N j hj
    rw [b1, show s.heap.size + 2 + N + 1 + j = s.heap.size + 3 + N + j by omega] at this
    exact this
theorem m3_out (c : ClassId) (h0 N : Nat) : m3o c h0 N = arrV c 2 (fun j => va_rf (if j < 2 then some (if j = 0 then h0 + 1 else h0 + 2 + N) else none)) := by
  unfold m3o
  rw [vr_outer, arrV_store, arrV_store]
  refine congrArg (arrV c 2) (funext fun j => ?_)
  by_cases e1 : j = 1
  · subst e1
    simp [updV, va_rf]
  · by_cases e0 : j = 0
    · subst e0
      simp [updV, va_rf]
    · simp [updV, va_rf, e0, e1, show ¬ j < 2 by omega]
section M3S
variable {p : Program} {l : Launch} {e : Env} {R : Room} {s : State} {m : MethodId} {args : Array Value} {below : List Frame} {meth : Method} {c : Code} {T : State} {locs : List Loc} {cells slots : Nat}
theorem m3_stand (X : Stand p l e R s m args below meth c T locs cells slots) (hexec : p.tables.exec = Jvm.exec) {own : String} {index : Nat} {ty : FieldType}
    (hown : s.vm.findClass own = some m.cls) (hclink : (Cond.classLink own index ("[" ++ (FieldType.array (.array ty)).toString)).before args s = true)
    (hover : (Cond.arrayOver (.array (.array ty))).before args s = true) (hover1 : (Cond.arrayOver (.array ty)).before args s = true) (harr : (Cond.arrayClass ty).before args s = true)
    {g : JFrame} (hg : g.method = m) (hdg : decode c.code g.pc = .ok (.multianewarray index 3, 4)) {n k : Int32} {rest : List Value} (hstack : g.stack = .int k :: .int n :: .int 2 :: rest)
    (hn : ¬ n < 0) (hk : ¬ k < 0) (hb1 : n.toNatClampNeg * 4 ≤ 536870912) (hb2 : k.toNatClampNeg * componentBytes ty ≤ 536870912) (hb3 : k.toNatClampNeg ≤ 536870912)
    (hdf : fits ty (defaultValue ty) = true) (hdd : (defaultValue ty).isDefault = true)
    (hcells : cells + (3 + 2 * n.toNatClampNeg) ≤ R.cells) (hslots : slots + (2 + 2 * n.toNatClampNeg + 2 * (n.toNatClampNeg * k.toNatClampNeg)) ≤ R.slots) :
    ∃ (vm₁ : Vm) (cA c1 c2 : ClassId), s.vm.findClass ("[" ++ (FieldType.array (.array ty)).toString) = some cA ∧ s.vm.findClass (FieldType.array (.array ty)).toString = some c1 ∧ s.vm.findClass (FieldType.array ty).toString = some c2 ∧
      Stand p l e R s m args below meth c (m3 (T.setVm vm₁) cA c1 c2 n.toNatClampNeg k.toNatClampNeg (defaultValue ty)) locs (cells + (3 + 2 * n.toNatClampNeg)) (slots + (2 + 2 * n.toNatClampNeg + 2 * (n.toNatClampNeg * k.toNatClampNeg))) ∧
      ∀ target, Steps p.tables e below ((m3 (T.setVm vm₁) cA c1 c2 n.toNatClampNeg k.toNatClampNeg (defaultValue ty)).setTop { g with pc := g.pc + 4, stack := .ref T.heap.size :: rest }) target →
        Steps p.tables e below (T.setTop g) target := by
  subst hg
  have hpl : e.platform.magicAccessors = ({} : Platform).magicAccessors := by rw [X.admits.platform]
  obtain ⟨c1, cA, kA, hc1, hkA, hkindA, hnameA⟩ := Cond.arrayOver_specA hover
  obtain ⟨c2, c1', k1, hc2, hk1, hkind1, hname1⟩ := Cond.arrayOver_specA hover1
  obtain ⟨c2', k2, c3, hc2', hk2, hkind2⟩ := Cond.arrayClass_spec harr
  have e1 : c1' = c1 := Option.some.inj ((show s.vm.findClass (FieldType.array (.array ty)).toString = some c1' from hname1).symm.trans hc1)
  subst e1
  have e2 : c2' = c2 := Option.some.inj (hc2'.symm.trans hc2)
  subst e2
  obtain ⟨c0, hfc0, hcl⟩ := Cond.classLink_spec hown hclink e.platform hpl
  cases hnameA.symm.trans hfc0
  obtain ⟨hg₁, hwarm₁, hready₁⟩ := State.classEntry (e := e) X.warmed hcl
  generalize T.vm.noted g.method.cls index (.cls cA) = vm₁ at hg₁ hwarm₁ hready₁
  have hal : s.vm.Alike vm₁ := hwarm₁.alike
  obtain ⟨kA₁, hkA₁, heA⟩ := hal.2.2 _ _ hkA
  obtain ⟨k1₁, hk1₁, he1⟩ := hal.2.2 _ _ hk1
  obtain ⟨k2₁, hk2₁, he2⟩ := hal.2.2 _ _ hk2
  have hkindA₁ : kA₁.kind = .array c1' (.array (.array ty)) := by rw [heA]; exact hkindA
  have hkind1₁ : k1₁.kind = .array c2' (.array ty) := by rw [he1]; exact hkind1
  have hkind2₁ : k2₁.kind = .array c3 ty := by rw [he2]; exact hkind2
  have X₁ := X.noted hwarm₁
  obtain ⟨hr1, hr2⟩ := X.roomAbove hcells hslots
  have hT1 : (T.setVm vm₁).heap.size = T.heap.size := rfl
  obtain ⟨⟨a1, a2, a3, a0⟩, ⟨b1, b2, b3, b0⟩, ⟨d1, d2, d3, d0⟩⟩ := m3_facts (T.setVm vm₁) cA c1' c2' n.toNatClampNeg k.toNatClampNeg (defaultValue ty)
  have XF : Stand p l e R s g.method args below meth c (m3 (T.setVm vm₁) cA c1' c2' n.toNatClampNeg k.toNatClampNeg (defaultValue ty)) locs (cells + (3 + 2 * n.toNatClampNeg)) (slots + (2 + 2 * n.toNatClampNeg + 2 * (n.toNatClampNeg * k.toNatClampNeg))) := by
    have Y1 := X₁.pushed (Jvm.Free.Multi.outerC cA 2 T.heap.size 0)
    rw [(Jvm.Free.Multi.outerC_facts cA 2 T.heap.size 0).2.2] at Y1
    have Y2 := Y1.filled c1' c2' n.toNatClampNeg k.toNatClampNeg (defaultValue ty) n.toNatClampNeg
    have Y3 := Y2.stored a0 0 (.ref (T.heap.size + 1))
    have Y4 := Stand.filled (T := m3b (T.setVm vm₁) cA c1' c2' n.toNatClampNeg k.toNatClampNeg (defaultValue ty)) Y3 c1' c2' n.toNatClampNeg k.toNatClampNeg (defaultValue ty) n.toNatClampNeg
    have Y5 := Y4.stored d0 1 (.ref (T.heap.size + 2 + n.toNatClampNeg))
    rw [List.append_assoc, List.append_assoc, List.append_assoc] at Y5
    have Y6 := Y5.dropFresh (fun x hx => by
      have hG := X.heapGrown
      simp only [List.mem_append, List.mem_map, List.mem_singleton, List.mem_range] at hx
      rcases hx with ⟨j, -, rfl⟩ | rfl | ⟨j, -, rfl⟩ | rfl
      · show s.heap.size ≤ ((T.setVm vm₁).pushCell (Jvm.Free.Multi.outerC cA 2 T.heap.size 0)).heap.size
        have : ((T.setVm vm₁).pushCell (Jvm.Free.Multi.outerC cA 2 T.heap.size 0)).heap.size = T.heap.size + 1 := by simp
        omega
      · exact hG
      · show s.heap.size ≤ (m3b (T.setVm vm₁) cA c1' c2' n.toNatClampNeg k.toNatClampNeg (defaultValue ty)).heap.size
        rw [b1, hT1]
        omega
      · exact hG)
    have ec : cells + 1 + 1 + n.toNatClampNeg + 1 + n.toNatClampNeg = cells + (3 + 2 * n.toNatClampNeg) := by omega
    have es : slots + 2 + n.toNatClampNeg + n.toNatClampNeg * k.toNatClampNeg + n.toNatClampNeg + n.toNatClampNeg * k.toNatClampNeg = slots + (2 + 2 * n.toNatClampNeg + 2 * (n.toNatClampNeg * k.toNatClampNeg)) := by omega
    rw [ec, es] at Y6
    exact Y6
  refine ⟨vm₁, cA, c1', c2', hnameA, hc1, hc2, XF, fun target hrest => ?_⟩
  have hl1 : ¬ n.toNatClampNeg > e.platform.arrayLengthLimit := by rw [Launch.admits_arrayLengthLimit X.admits]; omega
  have hh1 : ¬ n.toNatClampNeg * componentBytes (.array ty) > e.platform.maxHeapBytes := by
    rw [Launch.admits_maxHeapBytes X.admits]; show ¬ n.toNatClampNeg * 4 > 536870912; omega
  have hl2 : ¬ k.toNatClampNeg > e.platform.arrayLengthLimit := by rw [Launch.admits_arrayLengthLimit X.admits]; omega
  have hh2 : ¬ k.toNatClampNeg * componentBytes ty > e.platform.maxHeapBytes := by rw [Launch.admits_maxHeapBytes X.admits]; omega
  have hl0 : ¬ 2 > e.platform.arrayLengthLimit := by rw [Launch.admits_arrayLengthLimit X.admits]; omega
  have hh0 : ¬ 2 * componentBytes (.array (.array ty)) > e.platform.maxHeapBytes := by
    rw [Launch.admits_maxHeapBytes X.admits]; show ¬ 2 * 4 > 536870912; omega
  jvm_step X.here [hexec, hdg]
  simp only [Jvm.Op.multianewarray.sem, wp_bind', W.resolveClassAt_links (State.method?_setTop g X.here.top) hg₁]
  rw [W.popN, if_neg (by decide)]
  refine ⟨g, State.topJava?_setTop' (s := T.setVm vm₁) g X.here.top, [.int 2, .int n, .int k], rest, rfl, hstack, ?_⟩
  simp only [List.mapM_cons, List.mapM_nil, wp_bind', wp_pure']
  refine wp_make3 (k := kA₁) (k1 := k1₁) (k2 := k2₁) (c1 := c1') (c2 := c2') (c3 := c3) (t0 := .array (.array ty)) (t1 := .array ty) (type := ty) hkA₁ hkindA₁ rfl hk1₁ hkind1₁ rfl hk2₁ hkind2₁ hn hk hl0 hh0 hl1 hh1 hl2 hh2 hdf hdd (by show T.heap.size + 3 + _ ≤ _; omega) (by show T.slotsUsed + 2 + _ + _ ≤ _; omega) (fun d' acts' => ?_)
  have eS : ((T.setTop g).setVm vm₁).setTop { g with stack := rest } = (T.setVm vm₁).setTop { g with stack := rest } := by
    show ((T.setVm vm₁).setTop g).setTop _ = _
    rw [State.setTop_setTop]
  rw [eS, m3_setTop]
  simp only [wp_bind', W.mark, W.pushRef, State.topJava?_setTop' _ XF.here.top, Option.some.injEq, exists_eq_left', State.setTop_setTop, State.heap_setTop]
  intro acts
  simp [jvm, XF.here.top]
  exact hrest
end M3S
theorem va_P_nil {D : va_G} {cl : List vw_C} {H : Heap} : va_P D cl [] H := fun k q h => by rw [List.getElem?_nil] at h; cases h
theorem va_P_cons {D : va_G} {cl : List vw_C} {H : Heap} {q : Nat × va_E} {ws : va_W} (h : va_at D cl q H) (h2 : va_P D cl ws H) : va_P D cl (q :: ws) H := fun k x hx => by
  cases k with
  | zero => cases hx; exact h
  | succ k => exact h2 k x hx
abbrev gT (cs : Nat → ClassId) (q : Nat) (g r1 r2 : Nat → Nat) (C Z : Nat → Int32) : va_W := (q, oQ (cs 2) 2 g) :: (gW (cs 1) (cs 0) (g 0) r1 C ++ gW (cs 1) (cs 0) (g 1) r2 Z)
section M3W
variable {p : Program} {l : Launch} {e : Env} {R : Room} {s : State} {m : MethodId} {args : Array Value} {below : List Frame} {meth : Method} {c : Code} {H : Heap} {locs : List Loc} {cells slots : Nat} {Q : State → Prop}
variable {cc : ByteArray} {pc : Nat} {ls : Array Slot} {rest : List Value} {D : va_G} {cl : List vw_C} {A : Nat → Prop} {a : Nat} {ws : va_W} {H0 : Heap} {cs : Nat → ClassId}
set_option maxHeartbeats 1000000 in
theorem va_mna3 (hexec : p.tables.exec = Jvm.exec) (hb : c.code = cc) {own : String} {index : Nat} (hown : s.vm.findClass own = some m.cls) (hclink : (Cond.classLink own index ("[" ++ (FieldType.array (.array .int)).toString)).before args s = true) (hAO : AOs s) (harr : (Cond.arrayClass .int).before args s = true)
    (hK : va_K D cl (TYX cs) s) (hP : va_P D cl ws H) (hD : va_D A ws) (hS : va_S A H0 H locs) (hA : ∀ q, H0.size ≤ q → A q) (hcells : cells + 19 ≤ R.cells) (hslots : slots + 146 ≤ R.slots) (hdg : decode cc pc = .ok (.multianewarray index 3, 4))
    (kk : ∀ (q : Nat) (g r1 r2 : Nat → Nat) (H1 : Heap), va_P D cl (ws ++ gT cs q g r1 r2 (fun _ => 0) (fun _ => 0)) H1 → va_D A (ws ++ gT cs q g r1 r2 (fun _ => 0) (fun _ => 0)) → va_S A H0 H1 locs →
      W p l e R s m args below meth c H1 locs (cells + 19) (slots + 146) Q (F0 m (pc + 4) ls (.ref q :: rest))) : W p l e R s m args below meth c H locs cells slots Q (F0 m pc ls (.int 8 :: .int 8 :: .int 2 :: rest)) := by
  intro T hT Xs
  obtain ⟨vm₁, cA, c1, c2, fA, f1, f2, X', step⟩ := m3_stand (n := 8) (k := 8) (ty := .int) Xs hexec hown hclink (AOs_use hAO.2.1) (AOs_use hAO.1) harr (g := F0 m pc ls (.int 8 :: .int 8 :: .int 2 :: rest)) rfl (by rw [hb]; exact hdg) rfl (by decide) (by decide) (by decide) (by decide) (by decide) rfl rfl hcells hslots
  cases (((hK.2 2 _ rfl).2 : s.vm.findClass _ = some (cs 2)).symm.trans fA)
  cases (((hK.2 1 _ rfl).2 : s.vm.findClass _ = some (cs 1)).symm.trans f1)
  cases (((hK.2 0 _ rfl).2 : s.vm.findClass _ = some (cs 0)).symm.trans f2)
  have hTh : (T.setVm vm₁).heap = H := hT
  obtain ⟨z1, z2, z3, z4, z5, z6, z7⟩ := m3_heap (T.setVm vm₁) (cs 2) (cs 1) (cs 0) 8 8 (defaultValue .int)
  rw [hTh] at z1 z2 z3 z4 z5 z6 z7
  generalize hF : m3 (T.setVm vm₁) (cs 2) (cs 1) (cs 0) (8 : Int32).toNatClampNeg (8 : Int32).toNatClampNeg (defaultValue .int) = F at X' step
  have hF : m3 (T.setVm vm₁) (cs 2) (cs 1) (cs 0) 8 8 (defaultValue .int) = F := hF
  rw [hF] at z1 z2 z3 z4 z5 z6 z7
  obtain ⟨g, hg⟩ : ∃ g : Nat → Nat, g = fun j => if j = 0 then H.size + 1 else H.size + 2 + 8 := ⟨_, rfl⟩
  have hg0 : g 0 = H.size + 1 := by rw [hg]; rfl
  have hg1 : g 1 = H.size + 10 := by rw [hg]; rfl
  obtain ⟨r1, hr1⟩ : ∃ r1 : Nat → Nat, r1 = fun j => H.size + 2 + j := ⟨_, rfl⟩
  obtain ⟨r2, hr2⟩ : ∃ r2 : Nat → Nat, r2 = fun j => H.size + 11 + j := ⟨_, rfl⟩
  have o3 : F.heap[H.size]? = some (vp_cell (cs 2) (2, .inr (.inr (.inr (.inr (fun i => if i < 2 then some (g i) else none)))))) := by
    rw [z3, vp_cell_q, m3_out, hg]
  have o4 : F.heap[g 0]? = some (vp_cell (cs 1) (8, .inr (.inr (.inr (.inr (fun i => if i < 8 then some (r1 i) else none)))))) := by
    rw [hg0, z4, vp_cell_q, vr_outer, hr1]
  have o6 : F.heap[g 1]? = some (vp_cell (cs 1) (8, .inr (.inr (.inr (.inr (fun i => if i < 8 then some (r2 i) else none)))))) := by
    rw [hg1, z6, vp_cell_q, vr_outer, hr2]
  have o5 : ∀ j, j < 8 → F.heap[r1 j]? = some (vp_cell (cs 0) (8, .inl (fun _ => 0))) := fun j hj => by
    rw [hr1]
    exact (z5 j hj).trans (congrArg some (arrV_new (cs 0) 8 _))
  have o7 : ∀ j, j < 8 → F.heap[r2 j]? = some (vp_cell (cs 0) (8, .inl (fun _ => 0))) := fun j hj => by
    rw [hr2]
    exact (z7 j hj).trans (congrArg some (arrV_new (cs 0) 8 _))
  have hPn : va_P D cl (gT cs H.size g r1 r2 (fun _ => 0) (fun _ => 0)) F.heap := (va_P_cons o3 (va_P_cons o4 (va_P_cons (o5 0 (by decide)) (va_P_cons (o5 1 (by decide)) (va_P_cons (o5 2 (by decide)) (va_P_cons (o5 3 (by decide)) (va_P_cons (o5 4 (by decide)) (va_P_cons (o5 5 (by decide)) (va_P_cons (o5 6 (by decide)) (va_P_cons (o5 7 (by decide)) (va_P_cons o6 (va_P_cons (o7 0 (by decide)) (va_P_cons (o7 1 (by decide)) (va_P_cons (o7 2 (by decide)) (va_P_cons (o7 3 (by decide)) (va_P_cons (o7 4 (by decide)) (va_P_cons (o7 5 (by decide)) (va_P_cons (o7 6 (by decide)) (va_P_cons (o7 7 (by decide)) va_P_nil)))))))))))))))))))
  have hP0 : va_P D cl ws F.heap := hP.kept (fun k9 x hx => z2 x.1 ((hP k9 x hx).lt))
  have hm : (gT cs H.size g r1 r2 (fun _ => 0) (fun _ => 0)).map Prod.fst = (List.range 19).map (fun k => H.size + k) := by
    show [H.size, g 0, r1 0, r1 1, r1 2, r1 3, r1 4, r1 5, r1 6, r1 7, g 1, r2 0, r2 1, r2 2, r2 3, r2 4, r2 5, r2 6, r2 7] = _
    rw [hg0, hg1, hr1, hr2]
    rfl
  have hk : ∀ (k9 : Nat) (x : Nat × va_E), (gT cs H.size g r1 r2 (fun _ => 0) (fun _ => 0))[k9]? = some x → x.1 = H.size + k9 := fun k9 x hx => by
    have h1 : ((gT cs H.size g r1 r2 (fun _ => 0) (fun _ => 0)).map Prod.fst)[k9]? = some x.1 := by rw [List.getElem?_map, hx]; rfl
    rw [hm, List.getElem?_map] at h1
    by_cases h9 : k9 < 19
    · rw [List.getElem?_range h9] at h1
      exact (Option.some.inj h1).symm
    · rw [List.getElem?_eq_none (by rw [List.length_range]; omega)] at h1
      cases h1
  have hDn : va_D A (gT cs H.size g r1 r2 (fun _ => 0) (fun _ => 0)) := ⟨fun i j x y hi hj hxy => by
    have := hk i x hi
    have := hk j y hj
    omega, fun k9 x hx => hA _ (by have := hk k9 x hx; have := hS.1; omega)⟩
  have hD1 : va_D A (ws ++ gT cs H.size g r1 r2 (fun _ => 0) (fun _ => 0)) := hD.app hDn (fun i j x y hi hj hxy => by
    have h1 := (hP i x hi).lt
    have h2 := hk j y hj
    omega)
  obtain ⟨t, a1, b1⟩ := kk H.size g r1 r2 F.heap (hP0.app hPn) hD1 ⟨by rw [z1]; have := hS.1; omega, fun x h1 h2 => (z2 x (Nat.lt_of_lt_of_le h1 hS.1)).trans (hS.2.1 x h1 h2), hS.2.2⟩ F rfl X'
  refine ⟨t, step t ?_, b1⟩
  have e9 : T.heap.size = H.size := by rw [hT]
  rw [e9]
  exact a1
end M3W

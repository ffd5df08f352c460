/-! a city's and a reference's numbers and rows, as one thing each -/
abbrev Cy : Type := Int32 × Int32 × Int32 × (Nat → Int32) × (Nat → Int32) × (Nat → Int32) × (Nat → Int32) × (Nat → Int32) × (Nat → Int32) × (Nat → Int32) × (Nat → Int32) × (Nat → Int32) × (Nat → Int32)
abbrev Cy.mo (z : Cy) : Int32 := z.1
abbrev Cy.co (z : Cy) : Int32 := z.2.1
abbrev Cy.le (z : Cy) : Int32 := z.2.2.1
abbrev Cy.K (z : Cy) : Nat → Int32 := z.2.2.2.1
abbrev Cy.Q (z : Cy) : Nat → Int32 := z.2.2.2.2.1
abbrev Cy.L (z : Cy) : Nat → Int32 := z.2.2.2.2.2.1
abbrev Cy.H (z : Cy) : Nat → Int32 := z.2.2.2.2.2.2.1
abbrev Cy.M (z : Cy) : Nat → Int32 := z.2.2.2.2.2.2.2.1
abbrev Cy.B (z : Cy) : Nat → Int32 := z.2.2.2.2.2.2.2.2.1
abbrev Cy.C (z : Cy) : Nat → Int32 := z.2.2.2.2.2.2.2.2.2.1
abbrev Cy.D (z : Cy) : Nat → Int32 := z.2.2.2.2.2.2.2.2.2.2.1
abbrev Cy.F (z : Cy) : Nat → Int32 := z.2.2.2.2.2.2.2.2.2.2.2.1
abbrev Cy.W (z : Cy) : Nat → Int32 := z.2.2.2.2.2.2.2.2.2.2.2.2
abbrev My : Type := Int32 × (Nat → Int32) × (Nat → Int32) × (Nat → Int32) × (Nat → Int32) × (Nat → Int32) × (Nat → Int32) × (Nat → Int32) × (Nat → Int32) × (Nat → Int32) × (Nat → Int32)
abbrev My.th (z : My) : Int32 := z.1
abbrev My.K (z : My) : Nat → Int32 := z.2.1
abbrev My.Ah (z : My) : Nat → Int32 := z.2.2.1
abbrev My.Ot (z : My) : Nat → Int32 := z.2.2.2.1
abbrev My.Qm (z : My) : Nat → Int32 := z.2.2.2.2.1
abbrev My.Op (z : My) : Nat → Int32 := z.2.2.2.2.2.1
abbrev My.Lm (z : My) : Nat → Int32 := z.2.2.2.2.2.2.1
abbrev My.Hm (z : My) : Nat → Int32 := z.2.2.2.2.2.2.2.1
abbrev My.Mm (z : My) : Nat → Int32 := z.2.2.2.2.2.2.2.2.1
abbrev My.Rw (z : My) : Nat → Int32 := z.2.2.2.2.2.2.2.2.2.1
abbrev My.St (z : My) : Nat → Int32 := z.2.2.2.2.2.2.2.2.2.2
/-- the city as it stands between two calls: of kinds k -/
def Sd (z : Cy) (k : Nat → Int32) : Prop := eqK z.K k ∧ SVd k z.Q z.L z.H z.M z.B z.C z.D ∧ wtr (k 3) = true ∧ ∀ x, x < 64 → kd (k x)
abbrev lA (cL : ClassId) (o : Nat → Int64) : va_E := .inl (cL, 1, .inr (.inl o))
theorem vp_in01 : vp_in 0 1 := vp_in_nI (n := 0) (N := 1) (by decide) (by decide)
theorem updL_at {o : Nat → Int64} {j : Nat} {r v : Int32} (h : r = v) : vp_updL o j r.toInt64 j = v.toInt64 := by
  rw [h]; exact if_pos rfl
theorem gate_w {k : Nat → Int32} {p : Nat} {v : Int32} (hg : wtr (k 3) = true) (h : k p = 2) : wtr (upd k p v 3) = true := gate_upd hg (Or.inl (by rw [h]; decide))
theorem lot_0 {x y w : Int32} (h : cdLot x y w = 0) : (inB 0 7 x && inB 0 7 y) = true ∧ inB 0 5 w = true := by
  unfold cdLot at h
  split at h
  · rename_i h1
    split at h
    · rename_i h2; exact ⟨h1, h2⟩
    · exact absurd h (by decide)
  · exact absurd h (by decide)
theorem count_0 {w : Int32} (h : cdCount w = 0) : inB 0 12 w = true := by
  unfold cdCount at h
  split at h
  · rename_i h1; exact h1
  · exact absurd h (by decide)
theorem walk_0 {k : Nat → Int32} {x y : Int32} (h : cdWalk k x y = 0) : (inB 0 63 x = true ∧ inB 0 63 y = true) ∧ lnd (k x.toNatClampNeg) = true ∧ lnd (k y.toNatClampNeg) = true := by
  unfold cdWalk at h
  split at h
  · rename_i h1
    split at h
    · rename_i h2; exact ⟨h1, h2⟩
    · exact absurd h (by decide)
  · exact absurd h (by decide)
theorem sail_0 {k : Nat → Int32} {x : Int32} (h : cdSail k x = 0) : inB 0 63 x = true ∧ wtr (k x.toNatClampNeg) = true := by
  unfold cdSail at h
  split at h
  · rename_i h1
    split at h
    · rename_i h2; exact ⟨h1, h2⟩
    · exact absurd h (by decide)
  · exact absurd h (by decide)
theorem pass_0 {n : Int32} (h : cdPass n = 0) : inB 1 60 n = true := by
  unfold cdPass at h
  split at h
  · rename_i h1; exact h1
  · exact absurd h (by decide)
theorem best_0 {n : Int32} (h : cdBest n = 0) : inB 3 5 n = true := by
  unfold cdBest at h
  split at h
  · rename_i h1; exact h1
  · exact absurd h (by decide)
theorem fore_0 {n w : Int32} (h : cdFore n w = 0) : inB 1 60 n = true ∧ inB 1 12 w = true := by
  unfold cdFore at h
  split at h
  · rename_i h1
    split at h
    · rename_i h2; exact ⟨h1, h2⟩
    · exact absurd h (by decide)
  · exact absurd h (by decide)
theorem would_0 {k : Nat → Int32} {x y v : Int32} (h : cdWould k x y v = 0) : (inB 0 7 x && inB 0 7 y) = true ∧ inB 3 5 v = true ∧ k (pAt x y) = 2 := by
  unfold cdWould at h
  split at h
  · rename_i h1
    split at h
    · rename_i h2
      split at h
      · rename_i h3; exact ⟨h1, h2, h3⟩
      · exact absurd h (by decide)
    · exact absurd h (by decide)
  · exact absurd h (by decide)
/-! what a caller of what throws needs -/
def NCX (U : State) : Prop := va_Nc "java/lang/IllegalStateException" "java/lang/IndexOutOfBoundsException" U ∧ va_Nc "java/lang/IllegalArgumentException" "java/lang/IndexOutOfBoundsException" U ∧ va_Nc "java/lang/IllegalStateException" "java/lang/IllegalArgumentException" U ∧ va_Nc "java/lang/IndexOutOfBoundsException" "java/lang/IllegalArgumentException" U
theorem NCX_moved {u U : State} (hvm : u.vm.Alike U.vm) (h : NCX u) : NCX U := ⟨h.1.moved hvm, h.2.1.moved hvm, h.2.2.1.moved hvm, h.2.2.2.moved hvm⟩
def WrPX (G : va_G) (cI cL : ClassId) (ws : va_W) (sz : Nat) : State → Prop := fun U => WrP G cI ws sz U ∧ va_K G vwCl [(cL, .long)] U ∧ STR U ∧ EXW U ∧ NCX U ∧ ZQ (va_A ws sz) U U.heap
theorem WrPX_blind {G : va_G} {cI cL : ClassId} {ws : va_W} {sz : Nat} {av : List Value} : FrameBlind (va_Pc av (WrPX G cI cL ws sz)) := fun a U g mk q => ⟨q.1, (WrP_blind a U g mk ⟨q.1, q.2.1⟩).2, va_K.moved (u := U) (U := U.calling g mk a) (Vm.Alike.refl U.vm) q.2.2.1, STR_same (u := U) (U := U.calling g mk a) rfl q.2.2.2.1, EXW_same (u := U) (U := U.calling g mk a) rfl q.2.2.2.2.1, NCX_moved (u := U) (U := U.calling g mk a) (Vm.Alike.refl U.vm) q.2.2.2.2.2.1, ZQ_moved (u := U) (U := U.calling g mk a) (Vm.Alike.refl U.vm) q.2.2.2.2.2.2⟩
theorem wrSX {s : State} {H : Heap} {G : va_G} {cI cL : ClassId} {ws ws' : va_W} {As : List Value} {A : Nat → Prop} {locs : List Loc} (hK : va_K G vwCl (TY cI) s) (hKL : va_K G vwCl [(cL, .long)] s) (hP : va_P G vwCl ws H) (hD : va_D A ws) (hN : NW s) (hE : STR s) (hX : EXW s) (hNC : NCX s) (hZ : ZQ A s s.heap) (hS : va_S A s.heap H locs) (hA : ∀ q, s.heap.size ≤ q → A q) (is : List Nat) (hn : va_nd is = true) (hs : is.map (fun i => ws[i]?) = ws'.map some) (hf : is.filterMap (fun i => ws[i]?) = ws') : PreS s H (va_Pc As (WrPX G cI cL ws' H.size)) As :=
  ⟨WrPX_blind, fun U hU hW => ⟨rfl, ((wrS (As := As) hK hP hD hN is hn hs hf).2 U hU hW).2, va_K.moved hW.alike hKL, STR_warm hW hE, EXW_warm hW hX, NCX_moved hW.alike hNC, by
    rw [hU]; exact ZQ_narrow (ZQ_moved hW.alike (ZQ_kept hZ hS.2.1)) (fun q h => va_free (wc := ws') hD hS hA is hs q h)⟩⟩
section Wx
variable {l : Launch}
theorem Met_ofWH {y : MethodName} {ws ws' : List Cond} {rm : Room} {Pc : Array Value → State → Prop} {Qc : Array Value → State → Outcome → State → Prop} {mc ms : Nat} {free : Addr → Prop} {cc : ByteArray} {maxL : Nat} {ret : Option FieldType} {hh : List (Nat × Nat × Nat × Nat)}
    (hy : plainName y.cls = true) (hw : ws = Cond.codeWith y cc maxL ret hh :: ws')
    (body : ∀ p e s m args below meth c s₁, BodyLoose p l y (headSpec ws rm) cc maxL ret e s m args below meth c s₁ → c.maxLocals = maxL → Pc args s →
      W p l e (headSpec ws rm).room s m args below meth c s.heap [] 0 0 (MQ below Qc args s mc ms free) (entryFrame m args maxL)) : Met l y ws rm Pc Qc mc ms free := by
  refine MetFree.of_bodyS (code := cc) (maxLocals := maxL) (ret := ret) hy ?_ ?_
  · intro args s m h hn
    obtain ⟨m9, meth, c, hn9, h1, h2, h3, h4, -, h5, h6, -⟩ := Cond.codeWith_spec (atoms_spec (ws := ws) h _ (by rw [hw]; exact List.mem_cons_self))
    cases hn.symm.trans hn9
    exact ⟨meth, c, h1, h2, h3, h4, h5, h6⟩
  · intro p e s m args below meth c s₁ B hml hP _
    have hh0 : s₁.heap = s.heap := by rw [B.state]; rfl
    obtain ⟨t, a1, o, b1, b2, b3, b4⟩ := body p e s m args below meth c s₁ B hml hP s₁ hh0 (Stand.of_body B)
    exact ⟨t, o, a1, b1, b2, b3, b4⟩
variable {p : Program} {e : Env} {R : Room} {s : State} {m : MethodId} {args : Array Value} {below : List Frame} {meth : Method} {c : Code} {H : Heap} {locs : List Loc} {cells slots : Nat} {Q : State → Prop}
theorem w_widen {g : JFrame} {k n : Nat} (h1 : cells ≤ k) (h2 : slots ≤ n) (kk : W p l e R s m args below meth c H locs k n Q g) : W p l e R s m args below meth c H locs cells slots Q g := fun T hT X => kk T hT (stand_widen X h1 h2)
end Wx

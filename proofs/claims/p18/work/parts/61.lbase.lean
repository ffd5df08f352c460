def blt : Nat → Value := fun j => match j with
  | 0 => .int 0
  | 1 => .int 0
  | 2 => .int 0
  | 3 => .int 4
  | 4 => .int 6
  | 5 => .int 5
  | _ => .int 7
/-- the costs, a row of the class's own -/
def BLT (A : Nat → Prop) (U : State) (H : Heap) : Prop := ∃ bt : Nat, va_Z "CanalCityLaw" "COSTS" "[I" (.ref bt) A U H ∧ va_T .int bt 7 blt A U H
theorem BLT_moved {A : Nat → Prop} {u U : State} {H : Heap} (hvm : u.vm.Alike U.vm) (h : BLT A u H) : BLT A U H := by
  obtain ⟨bt, h1, h2⟩ := h
  exact ⟨bt, va_Z.moved hvm h1, va_T.moved hvm h2⟩
theorem BLT_kept {A : Nat → Prop} {U : State} {H H1 : Heap} (h : BLT A U H) (hq : ∀ a : Nat, a < H.size → ¬ A a → H1[a]? = H[a]?) : BLT A U H1 := by
  obtain ⟨bt, h1, h2⟩ := h
  exact ⟨bt, va_Z.kept h1 hq, va_T.kept h2 hq⟩
theorem BLT_narrow {A B : Nat → Prop} {U : State} {H : Heap} (h : BLT A U H) (hAB : ∀ q, B q → A q) : BLT B U H := by
  obtain ⟨bt, h1, h2⟩ := h
  exact ⟨bt, va_Z.narrow h1 hAB, va_T.narrow h2 hAB⟩
theorem bl_at {v : Int32} (h : inB 3 5 v = true) : vp_in v 7 ∧ blt v.toNatClampNeg = .int (cst v) := by
  unfold inB at h
  rw [Bool.and_eq_true, decide_eq_true_eq, decide_eq_true_eq] at h
  obtain ⟨j, hj, rfl⟩ := nI_of2 (M := 5) (n := 5) (by decide) (fun e => absurd (Int32.lt_of_lt_of_le e (by decide : (0 : Int32) ≤ 3)) (Int32.not_lt.mpr h.1)) h.2
  have h3 : 3 ≤ j := Nat.le_of_not_lt fun q => absurd h.1 (nI_ge (b := 3) q (by decide))
  rcases (show j = 3 ∨ j = 4 ∨ j = 5 by omega) with rfl | rfl | rfl
  · exact ⟨vp_in_nI (by decide) (by decide), by rw [nI_clamp (by decide)]; rfl⟩
  · exact ⟨vp_in_nI (by decide) (by decide), by rw [nI_clamp (by decide)]; rfl⟩
  · exact ⟨vp_in_nI (by decide) (by decide), by rw [nI_clamp (by decide)]; rfl⟩
/-! a city's and a reference's numbers and rows, as one thing each -/
abbrev Cy : Type := Int32 × Int32 × Int32 × (Nat → Int32) × (Nat → Int32) × (Nat → Int32) × (Nat → Int32) × (Nat → Int32) × (Nat → Int32) × (Nat → Int32) × (Nat → Int32) × (Nat → Int32) × (Nat → Int32)
abbrev Cy.mo (z : Cy) : Int32 := z.1
abbrev Cy.co (z : Cy) : Int32 := z.2.1
abbrev Cy.le (z : Cy) : Int32 := z.2.2.1
abbrev Cy.K (z : Cy) : Nat → Int32 := z.2.2.2.1
abbrev Cy.Q (z : Cy) : Nat → Int32 := z.2.2.2.2.1
abbrev Cy.L (z : Cy) : Nat → Int32 := z.2.2.2.2.2.1
abbrev Cy.H (z : Cy) : Nat → Int32 := z.2.2.2.2.2.2.1
abbrev Cy.M (z : Cy) : Nat → Int32 := z.2.2.2.2.2.2.2.1
abbrev Cy.B (z : Cy) : Nat → Int32 := z.2.2.2.2.2.2.2.2.1
abbrev Cy.C (z : Cy) : Nat → Int32 := z.2.2.2.2.2.2.2.2.2.1
abbrev Cy.D (z : Cy) : Nat → Int32 := z.2.2.2.2.2.2.2.2.2.2.1
abbrev Cy.F (z : Cy) : Nat → Int32 := z.2.2.2.2.2.2.2.2.2.2.2.1
abbrev Cy.W (z : Cy) : Nat → Int32 := z.2.2.2.2.2.2.2.2.2.2.2.2
/-- the city as it stands between two calls: of kinds k -/
def Sd (z : Cy) (k : Nat → Int32) : Prop := eqK z.K k ∧ SVd k z.Q z.L z.H z.M z.B z.C z.D ∧ wtr (k 3) = true ∧ ∀ x, x < 64 → kd (k x)
theorem gate_w {k : Nat → Int32} {p : Nat} {v : Int32} (hg : wtr (k 3) = true) (h : k p = 2) : wtr (upd k p v 3) = true := gate_upd hg (Or.inl (by rw [h]; decide))
theorem lot_0 {x y w : Int32} (h : cdLot x y w = 0) : (inB 0 7 x && inB 0 7 y) = true ∧ inB 0 5 w = true := by
  unfold cdLot at h
  split at h
  · rename_i h1
    split at h
    · rename_i h2; exact ⟨h1, h2⟩
    · exact absurd h (by decide)
  · exact absurd h (by decide)
theorem count_0 {w : Int32} (h : cdCount w = 0) : inB 0 12 w = true := by
  unfold cdCount at h
  split at h
  · rename_i h1; exact h1
  · exact absurd h (by decide)
theorem walk_0 {k : Nat → Int32} {x y : Int32} (h : cdWalk k x y = 0) : (inB 0 63 x = true ∧ inB 0 63 y = true) ∧ lnd (k x.toNatClampNeg) = true ∧ lnd (k y.toNatClampNeg) = true := by
  unfold cdWalk at h
  split at h
  · rename_i h1
    split at h
    · rename_i h2; exact ⟨h1, h2⟩
    · exact absurd h (by decide)
  · exact absurd h (by decide)
theorem sail_0 {k : Nat → Int32} {x : Int32} (h : cdSail k x = 0) : inB 0 63 x = true ∧ wtr (k x.toNatClampNeg) = true := by
  unfold cdSail at h
  split at h
  · rename_i h1
    split at h
    · rename_i h2; exact ⟨h1, h2⟩
    · exact absurd h (by decide)
  · exact absurd h (by decide)
theorem pass_0 {n : Int32} (h : cdPass n = 0) : inB 1 60 n = true := by
  unfold cdPass at h
  split at h
  · rename_i h1; exact h1
  · exact absurd h (by decide)
theorem best_0 {n : Int32} (h : cdBest n = 0) : inB 3 5 n = true := by
  unfold cdBest at h
  split at h
  · rename_i h1; exact h1
  · exact absurd h (by decide)
theorem fore_0 {n w : Int32} (h : cdFore n w = 0) : inB 1 60 n = true ∧ inB 1 12 w = true := by
  unfold cdFore at h
  split at h
  · rename_i h1
    split at h
    · rename_i h2; exact ⟨h1, h2⟩
    · exact absurd h (by decide)
  · exact absurd h (by decide)
theorem would_0 {k : Nat → Int32} {x y v : Int32} (h : cdWould k x y v = 0) : (inB 0 7 x && inB 0 7 y) = true ∧ inB 3 5 v = true ∧ k (pAt x y) = 2 := by
  unfold cdWould at h
  split at h
  · rename_i h1
    split at h
    · rename_i h2
      split at h
      · rename_i h3; exact ⟨h1, h2, h3⟩
      · exact absurd h (by decide)
    · exact absurd h (by decide)
  · exact absurd h (by decide)
/-! what the law's helpers stand on -/
def WsPX (G : va_G) (cs : Nat → ClassId) (ws : va_W) (sz : Nat) : State → Prop := fun U => WsP G cs ws sz U ∧ STR U ∧ EXW U ∧ ZQ (va_A ws sz) U U.heap ∧ BLT (va_A ws sz) U U.heap
theorem WsPX_blind {G : va_G} {cs : Nat → ClassId} {ws : va_W} {sz : Nat} {av : List Value} : FrameBlind (va_Pc av (WsPX G cs ws sz)) := fun a U g mk q => ⟨q.1, (WsP_blind a U g mk ⟨q.1, q.2.1⟩).2, STR_same (u := U) (U := U.calling g mk a) rfl q.2.2.1, EXW_same (u := U) (U := U.calling g mk a) rfl q.2.2.2.1, ZQ_moved (u := U) (U := U.calling g mk a) (Vm.Alike.refl U.vm) q.2.2.2.2.1, BLT_moved (u := U) (U := U.calling g mk a) (Vm.Alike.refl U.vm) q.2.2.2.2.2⟩
theorem wsxS {s : State} {H : Heap} {G : va_G} {cs : Nat → ClassId} {ws ws' : va_W} {As : List Value} {A : Nat → Prop} {locs : List Loc} (hK : va_K G vwCl (TYX cs) s) (hP : va_P G vwCl ws H) (hD : va_D A ws) (hN : NA s) (hE : STR s) (hX : EXW s) (hZ : ZQ A s s.heap) (hBL : BLT A s s.heap) (hS : va_S A s.heap H locs) (hA : ∀ q, s.heap.size ≤ q → A q) (is : List Nat) (hn : va_nd is = true) (hs : is.map (fun i => ws[i]?) = ws'.map some) (hf : is.filterMap (fun i => ws[i]?) = ws') : PreS s H (va_Pc As (WsPX G cs ws' H.size)) As :=
  ⟨WsPX_blind, fun U hU hW => ⟨rfl, ((wsrS (As := As) hK hP hD hN is hn hs hf).2 U hU hW).2, STR_warm hW hE, EXW_warm hW hX, by
    rw [hU]; exact ZQ_narrow (ZQ_moved hW.alike (ZQ_kept hZ hS.2.1)) (fun q h => va_free (wc := ws') hD hS hA is hs q h), by
    rw [hU]; exact BLT_narrow (BLT_moved hW.alike (BLT_kept hBL hS.2.1)) (fun q h => va_free (wc := ws') hD hS hA is hs q h)⟩⟩
theorem Met_ofWH {l : Launch} {y : MethodName} {ws ws' : List Cond} {rm : Room} {Pc : Array Value → State → Prop} {Qc : Array Value → State → Outcome → State → Prop} {mc ms : Nat} {free : Addr → Prop} {cc : ByteArray} {maxL : Nat} {ret : Option FieldType} {hh : List (Nat × Nat × Nat × Nat)}
    (hy : plainName y.cls = true) (hw : ws = Cond.codeWith y cc maxL ret hh :: ws')
    (body : ∀ p e s m args below meth c s₁, BodyLoose p l y (headSpec ws rm) cc maxL ret e s m args below meth c s₁ → c.maxLocals = maxL → Pc args s →
      W p l e (headSpec ws rm).room s m args below meth c s.heap [] 0 0 (MQ below Qc args s mc ms free) (entryFrame m args maxL)) : Met l y ws rm Pc Qc mc ms free := by
  refine MetFree.of_bodyS (code := cc) (maxLocals := maxL) (ret := ret) hy ?_ ?_
  · intro args s m h hn
    obtain ⟨m9, meth, c, hn9, h1, h2, h3, h4, -, h5, h6, -⟩ := Cond.codeWith_spec (atoms_spec (ws := ws) h _ (by rw [hw]; exact List.mem_cons_self))
    cases hn.symm.trans hn9
    exact ⟨meth, c, h1, h2, h3, h4, h5, h6⟩
  · intro p e s m args below meth c s₁ B hml hP _
    have hh0 : s₁.heap = s.heap := by rw [B.state]; rfl
    obtain ⟨t, a1, o, b1, b2, b3, b4⟩ := body p e s m args below meth c s₁ B hml hP s₁ hh0 (Stand.of_body B)
    exact ⟨t, o, a1, b1, b2, b3, b4⟩
/-! below -/
def bw (v n : Int32) : Int32 := (v &&& 2147483647) - (v &&& 2147483647) / n * n
theorem and_nat (v : Int32) : ∃ m : Nat, m < 2 ^ 31 ∧ v &&& 2147483647 = nI m := by
  have h1 : (v &&& 2147483647).toBitVec.toNat < 2 ^ 31 := by
    have h2 : (v &&& 2147483647).toBitVec = v.toBitVec &&& (2147483647 : Int32).toBitVec := rfl
    rw [h2, BitVec.toNat_and]
    exact Nat.lt_of_le_of_lt Nat.and_le_right (by decide)
  refine ⟨(v &&& 2147483647).toBitVec.toNat, h1, ?_⟩
  apply Int32.toBitVec_inj.mp
  apply BitVec.eq_of_toNat_eq
  show _ = (BitVec.ofNat 32 _).toNat
  rw [BitVec.toNat_ofNat, Nat.mod_eq_of_lt (by omega)]
theorem bw_nat {v : Int32} {d : Nat} (h0 : 0 < d) (hd : d < 2 ^ 31) : ∃ j : Nat, j < d ∧ bw v (nI d) = nI j := by
  obtain ⟨m, hm, e⟩ := and_nat v
  refine ⟨m % d, Nat.mod_lt _ h0, ?_⟩
  unfold bw
  rw [e]
  exact pk_rem hm h0 hd
theorem pAt_nI {x y : Nat} (hx : x < 8) (hy : y < 8) : pAt (nI x) (nI y) = 8 * y + x := by
  unfold pAt
  rw [show (8 : Int32) * nI y = nI (8 * y) from pk_mul 8 y, nI_add, nI_clamp (by omega)]
theorem pl_in {x y : Nat} (hx : x < 8) (hy : y < 8) : (inB 0 7 (nI x) && inB 0 7 (nI y)) = true := by rw [inB_nI hx, inB_nI hy]; rfl
theorem cd_drain {k : Nat → Int32} {co : Int32} {x y : Nat} (hx : x < 8) (hy : y < 8) : (cdDrain k co (nI x) (nI y) = 0 ↔ k (8 * y + x) = 0 ∧ 2 ≤ co) ∧ (¬ cdDrain k co (nI x) (nI y) = 0 → cdDrain k co (nI x) (nI y) = 2) := by
  unfold cdDrain
  rw [if_pos (pl_in hx hy), pAt_nI hx hy]
  by_cases h : k (8 * y + x) = 0 ∧ 2 ≤ co
  · rw [if_pos h]; exact ⟨⟨fun _ => h, fun _ => rfl⟩, fun h9 => absurd rfl h9⟩
  · rw [if_neg h]; exact ⟨⟨fun h9 => absurd h9 (by decide), fun h9 => absurd h9 h⟩, fun _ => rfl⟩
theorem cd_dig {k : Nat → Int32} {co : Int32} {x y : Nat} (hx : x < 8) (hy : y < 8) : (cdDig k co (nI x) (nI y) = 0 ↔ (k (8 * y + x) = 0 ∨ k (8 * y + x) = 2) ∧ 3 ≤ co) ∧ (¬ cdDig k co (nI x) (nI y) = 0 → cdDig k co (nI x) (nI y) = 2) := by
  unfold cdDig
  rw [if_pos (pl_in hx hy), pAt_nI hx hy]
  by_cases h : (k (8 * y + x) = 0 ∨ k (8 * y + x) = 2) ∧ 3 ≤ co
  · rw [if_pos h]; exact ⟨⟨fun _ => h, fun _ => rfl⟩, fun h9 => absurd rfl h9⟩
  · rw [if_neg h]; exact ⟨⟨fun h9 => absurd h9 (by decide), fun h9 => absurd h9 h⟩, fun _ => rfl⟩
theorem cd_build {k : Nat → Int32} {co v : Int32} {x y : Nat} (hx : x < 8) (hy : y < 8) (hv : inB 3 5 v = true) : (cdBuild k co (nI x) (nI y) v = 0 ↔ k (8 * y + x) = 2 ∧ cst v ≤ co) ∧ (¬ cdBuild k co (nI x) (nI y) v = 0 → cdBuild k co (nI x) (nI y) v = 3) := by
  unfold cdBuild
  rw [if_pos (pl_in hx hy), if_pos hv, pAt_nI hx hy]
  by_cases h : k (8 * y + x) = 2 ∧ cst v ≤ co
  · rw [if_pos h]; exact ⟨⟨fun _ => h, fun _ => rfl⟩, fun h9 => absurd rfl h9⟩
  · rw [if_neg h]; exact ⟨⟨fun h9 => absurd h9 (by decide), fun h9 => absurd h9 h⟩, fun _ => rfl⟩
theorem cd_bridge {k : Nat → Int32} {co : Int32} {x y : Nat} (hx : x < 8) (hy : y < 8) : (cdBridge k co (nI x) (nI y) = 0 ↔ k (8 * y + x) = 1 ∧ 7 ≤ co) ∧ (¬ cdBridge k co (nI x) (nI y) = 0 → cdBridge k co (nI x) (nI y) = 2) := by
  unfold cdBridge
  rw [if_pos (pl_in hx hy), pAt_nI hx hy]
  by_cases h : k (8 * y + x) = 1 ∧ 7 ≤ co
  · rw [if_pos h]; exact ⟨⟨fun _ => h, fun _ => rfl⟩, fun h9 => absurd rfl h9⟩
  · rw [if_neg h]; exact ⟨⟨fun h9 => absurd h9 (by decide), fun h9 => absurd h9 h⟩, fun _ => rfl⟩
theorem cd_raze {k : Nat → Int32} {x y : Nat} (hx : x < 8) (hy : y < 8) (hk : kd (k (8 * y + x))) : (cdRaze k (nI x) (nI y) = 0 ↔ ¬ k (8 * y + x) ≤ 2) ∧ (¬ cdRaze k (nI x) (nI y) = 0 → cdRaze k (nI x) (nI y) = 2) := by
  unfold cdRaze
  rw [if_pos (pl_in hx hy), pAt_nI hx hy]
  have hi : inB 3 6 (k (8 * y + x)) = true ↔ ¬ k (8 * y + x) ≤ 2 := by
    unfold inB
    rw [decide_eq_true hk.2, Bool.and_true, decide_eq_true_eq, Int32.le_iff_toInt_le, Int32.le_iff_toInt_le]
    show (3 : Int) ≤ _ ↔ ¬ _ ≤ (2 : Int)
    omega
  by_cases h : inB 3 6 (k (8 * y + x)) = true
  · rw [if_pos h]; exact ⟨⟨fun _ => hi.mp h, fun _ => rfl⟩, fun h9 => absurd rfl h9⟩
  · rw [if_neg h]; exact ⟨⟨fun h9 => absurd h9 (by decide), fun h9 => absurd (hi.mpr h9) h⟩, fun _ => rfl⟩
theorem bd {p : Prop} {hd : Decidable p} (h : p) : b2i (@decide p hd) = 1 := by rw [decide_eq_true h]; rfl
theorem bn {p : Prop} {hd : Decidable p} (h : ¬ p) : b2i (@decide p hd) = 0 := by rw [decide_eq_false h]; rfl
theorem inB_35 {j : Nat} (h : j < 3) : inB 3 5 (nI (3 + j)) = true := by
  rcases (show j = 0 ∨ j = 1 ∨ j = 2 by omega) with rfl | rfl | rfl <;> decide
theorem eqK_upd2 {K k : Nat → Int32} {p q : Nat} {v : Int32} (h : eqK K k) (e : q = p) : eqK (upd K p v) (upd k q v) := by
  rw [e]
  exact eqK_upd h
theorem eqK_self {K k : Nat → Int32} {p : Nat} {v : Int32} (h : eqK K k) (hv : v = k p) : eqK (upd K p v) k := fun x hx => by
  rcases Nat.decEq x p with g | g
  · rw [pk_un g]; exact h x hx
  · subst g
    rw [pk_us]; exact hv
theorem ldc_below (x : Int32) : x = x := rfl
section Wa
variable {p : Program} {l : Launch} {e : Env} {R : Room} {s : State} {m : MethodId} {args : Array Value} {below : List Frame} {meth : Method} {c : Code} {H : Heap} {locs : List Loc} {cells slots mc ms : Nat} {Q : State → Prop}
variable {cc : ByteArray} {pc : Nat} {ls : Array Slot} {rest st0 : List Value} {A0 : Nat → Prop} {H0 : Heap} {a : Array Value} {G : va_G} {ws wc wr : va_W} {S : Type}
/-- behind a call that answers some int, and changes nothing -/
theorem ca_i (hr : va_Run p l e R s m args below meth c H locs cells slots 0 0 (F0 m pc ls st0) rest (va_Qi (fun (_ : Int32) (_ : Unit) => True) (fun _ _ => True) No a) No) (hS : va_S A0 H0 H locs) (hP : va_P G vwCl ws H)
    (kk : ∀ (v : Int32) (H1 : Heap) (locs1 : List Loc), va_P G vwCl ws H1 → va_S A0 H0 H1 locs1 → W p l e R s m args below meth c H1 locs1 cells slots Q (F0 m (pc + 3) ls (.int v :: rest))) : W p l e R s m args below meth c H locs cells slots Q (F0 m pc ls st0) := by
  refine va_calli hr hS (fun q _ h => h.elim) (fun q h => h.elim) (fun r u t H1 locs1 ht hvm hw hB hz1 hk1 hS1 => ?_)
  exact kk r H1 locs1 (hP.kept (fun k x hx => hk1 x.1 ((hP k x hx).lt) (fun h => h))) hS1
end Wa
/-- the script, for a callee -/
def ScP (b L : Nat) (xs : Nat → Int32) : State → Prop := fun U => va_X b L xs U U.heap
theorem scS {s : State} {H : Heap} {b L : Nat} {xs : Nat → Int32} {As : List Value} {A : Nat → Prop} {H0 : Heap} {locs : List Loc} (hXs : va_X b L xs s H0) (hbl : b < H0.size) (hbA : ¬ A b) (hS : va_S A H0 H locs) : PreS s H (va_Pc As (ScP b L xs)) As :=
  ⟨fun _ U g mk q => ⟨q.1, va_X.moved (u := U) (U := U.calling g mk _) (Vm.Alike.refl U.vm) q.2⟩, fun U hU hW => ⟨rfl, by
    show va_X b L xs U U.heap
    rw [hU]
    exact va_X.moved hW.alike (hXs.kept (hS.2.1 b hbl hbA))⟩⟩


abbrev oX (a t : Nat → Nat) : va_E := .inr (1, [.ref (a 0), .ref (t 0)])
abbrev RdQl (v : Int64) : Array Value → State → Outcome → State → Prop := va_Ql (fun (r : Int64) (_ : Unit) => r = v) (fun _ _ => True) No
abbrev RdV : Array Value → State → Outcome → State → Prop := va_Qv (fun (_ : Unit) => True) (fun _ _ => True) No
section Rx
variable {p : Program} {l : Launch} {e : Env} {R : Room} {s : State} {m : MethodId} {args : Array Value} {below : List Frame} {meth : Method} {c : Code} {H : Heap} {locs : List Loc} {cells slots mc ms : Nat} {Q : State → Prop}
variable {cc : ByteArray} {pc : Nat} {ls : Array Slot} {rest st0 : List Value} {A0 : Nat → Prop} {H0 : Heap} {a : Array Value} {G : va_G} {ws wc wr : va_W} {S : Type} {W' : S → va_W}
theorem cr_v (hr : va_Run p l e R s m args below meth c H locs cells slots 0 0 (F0 m pc ls st0) rest (RdV a) No) (hS : va_S A0 H0 H locs) (hP : va_P G vwCl ws H)
    (kk : ∀ (H1 : Heap) (locs1 : List Loc), va_P G vwCl ws H1 → va_S A0 H0 H1 locs1 → W p l e R s m args below meth c H1 locs1 cells slots Q (F0 m (pc + 3) ls rest)) : W p l e R s m args below meth c H locs cells slots Q (F0 m pc ls st0) := by
  refine va_callv hr hS (fun q _ h => h.elim) (fun q h => h.elim) (fun u t H1 locs1 ht hvm hw hB hz1 hk1 hS1 => ?_)
  exact kk H1 locs1 (hP.kept (fun k x hx => hk1 x.1 ((hP k x hx).lt) (fun h => h))) hS1
theorem rd_v (hexec : p.tables.exec = Jvm.exec) (hb : c.code = cc) (hr : meth.sig.returnType = none) (hS : va_S No s.heap H locs) (hlocks : meth.locks = false) (hdg : decode cc pc = .ok (.return_, 1)) : W p l e R s m args below meth c H locs cells slots (MQ below RdV args s cells slots No) (F0 m pc ls []) :=
  W.vret hexec hb hr (fun t ht hW => ⟨⟨(), rfl, trivial, trivial⟩, hS.F ht⟩) hS.2.2 hdg hlocks
theorem cr_l {v : Int64} (hr : va_Run p l e R s m args below meth c H locs cells slots 0 0 (F0 m pc ls st0) rest (RdQl v a) No) (hS : va_S A0 H0 H locs) (hP : va_P G vwCl ws H)
    (kk : ∀ (H1 : Heap) (locs1 : List Loc), va_P G vwCl ws H1 → va_S A0 H0 H1 locs1 → W p l e R s m args below meth c H1 locs1 cells slots Q (F0 m (pc + 3) ls (.long v :: rest))) : W p l e R s m args below meth c H locs cells slots Q (F0 m pc ls st0) := by
  refine va_calll hr hS (fun q _ h => h.elim) (fun q h => h.elim) (fun r u t H1 locs1 ht hvm hw hB hz1 hk1 hS1 => ?_)
  have hw : r = v := hw
  subst hw
  exact kk H1 locs1 (hP.kept (fun k x hx => hk1 x.1 ((hP k x hx).lt) (fun h => h))) hS1
theorem rd_l {v v' : Int64} (hvv : v' = v) (hexec : p.tables.exec = Jvm.exec) (hb : c.code = cc) (hr : meth.sig.returnType = some .long) (hS : va_S No s.heap H locs) (hlocks : meth.locks = false) (hdg : decode cc pc = .ok (.lreturn, 1)) : W p l e R s m args below meth c H locs cells slots (MQ below (RdQl v) args s cells slots No) (F0 m pc ls [.long v']) := by
  subst hvv
  exact W.lret (v := v') hexec hb hr (fun t ht hW => ⟨⟨v', (), rfl, rfl, trivial⟩, hS.F ht⟩) hS.2.2 hdg hlocks
theorem wr_l {post : Int64 → S → Prop} {v : Int64} (u : S) (hu : post v u) {sz : Nat} (hexec : p.tables.exec = Jvm.exec) (hb : c.code = cc) (hr : meth.sig.returnType = some .long) (hP : va_P G vwCl (W' u) H) (hD : va_D (va_A wc sz) (W' u)) (hS : va_S (va_A wc sz) s.heap H locs) (hlocks : meth.locks = false) (hdg : decode cc pc = .ok (.lreturn, 1)) : W p l e R s m args below meth c H locs cells slots (MQ below (va_Ql post (WrB G wc sz W') (va_A wc sz)) args s cells slots (va_A wc sz)) (F0 m pc ls [.long v]) :=
  W.lret hexec hb hr (fun t ht hW => ⟨⟨v, u, rfl, hu, by rw [ht]; exact hP, hD⟩, hS.F ht⟩) hS.2.2 hdg hlocks
theorem wr_d {post : UInt64 → S → Prop} {v : UInt64} (u : S) (hu : post v u) {sz : Nat} (hexec : p.tables.exec = Jvm.exec) (hb : c.code = cc) (hr : meth.sig.returnType = some .double) (hP : va_P G vwCl (W' u) H) (hD : va_D (va_A wc sz) (W' u)) (hS : va_S (va_A wc sz) s.heap H locs) (hlocks : meth.locks = false) (hdg : decode cc pc = .ok (.dreturn, 1)) : W p l e R s m args below meth c H locs cells slots (MQ below (va_Qd post (WrB G wc sz W') (va_A wc sz)) args s cells slots (va_A wc sz)) (F0 m pc ls [.double v]) :=
  W.dret hexec hb hr (fun t ht hW => ⟨⟨v, u, rfl, hu, by rw [ht]; exact hP, hD⟩, hS.F ht⟩) hS.2.2 hdg hlocks
theorem rd_d {post : UInt64 → Unit → Prop} {v : UInt64} (hu : post v ()) (hexec : p.tables.exec = Jvm.exec) (hb : c.code = cc) (hr : meth.sig.returnType = some .double) (hS : va_S No s.heap H locs) (hlocks : meth.locks = false) (hdg : decode cc pc = .ok (.dreturn, 1)) : W p l e R s m args below meth c H locs cells slots (MQ below (va_Qd post (fun _ _ => True) No) args s cells slots No) (F0 m pc ls [.double v]) :=
  W.dret hexec hb hr (fun t ht hW => ⟨⟨v, (), rfl, hu, trivial⟩, hS.F ht⟩) hS.2.2 hdg hlocks
/-- behind a call of what throws, and only reads -/
theorem xr_i {cE : String → Prop} (hr : vx_Run p l e R s m args below meth c H locs cells slots mc ms (F0 m pc ls st0) rest (va_Qi (fun (_ : Int32) (_ : Unit) => False) (fun _ _ => True) No a) (vx_X (fun _ : Unit => True) (fun E _ _ => cE E) No) No) (hS : va_S A0 H0 H locs) (hP : va_P G vwCl ws H)
    (kx : ∀ (E : String) (ce : Cell) (q9 : Addr) (H1 : Heap) (locs1 : List Loc), cE E → va_P G vwCl ws H1 → va_S A0 H0 H1 locs1 → H1[q9]? = some ce → ce.vm = .none → s.vm.findClass E = some ce.cls → vx_W p l e R s m args below meth c H1 locs1 (cells + mc) (slots + ms) Q (F0 m pc ls rest) q9) : W p l e R s m args below meth c H locs cells slots Q (F0 m pc ls st0) := by
  refine vx_calli hr hS (fun q _ h => h.elim) (fun q h => h.elim) (fun q _ h => h.elim) (fun E ce q9 u t H1 locs1 ht hvm _ hB hz1 hk1 hS1 h1 h2 h3 => ?_) (fun r u t H1 locs1 ht hvm hw _ _ _ _ => hw.elim)
  exact kx E ce q9 H1 locs1 hB (hP.kept (fun k x hx => hk1 x.1 ((hP k x hx).lt) (fun h => h))) hS1 h1 h2 h3
theorem xr_v {cE : String → Prop} (hr : vx_Run p l e R s m args below meth c H locs cells slots mc ms (F0 m pc ls st0) rest (va_Qv (fun (_ : Unit) => False) (fun _ _ => True) No a) (vx_X (fun _ : Unit => True) (fun E _ _ => cE E) No) No) (hS : va_S A0 H0 H locs) (hP : va_P G vwCl ws H)
    (kx : ∀ (E : String) (ce : Cell) (q9 : Addr) (H1 : Heap) (locs1 : List Loc), cE E → va_P G vwCl ws H1 → va_S A0 H0 H1 locs1 → H1[q9]? = some ce → ce.vm = .none → s.vm.findClass E = some ce.cls → vx_W p l e R s m args below meth c H1 locs1 (cells + mc) (slots + ms) Q (F0 m pc ls rest) q9) : W p l e R s m args below meth c H locs cells slots Q (F0 m pc ls st0) := by
  refine vx_callv hr hS (fun q _ h => h.elim) (fun q h => h.elim) (fun q _ h => h.elim) (fun E ce q9 u t H1 locs1 ht hvm _ hB hz1 hk1 hS1 h1 h2 h3 => ?_) (fun u t H1 locs1 ht hvm hw _ _ _ _ => hw.elim)
  exact kx E ce q9 H1 locs1 hB (hP.kept (fun k x hx => hk1 x.1 ((hP k x hx).lt) (fun h => h))) hS1 h1 h2 h3
end Rx
/-! what a throw rests on -/
def STR (U : State) : Prop := (∃ a, vk_R RX1 134 "x and y are 0 to 7" a U) ∧ (∃ a, vk_R RX1 139 "a lot is 0 to 63" a U) ∧ (∃ a, vk_R RX1 143 "kind is 3 to 5" a U) ∧ (∃ a, vk_R RX1 146 "months are 1 to 60" a U) ∧ (∃ a, vk_R RX1 148 "the lot is not drained" a U) ∧ (∃ a, vk_R RX1 150 "there are not so many coins" a U) ∧
  (∃ a, vk_R RX1 29 "only marsh is drained" a U) ∧ (∃ a, vk_R RX1 46 "only marsh and drained lots are dug out" a U) ∧ (∃ a, vk_R RX1 58 "a bridge needs a canal without one" a U) ∧ (∃ a, vk_R RX1 63 "nothing is built there" a U) ∧ (∃ a, vk_R RX1 71 "what is 0 to 5" a U) ∧ (∃ a, vk_R RX1 77 "what is 0 to 12" a U) ∧
  (∃ a, vk_R RX1 89 "both lots must be land" a U) ∧ (∃ a, vk_R RX1 97 "the lot must be water" a U) ∧ (∃ a, vk_R RX1 108 "what is 1 to 12" a U)
theorem STR_same {u U : State} (hv : u.vm = U.vm) (h : STR u) : STR U := by
  obtain ⟨⟨b1, g1⟩, ⟨b2, g2⟩, ⟨b3, g3⟩, ⟨b4, g4⟩, ⟨b5, g5⟩, ⟨b6, g6⟩, ⟨b7, g7⟩, ⟨b8, g8⟩, ⟨b9, g9⟩, ⟨b10, g10⟩, ⟨b11, g11⟩, ⟨b12, g12⟩, ⟨b13, g13⟩, ⟨b14, g14⟩, ⟨b15, g15⟩⟩ := h
  exact ⟨⟨b1, g1.same hv.symm⟩, ⟨b2, g2.same hv.symm⟩, ⟨b3, g3.same hv.symm⟩, ⟨b4, g4.same hv.symm⟩, ⟨b5, g5.same hv.symm⟩, ⟨b6, g6.same hv.symm⟩, ⟨b7, g7.same hv.symm⟩, ⟨b8, g8.same hv.symm⟩, ⟨b9, g9.same hv.symm⟩, ⟨b10, g10.same hv.symm⟩, ⟨b11, g11.same hv.symm⟩, ⟨b12, g12.same hv.symm⟩, ⟨b13, g13.same hv.symm⟩, ⟨b14, g14.same hv.symm⟩, ⟨b15, g15.same hv.symm⟩⟩
theorem STR_warm {s U : State} (hW : s.WarmedH U.vm) (h : STR s) : STR U := by
  obtain ⟨⟨b1, g1⟩, ⟨b2, g2⟩, ⟨b3, g3⟩, ⟨b4, g4⟩, ⟨b5, g5⟩, ⟨b6, g6⟩, ⟨b7, g7⟩, ⟨b8, g8⟩, ⟨b9, g9⟩, ⟨b10, g10⟩, ⟨b11, g11⟩, ⟨b12, g12⟩, ⟨b13, g13⟩, ⟨b14, g14⟩, ⟨b15, g15⟩⟩ := h
  exact ⟨⟨b1, vk_R.warm hW g1⟩, ⟨b2, vk_R.warm hW g2⟩, ⟨b3, vk_R.warm hW g3⟩, ⟨b4, vk_R.warm hW g4⟩, ⟨b5, vk_R.warm hW g5⟩, ⟨b6, vk_R.warm hW g6⟩, ⟨b7, vk_R.warm hW g7⟩, ⟨b8, vk_R.warm hW g8⟩, ⟨b9, vk_R.warm hW g9⟩, ⟨b10, vk_R.warm hW g10⟩, ⟨b11, vk_R.warm hW g11⟩, ⟨b12, vk_R.warm hW g12⟩, ⟨b13, vk_R.warm hW g13⟩, ⟨b14, vk_R.warm hW g14⟩, ⟨b15, vk_R.warm hW g15⟩⟩
def EXl : List Cond := [.declares (Bundle.initS "java/lang/RuntimeException"), .declares (Bundle.initS "java/lang/Exception"), .declares (Bundle.initS Bundle.tN), .castable "java/lang/IndexOutOfBoundsException" "java/lang/IndexOutOfBoundsException", .castable "java/lang/IllegalArgumentException" "java/lang/IllegalArgumentException", .castable "java/lang/IllegalStateException" "java/lang/IllegalStateException"]
def EXW (U : State) : Prop := ∀ w ∈ EXl, va_Nw w U
theorem EXl_tab {w : Cond} (h : w ∈ EXl) : w.onTables = true := (List.all_eq_true.mp (by decide +kernel : EXl.all Cond.onTables = true)) w h
theorem EXW_same {u U : State} (hv : u.vm = U.vm) (h : EXW u) : EXW U := fun w hw => va_Nw.same (EXl_tab hw) hv (h w hw)
theorem EXW_warm {s U : State} (hW : s.WarmedH U.vm) (h : EXW s) : EXW U := by
  intro w hw
  have h0 := h w hw
  simp only [EXl, List.mem_cons, List.not_mem_nil, or_false] at hw
  rcases hw with rfl | rfl | rfl | rfl | rfl | rfl
  · exact va_Nw.warmD hW h0
  · exact va_Nw.warmD hW h0
  · exact va_Nw.warmD hW h0
  · exact va_Nw.warmC hW h0
  · exact va_Nw.warmC hW h0
  · exact va_Nw.warmC hW h0
theorem EXW_use {A : Array Value} {U : State} (h : EXW U) : ∀ w ∈ EXl, w.before A U = true := fun w hw => va_Nw.use (EXl_tab hw) (h w hw)
def ZQ (A : Nat → Prop) (U : State) (H : Heap) : Prop := vx_Zq Bundle.tN "UNASSIGNED_STACK" Bundle.steD A U H ∧ vx_Zq Bundle.tN "SUPPRESSED_SENTINEL" Bundle.listD A U H
theorem ZQ_moved {A : Nat → Prop} {u U : State} {H : Heap} (hvm : u.vm.Alike U.vm) (h : ZQ A u H) : ZQ A U H := ⟨vx_Zq.moved hvm h.1, vx_Zq.moved hvm h.2⟩
theorem ZQ_kept {A : Nat → Prop} {U : State} {H H1 : Heap} (h : ZQ A U H) (hq : ∀ a : Nat, a < H.size → ¬ A a → H1[a]? = H[a]?) : ZQ A U H1 := ⟨vx_Zq.kept h.1 hq, vx_Zq.kept h.2 hq⟩
theorem ZQ_narrow {A B : Nat → Prop} {U : State} {H : Heap} (h : ZQ A U H) (hAB : ∀ q, B q → A q) : ZQ B U H := ⟨vx_Zq.narrow h.1 hAB, vx_Zq.narrow h.2 hAB⟩
/-- what throws, and only reads -/
def XrP (G : va_G) (cI : ClassId) (ws : va_W) : State → Prop := fun U => RdP G cI ws U ∧ STR U ∧ EXW U ∧ ZQ No U U.heap
theorem XrP_blind {G : va_G} {cI : ClassId} {ws : va_W} {av : List Value} : FrameBlind (va_Pc av (XrP G cI ws)) := fun _ U g mk q => ⟨q.1, RdP_calling q.2.1, STR_same (u := U) (U := U.calling g mk _) rfl q.2.2.1, EXW_same (u := U) (U := U.calling g mk _) rfl q.2.2.2.1, ZQ_moved (u := U) (U := U.calling g mk _) (Vm.Alike.refl U.vm) q.2.2.2.2⟩
theorem XrP_at {s U : State} {H : Heap} {G : va_G} {cI : ClassId} {ws ws' : va_W} {A : Nat → Prop} {locs : List Loc} (hK : va_K G vwCl (TY cI) s) (hP : va_P G vwCl ws H) (hN : NW s) (hE : STR s) (hX : EXW s) (hZ : ZQ A s s.heap) (hS : va_S A s.heap H locs) (is : List Nat) (hs : is.filterMap (fun i => ws[i]?) = ws') (hU : U.heap = H) (hW : s.WarmedH U.vm) : XrP G cI ws' U :=
  ⟨⟨by rw [hU]; exact hP.sub is hs, va_K.moved hW.alike hK, NW_warm hW hN⟩, STR_warm hW hE, EXW_warm hW hX, by rw [hU]; exact ZQ_narrow (ZQ_moved hW.alike (ZQ_kept hZ hS.2.1)) (fun _ h => h.elim)⟩
theorem xrV {s : State} {H : Heap} {G : va_G} {cI : ClassId} {ws ws' : va_W} {C : String} {T : u_T} {N ci q0 b : Nat} {fs As : List Value} {A : Nat → Prop} {locs : List Loc} (hK : va_K G vwCl (TY cI) s) (hP : va_P G vwCl ws H) (hN : NW s) (hE : STR s) (hX : EXW s) (hZ : ZQ A s s.heap) (hS : va_S A s.heap H locs) (is : List Nat) (hs : is.filterMap (fun i => ws[i]?) = ws') (hc : vwCl[ci]? = some (C, T, N)) (he : ws[q0]? = some (b, .inr (ci, fs))) : PreV s H C b (va_Pc (.ref b :: As) (XrP G cI ws')) As :=
  ⟨XrP_blind, va_recv hK hP hc he, fun U hU hW => ⟨rfl, XrP_at hK hP hN hE hX hZ hS is hs hU hW⟩⟩
theorem xrS {s : State} {H : Heap} {G : va_G} {cI : ClassId} {ws ws' : va_W} {As : List Value} {A : Nat → Prop} {locs : List Loc} (hK : va_K G vwCl (TY cI) s) (hP : va_P G vwCl ws H) (hN : NW s) (hE : STR s) (hX : EXW s) (hZ : ZQ A s s.heap) (hS : va_S A s.heap H locs) (is : List Nat) (hs : is.filterMap (fun i => ws[i]?) = ws') : PreS s H (va_Pc As (XrP G cI ws')) As :=
  ⟨XrP_blind, fun U hU hW => ⟨rfl, XrP_at hK hP hN hE hX hZ hS is hs hU hW⟩⟩
theorem nong {args : Array Value} {s : State} {L : List Cond} (hX : EXW s) (h0 : ∀ w ∈ L.filter (fun w => !goodWord w), w ∈ EXl) (h1 : ∀ w ∈ L.filter goodWord, w.before args s = true) : ∀ w ∈ L, w.before args s = true := vx_hat (B := EXl) h1 h0 (EXW_use hX)
theorem atI_ng : ∀ w ∈ (vx_atS RX1 73 "java/lang/IndexOutOfBoundsException" ["java/lang/RuntimeException", "java/lang/Exception"]).filter (fun w => !goodWord w), w ∈ EXl := by decide +kernel
theorem atA_ng : ∀ w ∈ (vx_atS RX1 145 "java/lang/IllegalArgumentException" ["java/lang/RuntimeException", "java/lang/Exception"]).filter (fun w => !goodWord w), w ∈ EXl := by decide +kernel
theorem atS_ng : ∀ w ∈ (vx_atS RX1 31 "java/lang/IllegalStateException" ["java/lang/RuntimeException", "java/lang/Exception"]).filter (fun w => !goodWord w), w ∈ EXl := by decide +kernel
theorem goI : ∀ w ∈ Cond.classLink RX1 69 "java/lang/IndexOutOfBoundsException" :: Cond.initialized "java/lang/IndexOutOfBoundsException" :: vx_atS RX1 73 "java/lang/IndexOutOfBoundsException" ["java/lang/RuntimeException", "java/lang/Exception"], vx_ot w = true := List.all_eq_true.mp (by decide +kernel)
theorem goA : ∀ w ∈ Cond.classLink RX1 141 "java/lang/IllegalArgumentException" :: Cond.initialized "java/lang/IllegalArgumentException" :: vx_atS RX1 145 "java/lang/IllegalArgumentException" ["java/lang/RuntimeException", "java/lang/Exception"], vx_ot w = true := List.all_eq_true.mp (by decide +kernel)
theorem goS : ∀ w ∈ Cond.classLink RX1 27 "java/lang/IllegalStateException" :: Cond.initialized "java/lang/IllegalStateException" :: vx_atS RX1 31 "java/lang/IllegalStateException" ["java/lang/RuntimeException", "java/lang/Exception"], vx_ot w = true := List.all_eq_true.mp (by decide +kernel)

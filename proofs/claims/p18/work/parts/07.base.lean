/-! the words of links between nest mates -/
def NWl : List Cond := [.fieldLinkNest RX1 42 "CanalCity$City" "coins" "I" "CanalCity", .fieldLinkNest RX1 23 "CanalCity$City" "kinds" "[I" "CanalCity", .fieldLinkNest RX1 99 "CanalCity$City" "boatSteps" "[I" "CanalCity", .methodLinkNest RX0 73 yX1_isLot "CanalCity", .methodLinkNest RX0 84 yX1_isWater "CanalCity", .methodLinkNest RX0 98 yX1_isLand "CanalCity", .methodLinkNest RX0 104 yX1_neighbour "CanalCity"]
def NW (U : State) : Prop := ∀ w ∈ NWl, va_Nw w U
theorem NW_on : ∀ w ∈ NWl, w.onTables = true := List.all_eq_true.mp (by decide +kernel)
theorem NW_at {U : State} (h : NW U) (i : Nat) {w : Cond} (hw : NWl[i]? = some w) : va_Nw w U := h w (List.mem_of_getElem? hw)
theorem NW_same {u U : State} (hv : u.vm = U.vm) (h : NW u) : NW U := fun w hw => va_Nw.same (NW_on w hw) hv (h w hw)
theorem NW_warm {s U : State} (hW : s.WarmedH U.vm) (h : NW s) : NW U := by
  intro w hw
  have h0 := h w hw
  simp only [NWl, List.mem_cons, List.not_mem_nil, or_false] at hw
  rcases hw with rfl | rfl | rfl | rfl | rfl | rfl | rfl
  · exact va_Nw.warmF hW h0
  · exact va_Nw.warmF hW h0
  · exact va_Nw.warmF hW h0
  · exact va_Nw.warmM hW h0
  · exact va_Nw.warmM hW h0
  · exact va_Nw.warmM hW h0
  · exact va_Nw.warmM hW h0
/-! worlds -/
abbrev oC (a : Nat → Nat) (mo co le : Int32) : va_E := .inr (0, [.int mo, .int co, .int le, .ref (a 3), .ref (a 4), .ref (a 5), .ref (a 6), .ref (a 7), .ref (a 8), .ref (a 9), .ref (a 10), .ref (a 11), .ref (a 12)])
abbrev iA (cI : ClassId) (f : Nat → Int32) : va_E := .inl (cI, 64, .inl f)
abbrev wC (cI : ClassId) (a : Nat → Nat) (mo co le : Int32) (K Q L Ho Ma B C D Fo Wa : Nat → Int32) : va_W := [(a 0, oC a mo co le), (a 3, iA cI K), (a 4, iA cI Q), (a 5, iA cI L), (a 6, iA cI Ho), (a 7, iA cI Ma), (a 8, iA cI B), (a 9, iA cI C), (a 10, iA cI D), (a 11, iA cI Fo), (a 12, iA cI Wa)]
abbrev TY (cI : ClassId) : List (ClassId × FieldType) := [(cI, .int)]
/-! what only reads: a world as it stands at the call, the answer v, no cell of before changed -/
def RdP (G : va_G) (cI : ClassId) (ws : va_W) : State → Prop := fun U => va_P G vwCl ws U.heap ∧ va_K G vwCl (TY cI) U ∧ NW U
abbrev RdQ (v : Int32) : Array Value → State → Outcome → State → Prop := va_Qi (fun (r : Int32) (_ : Unit) => r = v) (fun _ _ => True) (fun _ => False)
abbrev No : Nat → Prop := fun _ => False
theorem RdP_calling {G : va_G} {cI : ClassId} {ws : va_W} {U : State} {g : JFrame} {mk : MethodId} {a : Array Value} (h : RdP G cI ws U) : RdP G cI ws (U.calling g mk a) :=
  ⟨h.1, va_K.moved (u := U) (U := U.calling g mk a) (Vm.Alike.refl U.vm) h.2.1, NW_same (u := U) (U := U.calling g mk a) rfl h.2.2⟩
theorem RdP_blind {G : va_G} {cI : ClassId} {ws : va_W} {av : List Value} : FrameBlind (va_Pc av (RdP G cI ws)) := fun _ _ _ _ q => ⟨q.1, RdP_calling q.2⟩
theorem rdV {s : State} {H : Heap} {G : va_G} {cI : ClassId} {ws ws' : va_W} {C : String} {T : u_T} {N ci q0 b : Nat} {fs As : List Value} (hK : va_K G vwCl (TY cI) s) (hP : va_P G vwCl ws H) (hN : NW s) (is : List Nat) (hs : is.filterMap (fun i => ws[i]?) = ws') (hc : vwCl[ci]? = some (C, T, N)) (he : ws[q0]? = some (b, .inr (ci, fs))) : PreV s H C b (va_Pc (.ref b :: As) (RdP G cI ws')) As :=
  ⟨RdP_blind, va_recv hK hP hc he, fun U hU hW => ⟨rfl, by rw [hU]; exact hP.sub is hs, va_K.moved hW.alike hK, NW_warm hW hN⟩⟩
theorem rdS {s : State} {H : Heap} {G : va_G} {cI : ClassId} {ws ws' : va_W} {As : List Value} (hK : va_K G vwCl (TY cI) s) (hP : va_P G vwCl ws H) (hN : NW s) (is : List Nat) (hs : is.filterMap (fun i => ws[i]?) = ws') : PreS s H (va_Pc As (RdP G cI ws')) As :=
  ⟨RdP_blind, fun U hU hW => ⟨rfl, by rw [hU]; exact hP.sub is hs, va_K.moved hW.alike hK, NW_warm hW hN⟩⟩
theorem puS {s : State} {H : Heap} {As : List Value} : PreS s H (va_Pc As (fun _ => True)) As := ⟨fun _ _ _ _ q => q, fun _ _ _ => ⟨rfl, trivial⟩⟩
section Rw
variable {p : Program} {l : Launch} {e : Env} {R : Room} {s : State} {m : MethodId} {args : Array Value} {below : List Frame} {meth : Method} {c : Code} {H : Heap} {locs : List Loc} {cells slots : Nat} {Q : State → Prop}
variable {cc : ByteArray} {pc : Nat} {ls : Array Slot} {rest st0 : List Value} {A0 : Nat → Prop} {H0 : Heap} {a : Array Value} {G : va_G} {ws : va_W}
/-- the top of the stack, by another name -/
theorem tpi {x x' : Int32} (h : x = x') (k : W p l e R s m args below meth c H locs cells slots Q (F0 m pc ls (.int x' :: rest))) : W p l e R s m args below meth c H locs cells slots Q (F0 m pc ls (.int x :: rest)) := h ▸ k
theorem tpl {x x' : Int64} (h : x = x') (k : W p l e R s m args below meth c H locs cells slots Q (F0 m pc ls (.long x' :: rest))) : W p l e R s m args below meth c H locs cells slots Q (F0 m pc ls (.long x :: rest)) := h ▸ k
/-- the end that is owed, as a variable -/
theorem wq {Q0 : State → Prop} {g : JFrame} (h : ∀ Q, Q = Q0 → W p l e R s m args below meth c H locs cells slots Q g) : W p l e R s m args below meth c H locs cells slots Q0 g := h Q0 rfl
/-- behind a call of what only reads -/
theorem cr_i {v : Int32} (hr : va_Run p l e R s m args below meth c H locs cells slots 0 0 (F0 m pc ls st0) rest (RdQ v a) No) (hS : va_S A0 H0 H locs) (hP : va_P G vwCl ws H)
    (kk : ∀ (H1 : Heap) (locs1 : List Loc), va_P G vwCl ws H1 → va_S A0 H0 H1 locs1 → W p l e R s m args below meth c H1 locs1 cells slots Q (F0 m (pc + 3) ls (.int v :: rest))) : W p l e R s m args below meth c H locs cells slots Q (F0 m pc ls st0) := by
  refine va_calli hr hS (fun q _ h => h.elim) (fun q h => h.elim) (fun r u t H1 locs1 ht hvm hw hB hz1 hk1 hS1 => ?_)
  have hw : r = v := hw
  subst hw
  exact kk H1 locs1 (hP.kept (fun k x hx => hk1 x.1 ((hP k x hx).lt) (fun h => h))) hS1
theorem cr_p {v : Int32} (hr : va_Run p l e R s m args below meth c H locs cells slots 0 0 (F0 m pc ls st0) rest (RdQ v a) No) (hS : va_S A0 H0 H locs)
    (kk : ∀ (H1 : Heap) (locs1 : List Loc), va_S A0 H0 H1 locs1 → W p l e R s m args below meth c H1 locs1 cells slots Q (F0 m (pc + 3) ls (.int v :: rest))) : W p l e R s m args below meth c H locs cells slots Q (F0 m pc ls st0) := by
  refine va_calli hr hS (fun q _ h => h.elim) (fun q h => h.elim) (fun r u t H1 locs1 ht hvm hw hB hz1 hk1 hS1 => ?_)
  have hw : r = v := hw
  subst hw
  exact kk H1 locs1 hS1
/-- the end of what only reads -/
theorem rd_i {v v' : Int32} (hvv : v' = v) (hexec : p.tables.exec = Jvm.exec) (hb : c.code = cc) (hr : meth.sig.returnType = some .int) (hS : va_S No s.heap H locs) (hlocks : meth.locks = false) (hdg : decode cc pc = .ok (.ireturn, 1)) : W p l e R s m args below meth c H locs cells slots (MQ below (RdQ v) args s cells slots No) (F0 m pc ls [.int v']) := by
  subst hvv
  exact W.iret (v := v') hexec hb hr (fun t ht hW => ⟨⟨v', (), rfl, rfl, trivial⟩, hS.F ht⟩) hS.2.2 hdg hlocks
theorem rd_z {v v' : Int32} (hvv : v' = v) (hexec : p.tables.exec = Jvm.exec) (hb : c.code = cc) (hr : meth.sig.returnType = some .boolean) (hn : narrow .boolean (.int v) = .int v) (hS : va_S No s.heap H locs) (hlocks : meth.locks = false) (hdg : decode cc pc = .ok (.ireturn, 1)) : W p l e R s m args below meth c H locs cells slots (MQ below (RdQ v) args s cells slots No) (F0 m pc ls [.int v']) := by
  subst hvv
  exact W.zret (v := v') hexec hb hr hn (fun t ht hW => ⟨⟨v', (), rfl, rfl, trivial⟩, hS.F ht⟩) hS.2.2 hdg hlocks
end Rw
/-! what writes: the cells ws of the call are W' u behind it, at the same or new addresses -/
def WrP (G : va_G) (cI : ClassId) (ws : va_W) (sz : Nat) : State → Prop := fun U => U.heap.size = sz ∧ va_P G vwCl ws U.heap ∧ va_K G vwCl (TY cI) U ∧ va_D (fun _ => True) ws ∧ NW U
def WrB {S : Type} (G : va_G) (ws : va_W) (sz : Nat) (W' : S → va_W) : S → State → Prop := fun u t => va_P G vwCl (W' u) t.heap ∧ va_D (va_A ws sz) (W' u)
theorem WrP_blind {G : va_G} {cI : ClassId} {ws : va_W} {sz : Nat} {av : List Value} : FrameBlind (va_Pc av (WrP G cI ws sz)) := fun _ U g mk q => ⟨q.1, q.2.1, q.2.2.1, va_K.moved (u := U) (U := U.calling g mk _) (Vm.Alike.refl U.vm) q.2.2.2.1, q.2.2.2.2.1, NW_same (u := U) (U := U.calling g mk _) rfl q.2.2.2.2.2⟩
theorem wrV {s : State} {H : Heap} {G : va_G} {cI : ClassId} {ws ws' : va_W} {C : String} {T : u_T} {N ci q0 b : Nat} {fs As : List Value} {A : Nat → Prop} (hK : va_K G vwCl (TY cI) s) (hP : va_P G vwCl ws H) (hD : va_D A ws) (hN : NW s) (is : List Nat) (hn : va_nd is = true) (hs : is.map (fun i => ws[i]?) = ws'.map some) (hf : is.filterMap (fun i => ws[i]?) = ws') (hc : vwCl[ci]? = some (C, T, N)) (he : ws[q0]? = some (b, .inr (ci, fs))) : PreV s H C b (va_Pc (.ref b :: As) (WrP G cI ws' H.size)) As :=
  ⟨WrP_blind, va_recv hK hP hc he, fun U hU hW => ⟨rfl, by rw [hU], by rw [hU]; exact hP.sub is hf, va_K.moved hW.alike hK, (hD.sub is hn hs).weaken (fun _ _ _ _ => trivial), NW_warm hW hN⟩⟩
theorem wrS {s : State} {H : Heap} {G : va_G} {cI : ClassId} {ws ws' : va_W} {As : List Value} {A : Nat → Prop} (hK : va_K G vwCl (TY cI) s) (hP : va_P G vwCl ws H) (hD : va_D A ws) (hN : NW s) (is : List Nat) (hn : va_nd is = true) (hs : is.map (fun i => ws[i]?) = ws'.map some) (hf : is.filterMap (fun i => ws[i]?) = ws') : PreS s H (va_Pc As (WrP G cI ws' H.size)) As :=
  ⟨WrP_blind, fun U hU hW => ⟨rfl, by rw [hU], by rw [hU]; exact hP.sub is hf, va_K.moved hW.alike hK, (hD.sub is hn hs).weaken (fun _ _ _ _ => trivial), NW_warm hW hN⟩⟩
section Ww
variable {p : Program} {l : Launch} {e : Env} {R : Room} {s : State} {m : MethodId} {args : Array Value} {below : List Frame} {meth : Method} {c : Code} {H : Heap} {locs : List Loc} {cells slots mc ms : Nat} {Q : State → Prop}
variable {cc : ByteArray} {pc : Nat} {ls : Array Slot} {rest st0 : List Value} {A0 : Nat → Prop} {H0 : Heap} {a : Array Value} {G : va_G} {ws wc wr : va_W} {S : Type} {W' : S → va_W}
theorem cw_v {post : S → Prop} (hr : va_Run p l e R s m args below meth c H locs cells slots mc ms (F0 m pc ls st0) rest (va_Qv post (WrB G wc H.size W') (va_A wc H.size) a) (va_A wc H.size)) (hS : va_S A0 H0 H locs) (hP : va_P G vwCl ws H) (hD : va_D A0 ws) (hA : ∀ q, H0.size ≤ q → A0 q)
    (isC isR : List Nat) (hC : isC.map (fun i => ws[i]?) = wc.map some) (hR : isR.map (fun i => ws[i]?) = wr.map some) (hn : va_nd isR = true) (hdis : ∀ i ∈ isR, i ∉ isC)
    (kk : ∀ (u : S) (H1 : Heap) (locs1 : List Loc), post u → va_P G vwCl (wr ++ W' u) H1 → va_D A0 (wr ++ W' u) → va_S A0 H0 H1 locs1 → W p l e R s m args below meth c H1 locs1 (cells + mc) (slots + ms) Q (F0 m (pc + 3) ls rest)) : W p l e R s m args below meth c H locs cells slots Q (F0 m pc ls st0) := by
  have hF := va_free (wc := wc) hD hS hA isC hC
  refine va_callv hr hS (fun q _ h => hF q h) hF (fun u t H1 locs1 ht hvm hw hB hz1 hk1 hS1 => ?_)
  obtain ⟨hP1, hD1⟩ := hB
  rw [ht] at hP1
  obtain ⟨hP2, hD2⟩ := va_join hP hD isC isR hC hR hn hdis hk1 hF hP1 hD1
  exact kk u H1 locs1 hw hP2 hD2 hS1
theorem cw_i {post : Int32 → S → Prop} (hr : va_Run p l e R s m args below meth c H locs cells slots mc ms (F0 m pc ls st0) rest (va_Qi post (WrB G wc H.size W') (va_A wc H.size) a) (va_A wc H.size)) (hS : va_S A0 H0 H locs) (hP : va_P G vwCl ws H) (hD : va_D A0 ws) (hA : ∀ q, H0.size ≤ q → A0 q)
    (isC isR : List Nat) (hC : isC.map (fun i => ws[i]?) = wc.map some) (hR : isR.map (fun i => ws[i]?) = wr.map some) (hn : va_nd isR = true) (hdis : ∀ i ∈ isR, i ∉ isC)
    (kk : ∀ (r : Int32) (u : S) (H1 : Heap) (locs1 : List Loc), post r u → va_P G vwCl (wr ++ W' u) H1 → va_D A0 (wr ++ W' u) → va_S A0 H0 H1 locs1 → W p l e R s m args below meth c H1 locs1 (cells + mc) (slots + ms) Q (F0 m (pc + 3) ls (.int r :: rest))) : W p l e R s m args below meth c H locs cells slots Q (F0 m pc ls st0) := by
  have hF := va_free (wc := wc) hD hS hA isC hC
  refine va_calli hr hS (fun q _ h => hF q h) hF (fun r u t H1 locs1 ht hvm hw hB hz1 hk1 hS1 => ?_)
  obtain ⟨hP1, hD1⟩ := hB
  rw [ht] at hP1
  obtain ⟨hP2, hD2⟩ := va_join hP hD isC isR hC hR hn hdis hk1 hF hP1 hD1
  exact kk r u H1 locs1 hw hP2 hD2 hS1
theorem wr_v {post : S → Prop} (u : S) (hu : post u) {sz : Nat} (hexec : p.tables.exec = Jvm.exec) (hb : c.code = cc) (hr : meth.sig.returnType = none) (hP : va_P G vwCl (W' u) H) (hD : va_D (va_A wc sz) (W' u)) (hS : va_S (va_A wc sz) s.heap H locs) (hlocks : meth.locks = false) (hdg : decode cc pc = .ok (.return_, 1)) : W p l e R s m args below meth c H locs cells slots (MQ below (va_Qv post (WrB G wc sz W') (va_A wc sz)) args s cells slots (va_A wc sz)) (F0 m pc ls []) :=
  W.vret hexec hb hr (fun t ht hW => ⟨⟨u, rfl, hu, by rw [ht]; exact hP, hD⟩, hS.F ht⟩) hS.2.2 hdg hlocks
theorem wr_i {post : Int32 → S → Prop} {v : Int32} (u : S) (hu : post v u) {sz : Nat} (hexec : p.tables.exec = Jvm.exec) (hb : c.code = cc) (hr : meth.sig.returnType = some .int) (hP : va_P G vwCl (W' u) H) (hD : va_D (va_A wc sz) (W' u)) (hS : va_S (va_A wc sz) s.heap H locs) (hlocks : meth.locks = false) (hdg : decode cc pc = .ok (.ireturn, 1)) : W p l e R s m args below meth c H locs cells slots (MQ below (va_Qi post (WrB G wc sz W') (va_A wc sz)) args s cells slots (va_A wc sz)) (F0 m pc ls [.int v]) :=
  W.iret hexec hb hr (fun t ht hW => ⟨⟨v, u, rfl, hu, by rw [ht]; exact hP, hD⟩, hS.F ht⟩) hS.2.2 hdg hlocks
end Ww

theorem opo4 {k : Nat → Int32} {pt sd : Nat} (h : sd < 4) : opo k (nbC pt sd) = true → (opo k (nbC pt 0) || opo k (nbC pt 1) || opo k (nbC pt 2) || opo k (nbC pt 3)) = true :=
  four (P := fun sd => opo k (nbC pt sd) = true → (opo k (nbC pt 0) || opo k (nbC pt 1) || opo k (nbC pt 2) || opo k (nbC pt 3)) = true) h (fun e => by simp [e]) (fun e => by simp [e]) (fun e => by simp [e]) (fun e => by simp [e])
theorem ne_int {x n : Int32} {z : Int} (h : ¬ x = n) (hz : n.toInt = z) : x.toInt ≠ z := fun e => h (Int32.toInt_inj.mp (e.trans hz.symm))
theorem tbl345 {x : Int32} (h3 : ¬ x = 3) (h4 : ¬ x = 4) (h5 : ¬ x = 5) : x.toInt < 3 ∨ 5 < x.toInt := by
  have a3 := ne_int (z := 3) h3 (by decide)
  have a4 := ne_int (z := 4) h4 (by decide)
  have a5 := ne_int (z := 5) h5 (by decide)
  omega
theorem tbl04 {x : Int32} (h0 : ¬ x = 0) (h1 : ¬ x = 1) (h2 : ¬ x = 2) (h3 : ¬ x = 3) (h4 : ¬ x = 4) : x.toInt < 0 ∨ 4 < x.toInt := by
  have a0 := ne_int (z := 0) h0 (by decide)
  have a1 := ne_int (z := 1) h1 (by decide)
  have a2 := ne_int (z := 2) h2 (by decide)
  have a3 := ne_int (z := 3) h3 (by decide)
  have a4 := ne_int (z := 4) h4 (by decide)
  omega
theorem toI_eq {o : Option Nat} {i : Nat} (h : ∀ q, o = some q → q < 64) (hi : i < 64) (e : toI o = nI i) : o = some i := by
  cases o with
  | none =>
    have e : (-1 : Int32) = nI i := e
    have h9 : nI i < 0 := by rw [← e]; decide
    exact absurd h9 (nI_pos (by omega))
  | some q =>
    have e : nI q = nI i := e
    have := h q rfl
    rw [(nI_eq (by omega) (by omega)).mp e]
theorem tbl_tot {p : Program} {l : Launch} {e : Env} {R : Room} {s : State} {m : MethodId} {args : Array Value} {below : List Frame} {meth : Method} {c : Code} {H : Heap} {locs : List Loc} {cells slots : Nat} {Q : State → Prop} {cc : ByteArray} {pc : Nat} {ls : Array Slot} {rest : List Value} {x : Int32} {len : Nat} (hexec : p.tables.exec = Jvm.exec) (hb : c.code = cc)
    (hdg : decode cc pc = .ok (.tableswitch 97 0 12 #[67, 72, 97, 97, 97, 97, 97, 97, 97, 77, 82, 87, 92], len)) (hp : pc = 1) (w0 : ¬ x = 0) (w1 : ¬ x = 1) (w9 : ¬ x = 9) (w10 : ¬ x = 10) (w11 : ¬ x = 11) (w12 : ¬ x = 12)
    (k : W p l e R s m args below meth c H locs cells slots Q (F0 m 98 ls rest)) : W p l e R s m args below meth c H locs cells slots Q (F0 m pc ls (.int x :: rest)) := by
  subst hp
  have a0 := ne_int (z := 0) w0 (by decide)
  have a1 := ne_int (z := 1) w1 (by decide)
  have a2 := ne_int (z := 9) w9 (by decide)
  have a3 := ne_int (z := 10) w10 (by decide)
  have a4 := ne_int (z := 11) w11 (by decide)
  have a5 := ne_int (z := 12) w12 (by decide)
  by_cases h : x.toInt < 0 ∨ 12 < x.toInt
  · exact lv_tableOut (tgt := 98) hexec hb hdg h (by decide) k
  · refine lv_tableIn (off := 97) (tgt := 98) hexec hb hdg (by omega) (by omega) ?_ (by decide) k
    have e9 : x.toInt = 2 ∨ x.toInt = 3 ∨ x.toInt = 4 ∨ x.toInt = 5 ∨ x.toInt = 6 ∨ x.toInt = 7 ∨ x.toInt = 8 := by omega
    rcases e9 with q | q | q | q | q | q | q <;> (rw [q]; rfl)

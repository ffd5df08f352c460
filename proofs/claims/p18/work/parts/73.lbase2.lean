section Wq
variable {p : Program} {l : Launch} {e : Env} {R : Room} {s : State} {m : MethodId} {args : Array Value} {below : List Frame} {meth : Method} {c : Code} {H : Heap} {locs : List Loc} {cells slots mc ms : Nat} {Q : State → Prop}
variable {cc : ByteArray} {pc : Nat} {ls : Array Slot} {rest st0 : List Value} {A A0 : Nat → Prop} {H0 : Heap} {a : Array Value} {G : va_G} {X pl wc wr : va_W} {S : Type} {W' : S → va_W}
/-- behind a call, what stands behind the named cells untouched -/
theorem cq_i {post : Int32 → S → Prop} (hr : va_Run p l e R s m args below meth c H locs cells slots mc ms (F0 m pc ls st0) rest (va_Qi post (WrB G wc H.size W') (va_A wc H.size) a) (va_A wc H.size)) (hS : va_S A0 H0 H locs) (hP : va_P G vwCl (X ++ pl) H) (hD : va_D A0 (X ++ pl)) (hA : ∀ q, H0.size ≤ q → A0 q)
    (isC isR : List Nat) (hC : isC.map (fun i => X[i]?) = wc.map some) (hC2 : isC.map (fun i => (X ++ pl)[i]?) = wc.map some) (hR : isR.map (fun i => X[i]?) = wr.map some) (hn : va_nd isR = true) (hdis : ∀ i ∈ isR, i ∉ isC)
    (kk : ∀ (r : Int32) (u : S) (H1 : Heap) (locs1 : List Loc), post r u → va_P G vwCl ((wr ++ W' u) ++ pl) H1 → va_D A0 ((wr ++ W' u) ++ pl) → va_S A0 H0 H1 locs1 → W p l e R s m args below meth c H1 locs1 (cells + mc) (slots + ms) Q (F0 m (pc + 3) ls (.int r :: rest))) : W p l e R s m args below meth c H locs cells slots Q (F0 m pc ls st0) := by
  have hF := va_free (wc := wc) hD hS hA isC hC2
  refine va_calli hr hS (fun q _ h => hF q h) hF (fun r u t H1 locs1 ht hvm hw hB hz1 hk1 hS1 => ?_)
  obtain ⟨hP1, hD1⟩ := hB
  rw [ht] at hP1
  obtain ⟨hP2, hD2⟩ := va_joinQ hP hD isC isR hC hR hn hdis hk1 hF hP1 hD1
  exact kk r u H1 locs1 hw hP2 hD2 hS1
theorem wr_ro {W' : S → Nat → va_W} {post : S → Prop} {v : Nat} {t0 : String} (u : S) (hu : post u) {sz : Nat} (hexec : p.tables.exec = Jvm.exec) (hb : c.code = cc) (hr : meth.sig.returnType = some (.object t0)) (hP : va_P G vwCl (W' u v) H) (hD : va_D (va_A wc sz) (W' u v)) (hS : va_S (va_A wc sz) s.heap H locs) (hlocks : meth.locks = false) (hdg : decode cc pc = .ok (.areturn, 1)) : W p l e R s m args below meth c H locs cells slots (MQ below (va_Qr post (WrBr G wc sz W') (va_A wc sz)) args s cells slots (va_A wc sz)) (F0 m pc ls [.ref v]) :=
  W.aret hexec hb hr (Or.inl ⟨_, rfl⟩) (Or.inr ⟨_, rfl⟩) (fun t ht hW => ⟨⟨u, v, rfl, hu, by rw [ht]; exact hP, hD⟩, hS.F ht⟩) hS.2.2 hdg hlocks
end Wq
/-- what throws, with the script -/
def WsPB (G : va_G) (cs : Nat → ClassId) (b L : Nat) (xs : Nat → Int32) (ws : va_W) (sz : Nat) : State → Prop := fun U => WsPX G cs ws sz U ∧ va_X b L xs U U.heap ∧ ¬ va_A ws sz b
theorem WsPB_blind {G : va_G} {cs : Nat → ClassId} {b L : Nat} {xs : Nat → Int32} {ws : va_W} {sz : Nat} {av : List Value} : FrameBlind (va_Pc av (WsPB G cs b L xs ws sz)) := fun a U g mk q => ⟨q.1, (WsPX_blind a U g mk ⟨q.1, q.2.1⟩).2, va_X.moved (u := U) (U := U.calling g mk a) (Vm.Alike.refl U.vm) q.2.2.1, q.2.2.2⟩
theorem wsbS {s : State} {H : Heap} {G : va_G} {cs : Nat → ClassId} {b L : Nat} {xs : Nat → Int32} {ws ws' : va_W} {As : List Value} {A : Nat → Prop} {locs : List Loc} (hXs : va_X b L xs s s.heap) (hbl : b < s.heap.size) (hbA : ¬ A b) (hK : va_K G vwCl (TYX cs) s) (hP : va_P G vwCl ws H) (hD : va_D A ws) (hN : NA s) (hE : STR s) (hX : EXW s) (hZ : ZQ A s s.heap) (hBL : BLT A s s.heap) (hS : va_S A s.heap H locs) (hA : ∀ q, s.heap.size ≤ q → A q) (is : List Nat) (hn : va_nd is = true) (hs : is.map (fun i => ws[i]?) = ws'.map some) (hf : is.filterMap (fun i => ws[i]?) = ws') : PreS s H (va_Pc As (WsPB G cs b L xs ws' H.size)) As :=
  ⟨WsPB_blind, fun U hU hW => ⟨rfl, ((wsxS (As := As) hK hP hD hN hE hX hZ hBL hS hA is hn hs hf).2 U hU hW).2, by
    rw [hU]; exact va_X.moved hW.alike (hXs.kept (hS.2.1 b hbl hbA)), fun h => hbA (va_free (wc := ws') hD hS hA is hs b h)⟩⟩
/-! rows of six, of all lots -/
def lR (c : ClassId) (r : Nat → Nat) (F : Nat → Nat → Int32) : va_W := (List.range 64).map (fun i => (r i, iB c 6 (F i)))
def updF (F : Nat → Nat → Int32) (i w : Nat) (v : Int32) : Nat → Nat → Int32 := fun j => if j = i then upd (F i) w v else F j
theorem updF_s {F : Nat → Nat → Int32} {i w : Nat} {v : Int32} : updF F i w v i = upd (F i) w v := if_pos rfl
theorem updF_n {F : Nat → Nat → Int32} {i w j : Nat} {v : Int32} (h : j ≠ i) : updF F i w v j = F j := if_neg h
theorem lR_len (c : ClassId) (r : Nat → Nat) (F : Nat → Nat → Int32) : (lR c r F).length = 64 := by unfold lR; rw [List.length_map, List.length_range]
theorem lR_at {c : ClassId} {r : Nat → Nat} {F : Nat → Nat → Int32} {i : Nat} (h : i < 64) : (lR c r F)[i]? = some (r i, iB c 6 (F i)) := by
  unfold lR
  rw [List.getElem?_map, List.getElem?_range h]
  rfl
theorem lP_at {X : va_W} {c : ClassId} {r : Nat → Nat} {F : Nat → Nat → Int32} {i : Nat} (h : i < 64) : (X ++ lR c r F)[X.length + i]? = some (r i, iB c 6 (F i)) := by
  rw [List.getElem?_append_right (Nat.le_add_right _ _), Nat.add_sub_cancel_left, lR_at h]
theorem lR_set {c : ClassId} {r : Nat → Nat} {F : Nat → Nat → Int32} {i w : Nat} {v : Int32} (h : i < 64) : (lR c r F).set i (r i, iB c 6 (upd (F i) w v)) = lR c r (updF F i w v) := by
  apply List.ext_getElem?
  intro j
  by_cases hj : j < 64
  · rw [lR_at hj]
    by_cases e : j = i
    · subst e
      rw [List.getElem?_set_self (by rw [lR_len]; exact hj), updF_s]
    · rw [List.getElem?_set_ne (Ne.symm e), lR_at hj, updF_n e]
  · rw [List.getElem?_eq_none (by rw [List.length_set, lR_len]; omega), List.getElem?_eq_none (by rw [lR_len]; omega)]
theorem lP_set {X : va_W} {c : ClassId} {r : Nat → Nat} {F : Nat → Nat → Int32} {i w : Nat} {v : Int32} (h : i < 64) : (X ++ lR c r F).set (X.length + i) (r i, iB c 6 (upd (F i) w v)) = X ++ lR c r (updF F i w v) := by
  rw [List.set_append_right _ _ (Nat.le_add_right _ _), Nat.add_sub_cancel_left, lR_set h]
theorem lR_new {c : ClassId} {r : Nat → Nat} {f : Nat → va_E} : va_pl ([] ++ (List.range 64).map r) (vr_up f ((List.range 64).map r) (iB c 6 (fun _ => 0))) = lR c r (fun _ _ => 0) := by
  have h : ∀ a, a ∈ (List.range 64).map r → vr_up f ((List.range 64).map r) (iB c 6 (fun _ => 0)) a = iB c 6 (fun _ => 0) := fun a ha => vr_up_in ha
  have e : va_pl ([] ++ (List.range 64).map r) (vr_up f ((List.range 64).map r) (iB c 6 (fun _ => 0))) = ((List.range 64).map r).map (fun a => (a, iB c 6 (fun _ => 0))) := by
    unfold va_pl
    rw [List.nil_append]
    exact List.map_congr_left (fun a ha => by rw [h a ha])
  rw [e, List.map_map]
  rfl
section Lr
variable {p : Program} {l : Launch} {e : Env} {R : Room} {s : State} {m : MethodId} {args : Array Value} {below : List Frame} {meth : Method} {c : Code} {H : Heap} {locs : List Loc} {cells slots : Nat} {Q : State → Prop}
variable {cc : ByteArray} {pc : Nat} {ls : Array Slot} {rest : List Value} {D : va_G} {cl : List vw_C} {A : Nat → Prop} {tys : List (ClassId × FieldType)} {X : va_W} {H0 : Heap}
theorem l_iald (hexec : p.tables.exec = Jvm.exec) (hb : c.code = cc) (hK : va_K D cl tys s) {cR : ClassId} {r : Nat → Nat} {F : Nat → Nat → Int32} (hP : va_P D cl (X ++ lR cR r F) H) (t0 : Nat) (ht : tys[t0]? = some (cR, .int)) {i w : Nat} (hi : i < 64) (hw : w < 6) (hdg : decode cc pc = .ok (.iaload, 1))
    (kk : W p l e R s m args below meth c H locs cells slots Q (F0 m (pc + 1) ls (.int (F i w) :: rest))) : W p l e R s m args below meth c H locs cells slots Q (F0 m pc ls (.int (nI w) :: .ref (r i) :: rest)) := by
  refine va_iald hexec hb hK hP (X.length + i) t0 (lP_at hi) ht (vp_in_nI hw (by decide)) hdg ?_
  rw [nI_clamp (by omega)]
  exact kk
theorem l_iast (hexec : p.tables.exec = Jvm.exec) (hb : c.code = cc) (hK : va_K D cl tys s) {cR : ClassId} {r : Nat → Nat} {F : Nat → Nat → Int32} (hP : va_P D cl (X ++ lR cR r F) H) (hD : va_D A (X ++ lR cR r F)) (hS : va_S A H0 H locs) (t0 : Nat) (ht : tys[t0]? = some (cR, .int)) {i w : Nat} (hi : i < 64) (hw : w < 6) {v : Int32} (hdg : decode cc pc = .ok (.iastore, 1))
    (kk : ∀ (H1 : Heap) (locs1 : List Loc), va_P D cl (X ++ lR cR r (updF F i w v)) H1 → va_D A (X ++ lR cR r (updF F i w v)) → va_S A H0 H1 locs1 → W p l e R s m args below meth c H1 locs1 cells slots Q (F0 m (pc + 1) ls rest)) : W p l e R s m args below meth c H locs cells slots Q (F0 m pc ls (.int v :: .int (nI w) :: .ref (r i) :: rest)) := by
  refine va_iast hexec hb hK hP hD hS (X.length + i) t0 (lP_at hi) ht (vp_in_nI hw (by decide)) hdg (fun H1 locs1 hP1 hD1 hS1 => ?_)
  rw [nI_clamp (by omega)] at hP1 hD1
  refine kk H1 locs1 ?_ ?_ hS1
  · rw [← lP_set hi]
    exact hP1
  · rw [← lP_set hi]
    exact hD1
end Lr
/-! the law: what holds all along -/
def LwE (p : Program) (l : Launch) (s : State) (m : MethodId) (c : Code) (b Ln : Nat) (xs : Nat → Int32) (G : va_G) (cs : Nat → ClassId) (A : Nat → Prop) : Prop :=
  p.tables.exec = Jvm.exec ∧ c.code = code ∧ c.maxLocals = 25 ∧ s.vm.findClass RL = some m.cls ∧ (∀ w ∈ wsL_law, w.before #[Value.ref b] s = true) ∧ l.stackTraces = false ∧ va_K G vwCl (TYX cs) s ∧ NA s ∧ STR s ∧ EXW s ∧ ZQ A s s.heap ∧ BLT A s s.heap ∧ (∀ q, s.heap.size ≤ q → A q) ∧ va_X b Ln xs s s.heap ∧ b < s.heap.size ∧ ¬ A b

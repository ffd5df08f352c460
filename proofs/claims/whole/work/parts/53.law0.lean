/-! the law's loop: what holds all along -/
abbrev LAW (cI cL : ClassId) (h q9 : Nat) (a t g : Nat → Nat) (cy dy : Cy) (my : My) (o : Nat → Int64) : va_W := [(h, oX a t), (a 0, oC a cy.mo cy.co cy.le), (a 3, iA cI cy.K), (a 4, iA cI cy.Q), (a 5, iA cI cy.L), (a 6, iA cI cy.H), (a 7, iA cI cy.M), (a 8, iA cI cy.B), (a 9, iA cI cy.C), (a 10, iA cI cy.D), (a 11, iA cI cy.F), (a 12, iA cI cy.W), (t 0, oC t dy.mo dy.co dy.le), (t 3, iA cI dy.K), (t 4, iA cI dy.Q), (t 5, iA cI dy.L), (t 6, iA cI dy.H), (t 7, iA cI dy.M), (t 8, iA cI dy.B), (t 9, iA cI dy.C), (t 10, iA cI dy.D), (t 11, iA cI dy.F), (t 12, iA cI dy.W), (q9, lA cL o), (g 0, oM g my.th cy.mo cy.co cy.le), (g 4, iA cI my.K), (g 5, iA cI my.Ah), (g 6, iA cI my.Ot), (g 7, iA cI my.Qm), (g 8, iA cI my.Op), (g 9, iA cI my.Lm), (g 10, iA cI my.Hm), (g 11, iA cI my.Mm), (g 12, iA cI my.Rw), (g 13, iA cI my.St)]
def LwE (p : Program) (l : Launch) (s : State) (m : MethodId) (c : Code) (b Ln : Nat) (xs : Nat → Int32) (G : va_G) (cI cL : ClassId) (A : Nat → Prop) : Prop :=
  p.tables.exec = Jvm.exec ∧ c.code = code ∧ c.maxLocals = 9 ∧ s.vm.findClass RL = some m.cls ∧ (∀ w ∈ wsL_law, w.before #[Value.ref b] s = true) ∧ l.stackTraces = false ∧ va_K G vwCl (TY cI) s ∧ va_K G vwCl [(cL, .long)] s ∧ NW s ∧ STR s ∧ EXW s ∧ NCX s ∧ ZQ A s s.heap ∧ BLT A s s.heap ∧ (∀ q, s.heap.size ≤ q → A q) ∧ va_X b Ln xs s s.heap ∧ b < s.heap.size ∧ ¬ A b
theorem LwE_drawn {p : Program} {l : Launch} {s : State} {m : MethodId} {c : Code} {b Ln : Nat} {xs : Nat → Int32} {G : va_G} {cI cL : ClassId} {A : Nat → Prop} (h : LwE p l s m c b Ln xs G cI cL A) (d : Drawn) : LwE p l (s.setDrawn d) m c b Ln xs G cI cL A := by
  obtain ⟨h1, h2, h3, h4, h5, h6, h7, h8, h9, h10, h11, h12, h13, h14, h15, h16, h17, h18⟩ := h
  exact ⟨h1, h2, h3, h4, dr_words h5 d, h6, h7, h8, NW_same (u := s) (U := s.setDrawn d) rfl h9, STR_same (u := s) (U := s.setDrawn d) rfl h10, EXW_same (u := s) (U := s.setDrawn d) rfl h11, NCX_moved (u := s) (U := s.setDrawn d) (Vm.Alike.refl s.vm) h12, ZQ_moved (u := s) (U := s.setDrawn d) (Vm.Alike.refl s.vm) h13, BLT_moved (u := s) (U := s.setDrawn d) (Vm.Alike.refl s.vm) h14, h15, va_X.moved (u := s) (U := s.setDrawn d) (Vm.Alike.refl s.vm) h16, h17, h18⟩
theorem wrVB {s : State} {H : Heap} {G : va_G} {cI : ClassId} {ws ws' : va_W} {C : String} {T : u_T} {N ci q0 b : Nat} {fs As : List Value} {A : Nat → Prop} {locs : List Loc} (hBL : BLT A s s.heap) (hS : va_S A s.heap H locs) (hA : ∀ q, s.heap.size ≤ q → A q) (hK : va_K G vwCl (TY cI) s) (hP : va_P G vwCl ws H) (hD : va_D A ws) (hN : NW s) (is : List Nat) (hn : va_nd is = true) (hs : is.map (fun i => ws[i]?) = ws'.map some) (hf : is.filterMap (fun i => ws[i]?) = ws') (hc : vwCl[ci]? = some (C, T, N)) (he : ws[q0]? = some (b, .inr (ci, fs))) : PreV s H C b (va_Pc (.ref b :: As) (WrPB G cI ws' H.size)) As :=
  ⟨WrPB_blind, va_recv hK hP hc he, fun U hU hW => ⟨rfl, ((wrV (As := As) hK hP hD hN is hn hs hf hc he).2.2 U hU hW).2, by
    rw [hU]; exact BLT_narrow (BLT_moved hW.alike (BLT_kept hBL hS.2.1)) (fun q h => va_free (wc := ws') hD hS hA is hs q h)⟩⟩
section Ww
variable {p : Program} {l : Launch} {e : Env} {R : Room} {s : State} {m : MethodId} {args : Array Value} {below : List Frame} {meth : Method} {c : Code} {H : Heap} {locs : List Loc} {cells slots mc ms : Nat} {Q : State → Prop}
variable {cc : ByteArray} {pc : Nat} {ls : Array Slot} {rest st0 : List Value} {A0 : Nat → Prop} {H0 : Heap} {a : Array Value} {G : va_G} {ws wc wr : va_W} {S : Type} {W' : S → va_W}
theorem cw_l {post : Int64 → S → Prop} (hr : va_Run p l e R s m args below meth c H locs cells slots mc ms (F0 m pc ls st0) rest (va_Ql post (WrB G wc H.size W') (va_A wc H.size) a) (va_A wc H.size)) (hS : va_S A0 H0 H locs) (hP : va_P G vwCl ws H) (hD : va_D A0 ws) (hA : ∀ q, H0.size ≤ q → A0 q)
    (isC isR : List Nat) (hC : isC.map (fun i => ws[i]?) = wc.map some) (hR : isR.map (fun i => ws[i]?) = wr.map some) (hn : va_nd isR = true) (hdis : ∀ i ∈ isR, i ∉ isC)
    (kk : ∀ (r : Int64) (u : S) (H1 : Heap) (locs1 : List Loc), post r u → va_P G vwCl (wr ++ W' u) H1 → va_D A0 (wr ++ W' u) → va_S A0 H0 H1 locs1 → W p l e R s m args below meth c H1 locs1 (cells + mc) (slots + ms) Q (F0 m (pc + 3) ls (.long r :: rest))) : W p l e R s m args below meth c H locs cells slots Q (F0 m pc ls st0) := by
  have hF := va_free (wc := wc) hD hS hA isC hC
  refine va_calll hr hS (fun q _ h => hF q h) hF (fun r u t H1 locs1 ht hvm hw hB hz1 hk1 hS1 => ?_)
  obtain ⟨hP1, hD1⟩ := hB
  rw [ht] at hP1
  obtain ⟨hP2, hD2⟩ := va_join hP hD isC isR hC hR hn hdis hk1 hF hP1 hD1
  exact kk r u H1 locs1 hw hP2 hD2 hS1
theorem cw_dD {d0 : Drawn} {cs : List Choice} (hd0 : s.drawn.sameBut d0 cs) {post : UInt64 → S → Prop} (hr : va_RunD cs p l e R (s.setDrawn d0) m args below meth c H locs cells slots mc ms (F0 m pc ls st0) rest (va_Qd post (WrB G wc H.size W') (va_A wc H.size) a) (va_A wc H.size)) (hS : va_S A0 H0 H locs) (hP : va_P G vwCl ws H) (hD : va_D A0 ws) (hA : ∀ q, H0.size ≤ q → A0 q)
    (isC isR : List Nat) (hC : isC.map (fun i => ws[i]?) = wc.map some) (hR : isR.map (fun i => ws[i]?) = wr.map some) (hn : va_nd isR = true) (hdis : ∀ i ∈ isR, i ∉ isC)
    (kk : ∀ (r : UInt64) (u : S) (H1 : Heap) (locs1 : List Loc), post r u → va_P G vwCl (wr ++ W' u) H1 → va_D A0 (wr ++ W' u) → va_S A0 H0 H1 locs1 → ∀ d' : Drawn, s.drawn.sameBut d' cs → W p l e R (s.setDrawn d') m args below meth c H1 locs1 (cells + mc) (slots + ms) Q (F0 m (pc + 3) ls (.double r :: rest))) : W p l e R (s.setDrawn d0) m args below meth c H locs cells slots Q (F0 m pc ls st0) := by
  have hF := va_free (wc := wc) hD hS hA isC hC
  refine va_calldD hd0 hr hS (fun q _ h => hF q h) hF (fun r u t H1 locs1 ht hvm hw hB hz1 hk1 hS1 d' hd' => ?_)
  obtain ⟨hP1, hD1⟩ := hB
  rw [ht] at hP1
  obtain ⟨hP2, hD2⟩ := va_join hP hD isC isR hC hR hn hdis hk1 hF hP1 hD1
  exact kk r u H1 locs1 hw hP2 hD2 hS1 d' hd'
theorem cr_dD {d0 : Drawn} {cs : List Choice} (hd0 : s.drawn.sameBut d0 cs) {post : UInt64 → Prop} (hr : va_RunD cs p l e R (s.setDrawn d0) m args below meth c H locs cells slots 0 0 (F0 m pc ls st0) rest (va_Qd (fun (r : UInt64) (_ : Unit) => post r) (fun _ _ => True) No a) No) (hS : va_S A0 H0 H locs) (hP : va_P G vwCl ws H)
    (kk : ∀ (r : UInt64) (H1 : Heap) (locs1 : List Loc), post r → va_P G vwCl ws H1 → va_S A0 H0 H1 locs1 → ∀ d' : Drawn, s.drawn.sameBut d' cs → W p l e R (s.setDrawn d') m args below meth c H1 locs1 cells slots Q (F0 m (pc + 3) ls (.double r :: rest))) : W p l e R (s.setDrawn d0) m args below meth c H locs cells slots Q (F0 m pc ls st0) := by
  refine va_calldD hd0 hr hS (fun q _ h => h.elim) (fun q h => h.elim) (fun r u t H1 locs1 ht hvm hw hB hz1 hk1 hS1 d' hd' => ?_)
  exact kk r H1 locs1 hw (hP.kept (fun k x hx => hk1 x.1 ((hP k x hx).lt) (fun h => h))) hS1 d' hd'
end Ww
/-! the mean, twice -/
theorem nan_dec {n : Nat} (h : 9218868437227405312 < n % 9223372036854775808) : FP.Core.decode FP.Core.b64 n = FP.Core.Datum.nan := by
  have h1 : FP.Core.fieldE FP.Core.b64 n = FP.Core.b64.exps - 1 := by
    show n / 4503599627370496 % 2048 = 2047
    omega
  have h2 : ¬ FP.Core.fieldT FP.Core.b64 n = 0 := by
    show ¬ n % 4503599627370496 = 0
    omega
  unfold FP.Core.decode
  rw [if_pos h1, if_neg h2]
theorem nan_cmp {x y : UInt64} (h : isNaN64 x = true) : ¬ Op.cmpValue (FP.dcmp x y) .l = 0 := by
  have h4 := isNaN64_iff.mp h
  rw [show (0x7fffffffffffffff : Nat) = 2 ^ 63 - 1 by decide, Nat.and_two_pow_sub_one_eq_mod] at h4
  have h5 : FP.dcmp x y = none := by
    show FP.Core.order (FP.Core.decode FP.Core.b64 x.toNat) (FP.Core.decode FP.Core.b64 y.toNat) = none
    rw [nan_dec h4]
    rfl
  rw [h5]
  decide
theorem mn_both {k : Nat → Int32} {p q : UInt64} (hp : mnR k p) (hq : mnR k q) : p = q ∨ (isNaN64 p = true ∧ isNaN64 q = true) := by
  unfold mnR at hp hq
  by_cases h : many k 3 = 0
  · rw [if_pos h] at hp hq
    exact Or.inl (hp.trans hq.symm)
  · rw [if_neg h] at hp hq
    unfold alike64 at hp hq
    rw [Bool.or_eq_true, decide_eq_true_eq, Bool.and_eq_true] at hp hq
    rcases hp with hp | ⟨hp, hp2⟩
    · rcases hq with hq | ⟨hq, hq2⟩
      · exact Or.inl (hp.trans hq.symm)
      · exact Or.inr ⟨by rw [hp]; exact hq2, hq⟩
    · rcases hq with hq | ⟨hq, hq2⟩
      · exact Or.inr ⟨hp, by rw [hq]; exact hp2⟩
      · exact Or.inr ⟨hp, hq⟩
theorem tbl14 {x : Int32} (h0 : ¬ x = 0) (h1 : ¬ x = 1) (h2 : ¬ x = 2) (h3 : ¬ x = 3) (h4 : ¬ x = 4) (h5 : ¬ x = 5) (h6 : ¬ x = 6) (h7 : ¬ x = 7) (h8 : ¬ x = 8) (h9 : ¬ x = 9) (h10 : ¬ x = 10) (h11 : ¬ x = 11) (h12 : ¬ x = 12) (h13 : ¬ x = 13) (h14 : ¬ x = 14) : x.toInt < 0 ∨ 14 < x.toInt := by
  have a0 := ne_int (z := 0) h0 (by decide)
  have a1 := ne_int (z := 1) h1 (by decide)
  have a2 := ne_int (z := 2) h2 (by decide)
  have a3 := ne_int (z := 3) h3 (by decide)
  have a4 := ne_int (z := 4) h4 (by decide)
  have a5 := ne_int (z := 5) h5 (by decide)
  have a6 := ne_int (z := 6) h6 (by decide)
  have a7 := ne_int (z := 7) h7 (by decide)
  have a8 := ne_int (z := 8) h8 (by decide)
  have a9 := ne_int (z := 9) h9 (by decide)
  have a10 := ne_int (z := 10) h10 (by decide)
  have a11 := ne_int (z := 11) h11 (by decide)
  have a12 := ne_int (z := 12) h12 (by decide)
  have a13 := ne_int (z := 13) h13 (by decide)
  have a14 := ne_int (z := 14) h14 (by decide)
  omega

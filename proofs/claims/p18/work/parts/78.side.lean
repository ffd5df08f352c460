/-! land beside land, water beside water -/
theorem lnd_no {x : Int32} (h : kd x) (hl : lnd x = false) : x ≤ 1 ∧ x < 2 := by
  rcases kd_cases h with rfl | rfl | rfl | rfl | rfl | rfl | rfl
  · decide
  · decide
  all_goals exact absurd hl (by decide)
theorem wtr_no {x : Int32} (h : wtr x = false) : ¬ x = 1 ∧ ¬ x = 6 := by
  unfold wtr at h
  rw [Bool.or_eq_false_iff, decide_eq_false_iff_not, decide_eq_false_iff_not] at h
  exact h
theorem wtr_or {x : Int32} (h : wtr x = true) : x = 1 ∨ x = 6 := by
  unfold wtr at h
  rw [Bool.or_eq_true, decide_eq_true_eq, decide_eq_true_eq] at h
  exact h
theorem wt_by {k : Nat → Int32} {p : Nat} (h : wtr (k p) = true) : byB k p = false := by
  rcases wtr_or h with e | e
  · exact by_no (Or.inl (by rw [e]; decide))
  · exact by_no (Or.inr e)
theorem inB_063 {i : Nat} (h : i < 64) : inB 0 63 (nI i) = true := by
  unfold inB
  rw [decide_eq_true (show (0 : Int32) ≤ nI i from nI_pos' (by omega)), decide_eq_true (show nI i ≤ (63 : Int32) from nI_le (a := i) (b := 63) (by omega) (by decide))]
  rfl
theorem nb_abs {k : Nat → Int32} {a b : Nat} (ha : a < 64) (h : Adj a b) (h1 : wtr (k a) = true) (h2 : wtr (k b) = true) : (if 0 ≤ toI (dst (PB false k) 3 a) - toI (dst (PB false k) 3 b) then toI (dst (PB false k) 3 a) - toI (dst (PB false k) 3 b) else 0 - (toI (dst (PB false k) 3 a) - toI (dst (PB false k) 3 b))) ≤ 1 := by
  rcases nb_sail ha h h1 h2 with e | e | e <;> rw [e] <;> decide
theorem nI_cl {i : Nat} (h : i < 64) : (nI i).toNatClampNeg = i := nI_clamp (by omega)
theorem qI_1 {k : Nat → Int32} {p : Nat} (h : qrt k p = some p) : csum (qI k) p + 1 = csum (qI k) (p + 1) := by
  show _ = csum (qI k) p + qI k p
  unfold qI
  rw [if_pos h]
theorem qI_0 {k : Nat → Int32} {p : Nat} (h : ¬ qrt k p = some p) : csum (qI k) p + 0 = csum (qI k) (p + 1) := by
  show _ = csum (qI k) p + qI k p
  unfold qI
  rw [if_neg h]
theorem csq_0 (k : Nat → Int32) : csum (qI k) 0 = 0 := rfl
theorem csq_e (k : Nat → Int32) : csum (qI k) 64 = qall k := rfl
set_option maxHeartbeats 16000000 in
set_option maxRecDepth 100000 in
theorem law_side {p : Program} {l : Launch} {e : Env} {s : State} {m : MethodId} {below : List Frame} {meth : Method} {c : Code} {b Ln : Nat} {xs : Nat → Int32} {A : Nat → Prop} {cells slots : Nat} {Q : State → Prop} {G : va_G} {cs : Nat → ClassId} {hc h o : Nat} {a t r : Nat → Nat} {cy dy : Cy} {K k : Nat → Int32} {H : Heap} {locs : List Loc} {ls : Array Slot} {tm : Nat} {x4 : Int32} {q5 q6 q7 : Nat} {r5 : Nat → Nat} {F : Nat → Nat → Int32} {R6 R7 : Nat → Int32} {i to : Nat} {sd qn : Int32} (E0 : LwE p l s m c b Ln xs G cs A) (hg : Sd cy k) (hk9 : eqK K k) (hF : ∀ i, i < 64 → OWN k F i) (hi : i < 64) (hto : to < 64) (hadj : Adj i to) (hne : i ≠ to) (hP : va_P G vwCl ([(hc, oX a t), ((a 0), oC a (cy.mo) (cy.co) (cy.le)), ((a 3), iA (cs 0) (cy.K)), ((a 4), iA (cs 0) (cy.Q)), ((a 5), iA (cs 0) (cy.L)), ((a 6), iA (cs 0) (cy.H)), ((a 7), iA (cs 0) (cy.M)), ((a 8), iA (cs 0) (cy.B)), ((a 9), iA (cs 0) (cy.C)), ((a 10), iA (cs 0) (cy.D)), ((a 11), iA (cs 0) (cy.F)), ((a 12), iA (cs 0) (cy.W)), ((t 0), oC t (dy.mo) (dy.co) (dy.le)), ((t 3), iA (cs 0) (dy.K)), ((t 4), iA (cs 0) (dy.Q)), ((t 5), iA (cs 0) (dy.L)), ((t 6), iA (cs 0) (dy.H)), ((t 7), iA (cs 0) (dy.M)), ((t 8), iA (cs 0) (dy.B)), ((t 9), iA (cs 0) (dy.C)), ((t 10), iA (cs 0) (dy.D)), ((t 11), iA (cs 0) (dy.F)), ((t 12), iA (cs 0) (dy.W)), (h, oS o (cy.mo) (cy.co) (cy.le)), (o, oQ (cs 1) 8 r), ((r 0), iB (cs 0) 8 (cl8 K 0)), ((r 1), iB (cs 0) 8 (cl8 K 1)), ((r 2), iB (cs 0) 8 (cl8 K 2)), ((r 3), iB (cs 0) 8 (cl8 K 3)), ((r 4), iB (cs 0) 8 (cl8 K 4)), ((r 5), iB (cs 0) 8 (cl8 K 5)), ((r 6), iB (cs 0) 8 (cl8 K 6)), ((r 7), iB (cs 0) 8 (cl8 K 7)), (q5, oQ (cs 1) 64 r5), (q6, iB (cs 0) 7 R6), (q7, iB (cs 0) 64 R7)] ++ (lR (cs 0) r5 F)) H) (hD : va_D A ([(hc, oX a t), ((a 0), oC a (cy.mo) (cy.co) (cy.le)), ((a 3), iA (cs 0) (cy.K)), ((a 4), iA (cs 0) (cy.Q)), ((a 5), iA (cs 0) (cy.L)), ((a 6), iA (cs 0) (cy.H)), ((a 7), iA (cs 0) (cy.M)), ((a 8), iA (cs 0) (cy.B)), ((a 9), iA (cs 0) (cy.C)), ((a 10), iA (cs 0) (cy.D)), ((a 11), iA (cs 0) (cy.F)), ((a 12), iA (cs 0) (cy.W)), ((t 0), oC t (dy.mo) (dy.co) (dy.le)), ((t 3), iA (cs 0) (dy.K)), ((t 4), iA (cs 0) (dy.Q)), ((t 5), iA (cs 0) (dy.L)), ((t 6), iA (cs 0) (dy.H)), ((t 7), iA (cs 0) (dy.M)), ((t 8), iA (cs 0) (dy.B)), ((t 9), iA (cs 0) (dy.C)), ((t 10), iA (cs 0) (dy.D)), ((t 11), iA (cs 0) (dy.F)), ((t 12), iA (cs 0) (dy.W)), (h, oS o (cy.mo) (cy.co) (cy.le)), (o, oQ (cs 1) 8 r), ((r 0), iB (cs 0) 8 (cl8 K 0)), ((r 1), iB (cs 0) 8 (cl8 K 1)), ((r 2), iB (cs 0) 8 (cl8 K 2)), ((r 3), iB (cs 0) 8 (cl8 K 3)), ((r 4), iB (cs 0) 8 (cl8 K 4)), ((r 5), iB (cs 0) 8 (cl8 K 5)), ((r 6), iB (cs 0) 8 (cl8 K 6)), ((r 7), iB (cs 0) 8 (cl8 K 7)), (q5, oQ (cs 1) 64 r5), (q6, iB (cs 0) 7 R6), (q7, iB (cs 0) 64 R7)] ++ (lR (cs 0) r5 F))) (hS : va_S A s.heap H locs) (hl : lv_has ls 25 [(12, .int sd), (11, .int (nI i)), (10, .int qn), (9, .int (dall k)), (8, .int (call k)), (7, .ref q7), (6, .ref q6), (5, .ref q5), (4, .int x4), (3, .int (nI tm)), (0, .ref b), (1, .ref hc), (2, .ref h)]) (hzc0 : cells + 0 ≤ room_1.cells) (hzs0 : slots + 0 ≤ room_1.slots)
    (kk : ∀ (cy2 : Cy) (H2 : Heap) (locs2 : List Loc) (ls2 : Array Slot), Sd cy2 k → va_P G vwCl ([(hc, oX a t), ((a 0), oC a (cy2.mo) (cy2.co) (cy2.le)), ((a 3), iA (cs 0) (cy2.K)), ((a 4), iA (cs 0) (cy2.Q)), ((a 5), iA (cs 0) (cy2.L)), ((a 6), iA (cs 0) (cy2.H)), ((a 7), iA (cs 0) (cy2.M)), ((a 8), iA (cs 0) (cy2.B)), ((a 9), iA (cs 0) (cy2.C)), ((a 10), iA (cs 0) (cy2.D)), ((a 11), iA (cs 0) (cy2.F)), ((a 12), iA (cs 0) (cy2.W)), ((t 0), oC t (dy.mo) (dy.co) (dy.le)), ((t 3), iA (cs 0) (dy.K)), ((t 4), iA (cs 0) (dy.Q)), ((t 5), iA (cs 0) (dy.L)), ((t 6), iA (cs 0) (dy.H)), ((t 7), iA (cs 0) (dy.M)), ((t 8), iA (cs 0) (dy.B)), ((t 9), iA (cs 0) (dy.C)), ((t 10), iA (cs 0) (dy.D)), ((t 11), iA (cs 0) (dy.F)), ((t 12), iA (cs 0) (dy.W)), (h, oS o (cy2.mo) (cy2.co) (cy2.le)), (o, oQ (cs 1) 8 r), ((r 0), iB (cs 0) 8 (cl8 K 0)), ((r 1), iB (cs 0) 8 (cl8 K 1)), ((r 2), iB (cs 0) 8 (cl8 K 2)), ((r 3), iB (cs 0) 8 (cl8 K 3)), ((r 4), iB (cs 0) 8 (cl8 K 4)), ((r 5), iB (cs 0) 8 (cl8 K 5)), ((r 6), iB (cs 0) 8 (cl8 K 6)), ((r 7), iB (cs 0) 8 (cl8 K 7)), (q5, oQ (cs 1) 64 r5), (q6, iB (cs 0) 7 R6), (q7, iB (cs 0) 64 R7)] ++ (lR (cs 0) r5 F)) H2 → va_D A ([(hc, oX a t), ((a 0), oC a (cy2.mo) (cy2.co) (cy2.le)), ((a 3), iA (cs 0) (cy2.K)), ((a 4), iA (cs 0) (cy2.Q)), ((a 5), iA (cs 0) (cy2.L)), ((a 6), iA (cs 0) (cy2.H)), ((a 7), iA (cs 0) (cy2.M)), ((a 8), iA (cs 0) (cy2.B)), ((a 9), iA (cs 0) (cy2.C)), ((a 10), iA (cs 0) (cy2.D)), ((a 11), iA (cs 0) (cy2.F)), ((a 12), iA (cs 0) (cy2.W)), ((t 0), oC t (dy.mo) (dy.co) (dy.le)), ((t 3), iA (cs 0) (dy.K)), ((t 4), iA (cs 0) (dy.Q)), ((t 5), iA (cs 0) (dy.L)), ((t 6), iA (cs 0) (dy.H)), ((t 7), iA (cs 0) (dy.M)), ((t 8), iA (cs 0) (dy.B)), ((t 9), iA (cs 0) (dy.C)), ((t 10), iA (cs 0) (dy.D)), ((t 11), iA (cs 0) (dy.F)), ((t 12), iA (cs 0) (dy.W)), (h, oS o (cy2.mo) (cy2.co) (cy2.le)), (o, oQ (cs 1) 8 r), ((r 0), iB (cs 0) 8 (cl8 K 0)), ((r 1), iB (cs 0) 8 (cl8 K 1)), ((r 2), iB (cs 0) 8 (cl8 K 2)), ((r 3), iB (cs 0) 8 (cl8 K 3)), ((r 4), iB (cs 0) 8 (cl8 K 4)), ((r 5), iB (cs 0) 8 (cl8 K 5)), ((r 6), iB (cs 0) 8 (cl8 K 6)), ((r 7), iB (cs 0) 8 (cl8 K 7)), (q5, oQ (cs 1) 64 r5), (q6, iB (cs 0) 7 R6), (q7, iB (cs 0) 64 R7)] ++ (lR (cs 0) r5 F)) → va_S A s.heap H2 locs2 → lv_has ls2 25 [(12, .int sd), (11, .int (nI i)), (10, .int qn), (9, .int (dall k)), (8, .int (call k)), (7, .ref q7), (6, .ref q6), (5, .ref q5), (4, .int x4), (3, .int (nI tm)), (0, .ref b), (1, .ref hc), (2, .ref h)] → W p l e room_1 s m #[Value.ref b] below meth c H2 locs2 (cells) (slots) Q (F0 m 797 ls2 [])) : W p l e room_1 s m #[Value.ref b] below meth c H locs (cells) (slots) Q (F0 m 588 ls [.int (nI to)]) := by
  have E9 := E0
  obtain ⟨hx, hb, hml, hown, hts, hst, hK, hN, hE, hX, hZ, hBL, hA, hXs, hbl, hbA⟩ := E0
  have hk := hg.1
  have hS0 := hg.2.1
  have hgt := hg.2.2.1
  have hkd := hg.2.2.2
  have hKI : va_K G vwCl (TY (cs 0)) s := hK.sub [0] rfl
  have hNI := hN.1
  have hzc : cells + 0 ≤ room_1.cells := by omega
  have hzs : slots + 0 ≤ room_1.slots := by omega
  have FX : CallFix p m c cL_law 25 s #[Value.ref b] wsL_law RL := ⟨hx, hb, hml, hown, hts⟩
  have hP : va_P G vwCl ([(hc, oX a t), ((a 0), oC a (cy.mo) (cy.co) (cy.le)), ((a 3), iA (cs 0) (cy.K)), ((a 4), iA (cs 0) (cy.Q)), ((a 5), iA (cs 0) (cy.L)), ((a 6), iA (cs 0) (cy.H)), ((a 7), iA (cs 0) (cy.M)), ((a 8), iA (cs 0) (cy.B)), ((a 9), iA (cs 0) (cy.C)), ((a 10), iA (cs 0) (cy.D)), ((a 11), iA (cs 0) (cy.F)), ((a 12), iA (cs 0) (cy.W)), ((t 0), oC t (dy.mo) (dy.co) (dy.le)), ((t 3), iA (cs 0) (dy.K)), ((t 4), iA (cs 0) (dy.Q)), ((t 5), iA (cs 0) (dy.L)), ((t 6), iA (cs 0) (dy.H)), ((t 7), iA (cs 0) (dy.M)), ((t 8), iA (cs 0) (dy.B)), ((t 9), iA (cs 0) (dy.C)), ((t 10), iA (cs 0) (dy.D)), ((t 11), iA (cs 0) (dy.F)), ((t 12), iA (cs 0) (dy.W)), (h, oS o (cy.mo) (cy.co) (cy.le)), (o, oQ (cs 1) 8 r), ((r 0), iB (cs 0) 8 (cl8 K 0)), ((r 1), iB (cs 0) 8 (cl8 K 1)), ((r 2), iB (cs 0) 8 (cl8 K 2)), ((r 3), iB (cs 0) 8 (cl8 K 3)), ((r 4), iB (cs 0) 8 (cl8 K 4)), ((r 5), iB (cs 0) 8 (cl8 K 5)), ((r 6), iB (cs 0) 8 (cl8 K 6)), ((r 7), iB (cs 0) 8 (cl8 K 7)), (q5, oQ (cs 1) 64 r5), (q6, iB (cs 0) 7 R6), (q7, iB (cs 0) 64 R7)] ++ (lR (cs 0) r5 F)) H := hP
  have hD : va_D A ([(hc, oX a t), ((a 0), oC a (cy.mo) (cy.co) (cy.le)), ((a 3), iA (cs 0) (cy.K)), ((a 4), iA (cs 0) (cy.Q)), ((a 5), iA (cs 0) (cy.L)), ((a 6), iA (cs 0) (cy.H)), ((a 7), iA (cs 0) (cy.M)), ((a 8), iA (cs 0) (cy.B)), ((a 9), iA (cs 0) (cy.C)), ((a 10), iA (cs 0) (cy.D)), ((a 11), iA (cs 0) (cy.F)), ((a 12), iA (cs 0) (cy.W)), ((t 0), oC t (dy.mo) (dy.co) (dy.le)), ((t 3), iA (cs 0) (dy.K)), ((t 4), iA (cs 0) (dy.Q)), ((t 5), iA (cs 0) (dy.L)), ((t 6), iA (cs 0) (dy.H)), ((t 7), iA (cs 0) (dy.M)), ((t 8), iA (cs 0) (dy.B)), ((t 9), iA (cs 0) (dy.C)), ((t 10), iA (cs 0) (dy.D)), ((t 11), iA (cs 0) (dy.F)), ((t 12), iA (cs 0) (dy.W)), (h, oS o (cy.mo) (cy.co) (cy.le)), (o, oQ (cs 1) 8 r), ((r 0), iB (cs 0) 8 (cl8 K 0)), ((r 1), iB (cs 0) 8 (cl8 K 1)), ((r 2), iB (cs 0) 8 (cl8 K 2)), ((r 3), iB (cs 0) 8 (cl8 K 3)), ((r 4), iB (cs 0) 8 (cl8 K 4)), ((r 5), iB (cs 0) 8 (cl8 K 5)), ((r 6), iB (cs 0) 8 (cl8 K 6)), ((r 7), iB (cs 0) 8 (cl8 K 7)), (q5, oQ (cs 1) 64 r5), (q6, iB (cs 0) 7 R6), (q7, iB (cs 0) 64 R7)] ++ (lR (cs 0) r5 F)) := hD
  obtain ⟨o0, o1, -, o3, -, -⟩ := hF i hi
  obtain ⟨p0, p1, -, p3, -, -⟩ := hF to hto
  refine lv_istore (lv' := [(13, .int (nI to)), (12, .int sd), (11, .int (nI i)), (10, .int qn), (9, .int (dall k)), (8, .int (call k)), (7, .ref q7), (6, .ref q6), (5, .ref q5), (4, .int x4), (3, .int (nI tm)), (0, .ref b), (1, .ref hc), (2, .ref h)]) hx hb dL_law_588 hl (by decide) rfl (fun ls hl => ?_)
  rcases hwi : wtr (k i) with _ | _
  · skip
    have hn := wtr_no hwi
    refine lv_aload hx hb dL_law_590 (lv_at hl 8 rfl) ?_
    refine lv_iload hx hb dL_law_592 (lv_at hl 2 rfl) ?_
    refine tpi (x' := nI i) (rfl) ?_
    refine g_ald (r := r5) (n := 64) hx hb hK hP 33 1 rfl rfl (x := i) (hi) (by decide) dL_law_594 ?_
    refine lv_iconst (v := 0) hx hb dL_law_595 (by decide) ?_
    refine tpi (x' := nI 0) (rfl) ?_
    refine l_iald (X := [(hc, oX a t), ((a 0), oC a (cy.mo) (cy.co) (cy.le)), ((a 3), iA (cs 0) (cy.K)), ((a 4), iA (cs 0) (cy.Q)), ((a 5), iA (cs 0) (cy.L)), ((a 6), iA (cs 0) (cy.H)), ((a 7), iA (cs 0) (cy.M)), ((a 8), iA (cs 0) (cy.B)), ((a 9), iA (cs 0) (cy.C)), ((a 10), iA (cs 0) (cy.D)), ((a 11), iA (cs 0) (cy.F)), ((a 12), iA (cs 0) (cy.W)), ((t 0), oC t (dy.mo) (dy.co) (dy.le)), ((t 3), iA (cs 0) (dy.K)), ((t 4), iA (cs 0) (dy.Q)), ((t 5), iA (cs 0) (dy.L)), ((t 6), iA (cs 0) (dy.H)), ((t 7), iA (cs 0) (dy.M)), ((t 8), iA (cs 0) (dy.B)), ((t 9), iA (cs 0) (dy.C)), ((t 10), iA (cs 0) (dy.D)), ((t 11), iA (cs 0) (dy.F)), ((t 12), iA (cs 0) (dy.W)), (h, oS o (cy.mo) (cy.co) (cy.le)), (o, oQ (cs 1) 8 r), ((r 0), iB (cs 0) 8 (cl8 K 0)), ((r 1), iB (cs 0) 8 (cl8 K 1)), ((r 2), iB (cs 0) 8 (cl8 K 2)), ((r 3), iB (cs 0) 8 (cl8 K 3)), ((r 4), iB (cs 0) 8 (cl8 K 4)), ((r 5), iB (cs 0) 8 (cl8 K 5)), ((r 6), iB (cs 0) 8 (cl8 K 6)), ((r 7), iB (cs 0) 8 (cl8 K 7)), (q5, oQ (cs 1) 64 r5), (q6, iB (cs 0) 7 R6), (q7, iB (cs 0) 64 R7)]) (r := r5) (F := F) hx hb hK hP 0 rfl (i := i) (w := 0) (hi) (by decide) dL_law_596 ?_
    refine tpi (x' := k i) (o0) ?_
    refine lv_iconst (v := 1) hx hb dL_law_597 (by decide) ?_
    refine lv_icmp_eq (tgt := 613) hx hb dL_law_598 (by decide) (fun c => absurd c (hn.1)) (fun _ => ?_)
    refine lv_aload hx hb dL_law_601 (lv_at hl 8 rfl) ?_
    refine lv_iload hx hb dL_law_603 (lv_at hl 2 rfl) ?_
    refine tpi (x' := nI i) (rfl) ?_
    refine g_ald (r := r5) (n := 64) hx hb hK hP 33 1 rfl rfl (x := i) (hi) (by decide) dL_law_605 ?_
    refine lv_iconst (v := 0) hx hb dL_law_606 (by decide) ?_
    refine tpi (x' := nI 0) (rfl) ?_
    refine l_iald (X := [(hc, oX a t), ((a 0), oC a (cy.mo) (cy.co) (cy.le)), ((a 3), iA (cs 0) (cy.K)), ((a 4), iA (cs 0) (cy.Q)), ((a 5), iA (cs 0) (cy.L)), ((a 6), iA (cs 0) (cy.H)), ((a 7), iA (cs 0) (cy.M)), ((a 8), iA (cs 0) (cy.B)), ((a 9), iA (cs 0) (cy.C)), ((a 10), iA (cs 0) (cy.D)), ((a 11), iA (cs 0) (cy.F)), ((a 12), iA (cs 0) (cy.W)), ((t 0), oC t (dy.mo) (dy.co) (dy.le)), ((t 3), iA (cs 0) (dy.K)), ((t 4), iA (cs 0) (dy.Q)), ((t 5), iA (cs 0) (dy.L)), ((t 6), iA (cs 0) (dy.H)), ((t 7), iA (cs 0) (dy.M)), ((t 8), iA (cs 0) (dy.B)), ((t 9), iA (cs 0) (dy.C)), ((t 10), iA (cs 0) (dy.D)), ((t 11), iA (cs 0) (dy.F)), ((t 12), iA (cs 0) (dy.W)), (h, oS o (cy.mo) (cy.co) (cy.le)), (o, oQ (cs 1) 8 r), ((r 0), iB (cs 0) 8 (cl8 K 0)), ((r 1), iB (cs 0) 8 (cl8 K 1)), ((r 2), iB (cs 0) 8 (cl8 K 2)), ((r 3), iB (cs 0) 8 (cl8 K 3)), ((r 4), iB (cs 0) 8 (cl8 K 4)), ((r 5), iB (cs 0) 8 (cl8 K 5)), ((r 6), iB (cs 0) 8 (cl8 K 6)), ((r 7), iB (cs 0) 8 (cl8 K 7)), (q5, oQ (cs 1) 64 r5), (q6, iB (cs 0) 7 R6), (q7, iB (cs 0) 64 R7)]) (r := r5) (F := F) hx hb hK hP 0 rfl (i := i) (w := 0) (hi) (by decide) dL_law_607 ?_
    refine tpi (x' := k i) (o0) ?_
    refine lv_bipush (v := 6) hx hb dL_law_608 (by decide) ?_
    refine lv_icmp_ne (tgt := 617) hx hb dL_law_610 (by decide) (fun _ => ?_) (fun c => absurd c (hn.2))
    refine lv_iconst (v := 0) hx hb dL_law_617 (by decide) ?_
    refine lv_istore (lv' := [(14, .int 0), (13, .int (nI to)), (12, .int sd), (11, .int (nI i)), (10, .int qn), (9, .int (dall k)), (8, .int (call k)), (7, .ref q7), (6, .ref q6), (5, .ref q5), (4, .int x4), (3, .int (nI tm)), (0, .ref b), (1, .ref hc), (2, .ref h)]) hx hb dL_law_618 hl (by decide) rfl (fun ls hl => ?_)
    rcases hwto : wtr (k to) with _ | _
    · skip
      have hn := wtr_no hwto
      refine lv_aload hx hb dL_law_620 (lv_at hl 9 rfl) ?_
      refine lv_iload hx hb dL_law_622 (lv_at hl 1 rfl) ?_
      refine tpi (x' := nI to) (rfl) ?_
      refine g_ald (r := r5) (n := 64) hx hb hK hP 33 1 rfl rfl (x := to) (hto) (by decide) dL_law_624 ?_
      refine lv_iconst (v := 0) hx hb dL_law_625 (by decide) ?_
      refine tpi (x' := nI 0) (rfl) ?_
      refine l_iald (X := [(hc, oX a t), ((a 0), oC a (cy.mo) (cy.co) (cy.le)), ((a 3), iA (cs 0) (cy.K)), ((a 4), iA (cs 0) (cy.Q)), ((a 5), iA (cs 0) (cy.L)), ((a 6), iA (cs 0) (cy.H)), ((a 7), iA (cs 0) (cy.M)), ((a 8), iA (cs 0) (cy.B)), ((a 9), iA (cs 0) (cy.C)), ((a 10), iA (cs 0) (cy.D)), ((a 11), iA (cs 0) (cy.F)), ((a 12), iA (cs 0) (cy.W)), ((t 0), oC t (dy.mo) (dy.co) (dy.le)), ((t 3), iA (cs 0) (dy.K)), ((t 4), iA (cs 0) (dy.Q)), ((t 5), iA (cs 0) (dy.L)), ((t 6), iA (cs 0) (dy.H)), ((t 7), iA (cs 0) (dy.M)), ((t 8), iA (cs 0) (dy.B)), ((t 9), iA (cs 0) (dy.C)), ((t 10), iA (cs 0) (dy.D)), ((t 11), iA (cs 0) (dy.F)), ((t 12), iA (cs 0) (dy.W)), (h, oS o (cy.mo) (cy.co) (cy.le)), (o, oQ (cs 1) 8 r), ((r 0), iB (cs 0) 8 (cl8 K 0)), ((r 1), iB (cs 0) 8 (cl8 K 1)), ((r 2), iB (cs 0) 8 (cl8 K 2)), ((r 3), iB (cs 0) 8 (cl8 K 3)), ((r 4), iB (cs 0) 8 (cl8 K 4)), ((r 5), iB (cs 0) 8 (cl8 K 5)), ((r 6), iB (cs 0) 8 (cl8 K 6)), ((r 7), iB (cs 0) 8 (cl8 K 7)), (q5, oQ (cs 1) 64 r5), (q6, iB (cs 0) 7 R6), (q7, iB (cs 0) 64 R7)]) (r := r5) (F := F) hx hb hK hP 0 rfl (i := to) (w := 0) (hto) (by decide) dL_law_626 ?_
      refine tpi (x' := k to) (p0) ?_
      refine lv_iconst (v := 1) hx hb dL_law_627 (by decide) ?_
      refine lv_icmp_eq (tgt := 643) hx hb dL_law_628 (by decide) (fun c => absurd c (hn.1)) (fun _ => ?_)
      refine lv_aload hx hb dL_law_631 (lv_at hl 9 rfl) ?_
      refine lv_iload hx hb dL_law_633 (lv_at hl 1 rfl) ?_
      refine tpi (x' := nI to) (rfl) ?_
      refine g_ald (r := r5) (n := 64) hx hb hK hP 33 1 rfl rfl (x := to) (hto) (by decide) dL_law_635 ?_
      refine lv_iconst (v := 0) hx hb dL_law_636 (by decide) ?_
      refine tpi (x' := nI 0) (rfl) ?_
      refine l_iald (X := [(hc, oX a t), ((a 0), oC a (cy.mo) (cy.co) (cy.le)), ((a 3), iA (cs 0) (cy.K)), ((a 4), iA (cs 0) (cy.Q)), ((a 5), iA (cs 0) (cy.L)), ((a 6), iA (cs 0) (cy.H)), ((a 7), iA (cs 0) (cy.M)), ((a 8), iA (cs 0) (cy.B)), ((a 9), iA (cs 0) (cy.C)), ((a 10), iA (cs 0) (cy.D)), ((a 11), iA (cs 0) (cy.F)), ((a 12), iA (cs 0) (cy.W)), ((t 0), oC t (dy.mo) (dy.co) (dy.le)), ((t 3), iA (cs 0) (dy.K)), ((t 4), iA (cs 0) (dy.Q)), ((t 5), iA (cs 0) (dy.L)), ((t 6), iA (cs 0) (dy.H)), ((t 7), iA (cs 0) (dy.M)), ((t 8), iA (cs 0) (dy.B)), ((t 9), iA (cs 0) (dy.C)), ((t 10), iA (cs 0) (dy.D)), ((t 11), iA (cs 0) (dy.F)), ((t 12), iA (cs 0) (dy.W)), (h, oS o (cy.mo) (cy.co) (cy.le)), (o, oQ (cs 1) 8 r), ((r 0), iB (cs 0) 8 (cl8 K 0)), ((r 1), iB (cs 0) 8 (cl8 K 1)), ((r 2), iB (cs 0) 8 (cl8 K 2)), ((r 3), iB (cs 0) 8 (cl8 K 3)), ((r 4), iB (cs 0) 8 (cl8 K 4)), ((r 5), iB (cs 0) 8 (cl8 K 5)), ((r 6), iB (cs 0) 8 (cl8 K 6)), ((r 7), iB (cs 0) 8 (cl8 K 7)), (q5, oQ (cs 1) 64 r5), (q6, iB (cs 0) 7 R6), (q7, iB (cs 0) 64 R7)]) (r := r5) (F := F) hx hb hK hP 0 rfl (i := to) (w := 0) (hto) (by decide) dL_law_637 ?_
      refine tpi (x' := k to) (p0) ?_
      refine lv_bipush (v := 6) hx hb dL_law_638 (by decide) ?_
      refine lv_icmp_ne (tgt := 647) hx hb dL_law_640 (by decide) (fun _ => ?_) (fun c => absurd c (hn.2))
      refine lv_iconst (v := 0) hx hb dL_law_647 (by decide) ?_
      refine lv_istore (lv' := [(15, .int 0), (14, .int 0), (13, .int (nI to)), (12, .int sd), (11, .int (nI i)), (10, .int qn), (9, .int (dall k)), (8, .int (call k)), (7, .ref q7), (6, .ref q6), (5, .ref q5), (4, .int x4), (3, .int (nI tm)), (0, .ref b), (1, .ref hc), (2, .ref h)]) hx hb dL_law_648 hl (by decide) rfl (fun ls hl => ?_)
      rcases hli : lnd (k i) with _ | _
      · skip
        refine lv_aload hx hb dL_law_650 (lv_at hl 10 rfl) ?_
        refine lv_iload hx hb dL_law_652 (lv_at hl 4 rfl) ?_
        refine tpi (x' := nI i) (rfl) ?_
        refine g_ald (r := r5) (n := 64) hx hb hK hP 33 1 rfl rfl (x := i) (hi) (by decide) dL_law_654 ?_
        refine lv_iconst (v := 0) hx hb dL_law_655 (by decide) ?_
        refine tpi (x' := nI 0) (rfl) ?_
        refine l_iald (X := [(hc, oX a t), ((a 0), oC a (cy.mo) (cy.co) (cy.le)), ((a 3), iA (cs 0) (cy.K)), ((a 4), iA (cs 0) (cy.Q)), ((a 5), iA (cs 0) (cy.L)), ((a 6), iA (cs 0) (cy.H)), ((a 7), iA (cs 0) (cy.M)), ((a 8), iA (cs 0) (cy.B)), ((a 9), iA (cs 0) (cy.C)), ((a 10), iA (cs 0) (cy.D)), ((a 11), iA (cs 0) (cy.F)), ((a 12), iA (cs 0) (cy.W)), ((t 0), oC t (dy.mo) (dy.co) (dy.le)), ((t 3), iA (cs 0) (dy.K)), ((t 4), iA (cs 0) (dy.Q)), ((t 5), iA (cs 0) (dy.L)), ((t 6), iA (cs 0) (dy.H)), ((t 7), iA (cs 0) (dy.M)), ((t 8), iA (cs 0) (dy.B)), ((t 9), iA (cs 0) (dy.C)), ((t 10), iA (cs 0) (dy.D)), ((t 11), iA (cs 0) (dy.F)), ((t 12), iA (cs 0) (dy.W)), (h, oS o (cy.mo) (cy.co) (cy.le)), (o, oQ (cs 1) 8 r), ((r 0), iB (cs 0) 8 (cl8 K 0)), ((r 1), iB (cs 0) 8 (cl8 K 1)), ((r 2), iB (cs 0) 8 (cl8 K 2)), ((r 3), iB (cs 0) 8 (cl8 K 3)), ((r 4), iB (cs 0) 8 (cl8 K 4)), ((r 5), iB (cs 0) 8 (cl8 K 5)), ((r 6), iB (cs 0) 8 (cl8 K 6)), ((r 7), iB (cs 0) 8 (cl8 K 7)), (q5, oQ (cs 1) 64 r5), (q6, iB (cs 0) 7 R6), (q7, iB (cs 0) 64 R7)]) (r := r5) (F := F) hx hb hK hP 0 rfl (i := i) (w := 0) (hi) (by decide) dL_law_656 ?_
        refine tpi (x' := k i) (o0) ?_
        refine lv_iconst (v := 1) hx hb dL_law_657 (by decide) ?_
        refine lv_icmp_le (tgt := 703) hx hb dL_law_658 (by decide) (fun _ => ?_) (fun c => absurd ((lnd_no (hkd i hi) hli).1) c)
        rcases hlto : lnd (k to) with _ | _
        · skip
          refine lv_iload hx hb dL_law_703 (lv_at hl 1 rfl) ?_
          refine lv_if_eq (tgt := 752) hx hb dL_law_705 (by decide) (fun _ => ?_) (fun c => absurd (rfl) c)
          refine lv_iload hx hb dL_law_752 (lv_at hl 1 rfl) ?_
          refine lv_if_eq (tgt := 797) hx hb dL_law_754 (by decide) (fun _ => ?_) (fun c => absurd (rfl) c)
          exact kk cy _ _ _ (hg) hP hD hS (lv_sub hl [3, 4, 5, 6, 7, 8, 9, 10, 11, 12, 13, 14, 15] rfl)
        · skip
          refine lv_iload hx hb dL_law_703 (lv_at hl 1 rfl) ?_
          refine lv_if_eq (tgt := 752) hx hb dL_law_705 (by decide) (fun _ => ?_) (fun c => absurd (rfl) c)
          refine lv_iload hx hb dL_law_752 (lv_at hl 1 rfl) ?_
          refine lv_if_eq (tgt := 797) hx hb dL_law_754 (by decide) (fun _ => ?_) (fun c => absurd (rfl) c)
          exact kk cy _ _ _ (hg) hP hD hS (lv_sub hl [3, 4, 5, 6, 7, 8, 9, 10, 11, 12, 13, 14, 15] rfl)
      · skip
        rcases hlto : lnd (k to) with _ | _
        · skip
          refine lv_aload hx hb dL_law_650 (lv_at hl 10 rfl) ?_
          refine lv_iload hx hb dL_law_652 (lv_at hl 4 rfl) ?_
          refine tpi (x' := nI i) (rfl) ?_
          refine g_ald (r := r5) (n := 64) hx hb hK hP 33 1 rfl rfl (x := i) (hi) (by decide) dL_law_654 ?_
          refine lv_iconst (v := 0) hx hb dL_law_655 (by decide) ?_
          refine tpi (x' := nI 0) (rfl) ?_
          refine l_iald (X := [(hc, oX a t), ((a 0), oC a (cy.mo) (cy.co) (cy.le)), ((a 3), iA (cs 0) (cy.K)), ((a 4), iA (cs 0) (cy.Q)), ((a 5), iA (cs 0) (cy.L)), ((a 6), iA (cs 0) (cy.H)), ((a 7), iA (cs 0) (cy.M)), ((a 8), iA (cs 0) (cy.B)), ((a 9), iA (cs 0) (cy.C)), ((a 10), iA (cs 0) (cy.D)), ((a 11), iA (cs 0) (cy.F)), ((a 12), iA (cs 0) (cy.W)), ((t 0), oC t (dy.mo) (dy.co) (dy.le)), ((t 3), iA (cs 0) (dy.K)), ((t 4), iA (cs 0) (dy.Q)), ((t 5), iA (cs 0) (dy.L)), ((t 6), iA (cs 0) (dy.H)), ((t 7), iA (cs 0) (dy.M)), ((t 8), iA (cs 0) (dy.B)), ((t 9), iA (cs 0) (dy.C)), ((t 10), iA (cs 0) (dy.D)), ((t 11), iA (cs 0) (dy.F)), ((t 12), iA (cs 0) (dy.W)), (h, oS o (cy.mo) (cy.co) (cy.le)), (o, oQ (cs 1) 8 r), ((r 0), iB (cs 0) 8 (cl8 K 0)), ((r 1), iB (cs 0) 8 (cl8 K 1)), ((r 2), iB (cs 0) 8 (cl8 K 2)), ((r 3), iB (cs 0) 8 (cl8 K 3)), ((r 4), iB (cs 0) 8 (cl8 K 4)), ((r 5), iB (cs 0) 8 (cl8 K 5)), ((r 6), iB (cs 0) 8 (cl8 K 6)), ((r 7), iB (cs 0) 8 (cl8 K 7)), (q5, oQ (cs 1) 64 r5), (q6, iB (cs 0) 7 R6), (q7, iB (cs 0) 64 R7)]) (r := r5) (F := F) hx hb hK hP 0 rfl (i := i) (w := 0) (hi) (by decide) dL_law_656 ?_
          refine tpi (x' := k i) (o0) ?_
          refine lv_iconst (v := 1) hx hb dL_law_657 (by decide) ?_
          refine lv_icmp_le (tgt := 703) hx hb dL_law_658 (by decide) (fun c => absurd c ((lnd_2 hli).2.1)) (fun _ => ?_)
          refine lv_aload hx hb dL_law_661 (lv_at hl 10 rfl) ?_
          refine lv_iload hx hb dL_law_663 (lv_at hl 2 rfl) ?_
          refine tpi (x' := nI to) (rfl) ?_
          refine g_ald (r := r5) (n := 64) hx hb hK hP 33 1 rfl rfl (x := to) (hto) (by decide) dL_law_665 ?_
          refine lv_iconst (v := 0) hx hb dL_law_666 (by decide) ?_
          refine tpi (x' := nI 0) (rfl) ?_
          refine l_iald (X := [(hc, oX a t), ((a 0), oC a (cy.mo) (cy.co) (cy.le)), ((a 3), iA (cs 0) (cy.K)), ((a 4), iA (cs 0) (cy.Q)), ((a 5), iA (cs 0) (cy.L)), ((a 6), iA (cs 0) (cy.H)), ((a 7), iA (cs 0) (cy.M)), ((a 8), iA (cs 0) (cy.B)), ((a 9), iA (cs 0) (cy.C)), ((a 10), iA (cs 0) (cy.D)), ((a 11), iA (cs 0) (cy.F)), ((a 12), iA (cs 0) (cy.W)), ((t 0), oC t (dy.mo) (dy.co) (dy.le)), ((t 3), iA (cs 0) (dy.K)), ((t 4), iA (cs 0) (dy.Q)), ((t 5), iA (cs 0) (dy.L)), ((t 6), iA (cs 0) (dy.H)), ((t 7), iA (cs 0) (dy.M)), ((t 8), iA (cs 0) (dy.B)), ((t 9), iA (cs 0) (dy.C)), ((t 10), iA (cs 0) (dy.D)), ((t 11), iA (cs 0) (dy.F)), ((t 12), iA (cs 0) (dy.W)), (h, oS o (cy.mo) (cy.co) (cy.le)), (o, oQ (cs 1) 8 r), ((r 0), iB (cs 0) 8 (cl8 K 0)), ((r 1), iB (cs 0) 8 (cl8 K 1)), ((r 2), iB (cs 0) 8 (cl8 K 2)), ((r 3), iB (cs 0) 8 (cl8 K 3)), ((r 4), iB (cs 0) 8 (cl8 K 4)), ((r 5), iB (cs 0) 8 (cl8 K 5)), ((r 6), iB (cs 0) 8 (cl8 K 6)), ((r 7), iB (cs 0) 8 (cl8 K 7)), (q5, oQ (cs 1) 64 r5), (q6, iB (cs 0) 7 R6), (q7, iB (cs 0) 64 R7)]) (r := r5) (F := F) hx hb hK hP 0 rfl (i := to) (w := 0) (hto) (by decide) dL_law_667 ?_
          refine tpi (x' := k to) (p0) ?_
          refine lv_iconst (v := 1) hx hb dL_law_668 (by decide) ?_
          refine lv_icmp_le (tgt := 703) hx hb dL_law_669 (by decide) (fun _ => ?_) (fun c => absurd ((lnd_no (hkd to hto) hlto).1) c)
          refine lv_iload hx hb dL_law_703 (lv_at hl 1 rfl) ?_
          refine lv_if_eq (tgt := 752) hx hb dL_law_705 (by decide) (fun _ => ?_) (fun c => absurd (rfl) c)
          refine lv_iload hx hb dL_law_752 (lv_at hl 1 rfl) ?_
          refine lv_if_eq (tgt := 797) hx hb dL_law_754 (by decide) (fun _ => ?_) (fun c => absurd (rfl) c)
          exact kk cy _ _ _ (hg) hP hD hS (lv_sub hl [3, 4, 5, 6, 7, 8, 9, 10, 11, 12, 13, 14, 15] rfl)
        · skip
          refine lv_aload hx hb dL_law_650 (lv_at hl 10 rfl) ?_
          refine lv_iload hx hb dL_law_652 (lv_at hl 4 rfl) ?_
          refine tpi (x' := nI i) (rfl) ?_
          refine g_ald (r := r5) (n := 64) hx hb hK hP 33 1 rfl rfl (x := i) (hi) (by decide) dL_law_654 ?_
          refine lv_iconst (v := 0) hx hb dL_law_655 (by decide) ?_
          refine tpi (x' := nI 0) (rfl) ?_
          refine l_iald (X := [(hc, oX a t), ((a 0), oC a (cy.mo) (cy.co) (cy.le)), ((a 3), iA (cs 0) (cy.K)), ((a 4), iA (cs 0) (cy.Q)), ((a 5), iA (cs 0) (cy.L)), ((a 6), iA (cs 0) (cy.H)), ((a 7), iA (cs 0) (cy.M)), ((a 8), iA (cs 0) (cy.B)), ((a 9), iA (cs 0) (cy.C)), ((a 10), iA (cs 0) (cy.D)), ((a 11), iA (cs 0) (cy.F)), ((a 12), iA (cs 0) (cy.W)), ((t 0), oC t (dy.mo) (dy.co) (dy.le)), ((t 3), iA (cs 0) (dy.K)), ((t 4), iA (cs 0) (dy.Q)), ((t 5), iA (cs 0) (dy.L)), ((t 6), iA (cs 0) (dy.H)), ((t 7), iA (cs 0) (dy.M)), ((t 8), iA (cs 0) (dy.B)), ((t 9), iA (cs 0) (dy.C)), ((t 10), iA (cs 0) (dy.D)), ((t 11), iA (cs 0) (dy.F)), ((t 12), iA (cs 0) (dy.W)), (h, oS o (cy.mo) (cy.co) (cy.le)), (o, oQ (cs 1) 8 r), ((r 0), iB (cs 0) 8 (cl8 K 0)), ((r 1), iB (cs 0) 8 (cl8 K 1)), ((r 2), iB (cs 0) 8 (cl8 K 2)), ((r 3), iB (cs 0) 8 (cl8 K 3)), ((r 4), iB (cs 0) 8 (cl8 K 4)), ((r 5), iB (cs 0) 8 (cl8 K 5)), ((r 6), iB (cs 0) 8 (cl8 K 6)), ((r 7), iB (cs 0) 8 (cl8 K 7)), (q5, oQ (cs 1) 64 r5), (q6, iB (cs 0) 7 R6), (q7, iB (cs 0) 64 R7)]) (r := r5) (F := F) hx hb hK hP 0 rfl (i := i) (w := 0) (hi) (by decide) dL_law_656 ?_
          refine tpi (x' := k i) (o0) ?_
          refine lv_iconst (v := 1) hx hb dL_law_657 (by decide) ?_
          refine lv_icmp_le (tgt := 703) hx hb dL_law_658 (by decide) (fun c => absurd c ((lnd_2 hli).2.1)) (fun _ => ?_)
          refine lv_aload hx hb dL_law_661 (lv_at hl 10 rfl) ?_
          refine lv_iload hx hb dL_law_663 (lv_at hl 2 rfl) ?_
          refine tpi (x' := nI to) (rfl) ?_
          refine g_ald (r := r5) (n := 64) hx hb hK hP 33 1 rfl rfl (x := to) (hto) (by decide) dL_law_665 ?_
          refine lv_iconst (v := 0) hx hb dL_law_666 (by decide) ?_
          refine tpi (x' := nI 0) (rfl) ?_
          refine l_iald (X := [(hc, oX a t), ((a 0), oC a (cy.mo) (cy.co) (cy.le)), ((a 3), iA (cs 0) (cy.K)), ((a 4), iA (cs 0) (cy.Q)), ((a 5), iA (cs 0) (cy.L)), ((a 6), iA (cs 0) (cy.H)), ((a 7), iA (cs 0) (cy.M)), ((a 8), iA (cs 0) (cy.B)), ((a 9), iA (cs 0) (cy.C)), ((a 10), iA (cs 0) (cy.D)), ((a 11), iA (cs 0) (cy.F)), ((a 12), iA (cs 0) (cy.W)), ((t 0), oC t (dy.mo) (dy.co) (dy.le)), ((t 3), iA (cs 0) (dy.K)), ((t 4), iA (cs 0) (dy.Q)), ((t 5), iA (cs 0) (dy.L)), ((t 6), iA (cs 0) (dy.H)), ((t 7), iA (cs 0) (dy.M)), ((t 8), iA (cs 0) (dy.B)), ((t 9), iA (cs 0) (dy.C)), ((t 10), iA (cs 0) (dy.D)), ((t 11), iA (cs 0) (dy.F)), ((t 12), iA (cs 0) (dy.W)), (h, oS o (cy.mo) (cy.co) (cy.le)), (o, oQ (cs 1) 8 r), ((r 0), iB (cs 0) 8 (cl8 K 0)), ((r 1), iB (cs 0) 8 (cl8 K 1)), ((r 2), iB (cs 0) 8 (cl8 K 2)), ((r 3), iB (cs 0) 8 (cl8 K 3)), ((r 4), iB (cs 0) 8 (cl8 K 4)), ((r 5), iB (cs 0) 8 (cl8 K 5)), ((r 6), iB (cs 0) 8 (cl8 K 6)), ((r 7), iB (cs 0) 8 (cl8 K 7)), (q5, oQ (cs 1) 64 r5), (q6, iB (cs 0) 7 R6), (q7, iB (cs 0) 64 R7)]) (r := r5) (F := F) hx hb hK hP 0 rfl (i := to) (w := 0) (hto) (by decide) dL_law_667 ?_
          refine tpi (x' := k to) (p0) ?_
          refine lv_iconst (v := 1) hx hb dL_law_668 (by decide) ?_
          refine lv_icmp_le (tgt := 703) hx hb dL_law_669 (by decide) (fun c => absurd c ((lnd_2 hlto).2.1)) (fun _ => ?_)
          refine lv_aload hx hb dL_law_672 (lv_at hl 10 rfl) ?_
          refine lv_iload hx hb dL_law_674 (lv_at hl 4 rfl) ?_
          refine tpi (x' := nI i) (rfl) ?_
          refine g_ald (r := r5) (n := 64) hx hb hK hP 33 1 rfl rfl (x := i) (hi) (by decide) dL_law_676 ?_
          refine lv_iconst (v := 1) hx hb dL_law_677 (by decide) ?_
          refine tpi (x' := nI 1) (rfl) ?_
          refine l_iald (X := [(hc, oX a t), ((a 0), oC a (cy.mo) (cy.co) (cy.le)), ((a 3), iA (cs 0) (cy.K)), ((a 4), iA (cs 0) (cy.Q)), ((a 5), iA (cs 0) (cy.L)), ((a 6), iA (cs 0) (cy.H)), ((a 7), iA (cs 0) (cy.M)), ((a 8), iA (cs 0) (cy.B)), ((a 9), iA (cs 0) (cy.C)), ((a 10), iA (cs 0) (cy.D)), ((a 11), iA (cs 0) (cy.F)), ((a 12), iA (cs 0) (cy.W)), ((t 0), oC t (dy.mo) (dy.co) (dy.le)), ((t 3), iA (cs 0) (dy.K)), ((t 4), iA (cs 0) (dy.Q)), ((t 5), iA (cs 0) (dy.L)), ((t 6), iA (cs 0) (dy.H)), ((t 7), iA (cs 0) (dy.M)), ((t 8), iA (cs 0) (dy.B)), ((t 9), iA (cs 0) (dy.C)), ((t 10), iA (cs 0) (dy.D)), ((t 11), iA (cs 0) (dy.F)), ((t 12), iA (cs 0) (dy.W)), (h, oS o (cy.mo) (cy.co) (cy.le)), (o, oQ (cs 1) 8 r), ((r 0), iB (cs 0) 8 (cl8 K 0)), ((r 1), iB (cs 0) 8 (cl8 K 1)), ((r 2), iB (cs 0) 8 (cl8 K 2)), ((r 3), iB (cs 0) 8 (cl8 K 3)), ((r 4), iB (cs 0) 8 (cl8 K 4)), ((r 5), iB (cs 0) 8 (cl8 K 5)), ((r 6), iB (cs 0) 8 (cl8 K 6)), ((r 7), iB (cs 0) 8 (cl8 K 7)), (q5, oQ (cs 1) 64 r5), (q6, iB (cs 0) 7 R6), (q7, iB (cs 0) 64 R7)]) (r := r5) (F := F) hx hb hK hP 0 rfl (i := i) (w := 1) (hi) (by decide) dL_law_678 ?_
          refine tpi (x' := toI (qrt k i)) (o1) ?_
          refine lv_aload hx hb dL_law_679 (lv_at hl 10 rfl) ?_
          refine lv_iload hx hb dL_law_681 (lv_at hl 2 rfl) ?_
          refine tpi (x' := nI to) (rfl) ?_
          refine g_ald (r := r5) (n := 64) hx hb hK hP 33 1 rfl rfl (x := to) (hto) (by decide) dL_law_683 ?_
          refine lv_iconst (v := 1) hx hb dL_law_684 (by decide) ?_
          refine tpi (x' := nI 1) (rfl) ?_
          refine l_iald (X := [(hc, oX a t), ((a 0), oC a (cy.mo) (cy.co) (cy.le)), ((a 3), iA (cs 0) (cy.K)), ((a 4), iA (cs 0) (cy.Q)), ((a 5), iA (cs 0) (cy.L)), ((a 6), iA (cs 0) (cy.H)), ((a 7), iA (cs 0) (cy.M)), ((a 8), iA (cs 0) (cy.B)), ((a 9), iA (cs 0) (cy.C)), ((a 10), iA (cs 0) (cy.D)), ((a 11), iA (cs 0) (cy.F)), ((a 12), iA (cs 0) (cy.W)), ((t 0), oC t (dy.mo) (dy.co) (dy.le)), ((t 3), iA (cs 0) (dy.K)), ((t 4), iA (cs 0) (dy.Q)), ((t 5), iA (cs 0) (dy.L)), ((t 6), iA (cs 0) (dy.H)), ((t 7), iA (cs 0) (dy.M)), ((t 8), iA (cs 0) (dy.B)), ((t 9), iA (cs 0) (dy.C)), ((t 10), iA (cs 0) (dy.D)), ((t 11), iA (cs 0) (dy.F)), ((t 12), iA (cs 0) (dy.W)), (h, oS o (cy.mo) (cy.co) (cy.le)), (o, oQ (cs 1) 8 r), ((r 0), iB (cs 0) 8 (cl8 K 0)), ((r 1), iB (cs 0) 8 (cl8 K 1)), ((r 2), iB (cs 0) 8 (cl8 K 2)), ((r 3), iB (cs 0) 8 (cl8 K 3)), ((r 4), iB (cs 0) 8 (cl8 K 4)), ((r 5), iB (cs 0) 8 (cl8 K 5)), ((r 6), iB (cs 0) 8 (cl8 K 6)), ((r 7), iB (cs 0) 8 (cl8 K 7)), (q5, oQ (cs 1) 64 r5), (q6, iB (cs 0) 7 R6), (q7, iB (cs 0) 64 R7)]) (r := r5) (F := F) hx hb hK hP 0 rfl (i := to) (w := 1) (hto) (by decide) dL_law_685 ?_
          refine tpi (x' := toI (qrt k to)) (p1) ?_
          refine lv_icmp_ne (tgt := 701) hx hb dL_law_686 (by decide) (fun c => absurd (congrArg toI (nb_q hi hadj hli hlto)) c) (fun _ => ?_)
          refine lv_aload_n hx hb dL_law_689 rfl (lv_at hl 14 rfl) ?_
          refine lv_iload hx hb dL_law_690 (lv_at hl 4 rfl) ?_
          refine lv_iload hx hb dL_law_692 (lv_at hl 2 rfl) ?_
          refine cq_i (X := [(hc, oX a t), ((a 0), oC a (cy.mo) (cy.co) (cy.le)), ((a 3), iA (cs 0) (cy.K)), ((a 4), iA (cs 0) (cy.Q)), ((a 5), iA (cs 0) (cy.L)), ((a 6), iA (cs 0) (cy.H)), ((a 7), iA (cs 0) (cy.M)), ((a 8), iA (cs 0) (cy.B)), ((a 9), iA (cs 0) (cy.C)), ((a 10), iA (cs 0) (cy.D)), ((a 11), iA (cs 0) (cy.F)), ((a 12), iA (cs 0) (cy.W)), ((t 0), oC t (dy.mo) (dy.co) (dy.le)), ((t 3), iA (cs 0) (dy.K)), ((t 4), iA (cs 0) (dy.Q)), ((t 5), iA (cs 0) (dy.L)), ((t 6), iA (cs 0) (dy.H)), ((t 7), iA (cs 0) (dy.M)), ((t 8), iA (cs 0) (dy.B)), ((t 9), iA (cs 0) (dy.C)), ((t 10), iA (cs 0) (dy.D)), ((t 11), iA (cs 0) (dy.F)), ((t 12), iA (cs 0) (dy.W)), (h, oS o (cy.mo) (cy.co) (cy.le)), (o, oQ (cs 1) 8 r), ((r 0), iB (cs 0) 8 (cl8 K 0)), ((r 1), iB (cs 0) 8 (cl8 K 1)), ((r 2), iB (cs 0) 8 (cl8 K 2)), ((r 3), iB (cs 0) 8 (cl8 K 3)), ((r 4), iB (cs 0) 8 (cl8 K 4)), ((r 5), iB (cs 0) 8 (cl8 K 5)), ((r 6), iB (cs 0) 8 (cl8 K 6)), ((r 7), iB (cs 0) 8 (cl8 K 7)), (q5, oQ (cs 1) 64 r5), (q6, iB (cs 0) 7 R6), (q7, iB (cs 0) 64 R7)]) (pl := (lR (cs 0) r5 F)) (wr := [((t 0), oC t (dy.mo) (dy.co) (dy.le)), ((t 3), iA (cs 0) (dy.K)), ((t 4), iA (cs 0) (dy.Q)), ((t 5), iA (cs 0) (dy.L)), ((t 6), iA (cs 0) (dy.H)), ((t 7), iA (cs 0) (dy.M)), ((t 8), iA (cs 0) (dy.B)), ((t 9), iA (cs 0) (dy.C)), ((t 10), iA (cs 0) (dy.D)), ((t 11), iA (cs 0) (dy.F)), ((t 12), iA (cs 0) (dy.W)), (h, oS o (cy.mo) (cy.co) (cy.le)), (o, oQ (cs 1) 8 r), ((r 0), iB (cs 0) 8 (cl8 K 0)), ((r 1), iB (cs 0) 8 (cl8 K 1)), ((r 2), iB (cs 0) 8 (cl8 K 2)), ((r 3), iB (cs 0) 8 (cl8 K 3)), ((r 4), iB (cs 0) 8 (cl8 K 4)), ((r 5), iB (cs 0) 8 (cl8 K 5)), ((r 6), iB (cs 0) 8 (cl8 K 6)), ((r 7), iB (cs 0) 8 (cl8 K 7)), (q5, oQ (cs 1) 64 r5), (q6, iB (cs 0) 7 R6), (q7, iB (cs 0) 64 R7)]) (va_runV (As := [.int (nI i), .int (nI to)]) (rest := []) FX (c_X1_walk_ok l G (cs 0) hc a t cy.mo cy.co cy.le cy.K cy.Q cy.L cy.H cy.M cy.B cy.C cy.D cy.F cy.W k (nI i) (nI to) hk (inB_063 hi) (inB_063 hto) (by rw [nI_cl hi]; exact hli) (by rw [nI_cl hto]; exact hlto) _) (cwV 2 hts gL_law_X1_walk rfl rfl rfl (by decide +kernel) ⟨Nat.le_of_ble_eq_true rfl, Nat.le_of_ble_eq_true rfl⟩) (wrV hKI hP hD hNI [0, 1, 2, 3, 4, 5, 6, 7, 8, 9, 10, 11] (by decide) rfl rfl (ci := 1) (q0 := 0) rfl rfl) rfl rfl hl.1 rfl (lv_room (Nat.le_of_ble_eq_true rfl)) dL_law_694 ⟨hzc, hzs⟩) hS hP hD hA [0, 1, 2, 3, 4, 5, 6, 7, 8, 9, 10, 11] [12, 13, 14, 15, 16, 17, 18, 19, 20, 21, 22, 23, 24, 25, 26, 27, 28, 29, 30, 31, 32, 33, 34, 35] rfl rfl rfl (by decide) (by decide) (fun r9 u H locs hw hP hD hS => ?_)
          obtain ⟨F1, W1⟩ := u
          have hr9 := hw
          have hP : va_P G vwCl ([(hc, oX a t), ((a 0), oC a (cy.mo) (cy.co) (cy.le)), ((a 3), iA (cs 0) (cy.K)), ((a 4), iA (cs 0) (cy.Q)), ((a 5), iA (cs 0) (cy.L)), ((a 6), iA (cs 0) (cy.H)), ((a 7), iA (cs 0) (cy.M)), ((a 8), iA (cs 0) (cy.B)), ((a 9), iA (cs 0) (cy.C)), ((a 10), iA (cs 0) (cy.D)), ((a 11), iA (cs 0) F1), ((a 12), iA (cs 0) W1), ((t 0), oC t (dy.mo) (dy.co) (dy.le)), ((t 3), iA (cs 0) (dy.K)), ((t 4), iA (cs 0) (dy.Q)), ((t 5), iA (cs 0) (dy.L)), ((t 6), iA (cs 0) (dy.H)), ((t 7), iA (cs 0) (dy.M)), ((t 8), iA (cs 0) (dy.B)), ((t 9), iA (cs 0) (dy.C)), ((t 10), iA (cs 0) (dy.D)), ((t 11), iA (cs 0) (dy.F)), ((t 12), iA (cs 0) (dy.W)), (h, oS o (cy.mo) (cy.co) (cy.le)), (o, oQ (cs 1) 8 r), ((r 0), iB (cs 0) 8 (cl8 K 0)), ((r 1), iB (cs 0) 8 (cl8 K 1)), ((r 2), iB (cs 0) 8 (cl8 K 2)), ((r 3), iB (cs 0) 8 (cl8 K 3)), ((r 4), iB (cs 0) 8 (cl8 K 4)), ((r 5), iB (cs 0) 8 (cl8 K 5)), ((r 6), iB (cs 0) 8 (cl8 K 6)), ((r 7), iB (cs 0) 8 (cl8 K 7)), (q5, oQ (cs 1) 64 r5), (q6, iB (cs 0) 7 R6), (q7, iB (cs 0) 64 R7)] ++ (lR (cs 0) r5 F)) H := hP.part (cx := [(hc, oX a t), ((a 0), oC a (cy.mo) (cy.co) (cy.le)), ((a 3), iA (cs 0) (cy.K)), ((a 4), iA (cs 0) (cy.Q)), ((a 5), iA (cs 0) (cy.L)), ((a 6), iA (cs 0) (cy.H)), ((a 7), iA (cs 0) (cy.M)), ((a 8), iA (cs 0) (cy.B)), ((a 9), iA (cs 0) (cy.C)), ((a 10), iA (cs 0) (cy.D)), ((a 11), iA (cs 0) F1), ((a 12), iA (cs 0) W1), ((t 0), oC t (dy.mo) (dy.co) (dy.le)), ((t 3), iA (cs 0) (dy.K)), ((t 4), iA (cs 0) (dy.Q)), ((t 5), iA (cs 0) (dy.L)), ((t 6), iA (cs 0) (dy.H)), ((t 7), iA (cs 0) (dy.M)), ((t 8), iA (cs 0) (dy.B)), ((t 9), iA (cs 0) (dy.C)), ((t 10), iA (cs 0) (dy.D)), ((t 11), iA (cs 0) (dy.F)), ((t 12), iA (cs 0) (dy.W)), (h, oS o (cy.mo) (cy.co) (cy.le)), (o, oQ (cs 1) 8 r), ((r 0), iB (cs 0) 8 (cl8 K 0)), ((r 1), iB (cs 0) 8 (cl8 K 1)), ((r 2), iB (cs 0) 8 (cl8 K 2)), ((r 3), iB (cs 0) 8 (cl8 K 3)), ((r 4), iB (cs 0) 8 (cl8 K 4)), ((r 5), iB (cs 0) 8 (cl8 K 5)), ((r 6), iB (cs 0) 8 (cl8 K 6)), ((r 7), iB (cs 0) 8 (cl8 K 7)), (q5, oQ (cs 1) 64 r5), (q6, iB (cs 0) 7 R6), (q7, iB (cs 0) 64 R7)]) [24, 25, 26, 27, 28, 29, 30, 31, 32, 33, 34, 35, 0, 1, 2, 3, 4, 5, 6, 7, 8, 9, 10, 11, 12, 13, 14, 15, 16, 17, 18, 19, 20, 21, 22, 23] rfl
          have hD : va_D A ([(hc, oX a t), ((a 0), oC a (cy.mo) (cy.co) (cy.le)), ((a 3), iA (cs 0) (cy.K)), ((a 4), iA (cs 0) (cy.Q)), ((a 5), iA (cs 0) (cy.L)), ((a 6), iA (cs 0) (cy.H)), ((a 7), iA (cs 0) (cy.M)), ((a 8), iA (cs 0) (cy.B)), ((a 9), iA (cs 0) (cy.C)), ((a 10), iA (cs 0) (cy.D)), ((a 11), iA (cs 0) F1), ((a 12), iA (cs 0) W1), ((t 0), oC t (dy.mo) (dy.co) (dy.le)), ((t 3), iA (cs 0) (dy.K)), ((t 4), iA (cs 0) (dy.Q)), ((t 5), iA (cs 0) (dy.L)), ((t 6), iA (cs 0) (dy.H)), ((t 7), iA (cs 0) (dy.M)), ((t 8), iA (cs 0) (dy.B)), ((t 9), iA (cs 0) (dy.C)), ((t 10), iA (cs 0) (dy.D)), ((t 11), iA (cs 0) (dy.F)), ((t 12), iA (cs 0) (dy.W)), (h, oS o (cy.mo) (cy.co) (cy.le)), (o, oQ (cs 1) 8 r), ((r 0), iB (cs 0) 8 (cl8 K 0)), ((r 1), iB (cs 0) 8 (cl8 K 1)), ((r 2), iB (cs 0) 8 (cl8 K 2)), ((r 3), iB (cs 0) 8 (cl8 K 3)), ((r 4), iB (cs 0) 8 (cl8 K 4)), ((r 5), iB (cs 0) 8 (cl8 K 5)), ((r 6), iB (cs 0) 8 (cl8 K 6)), ((r 7), iB (cs 0) 8 (cl8 K 7)), (q5, oQ (cs 1) 64 r5), (q6, iB (cs 0) 7 R6), (q7, iB (cs 0) 64 R7)] ++ (lR (cs 0) r5 F)) := hD.part (cx := [(hc, oX a t), ((a 0), oC a (cy.mo) (cy.co) (cy.le)), ((a 3), iA (cs 0) (cy.K)), ((a 4), iA (cs 0) (cy.Q)), ((a 5), iA (cs 0) (cy.L)), ((a 6), iA (cs 0) (cy.H)), ((a 7), iA (cs 0) (cy.M)), ((a 8), iA (cs 0) (cy.B)), ((a 9), iA (cs 0) (cy.C)), ((a 10), iA (cs 0) (cy.D)), ((a 11), iA (cs 0) F1), ((a 12), iA (cs 0) W1), ((t 0), oC t (dy.mo) (dy.co) (dy.le)), ((t 3), iA (cs 0) (dy.K)), ((t 4), iA (cs 0) (dy.Q)), ((t 5), iA (cs 0) (dy.L)), ((t 6), iA (cs 0) (dy.H)), ((t 7), iA (cs 0) (dy.M)), ((t 8), iA (cs 0) (dy.B)), ((t 9), iA (cs 0) (dy.C)), ((t 10), iA (cs 0) (dy.D)), ((t 11), iA (cs 0) (dy.F)), ((t 12), iA (cs 0) (dy.W)), (h, oS o (cy.mo) (cy.co) (cy.le)), (o, oQ (cs 1) 8 r), ((r 0), iB (cs 0) 8 (cl8 K 0)), ((r 1), iB (cs 0) 8 (cl8 K 1)), ((r 2), iB (cs 0) 8 (cl8 K 2)), ((r 3), iB (cs 0) 8 (cl8 K 3)), ((r 4), iB (cs 0) 8 (cl8 K 4)), ((r 5), iB (cs 0) 8 (cl8 K 5)), ((r 6), iB (cs 0) 8 (cl8 K 6)), ((r 7), iB (cs 0) 8 (cl8 K 7)), (q5, oQ (cs 1) 64 r5), (q6, iB (cs 0) 7 R6), (q7, iB (cs 0) 64 R7)]) [24, 25, 26, 27, 28, 29, 30, 31, 32, 33, 34, 35, 0, 1, 2, 3, 4, 5, 6, 7, 8, 9, 10, 11, 12, 13, 14, 15, 16, 17, 18, 19, 20, 21, 22, 23] (by decide) rfl
          refine tpi (x' := 1) (hr9.trans (by rw [nI_cl hi, nI_cl hto]; exact nb_walk hadj hne hlto)) ?_
          refine lv_iconst (v := 1) hx hb dL_law_697 (by decide) ?_
          refine lv_icmp_eq (tgt := 703) hx hb dL_law_698 (by decide) (fun _ => ?_) (fun c => absurd (rfl) c)
          obtain ⟨cy2, hcy2⟩ : ∃ z : Cy, z = ⟨cy.mo, cy.co, cy.le, cy.K, cy.Q, cy.L, cy.H, cy.M, cy.B, cy.C, cy.D, F1, W1⟩ := ⟨_, rfl⟩
          have hg2 : Sd cy2 k := by rw [hcy2]; exact hg
          have hP : va_P G vwCl ([(hc, oX a t), ((a 0), oC a (cy2.mo) (cy2.co) (cy2.le)), ((a 3), iA (cs 0) (cy2.K)), ((a 4), iA (cs 0) (cy2.Q)), ((a 5), iA (cs 0) (cy2.L)), ((a 6), iA (cs 0) (cy2.H)), ((a 7), iA (cs 0) (cy2.M)), ((a 8), iA (cs 0) (cy2.B)), ((a 9), iA (cs 0) (cy2.C)), ((a 10), iA (cs 0) (cy2.D)), ((a 11), iA (cs 0) (cy2.F)), ((a 12), iA (cs 0) (cy2.W)), ((t 0), oC t (dy.mo) (dy.co) (dy.le)), ((t 3), iA (cs 0) (dy.K)), ((t 4), iA (cs 0) (dy.Q)), ((t 5), iA (cs 0) (dy.L)), ((t 6), iA (cs 0) (dy.H)), ((t 7), iA (cs 0) (dy.M)), ((t 8), iA (cs 0) (dy.B)), ((t 9), iA (cs 0) (dy.C)), ((t 10), iA (cs 0) (dy.D)), ((t 11), iA (cs 0) (dy.F)), ((t 12), iA (cs 0) (dy.W)), (h, oS o (cy2.mo) (cy2.co) (cy2.le)), (o, oQ (cs 1) 8 r), ((r 0), iB (cs 0) 8 (cl8 K 0)), ((r 1), iB (cs 0) 8 (cl8 K 1)), ((r 2), iB (cs 0) 8 (cl8 K 2)), ((r 3), iB (cs 0) 8 (cl8 K 3)), ((r 4), iB (cs 0) 8 (cl8 K 4)), ((r 5), iB (cs 0) 8 (cl8 K 5)), ((r 6), iB (cs 0) 8 (cl8 K 6)), ((r 7), iB (cs 0) 8 (cl8 K 7)), (q5, oQ (cs 1) 64 r5), (q6, iB (cs 0) 7 R6), (q7, iB (cs 0) 64 R7)] ++ (lR (cs 0) r5 F)) H := by rw [hcy2]; exact hP
          have hD : va_D A ([(hc, oX a t), ((a 0), oC a (cy2.mo) (cy2.co) (cy2.le)), ((a 3), iA (cs 0) (cy2.K)), ((a 4), iA (cs 0) (cy2.Q)), ((a 5), iA (cs 0) (cy2.L)), ((a 6), iA (cs 0) (cy2.H)), ((a 7), iA (cs 0) (cy2.M)), ((a 8), iA (cs 0) (cy2.B)), ((a 9), iA (cs 0) (cy2.C)), ((a 10), iA (cs 0) (cy2.D)), ((a 11), iA (cs 0) (cy2.F)), ((a 12), iA (cs 0) (cy2.W)), ((t 0), oC t (dy.mo) (dy.co) (dy.le)), ((t 3), iA (cs 0) (dy.K)), ((t 4), iA (cs 0) (dy.Q)), ((t 5), iA (cs 0) (dy.L)), ((t 6), iA (cs 0) (dy.H)), ((t 7), iA (cs 0) (dy.M)), ((t 8), iA (cs 0) (dy.B)), ((t 9), iA (cs 0) (dy.C)), ((t 10), iA (cs 0) (dy.D)), ((t 11), iA (cs 0) (dy.F)), ((t 12), iA (cs 0) (dy.W)), (h, oS o (cy2.mo) (cy2.co) (cy2.le)), (o, oQ (cs 1) 8 r), ((r 0), iB (cs 0) 8 (cl8 K 0)), ((r 1), iB (cs 0) 8 (cl8 K 1)), ((r 2), iB (cs 0) 8 (cl8 K 2)), ((r 3), iB (cs 0) 8 (cl8 K 3)), ((r 4), iB (cs 0) 8 (cl8 K 4)), ((r 5), iB (cs 0) 8 (cl8 K 5)), ((r 6), iB (cs 0) 8 (cl8 K 6)), ((r 7), iB (cs 0) 8 (cl8 K 7)), (q5, oQ (cs 1) 64 r5), (q6, iB (cs 0) 7 R6), (q7, iB (cs 0) 64 R7)] ++ (lR (cs 0) r5 F)) := by rw [hcy2]; exact hD
          have hk := hg2.1
          have hS0 := hg2.2.1
          refine lv_iload hx hb dL_law_703 (lv_at hl 1 rfl) ?_
          refine lv_if_eq (tgt := 752) hx hb dL_law_705 (by decide) (fun _ => ?_) (fun c => absurd (rfl) c)
          refine lv_iload hx hb dL_law_752 (lv_at hl 1 rfl) ?_
          refine lv_if_eq (tgt := 797) hx hb dL_law_754 (by decide) (fun _ => ?_) (fun c => absurd (rfl) c)
          exact kk cy2 _ _ _ (hg2) hP hD hS (lv_sub hl [3, 4, 5, 6, 7, 8, 9, 10, 11, 12, 13, 14, 15] rfl)
    · skip
      have jto : ∀ (H : Heap) (locs : List Loc), va_P G vwCl ([(hc, oX a t), ((a 0), oC a (cy.mo) (cy.co) (cy.le)), ((a 3), iA (cs 0) (cy.K)), ((a 4), iA (cs 0) (cy.Q)), ((a 5), iA (cs 0) (cy.L)), ((a 6), iA (cs 0) (cy.H)), ((a 7), iA (cs 0) (cy.M)), ((a 8), iA (cs 0) (cy.B)), ((a 9), iA (cs 0) (cy.C)), ((a 10), iA (cs 0) (cy.D)), ((a 11), iA (cs 0) (cy.F)), ((a 12), iA (cs 0) (cy.W)), ((t 0), oC t (dy.mo) (dy.co) (dy.le)), ((t 3), iA (cs 0) (dy.K)), ((t 4), iA (cs 0) (dy.Q)), ((t 5), iA (cs 0) (dy.L)), ((t 6), iA (cs 0) (dy.H)), ((t 7), iA (cs 0) (dy.M)), ((t 8), iA (cs 0) (dy.B)), ((t 9), iA (cs 0) (dy.C)), ((t 10), iA (cs 0) (dy.D)), ((t 11), iA (cs 0) (dy.F)), ((t 12), iA (cs 0) (dy.W)), (h, oS o (cy.mo) (cy.co) (cy.le)), (o, oQ (cs 1) 8 r), ((r 0), iB (cs 0) 8 (cl8 K 0)), ((r 1), iB (cs 0) 8 (cl8 K 1)), ((r 2), iB (cs 0) 8 (cl8 K 2)), ((r 3), iB (cs 0) 8 (cl8 K 3)), ((r 4), iB (cs 0) 8 (cl8 K 4)), ((r 5), iB (cs 0) 8 (cl8 K 5)), ((r 6), iB (cs 0) 8 (cl8 K 6)), ((r 7), iB (cs 0) 8 (cl8 K 7)), (q5, oQ (cs 1) 64 r5), (q6, iB (cs 0) 7 R6), (q7, iB (cs 0) 64 R7)] ++ (lR (cs 0) r5 F)) H → va_D A ([(hc, oX a t), ((a 0), oC a (cy.mo) (cy.co) (cy.le)), ((a 3), iA (cs 0) (cy.K)), ((a 4), iA (cs 0) (cy.Q)), ((a 5), iA (cs 0) (cy.L)), ((a 6), iA (cs 0) (cy.H)), ((a 7), iA (cs 0) (cy.M)), ((a 8), iA (cs 0) (cy.B)), ((a 9), iA (cs 0) (cy.C)), ((a 10), iA (cs 0) (cy.D)), ((a 11), iA (cs 0) (cy.F)), ((a 12), iA (cs 0) (cy.W)), ((t 0), oC t (dy.mo) (dy.co) (dy.le)), ((t 3), iA (cs 0) (dy.K)), ((t 4), iA (cs 0) (dy.Q)), ((t 5), iA (cs 0) (dy.L)), ((t 6), iA (cs 0) (dy.H)), ((t 7), iA (cs 0) (dy.M)), ((t 8), iA (cs 0) (dy.B)), ((t 9), iA (cs 0) (dy.C)), ((t 10), iA (cs 0) (dy.D)), ((t 11), iA (cs 0) (dy.F)), ((t 12), iA (cs 0) (dy.W)), (h, oS o (cy.mo) (cy.co) (cy.le)), (o, oQ (cs 1) 8 r), ((r 0), iB (cs 0) 8 (cl8 K 0)), ((r 1), iB (cs 0) 8 (cl8 K 1)), ((r 2), iB (cs 0) 8 (cl8 K 2)), ((r 3), iB (cs 0) 8 (cl8 K 3)), ((r 4), iB (cs 0) 8 (cl8 K 4)), ((r 5), iB (cs 0) 8 (cl8 K 5)), ((r 6), iB (cs 0) 8 (cl8 K 6)), ((r 7), iB (cs 0) 8 (cl8 K 7)), (q5, oQ (cs 1) 64 r5), (q6, iB (cs 0) 7 R6), (q7, iB (cs 0) 64 R7)] ++ (lR (cs 0) r5 F)) → va_S A s.heap H locs → W p l e room_1 s m #[Value.ref b] below meth c H locs cells slots Q (F0 m 643 ls []) := by
        intro  H locs hP hD hS
        refine lv_iconst (v := 1) hx hb dL_law_643 (by decide) ?_
        refine lv_goto (tgt := 648) hx hb dL_law_644 (by decide) ?_
        refine lv_istore (lv' := [(15, .int 1), (14, .int 0), (13, .int (nI to)), (12, .int sd), (11, .int (nI i)), (10, .int qn), (9, .int (dall k)), (8, .int (call k)), (7, .ref q7), (6, .ref q6), (5, .ref q5), (4, .int x4), (3, .int (nI tm)), (0, .ref b), (1, .ref hc), (2, .ref h)]) hx hb dL_law_648 hl (by decide) rfl (fun ls hl => ?_)
        rcases hli : lnd (k i) with _ | _
        · skip
          refine lv_aload hx hb dL_law_650 (lv_at hl 10 rfl) ?_
          refine lv_iload hx hb dL_law_652 (lv_at hl 4 rfl) ?_
          refine tpi (x' := nI i) (rfl) ?_
          refine g_ald (r := r5) (n := 64) hx hb hK hP 33 1 rfl rfl (x := i) (hi) (by decide) dL_law_654 ?_
          refine lv_iconst (v := 0) hx hb dL_law_655 (by decide) ?_
          refine tpi (x' := nI 0) (rfl) ?_
          refine l_iald (X := [(hc, oX a t), ((a 0), oC a (cy.mo) (cy.co) (cy.le)), ((a 3), iA (cs 0) (cy.K)), ((a 4), iA (cs 0) (cy.Q)), ((a 5), iA (cs 0) (cy.L)), ((a 6), iA (cs 0) (cy.H)), ((a 7), iA (cs 0) (cy.M)), ((a 8), iA (cs 0) (cy.B)), ((a 9), iA (cs 0) (cy.C)), ((a 10), iA (cs 0) (cy.D)), ((a 11), iA (cs 0) (cy.F)), ((a 12), iA (cs 0) (cy.W)), ((t 0), oC t (dy.mo) (dy.co) (dy.le)), ((t 3), iA (cs 0) (dy.K)), ((t 4), iA (cs 0) (dy.Q)), ((t 5), iA (cs 0) (dy.L)), ((t 6), iA (cs 0) (dy.H)), ((t 7), iA (cs 0) (dy.M)), ((t 8), iA (cs 0) (dy.B)), ((t 9), iA (cs 0) (dy.C)), ((t 10), iA (cs 0) (dy.D)), ((t 11), iA (cs 0) (dy.F)), ((t 12), iA (cs 0) (dy.W)), (h, oS o (cy.mo) (cy.co) (cy.le)), (o, oQ (cs 1) 8 r), ((r 0), iB (cs 0) 8 (cl8 K 0)), ((r 1), iB (cs 0) 8 (cl8 K 1)), ((r 2), iB (cs 0) 8 (cl8 K 2)), ((r 3), iB (cs 0) 8 (cl8 K 3)), ((r 4), iB (cs 0) 8 (cl8 K 4)), ((r 5), iB (cs 0) 8 (cl8 K 5)), ((r 6), iB (cs 0) 8 (cl8 K 6)), ((r 7), iB (cs 0) 8 (cl8 K 7)), (q5, oQ (cs 1) 64 r5), (q6, iB (cs 0) 7 R6), (q7, iB (cs 0) 64 R7)]) (r := r5) (F := F) hx hb hK hP 0 rfl (i := i) (w := 0) (hi) (by decide) dL_law_656 ?_
          refine tpi (x' := k i) (o0) ?_
          refine lv_iconst (v := 1) hx hb dL_law_657 (by decide) ?_
          refine lv_icmp_le (tgt := 703) hx hb dL_law_658 (by decide) (fun _ => ?_) (fun c => absurd ((lnd_no (hkd i hi) hli).1) c)
          rcases hlto : lnd (k to) with _ | _
          · skip
            refine lv_iload hx hb dL_law_703 (lv_at hl 1 rfl) ?_
            refine lv_if_eq (tgt := 752) hx hb dL_law_705 (by decide) (fun _ => ?_) (fun c => absurd (rfl) c)
            refine lv_iload hx hb dL_law_752 (lv_at hl 1 rfl) ?_
            refine lv_if_eq (tgt := 797) hx hb dL_law_754 (by decide) (fun _ => ?_) (fun c => absurd (rfl) c)
            exact kk cy _ _ _ (hg) hP hD hS (lv_sub hl [3, 4, 5, 6, 7, 8, 9, 10, 11, 12, 13, 14, 15] rfl)
          · skip
            refine lv_iload hx hb dL_law_703 (lv_at hl 1 rfl) ?_
            refine lv_if_eq (tgt := 752) hx hb dL_law_705 (by decide) (fun _ => ?_) (fun c => absurd (rfl) c)
            refine lv_iload hx hb dL_law_752 (lv_at hl 1 rfl) ?_
            refine lv_if_eq (tgt := 797) hx hb dL_law_754 (by decide) (fun _ => ?_) (fun c => absurd (rfl) c)
            exact kk cy _ _ _ (hg) hP hD hS (lv_sub hl [3, 4, 5, 6, 7, 8, 9, 10, 11, 12, 13, 14, 15] rfl)
        · skip
          rcases hlto : lnd (k to) with _ | _
          · skip
            refine lv_aload hx hb dL_law_650 (lv_at hl 10 rfl) ?_
            refine lv_iload hx hb dL_law_652 (lv_at hl 4 rfl) ?_
            refine tpi (x' := nI i) (rfl) ?_
            refine g_ald (r := r5) (n := 64) hx hb hK hP 33 1 rfl rfl (x := i) (hi) (by decide) dL_law_654 ?_
            refine lv_iconst (v := 0) hx hb dL_law_655 (by decide) ?_
            refine tpi (x' := nI 0) (rfl) ?_
            refine l_iald (X := [(hc, oX a t), ((a 0), oC a (cy.mo) (cy.co) (cy.le)), ((a 3), iA (cs 0) (cy.K)), ((a 4), iA (cs 0) (cy.Q)), ((a 5), iA (cs 0) (cy.L)), ((a 6), iA (cs 0) (cy.H)), ((a 7), iA (cs 0) (cy.M)), ((a 8), iA (cs 0) (cy.B)), ((a 9), iA (cs 0) (cy.C)), ((a 10), iA (cs 0) (cy.D)), ((a 11), iA (cs 0) (cy.F)), ((a 12), iA (cs 0) (cy.W)), ((t 0), oC t (dy.mo) (dy.co) (dy.le)), ((t 3), iA (cs 0) (dy.K)), ((t 4), iA (cs 0) (dy.Q)), ((t 5), iA (cs 0) (dy.L)), ((t 6), iA (cs 0) (dy.H)), ((t 7), iA (cs 0) (dy.M)), ((t 8), iA (cs 0) (dy.B)), ((t 9), iA (cs 0) (dy.C)), ((t 10), iA (cs 0) (dy.D)), ((t 11), iA (cs 0) (dy.F)), ((t 12), iA (cs 0) (dy.W)), (h, oS o (cy.mo) (cy.co) (cy.le)), (o, oQ (cs 1) 8 r), ((r 0), iB (cs 0) 8 (cl8 K 0)), ((r 1), iB (cs 0) 8 (cl8 K 1)), ((r 2), iB (cs 0) 8 (cl8 K 2)), ((r 3), iB (cs 0) 8 (cl8 K 3)), ((r 4), iB (cs 0) 8 (cl8 K 4)), ((r 5), iB (cs 0) 8 (cl8 K 5)), ((r 6), iB (cs 0) 8 (cl8 K 6)), ((r 7), iB (cs 0) 8 (cl8 K 7)), (q5, oQ (cs 1) 64 r5), (q6, iB (cs 0) 7 R6), (q7, iB (cs 0) 64 R7)]) (r := r5) (F := F) hx hb hK hP 0 rfl (i := i) (w := 0) (hi) (by decide) dL_law_656 ?_
            refine tpi (x' := k i) (o0) ?_
            refine lv_iconst (v := 1) hx hb dL_law_657 (by decide) ?_
            refine lv_icmp_le (tgt := 703) hx hb dL_law_658 (by decide) (fun c => absurd c ((lnd_2 hli).2.1)) (fun _ => ?_)
            refine lv_aload hx hb dL_law_661 (lv_at hl 10 rfl) ?_
            refine lv_iload hx hb dL_law_663 (lv_at hl 2 rfl) ?_
            refine tpi (x' := nI to) (rfl) ?_
            refine g_ald (r := r5) (n := 64) hx hb hK hP 33 1 rfl rfl (x := to) (hto) (by decide) dL_law_665 ?_
            refine lv_iconst (v := 0) hx hb dL_law_666 (by decide) ?_
            refine tpi (x' := nI 0) (rfl) ?_
            refine l_iald (X := [(hc, oX a t), ((a 0), oC a (cy.mo) (cy.co) (cy.le)), ((a 3), iA (cs 0) (cy.K)), ((a 4), iA (cs 0) (cy.Q)), ((a 5), iA (cs 0) (cy.L)), ((a 6), iA (cs 0) (cy.H)), ((a 7), iA (cs 0) (cy.M)), ((a 8), iA (cs 0) (cy.B)), ((a 9), iA (cs 0) (cy.C)), ((a 10), iA (cs 0) (cy.D)), ((a 11), iA (cs 0) (cy.F)), ((a 12), iA (cs 0) (cy.W)), ((t 0), oC t (dy.mo) (dy.co) (dy.le)), ((t 3), iA (cs 0) (dy.K)), ((t 4), iA (cs 0) (dy.Q)), ((t 5), iA (cs 0) (dy.L)), ((t 6), iA (cs 0) (dy.H)), ((t 7), iA (cs 0) (dy.M)), ((t 8), iA (cs 0) (dy.B)), ((t 9), iA (cs 0) (dy.C)), ((t 10), iA (cs 0) (dy.D)), ((t 11), iA (cs 0) (dy.F)), ((t 12), iA (cs 0) (dy.W)), (h, oS o (cy.mo) (cy.co) (cy.le)), (o, oQ (cs 1) 8 r), ((r 0), iB (cs 0) 8 (cl8 K 0)), ((r 1), iB (cs 0) 8 (cl8 K 1)), ((r 2), iB (cs 0) 8 (cl8 K 2)), ((r 3), iB (cs 0) 8 (cl8 K 3)), ((r 4), iB (cs 0) 8 (cl8 K 4)), ((r 5), iB (cs 0) 8 (cl8 K 5)), ((r 6), iB (cs 0) 8 (cl8 K 6)), ((r 7), iB (cs 0) 8 (cl8 K 7)), (q5, oQ (cs 1) 64 r5), (q6, iB (cs 0) 7 R6), (q7, iB (cs 0) 64 R7)]) (r := r5) (F := F) hx hb hK hP 0 rfl (i := to) (w := 0) (hto) (by decide) dL_law_667 ?_
            refine tpi (x' := k to) (p0) ?_
            refine lv_iconst (v := 1) hx hb dL_law_668 (by decide) ?_
            refine lv_icmp_le (tgt := 703) hx hb dL_law_669 (by decide) (fun _ => ?_) (fun c => absurd ((lnd_no (hkd to hto) hlto).1) c)
            refine lv_iload hx hb dL_law_703 (lv_at hl 1 rfl) ?_
            refine lv_if_eq (tgt := 752) hx hb dL_law_705 (by decide) (fun _ => ?_) (fun c => absurd (rfl) c)
            refine lv_iload hx hb dL_law_752 (lv_at hl 1 rfl) ?_
            refine lv_if_eq (tgt := 797) hx hb dL_law_754 (by decide) (fun _ => ?_) (fun c => absurd (rfl) c)
            exact kk cy _ _ _ (hg) hP hD hS (lv_sub hl [3, 4, 5, 6, 7, 8, 9, 10, 11, 12, 13, 14, 15] rfl)
          · skip
            refine lv_aload hx hb dL_law_650 (lv_at hl 10 rfl) ?_
            refine lv_iload hx hb dL_law_652 (lv_at hl 4 rfl) ?_
            refine tpi (x' := nI i) (rfl) ?_
            refine g_ald (r := r5) (n := 64) hx hb hK hP 33 1 rfl rfl (x := i) (hi) (by decide) dL_law_654 ?_
            refine lv_iconst (v := 0) hx hb dL_law_655 (by decide) ?_
            refine tpi (x' := nI 0) (rfl) ?_
            refine l_iald (X := [(hc, oX a t), ((a 0), oC a (cy.mo) (cy.co) (cy.le)), ((a 3), iA (cs 0) (cy.K)), ((a 4), iA (cs 0) (cy.Q)), ((a 5), iA (cs 0) (cy.L)), ((a 6), iA (cs 0) (cy.H)), ((a 7), iA (cs 0) (cy.M)), ((a 8), iA (cs 0) (cy.B)), ((a 9), iA (cs 0) (cy.C)), ((a 10), iA (cs 0) (cy.D)), ((a 11), iA (cs 0) (cy.F)), ((a 12), iA (cs 0) (cy.W)), ((t 0), oC t (dy.mo) (dy.co) (dy.le)), ((t 3), iA (cs 0) (dy.K)), ((t 4), iA (cs 0) (dy.Q)), ((t 5), iA (cs 0) (dy.L)), ((t 6), iA (cs 0) (dy.H)), ((t 7), iA (cs 0) (dy.M)), ((t 8), iA (cs 0) (dy.B)), ((t 9), iA (cs 0) (dy.C)), ((t 10), iA (cs 0) (dy.D)), ((t 11), iA (cs 0) (dy.F)), ((t 12), iA (cs 0) (dy.W)), (h, oS o (cy.mo) (cy.co) (cy.le)), (o, oQ (cs 1) 8 r), ((r 0), iB (cs 0) 8 (cl8 K 0)), ((r 1), iB (cs 0) 8 (cl8 K 1)), ((r 2), iB (cs 0) 8 (cl8 K 2)), ((r 3), iB (cs 0) 8 (cl8 K 3)), ((r 4), iB (cs 0) 8 (cl8 K 4)), ((r 5), iB (cs 0) 8 (cl8 K 5)), ((r 6), iB (cs 0) 8 (cl8 K 6)), ((r 7), iB (cs 0) 8 (cl8 K 7)), (q5, oQ (cs 1) 64 r5), (q6, iB (cs 0) 7 R6), (q7, iB (cs 0) 64 R7)]) (r := r5) (F := F) hx hb hK hP 0 rfl (i := i) (w := 0) (hi) (by decide) dL_law_656 ?_
            refine tpi (x' := k i) (o0) ?_
            refine lv_iconst (v := 1) hx hb dL_law_657 (by decide) ?_
            refine lv_icmp_le (tgt := 703) hx hb dL_law_658 (by decide) (fun c => absurd c ((lnd_2 hli).2.1)) (fun _ => ?_)
            refine lv_aload hx hb dL_law_661 (lv_at hl 10 rfl) ?_
            refine lv_iload hx hb dL_law_663 (lv_at hl 2 rfl) ?_
            refine tpi (x' := nI to) (rfl) ?_
            refine g_ald (r := r5) (n := 64) hx hb hK hP 33 1 rfl rfl (x := to) (hto) (by decide) dL_law_665 ?_
            refine lv_iconst (v := 0) hx hb dL_law_666 (by decide) ?_
            refine tpi (x' := nI 0) (rfl) ?_
            refine l_iald (X := [(hc, oX a t), ((a 0), oC a (cy.mo) (cy.co) (cy.le)), ((a 3), iA (cs 0) (cy.K)), ((a 4), iA (cs 0) (cy.Q)), ((a 5), iA (cs 0) (cy.L)), ((a 6), iA (cs 0) (cy.H)), ((a 7), iA (cs 0) (cy.M)), ((a 8), iA (cs 0) (cy.B)), ((a 9), iA (cs 0) (cy.C)), ((a 10), iA (cs 0) (cy.D)), ((a 11), iA (cs 0) (cy.F)), ((a 12), iA (cs 0) (cy.W)), ((t 0), oC t (dy.mo) (dy.co) (dy.le)), ((t 3), iA (cs 0) (dy.K)), ((t 4), iA (cs 0) (dy.Q)), ((t 5), iA (cs 0) (dy.L)), ((t 6), iA (cs 0) (dy.H)), ((t 7), iA (cs 0) (dy.M)), ((t 8), iA (cs 0) (dy.B)), ((t 9), iA (cs 0) (dy.C)), ((t 10), iA (cs 0) (dy.D)), ((t 11), iA (cs 0) (dy.F)), ((t 12), iA (cs 0) (dy.W)), (h, oS o (cy.mo) (cy.co) (cy.le)), (o, oQ (cs 1) 8 r), ((r 0), iB (cs 0) 8 (cl8 K 0)), ((r 1), iB (cs 0) 8 (cl8 K 1)), ((r 2), iB (cs 0) 8 (cl8 K 2)), ((r 3), iB (cs 0) 8 (cl8 K 3)), ((r 4), iB (cs 0) 8 (cl8 K 4)), ((r 5), iB (cs 0) 8 (cl8 K 5)), ((r 6), iB (cs 0) 8 (cl8 K 6)), ((r 7), iB (cs 0) 8 (cl8 K 7)), (q5, oQ (cs 1) 64 r5), (q6, iB (cs 0) 7 R6), (q7, iB (cs 0) 64 R7)]) (r := r5) (F := F) hx hb hK hP 0 rfl (i := to) (w := 0) (hto) (by decide) dL_law_667 ?_
            refine tpi (x' := k to) (p0) ?_
            refine lv_iconst (v := 1) hx hb dL_law_668 (by decide) ?_
            refine lv_icmp_le (tgt := 703) hx hb dL_law_669 (by decide) (fun c => absurd c ((lnd_2 hlto).2.1)) (fun _ => ?_)
            refine lv_aload hx hb dL_law_672 (lv_at hl 10 rfl) ?_
            refine lv_iload hx hb dL_law_674 (lv_at hl 4 rfl) ?_
            refine tpi (x' := nI i) (rfl) ?_
            refine g_ald (r := r5) (n := 64) hx hb hK hP 33 1 rfl rfl (x := i) (hi) (by decide) dL_law_676 ?_
            refine lv_iconst (v := 1) hx hb dL_law_677 (by decide) ?_
            refine tpi (x' := nI 1) (rfl) ?_
            refine l_iald (X := [(hc, oX a t), ((a 0), oC a (cy.mo) (cy.co) (cy.le)), ((a 3), iA (cs 0) (cy.K)), ((a 4), iA (cs 0) (cy.Q)), ((a 5), iA (cs 0) (cy.L)), ((a 6), iA (cs 0) (cy.H)), ((a 7), iA (cs 0) (cy.M)), ((a 8), iA (cs 0) (cy.B)), ((a 9), iA (cs 0) (cy.C)), ((a 10), iA (cs 0) (cy.D)), ((a 11), iA (cs 0) (cy.F)), ((a 12), iA (cs 0) (cy.W)), ((t 0), oC t (dy.mo) (dy.co) (dy.le)), ((t 3), iA (cs 0) (dy.K)), ((t 4), iA (cs 0) (dy.Q)), ((t 5), iA (cs 0) (dy.L)), ((t 6), iA (cs 0) (dy.H)), ((t 7), iA (cs 0) (dy.M)), ((t 8), iA (cs 0) (dy.B)), ((t 9), iA (cs 0) (dy.C)), ((t 10), iA (cs 0) (dy.D)), ((t 11), iA (cs 0) (dy.F)), ((t 12), iA (cs 0) (dy.W)), (h, oS o (cy.mo) (cy.co) (cy.le)), (o, oQ (cs 1) 8 r), ((r 0), iB (cs 0) 8 (cl8 K 0)), ((r 1), iB (cs 0) 8 (cl8 K 1)), ((r 2), iB (cs 0) 8 (cl8 K 2)), ((r 3), iB (cs 0) 8 (cl8 K 3)), ((r 4), iB (cs 0) 8 (cl8 K 4)), ((r 5), iB (cs 0) 8 (cl8 K 5)), ((r 6), iB (cs 0) 8 (cl8 K 6)), ((r 7), iB (cs 0) 8 (cl8 K 7)), (q5, oQ (cs 1) 64 r5), (q6, iB (cs 0) 7 R6), (q7, iB (cs 0) 64 R7)]) (r := r5) (F := F) hx hb hK hP 0 rfl (i := i) (w := 1) (hi) (by decide) dL_law_678 ?_
            refine tpi (x' := toI (qrt k i)) (o1) ?_
            refine lv_aload hx hb dL_law_679 (lv_at hl 10 rfl) ?_
            refine lv_iload hx hb dL_law_681 (lv_at hl 2 rfl) ?_
            refine tpi (x' := nI to) (rfl) ?_
            refine g_ald (r := r5) (n := 64) hx hb hK hP 33 1 rfl rfl (x := to) (hto) (by decide) dL_law_683 ?_
            refine lv_iconst (v := 1) hx hb dL_law_684 (by decide) ?_
            refine tpi (x' := nI 1) (rfl) ?_
            refine l_iald (X := [(hc, oX a t), ((a 0), oC a (cy.mo) (cy.co) (cy.le)), ((a 3), iA (cs 0) (cy.K)), ((a 4), iA (cs 0) (cy.Q)), ((a 5), iA (cs 0) (cy.L)), ((a 6), iA (cs 0) (cy.H)), ((a 7), iA (cs 0) (cy.M)), ((a 8), iA (cs 0) (cy.B)), ((a 9), iA (cs 0) (cy.C)), ((a 10), iA (cs 0) (cy.D)), ((a 11), iA (cs 0) (cy.F)), ((a 12), iA (cs 0) (cy.W)), ((t 0), oC t (dy.mo) (dy.co) (dy.le)), ((t 3), iA (cs 0) (dy.K)), ((t 4), iA (cs 0) (dy.Q)), ((t 5), iA (cs 0) (dy.L)), ((t 6), iA (cs 0) (dy.H)), ((t 7), iA (cs 0) (dy.M)), ((t 8), iA (cs 0) (dy.B)), ((t 9), iA (cs 0) (dy.C)), ((t 10), iA (cs 0) (dy.D)), ((t 11), iA (cs 0) (dy.F)), ((t 12), iA (cs 0) (dy.W)), (h, oS o (cy.mo) (cy.co) (cy.le)), (o, oQ (cs 1) 8 r), ((r 0), iB (cs 0) 8 (cl8 K 0)), ((r 1), iB (cs 0) 8 (cl8 K 1)), ((r 2), iB (cs 0) 8 (cl8 K 2)), ((r 3), iB (cs 0) 8 (cl8 K 3)), ((r 4), iB (cs 0) 8 (cl8 K 4)), ((r 5), iB (cs 0) 8 (cl8 K 5)), ((r 6), iB (cs 0) 8 (cl8 K 6)), ((r 7), iB (cs 0) 8 (cl8 K 7)), (q5, oQ (cs 1) 64 r5), (q6, iB (cs 0) 7 R6), (q7, iB (cs 0) 64 R7)]) (r := r5) (F := F) hx hb hK hP 0 rfl (i := to) (w := 1) (hto) (by decide) dL_law_685 ?_
            refine tpi (x' := toI (qrt k to)) (p1) ?_
            refine lv_icmp_ne (tgt := 701) hx hb dL_law_686 (by decide) (fun c => absurd (congrArg toI (nb_q hi hadj hli hlto)) c) (fun _ => ?_)
            refine lv_aload_n hx hb dL_law_689 rfl (lv_at hl 14 rfl) ?_
            refine lv_iload hx hb dL_law_690 (lv_at hl 4 rfl) ?_
            refine lv_iload hx hb dL_law_692 (lv_at hl 2 rfl) ?_
            refine cq_i (X := [(hc, oX a t), ((a 0), oC a (cy.mo) (cy.co) (cy.le)), ((a 3), iA (cs 0) (cy.K)), ((a 4), iA (cs 0) (cy.Q)), ((a 5), iA (cs 0) (cy.L)), ((a 6), iA (cs 0) (cy.H)), ((a 7), iA (cs 0) (cy.M)), ((a 8), iA (cs 0) (cy.B)), ((a 9), iA (cs 0) (cy.C)), ((a 10), iA (cs 0) (cy.D)), ((a 11), iA (cs 0) (cy.F)), ((a 12), iA (cs 0) (cy.W)), ((t 0), oC t (dy.mo) (dy.co) (dy.le)), ((t 3), iA (cs 0) (dy.K)), ((t 4), iA (cs 0) (dy.Q)), ((t 5), iA (cs 0) (dy.L)), ((t 6), iA (cs 0) (dy.H)), ((t 7), iA (cs 0) (dy.M)), ((t 8), iA (cs 0) (dy.B)), ((t 9), iA (cs 0) (dy.C)), ((t 10), iA (cs 0) (dy.D)), ((t 11), iA (cs 0) (dy.F)), ((t 12), iA (cs 0) (dy.W)), (h, oS o (cy.mo) (cy.co) (cy.le)), (o, oQ (cs 1) 8 r), ((r 0), iB (cs 0) 8 (cl8 K 0)), ((r 1), iB (cs 0) 8 (cl8 K 1)), ((r 2), iB (cs 0) 8 (cl8 K 2)), ((r 3), iB (cs 0) 8 (cl8 K 3)), ((r 4), iB (cs 0) 8 (cl8 K 4)), ((r 5), iB (cs 0) 8 (cl8 K 5)), ((r 6), iB (cs 0) 8 (cl8 K 6)), ((r 7), iB (cs 0) 8 (cl8 K 7)), (q5, oQ (cs 1) 64 r5), (q6, iB (cs 0) 7 R6), (q7, iB (cs 0) 64 R7)]) (pl := (lR (cs 0) r5 F)) (wr := [((t 0), oC t (dy.mo) (dy.co) (dy.le)), ((t 3), iA (cs 0) (dy.K)), ((t 4), iA (cs 0) (dy.Q)), ((t 5), iA (cs 0) (dy.L)), ((t 6), iA (cs 0) (dy.H)), ((t 7), iA (cs 0) (dy.M)), ((t 8), iA (cs 0) (dy.B)), ((t 9), iA (cs 0) (dy.C)), ((t 10), iA (cs 0) (dy.D)), ((t 11), iA (cs 0) (dy.F)), ((t 12), iA (cs 0) (dy.W)), (h, oS o (cy.mo) (cy.co) (cy.le)), (o, oQ (cs 1) 8 r), ((r 0), iB (cs 0) 8 (cl8 K 0)), ((r 1), iB (cs 0) 8 (cl8 K 1)), ((r 2), iB (cs 0) 8 (cl8 K 2)), ((r 3), iB (cs 0) 8 (cl8 K 3)), ((r 4), iB (cs 0) 8 (cl8 K 4)), ((r 5), iB (cs 0) 8 (cl8 K 5)), ((r 6), iB (cs 0) 8 (cl8 K 6)), ((r 7), iB (cs 0) 8 (cl8 K 7)), (q5, oQ (cs 1) 64 r5), (q6, iB (cs 0) 7 R6), (q7, iB (cs 0) 64 R7)]) (va_runV (As := [.int (nI i), .int (nI to)]) (rest := []) FX (c_X1_walk_ok l G (cs 0) hc a t cy.mo cy.co cy.le cy.K cy.Q cy.L cy.H cy.M cy.B cy.C cy.D cy.F cy.W k (nI i) (nI to) hk (inB_063 hi) (inB_063 hto) (by rw [nI_cl hi]; exact hli) (by rw [nI_cl hto]; exact hlto) _) (cwV 2 hts gL_law_X1_walk rfl rfl rfl (by decide +kernel) ⟨Nat.le_of_ble_eq_true rfl, Nat.le_of_ble_eq_true rfl⟩) (wrV hKI hP hD hNI [0, 1, 2, 3, 4, 5, 6, 7, 8, 9, 10, 11] (by decide) rfl rfl (ci := 1) (q0 := 0) rfl rfl) rfl rfl hl.1 rfl (lv_room (Nat.le_of_ble_eq_true rfl)) dL_law_694 ⟨hzc, hzs⟩) hS hP hD hA [0, 1, 2, 3, 4, 5, 6, 7, 8, 9, 10, 11] [12, 13, 14, 15, 16, 17, 18, 19, 20, 21, 22, 23, 24, 25, 26, 27, 28, 29, 30, 31, 32, 33, 34, 35] rfl rfl rfl (by decide) (by decide) (fun r9 u H locs hw hP hD hS => ?_)
            obtain ⟨F1, W1⟩ := u
            have hr9 := hw
            have hP : va_P G vwCl ([(hc, oX a t), ((a 0), oC a (cy.mo) (cy.co) (cy.le)), ((a 3), iA (cs 0) (cy.K)), ((a 4), iA (cs 0) (cy.Q)), ((a 5), iA (cs 0) (cy.L)), ((a 6), iA (cs 0) (cy.H)), ((a 7), iA (cs 0) (cy.M)), ((a 8), iA (cs 0) (cy.B)), ((a 9), iA (cs 0) (cy.C)), ((a 10), iA (cs 0) (cy.D)), ((a 11), iA (cs 0) F1), ((a 12), iA (cs 0) W1), ((t 0), oC t (dy.mo) (dy.co) (dy.le)), ((t 3), iA (cs 0) (dy.K)), ((t 4), iA (cs 0) (dy.Q)), ((t 5), iA (cs 0) (dy.L)), ((t 6), iA (cs 0) (dy.H)), ((t 7), iA (cs 0) (dy.M)), ((t 8), iA (cs 0) (dy.B)), ((t 9), iA (cs 0) (dy.C)), ((t 10), iA (cs 0) (dy.D)), ((t 11), iA (cs 0) (dy.F)), ((t 12), iA (cs 0) (dy.W)), (h, oS o (cy.mo) (cy.co) (cy.le)), (o, oQ (cs 1) 8 r), ((r 0), iB (cs 0) 8 (cl8 K 0)), ((r 1), iB (cs 0) 8 (cl8 K 1)), ((r 2), iB (cs 0) 8 (cl8 K 2)), ((r 3), iB (cs 0) 8 (cl8 K 3)), ((r 4), iB (cs 0) 8 (cl8 K 4)), ((r 5), iB (cs 0) 8 (cl8 K 5)), ((r 6), iB (cs 0) 8 (cl8 K 6)), ((r 7), iB (cs 0) 8 (cl8 K 7)), (q5, oQ (cs 1) 64 r5), (q6, iB (cs 0) 7 R6), (q7, iB (cs 0) 64 R7)] ++ (lR (cs 0) r5 F)) H := hP.part (cx := [(hc, oX a t), ((a 0), oC a (cy.mo) (cy.co) (cy.le)), ((a 3), iA (cs 0) (cy.K)), ((a 4), iA (cs 0) (cy.Q)), ((a 5), iA (cs 0) (cy.L)), ((a 6), iA (cs 0) (cy.H)), ((a 7), iA (cs 0) (cy.M)), ((a 8), iA (cs 0) (cy.B)), ((a 9), iA (cs 0) (cy.C)), ((a 10), iA (cs 0) (cy.D)), ((a 11), iA (cs 0) F1), ((a 12), iA (cs 0) W1), ((t 0), oC t (dy.mo) (dy.co) (dy.le)), ((t 3), iA (cs 0) (dy.K)), ((t 4), iA (cs 0) (dy.Q)), ((t 5), iA (cs 0) (dy.L)), ((t 6), iA (cs 0) (dy.H)), ((t 7), iA (cs 0) (dy.M)), ((t 8), iA (cs 0) (dy.B)), ((t 9), iA (cs 0) (dy.C)), ((t 10), iA (cs 0) (dy.D)), ((t 11), iA (cs 0) (dy.F)), ((t 12), iA (cs 0) (dy.W)), (h, oS o (cy.mo) (cy.co) (cy.le)), (o, oQ (cs 1) 8 r), ((r 0), iB (cs 0) 8 (cl8 K 0)), ((r 1), iB (cs 0) 8 (cl8 K 1)), ((r 2), iB (cs 0) 8 (cl8 K 2)), ((r 3), iB (cs 0) 8 (cl8 K 3)), ((r 4), iB (cs 0) 8 (cl8 K 4)), ((r 5), iB (cs 0) 8 (cl8 K 5)), ((r 6), iB (cs 0) 8 (cl8 K 6)), ((r 7), iB (cs 0) 8 (cl8 K 7)), (q5, oQ (cs 1) 64 r5), (q6, iB (cs 0) 7 R6), (q7, iB (cs 0) 64 R7)]) [24, 25, 26, 27, 28, 29, 30, 31, 32, 33, 34, 35, 0, 1, 2, 3, 4, 5, 6, 7, 8, 9, 10, 11, 12, 13, 14, 15, 16, 17, 18, 19, 20, 21, 22, 23] rfl
            have hD : va_D A ([(hc, oX a t), ((a 0), oC a (cy.mo) (cy.co) (cy.le)), ((a 3), iA (cs 0) (cy.K)), ((a 4), iA (cs 0) (cy.Q)), ((a 5), iA (cs 0) (cy.L)), ((a 6), iA (cs 0) (cy.H)), ((a 7), iA (cs 0) (cy.M)), ((a 8), iA (cs 0) (cy.B)), ((a 9), iA (cs 0) (cy.C)), ((a 10), iA (cs 0) (cy.D)), ((a 11), iA (cs 0) F1), ((a 12), iA (cs 0) W1), ((t 0), oC t (dy.mo) (dy.co) (dy.le)), ((t 3), iA (cs 0) (dy.K)), ((t 4), iA (cs 0) (dy.Q)), ((t 5), iA (cs 0) (dy.L)), ((t 6), iA (cs 0) (dy.H)), ((t 7), iA (cs 0) (dy.M)), ((t 8), iA (cs 0) (dy.B)), ((t 9), iA (cs 0) (dy.C)), ((t 10), iA (cs 0) (dy.D)), ((t 11), iA (cs 0) (dy.F)), ((t 12), iA (cs 0) (dy.W)), (h, oS o (cy.mo) (cy.co) (cy.le)), (o, oQ (cs 1) 8 r), ((r 0), iB (cs 0) 8 (cl8 K 0)), ((r 1), iB (cs 0) 8 (cl8 K 1)), ((r 2), iB (cs 0) 8 (cl8 K 2)), ((r 3), iB (cs 0) 8 (cl8 K 3)), ((r 4), iB (cs 0) 8 (cl8 K 4)), ((r 5), iB (cs 0) 8 (cl8 K 5)), ((r 6), iB (cs 0) 8 (cl8 K 6)), ((r 7), iB (cs 0) 8 (cl8 K 7)), (q5, oQ (cs 1) 64 r5), (q6, iB (cs 0) 7 R6), (q7, iB (cs 0) 64 R7)] ++ (lR (cs 0) r5 F)) := hD.part (cx := [(hc, oX a t), ((a 0), oC a (cy.mo) (cy.co) (cy.le)), ((a 3), iA (cs 0) (cy.K)), ((a 4), iA (cs 0) (cy.Q)), ((a 5), iA (cs 0) (cy.L)), ((a 6), iA (cs 0) (cy.H)), ((a 7), iA (cs 0) (cy.M)), ((a 8), iA (cs 0) (cy.B)), ((a 9), iA (cs 0) (cy.C)), ((a 10), iA (cs 0) (cy.D)), ((a 11), iA (cs 0) F1), ((a 12), iA (cs 0) W1), ((t 0), oC t (dy.mo) (dy.co) (dy.le)), ((t 3), iA (cs 0) (dy.K)), ((t 4), iA (cs 0) (dy.Q)), ((t 5), iA (cs 0) (dy.L)), ((t 6), iA (cs 0) (dy.H)), ((t 7), iA (cs 0) (dy.M)), ((t 8), iA (cs 0) (dy.B)), ((t 9), iA (cs 0) (dy.C)), ((t 10), iA (cs 0) (dy.D)), ((t 11), iA (cs 0) (dy.F)), ((t 12), iA (cs 0) (dy.W)), (h, oS o (cy.mo) (cy.co) (cy.le)), (o, oQ (cs 1) 8 r), ((r 0), iB (cs 0) 8 (cl8 K 0)), ((r 1), iB (cs 0) 8 (cl8 K 1)), ((r 2), iB (cs 0) 8 (cl8 K 2)), ((r 3), iB (cs 0) 8 (cl8 K 3)), ((r 4), iB (cs 0) 8 (cl8 K 4)), ((r 5), iB (cs 0) 8 (cl8 K 5)), ((r 6), iB (cs 0) 8 (cl8 K 6)), ((r 7), iB (cs 0) 8 (cl8 K 7)), (q5, oQ (cs 1) 64 r5), (q6, iB (cs 0) 7 R6), (q7, iB (cs 0) 64 R7)]) [24, 25, 26, 27, 28, 29, 30, 31, 32, 33, 34, 35, 0, 1, 2, 3, 4, 5, 6, 7, 8, 9, 10, 11, 12, 13, 14, 15, 16, 17, 18, 19, 20, 21, 22, 23] (by decide) rfl
            refine tpi (x' := 1) (hr9.trans (by rw [nI_cl hi, nI_cl hto]; exact nb_walk hadj hne hlto)) ?_
            refine lv_iconst (v := 1) hx hb dL_law_697 (by decide) ?_
            refine lv_icmp_eq (tgt := 703) hx hb dL_law_698 (by decide) (fun _ => ?_) (fun c => absurd (rfl) c)
            obtain ⟨cy2, hcy2⟩ : ∃ z : Cy, z = ⟨cy.mo, cy.co, cy.le, cy.K, cy.Q, cy.L, cy.H, cy.M, cy.B, cy.C, cy.D, F1, W1⟩ := ⟨_, rfl⟩
            have hg2 : Sd cy2 k := by rw [hcy2]; exact hg
            have hP : va_P G vwCl ([(hc, oX a t), ((a 0), oC a (cy2.mo) (cy2.co) (cy2.le)), ((a 3), iA (cs 0) (cy2.K)), ((a 4), iA (cs 0) (cy2.Q)), ((a 5), iA (cs 0) (cy2.L)), ((a 6), iA (cs 0) (cy2.H)), ((a 7), iA (cs 0) (cy2.M)), ((a 8), iA (cs 0) (cy2.B)), ((a 9), iA (cs 0) (cy2.C)), ((a 10), iA (cs 0) (cy2.D)), ((a 11), iA (cs 0) (cy2.F)), ((a 12), iA (cs 0) (cy2.W)), ((t 0), oC t (dy.mo) (dy.co) (dy.le)), ((t 3), iA (cs 0) (dy.K)), ((t 4), iA (cs 0) (dy.Q)), ((t 5), iA (cs 0) (dy.L)), ((t 6), iA (cs 0) (dy.H)), ((t 7), iA (cs 0) (dy.M)), ((t 8), iA (cs 0) (dy.B)), ((t 9), iA (cs 0) (dy.C)), ((t 10), iA (cs 0) (dy.D)), ((t 11), iA (cs 0) (dy.F)), ((t 12), iA (cs 0) (dy.W)), (h, oS o (cy2.mo) (cy2.co) (cy2.le)), (o, oQ (cs 1) 8 r), ((r 0), iB (cs 0) 8 (cl8 K 0)), ((r 1), iB (cs 0) 8 (cl8 K 1)), ((r 2), iB (cs 0) 8 (cl8 K 2)), ((r 3), iB (cs 0) 8 (cl8 K 3)), ((r 4), iB (cs 0) 8 (cl8 K 4)), ((r 5), iB (cs 0) 8 (cl8 K 5)), ((r 6), iB (cs 0) 8 (cl8 K 6)), ((r 7), iB (cs 0) 8 (cl8 K 7)), (q5, oQ (cs 1) 64 r5), (q6, iB (cs 0) 7 R6), (q7, iB (cs 0) 64 R7)] ++ (lR (cs 0) r5 F)) H := by rw [hcy2]; exact hP
            have hD : va_D A ([(hc, oX a t), ((a 0), oC a (cy2.mo) (cy2.co) (cy2.le)), ((a 3), iA (cs 0) (cy2.K)), ((a 4), iA (cs 0) (cy2.Q)), ((a 5), iA (cs 0) (cy2.L)), ((a 6), iA (cs 0) (cy2.H)), ((a 7), iA (cs 0) (cy2.M)), ((a 8), iA (cs 0) (cy2.B)), ((a 9), iA (cs 0) (cy2.C)), ((a 10), iA (cs 0) (cy2.D)), ((a 11), iA (cs 0) (cy2.F)), ((a 12), iA (cs 0) (cy2.W)), ((t 0), oC t (dy.mo) (dy.co) (dy.le)), ((t 3), iA (cs 0) (dy.K)), ((t 4), iA (cs 0) (dy.Q)), ((t 5), iA (cs 0) (dy.L)), ((t 6), iA (cs 0) (dy.H)), ((t 7), iA (cs 0) (dy.M)), ((t 8), iA (cs 0) (dy.B)), ((t 9), iA (cs 0) (dy.C)), ((t 10), iA (cs 0) (dy.D)), ((t 11), iA (cs 0) (dy.F)), ((t 12), iA (cs 0) (dy.W)), (h, oS o (cy2.mo) (cy2.co) (cy2.le)), (o, oQ (cs 1) 8 r), ((r 0), iB (cs 0) 8 (cl8 K 0)), ((r 1), iB (cs 0) 8 (cl8 K 1)), ((r 2), iB (cs 0) 8 (cl8 K 2)), ((r 3), iB (cs 0) 8 (cl8 K 3)), ((r 4), iB (cs 0) 8 (cl8 K 4)), ((r 5), iB (cs 0) 8 (cl8 K 5)), ((r 6), iB (cs 0) 8 (cl8 K 6)), ((r 7), iB (cs 0) 8 (cl8 K 7)), (q5, oQ (cs 1) 64 r5), (q6, iB (cs 0) 7 R6), (q7, iB (cs 0) 64 R7)] ++ (lR (cs 0) r5 F)) := by rw [hcy2]; exact hD
            have hk := hg2.1
            have hS0 := hg2.2.1
            refine lv_iload hx hb dL_law_703 (lv_at hl 1 rfl) ?_
            refine lv_if_eq (tgt := 752) hx hb dL_law_705 (by decide) (fun _ => ?_) (fun c => absurd (rfl) c)
            refine lv_iload hx hb dL_law_752 (lv_at hl 1 rfl) ?_
            refine lv_if_eq (tgt := 797) hx hb dL_law_754 (by decide) (fun _ => ?_) (fun c => absurd (rfl) c)
            exact kk cy2 _ _ _ (hg2) hP hD hS (lv_sub hl [3, 4, 5, 6, 7, 8, 9, 10, 11, 12, 13, 14, 15] rfl)
      rcases wtr_or hwto with he | he
      · skip
        refine lv_aload hx hb dL_law_620 (lv_at hl 9 rfl) ?_
        refine lv_iload hx hb dL_law_622 (lv_at hl 1 rfl) ?_
        refine tpi (x' := nI to) (rfl) ?_
        refine g_ald (r := r5) (n := 64) hx hb hK hP 33 1 rfl rfl (x := to) (hto) (by decide) dL_law_624 ?_
        refine lv_iconst (v := 0) hx hb dL_law_625 (by decide) ?_
        refine tpi (x' := nI 0) (rfl) ?_
        refine l_iald (X := [(hc, oX a t), ((a 0), oC a (cy.mo) (cy.co) (cy.le)), ((a 3), iA (cs 0) (cy.K)), ((a 4), iA (cs 0) (cy.Q)), ((a 5), iA (cs 0) (cy.L)), ((a 6), iA (cs 0) (cy.H)), ((a 7), iA (cs 0) (cy.M)), ((a 8), iA (cs 0) (cy.B)), ((a 9), iA (cs 0) (cy.C)), ((a 10), iA (cs 0) (cy.D)), ((a 11), iA (cs 0) (cy.F)), ((a 12), iA (cs 0) (cy.W)), ((t 0), oC t (dy.mo) (dy.co) (dy.le)), ((t 3), iA (cs 0) (dy.K)), ((t 4), iA (cs 0) (dy.Q)), ((t 5), iA (cs 0) (dy.L)), ((t 6), iA (cs 0) (dy.H)), ((t 7), iA (cs 0) (dy.M)), ((t 8), iA (cs 0) (dy.B)), ((t 9), iA (cs 0) (dy.C)), ((t 10), iA (cs 0) (dy.D)), ((t 11), iA (cs 0) (dy.F)), ((t 12), iA (cs 0) (dy.W)), (h, oS o (cy.mo) (cy.co) (cy.le)), (o, oQ (cs 1) 8 r), ((r 0), iB (cs 0) 8 (cl8 K 0)), ((r 1), iB (cs 0) 8 (cl8 K 1)), ((r 2), iB (cs 0) 8 (cl8 K 2)), ((r 3), iB (cs 0) 8 (cl8 K 3)), ((r 4), iB (cs 0) 8 (cl8 K 4)), ((r 5), iB (cs 0) 8 (cl8 K 5)), ((r 6), iB (cs 0) 8 (cl8 K 6)), ((r 7), iB (cs 0) 8 (cl8 K 7)), (q5, oQ (cs 1) 64 r5), (q6, iB (cs 0) 7 R6), (q7, iB (cs 0) 64 R7)]) (r := r5) (F := F) hx hb hK hP 0 rfl (i := to) (w := 0) (hto) (by decide) dL_law_626 ?_
        refine tpi (x' := 1) (p0.trans he) ?_
        refine lv_iconst (v := 1) hx hb dL_law_627 (by decide) ?_
        refine lv_icmp_eq (tgt := 643) hx hb dL_law_628 (by decide) (fun _ => ?_) (fun c => absurd (by decide) c)
        exact jto H locs hP hD hS
      · skip
        refine lv_aload hx hb dL_law_620 (lv_at hl 9 rfl) ?_
        refine lv_iload hx hb dL_law_622 (lv_at hl 1 rfl) ?_
        refine tpi (x' := nI to) (rfl) ?_
        refine g_ald (r := r5) (n := 64) hx hb hK hP 33 1 rfl rfl (x := to) (hto) (by decide) dL_law_624 ?_
        refine lv_iconst (v := 0) hx hb dL_law_625 (by decide) ?_
        refine tpi (x' := nI 0) (rfl) ?_
        refine l_iald (X := [(hc, oX a t), ((a 0), oC a (cy.mo) (cy.co) (cy.le)), ((a 3), iA (cs 0) (cy.K)), ((a 4), iA (cs 0) (cy.Q)), ((a 5), iA (cs 0) (cy.L)), ((a 6), iA (cs 0) (cy.H)), ((a 7), iA (cs 0) (cy.M)), ((a 8), iA (cs 0) (cy.B)), ((a 9), iA (cs 0) (cy.C)), ((a 10), iA (cs 0) (cy.D)), ((a 11), iA (cs 0) (cy.F)), ((a 12), iA (cs 0) (cy.W)), ((t 0), oC t (dy.mo) (dy.co) (dy.le)), ((t 3), iA (cs 0) (dy.K)), ((t 4), iA (cs 0) (dy.Q)), ((t 5), iA (cs 0) (dy.L)), ((t 6), iA (cs 0) (dy.H)), ((t 7), iA (cs 0) (dy.M)), ((t 8), iA (cs 0) (dy.B)), ((t 9), iA (cs 0) (dy.C)), ((t 10), iA (cs 0) (dy.D)), ((t 11), iA (cs 0) (dy.F)), ((t 12), iA (cs 0) (dy.W)), (h, oS o (cy.mo) (cy.co) (cy.le)), (o, oQ (cs 1) 8 r), ((r 0), iB (cs 0) 8 (cl8 K 0)), ((r 1), iB (cs 0) 8 (cl8 K 1)), ((r 2), iB (cs 0) 8 (cl8 K 2)), ((r 3), iB (cs 0) 8 (cl8 K 3)), ((r 4), iB (cs 0) 8 (cl8 K 4)), ((r 5), iB (cs 0) 8 (cl8 K 5)), ((r 6), iB (cs 0) 8 (cl8 K 6)), ((r 7), iB (cs 0) 8 (cl8 K 7)), (q5, oQ (cs 1) 64 r5), (q6, iB (cs 0) 7 R6), (q7, iB (cs 0) 64 R7)]) (r := r5) (F := F) hx hb hK hP 0 rfl (i := to) (w := 0) (hto) (by decide) dL_law_626 ?_
        refine tpi (x' := 6) (p0.trans he) ?_
        refine lv_iconst (v := 1) hx hb dL_law_627 (by decide) ?_
        refine lv_icmp_eq (tgt := 643) hx hb dL_law_628 (by decide) (fun c => absurd c (by decide)) (fun _ => ?_)
        refine lv_aload hx hb dL_law_631 (lv_at hl 9 rfl) ?_
        refine lv_iload hx hb dL_law_633 (lv_at hl 1 rfl) ?_
        refine tpi (x' := nI to) (rfl) ?_
        refine g_ald (r := r5) (n := 64) hx hb hK hP 33 1 rfl rfl (x := to) (hto) (by decide) dL_law_635 ?_
        refine lv_iconst (v := 0) hx hb dL_law_636 (by decide) ?_
        refine tpi (x' := nI 0) (rfl) ?_
        refine l_iald (X := [(hc, oX a t), ((a 0), oC a (cy.mo) (cy.co) (cy.le)), ((a 3), iA (cs 0) (cy.K)), ((a 4), iA (cs 0) (cy.Q)), ((a 5), iA (cs 0) (cy.L)), ((a 6), iA (cs 0) (cy.H)), ((a 7), iA (cs 0) (cy.M)), ((a 8), iA (cs 0) (cy.B)), ((a 9), iA (cs 0) (cy.C)), ((a 10), iA (cs 0) (cy.D)), ((a 11), iA (cs 0) (cy.F)), ((a 12), iA (cs 0) (cy.W)), ((t 0), oC t (dy.mo) (dy.co) (dy.le)), ((t 3), iA (cs 0) (dy.K)), ((t 4), iA (cs 0) (dy.Q)), ((t 5), iA (cs 0) (dy.L)), ((t 6), iA (cs 0) (dy.H)), ((t 7), iA (cs 0) (dy.M)), ((t 8), iA (cs 0) (dy.B)), ((t 9), iA (cs 0) (dy.C)), ((t 10), iA (cs 0) (dy.D)), ((t 11), iA (cs 0) (dy.F)), ((t 12), iA (cs 0) (dy.W)), (h, oS o (cy.mo) (cy.co) (cy.le)), (o, oQ (cs 1) 8 r), ((r 0), iB (cs 0) 8 (cl8 K 0)), ((r 1), iB (cs 0) 8 (cl8 K 1)), ((r 2), iB (cs 0) 8 (cl8 K 2)), ((r 3), iB (cs 0) 8 (cl8 K 3)), ((r 4), iB (cs 0) 8 (cl8 K 4)), ((r 5), iB (cs 0) 8 (cl8 K 5)), ((r 6), iB (cs 0) 8 (cl8 K 6)), ((r 7), iB (cs 0) 8 (cl8 K 7)), (q5, oQ (cs 1) 64 r5), (q6, iB (cs 0) 7 R6), (q7, iB (cs 0) 64 R7)]) (r := r5) (F := F) hx hb hK hP 0 rfl (i := to) (w := 0) (hto) (by decide) dL_law_637 ?_
        refine tpi (x' := 6) (p0.trans he) ?_
        refine lv_bipush (v := 6) hx hb dL_law_638 (by decide) ?_
        refine lv_icmp_ne (tgt := 647) hx hb dL_law_640 (by decide) (fun c => absurd (by decide) c) (fun _ => ?_)
        exact jto H locs hP hD hS
  · skip
    have ji : ∀ (H : Heap) (locs : List Loc), va_P G vwCl ([(hc, oX a t), ((a 0), oC a (cy.mo) (cy.co) (cy.le)), ((a 3), iA (cs 0) (cy.K)), ((a 4), iA (cs 0) (cy.Q)), ((a 5), iA (cs 0) (cy.L)), ((a 6), iA (cs 0) (cy.H)), ((a 7), iA (cs 0) (cy.M)), ((a 8), iA (cs 0) (cy.B)), ((a 9), iA (cs 0) (cy.C)), ((a 10), iA (cs 0) (cy.D)), ((a 11), iA (cs 0) (cy.F)), ((a 12), iA (cs 0) (cy.W)), ((t 0), oC t (dy.mo) (dy.co) (dy.le)), ((t 3), iA (cs 0) (dy.K)), ((t 4), iA (cs 0) (dy.Q)), ((t 5), iA (cs 0) (dy.L)), ((t 6), iA (cs 0) (dy.H)), ((t 7), iA (cs 0) (dy.M)), ((t 8), iA (cs 0) (dy.B)), ((t 9), iA (cs 0) (dy.C)), ((t 10), iA (cs 0) (dy.D)), ((t 11), iA (cs 0) (dy.F)), ((t 12), iA (cs 0) (dy.W)), (h, oS o (cy.mo) (cy.co) (cy.le)), (o, oQ (cs 1) 8 r), ((r 0), iB (cs 0) 8 (cl8 K 0)), ((r 1), iB (cs 0) 8 (cl8 K 1)), ((r 2), iB (cs 0) 8 (cl8 K 2)), ((r 3), iB (cs 0) 8 (cl8 K 3)), ((r 4), iB (cs 0) 8 (cl8 K 4)), ((r 5), iB (cs 0) 8 (cl8 K 5)), ((r 6), iB (cs 0) 8 (cl8 K 6)), ((r 7), iB (cs 0) 8 (cl8 K 7)), (q5, oQ (cs 1) 64 r5), (q6, iB (cs 0) 7 R6), (q7, iB (cs 0) 64 R7)] ++ (lR (cs 0) r5 F)) H → va_D A ([(hc, oX a t), ((a 0), oC a (cy.mo) (cy.co) (cy.le)), ((a 3), iA (cs 0) (cy.K)), ((a 4), iA (cs 0) (cy.Q)), ((a 5), iA (cs 0) (cy.L)), ((a 6), iA (cs 0) (cy.H)), ((a 7), iA (cs 0) (cy.M)), ((a 8), iA (cs 0) (cy.B)), ((a 9), iA (cs 0) (cy.C)), ((a 10), iA (cs 0) (cy.D)), ((a 11), iA (cs 0) (cy.F)), ((a 12), iA (cs 0) (cy.W)), ((t 0), oC t (dy.mo) (dy.co) (dy.le)), ((t 3), iA (cs 0) (dy.K)), ((t 4), iA (cs 0) (dy.Q)), ((t 5), iA (cs 0) (dy.L)), ((t 6), iA (cs 0) (dy.H)), ((t 7), iA (cs 0) (dy.M)), ((t 8), iA (cs 0) (dy.B)), ((t 9), iA (cs 0) (dy.C)), ((t 10), iA (cs 0) (dy.D)), ((t 11), iA (cs 0) (dy.F)), ((t 12), iA (cs 0) (dy.W)), (h, oS o (cy.mo) (cy.co) (cy.le)), (o, oQ (cs 1) 8 r), ((r 0), iB (cs 0) 8 (cl8 K 0)), ((r 1), iB (cs 0) 8 (cl8 K 1)), ((r 2), iB (cs 0) 8 (cl8 K 2)), ((r 3), iB (cs 0) 8 (cl8 K 3)), ((r 4), iB (cs 0) 8 (cl8 K 4)), ((r 5), iB (cs 0) 8 (cl8 K 5)), ((r 6), iB (cs 0) 8 (cl8 K 6)), ((r 7), iB (cs 0) 8 (cl8 K 7)), (q5, oQ (cs 1) 64 r5), (q6, iB (cs 0) 7 R6), (q7, iB (cs 0) 64 R7)] ++ (lR (cs 0) r5 F)) → va_S A s.heap H locs → W p l e room_1 s m #[Value.ref b] below meth c H locs cells slots Q (F0 m 613 ls []) := by
      intro  H locs hP hD hS
      refine lv_iconst (v := 1) hx hb dL_law_613 (by decide) ?_
      refine lv_goto (tgt := 618) hx hb dL_law_614 (by decide) ?_
      refine lv_istore (lv' := [(14, .int 1), (13, .int (nI to)), (12, .int sd), (11, .int (nI i)), (10, .int qn), (9, .int (dall k)), (8, .int (call k)), (7, .ref q7), (6, .ref q6), (5, .ref q5), (4, .int x4), (3, .int (nI tm)), (0, .ref b), (1, .ref hc), (2, .ref h)]) hx hb dL_law_618 hl (by decide) rfl (fun ls hl => ?_)
      rcases hwto : wtr (k to) with _ | _
      · skip
        have hn := wtr_no hwto
        refine lv_aload hx hb dL_law_620 (lv_at hl 9 rfl) ?_
        refine lv_iload hx hb dL_law_622 (lv_at hl 1 rfl) ?_
        refine tpi (x' := nI to) (rfl) ?_
        refine g_ald (r := r5) (n := 64) hx hb hK hP 33 1 rfl rfl (x := to) (hto) (by decide) dL_law_624 ?_
        refine lv_iconst (v := 0) hx hb dL_law_625 (by decide) ?_
        refine tpi (x' := nI 0) (rfl) ?_
        refine l_iald (X := [(hc, oX a t), ((a 0), oC a (cy.mo) (cy.co) (cy.le)), ((a 3), iA (cs 0) (cy.K)), ((a 4), iA (cs 0) (cy.Q)), ((a 5), iA (cs 0) (cy.L)), ((a 6), iA (cs 0) (cy.H)), ((a 7), iA (cs 0) (cy.M)), ((a 8), iA (cs 0) (cy.B)), ((a 9), iA (cs 0) (cy.C)), ((a 10), iA (cs 0) (cy.D)), ((a 11), iA (cs 0) (cy.F)), ((a 12), iA (cs 0) (cy.W)), ((t 0), oC t (dy.mo) (dy.co) (dy.le)), ((t 3), iA (cs 0) (dy.K)), ((t 4), iA (cs 0) (dy.Q)), ((t 5), iA (cs 0) (dy.L)), ((t 6), iA (cs 0) (dy.H)), ((t 7), iA (cs 0) (dy.M)), ((t 8), iA (cs 0) (dy.B)), ((t 9), iA (cs 0) (dy.C)), ((t 10), iA (cs 0) (dy.D)), ((t 11), iA (cs 0) (dy.F)), ((t 12), iA (cs 0) (dy.W)), (h, oS o (cy.mo) (cy.co) (cy.le)), (o, oQ (cs 1) 8 r), ((r 0), iB (cs 0) 8 (cl8 K 0)), ((r 1), iB (cs 0) 8 (cl8 K 1)), ((r 2), iB (cs 0) 8 (cl8 K 2)), ((r 3), iB (cs 0) 8 (cl8 K 3)), ((r 4), iB (cs 0) 8 (cl8 K 4)), ((r 5), iB (cs 0) 8 (cl8 K 5)), ((r 6), iB (cs 0) 8 (cl8 K 6)), ((r 7), iB (cs 0) 8 (cl8 K 7)), (q5, oQ (cs 1) 64 r5), (q6, iB (cs 0) 7 R6), (q7, iB (cs 0) 64 R7)]) (r := r5) (F := F) hx hb hK hP 0 rfl (i := to) (w := 0) (hto) (by decide) dL_law_626 ?_
        refine tpi (x' := k to) (p0) ?_
        refine lv_iconst (v := 1) hx hb dL_law_627 (by decide) ?_
        refine lv_icmp_eq (tgt := 643) hx hb dL_law_628 (by decide) (fun c => absurd c (hn.1)) (fun _ => ?_)
        refine lv_aload hx hb dL_law_631 (lv_at hl 9 rfl) ?_
        refine lv_iload hx hb dL_law_633 (lv_at hl 1 rfl) ?_
        refine tpi (x' := nI to) (rfl) ?_
        refine g_ald (r := r5) (n := 64) hx hb hK hP 33 1 rfl rfl (x := to) (hto) (by decide) dL_law_635 ?_
        refine lv_iconst (v := 0) hx hb dL_law_636 (by decide) ?_
        refine tpi (x' := nI 0) (rfl) ?_
        refine l_iald (X := [(hc, oX a t), ((a 0), oC a (cy.mo) (cy.co) (cy.le)), ((a 3), iA (cs 0) (cy.K)), ((a 4), iA (cs 0) (cy.Q)), ((a 5), iA (cs 0) (cy.L)), ((a 6), iA (cs 0) (cy.H)), ((a 7), iA (cs 0) (cy.M)), ((a 8), iA (cs 0) (cy.B)), ((a 9), iA (cs 0) (cy.C)), ((a 10), iA (cs 0) (cy.D)), ((a 11), iA (cs 0) (cy.F)), ((a 12), iA (cs 0) (cy.W)), ((t 0), oC t (dy.mo) (dy.co) (dy.le)), ((t 3), iA (cs 0) (dy.K)), ((t 4), iA (cs 0) (dy.Q)), ((t 5), iA (cs 0) (dy.L)), ((t 6), iA (cs 0) (dy.H)), ((t 7), iA (cs 0) (dy.M)), ((t 8), iA (cs 0) (dy.B)), ((t 9), iA (cs 0) (dy.C)), ((t 10), iA (cs 0) (dy.D)), ((t 11), iA (cs 0) (dy.F)), ((t 12), iA (cs 0) (dy.W)), (h, oS o (cy.mo) (cy.co) (cy.le)), (o, oQ (cs 1) 8 r), ((r 0), iB (cs 0) 8 (cl8 K 0)), ((r 1), iB (cs 0) 8 (cl8 K 1)), ((r 2), iB (cs 0) 8 (cl8 K 2)), ((r 3), iB (cs 0) 8 (cl8 K 3)), ((r 4), iB (cs 0) 8 (cl8 K 4)), ((r 5), iB (cs 0) 8 (cl8 K 5)), ((r 6), iB (cs 0) 8 (cl8 K 6)), ((r 7), iB (cs 0) 8 (cl8 K 7)), (q5, oQ (cs 1) 64 r5), (q6, iB (cs 0) 7 R6), (q7, iB (cs 0) 64 R7)]) (r := r5) (F := F) hx hb hK hP 0 rfl (i := to) (w := 0) (hto) (by decide) dL_law_637 ?_
        refine tpi (x' := k to) (p0) ?_
        refine lv_bipush (v := 6) hx hb dL_law_638 (by decide) ?_
        refine lv_icmp_ne (tgt := 647) hx hb dL_law_640 (by decide) (fun _ => ?_) (fun c => absurd c (hn.2))
        refine lv_iconst (v := 0) hx hb dL_law_647 (by decide) ?_
        refine lv_istore (lv' := [(15, .int 0), (14, .int 1), (13, .int (nI to)), (12, .int sd), (11, .int (nI i)), (10, .int qn), (9, .int (dall k)), (8, .int (call k)), (7, .ref q7), (6, .ref q6), (5, .ref q5), (4, .int x4), (3, .int (nI tm)), (0, .ref b), (1, .ref hc), (2, .ref h)]) hx hb dL_law_648 hl (by decide) rfl (fun ls hl => ?_)
        rcases hli : lnd (k i) with _ | _
        · skip
          refine lv_aload hx hb dL_law_650 (lv_at hl 10 rfl) ?_
          refine lv_iload hx hb dL_law_652 (lv_at hl 4 rfl) ?_
          refine tpi (x' := nI i) (rfl) ?_
          refine g_ald (r := r5) (n := 64) hx hb hK hP 33 1 rfl rfl (x := i) (hi) (by decide) dL_law_654 ?_
          refine lv_iconst (v := 0) hx hb dL_law_655 (by decide) ?_
          refine tpi (x' := nI 0) (rfl) ?_
          refine l_iald (X := [(hc, oX a t), ((a 0), oC a (cy.mo) (cy.co) (cy.le)), ((a 3), iA (cs 0) (cy.K)), ((a 4), iA (cs 0) (cy.Q)), ((a 5), iA (cs 0) (cy.L)), ((a 6), iA (cs 0) (cy.H)), ((a 7), iA (cs 0) (cy.M)), ((a 8), iA (cs 0) (cy.B)), ((a 9), iA (cs 0) (cy.C)), ((a 10), iA (cs 0) (cy.D)), ((a 11), iA (cs 0) (cy.F)), ((a 12), iA (cs 0) (cy.W)), ((t 0), oC t (dy.mo) (dy.co) (dy.le)), ((t 3), iA (cs 0) (dy.K)), ((t 4), iA (cs 0) (dy.Q)), ((t 5), iA (cs 0) (dy.L)), ((t 6), iA (cs 0) (dy.H)), ((t 7), iA (cs 0) (dy.M)), ((t 8), iA (cs 0) (dy.B)), ((t 9), iA (cs 0) (dy.C)), ((t 10), iA (cs 0) (dy.D)), ((t 11), iA (cs 0) (dy.F)), ((t 12), iA (cs 0) (dy.W)), (h, oS o (cy.mo) (cy.co) (cy.le)), (o, oQ (cs 1) 8 r), ((r 0), iB (cs 0) 8 (cl8 K 0)), ((r 1), iB (cs 0) 8 (cl8 K 1)), ((r 2), iB (cs 0) 8 (cl8 K 2)), ((r 3), iB (cs 0) 8 (cl8 K 3)), ((r 4), iB (cs 0) 8 (cl8 K 4)), ((r 5), iB (cs 0) 8 (cl8 K 5)), ((r 6), iB (cs 0) 8 (cl8 K 6)), ((r 7), iB (cs 0) 8 (cl8 K 7)), (q5, oQ (cs 1) 64 r5), (q6, iB (cs 0) 7 R6), (q7, iB (cs 0) 64 R7)]) (r := r5) (F := F) hx hb hK hP 0 rfl (i := i) (w := 0) (hi) (by decide) dL_law_656 ?_
          refine tpi (x' := k i) (o0) ?_
          refine lv_iconst (v := 1) hx hb dL_law_657 (by decide) ?_
          refine lv_icmp_le (tgt := 703) hx hb dL_law_658 (by decide) (fun _ => ?_) (fun c => absurd ((lnd_no (hkd i hi) hli).1) c)
          rcases hlto : lnd (k to) with _ | _
          · skip
            refine lv_iload hx hb dL_law_703 (lv_at hl 1 rfl) ?_
            refine lv_if_eq (tgt := 752) hx hb dL_law_705 (by decide) (fun c => absurd c (by decide)) (fun _ => ?_)
            refine lv_iload hx hb dL_law_708 (lv_at hl 0 rfl) ?_
            refine lv_if_eq (tgt := 752) hx hb dL_law_710 (by decide) (fun _ => ?_) (fun c => absurd (rfl) c)
            refine lv_iload hx hb dL_law_752 (lv_at hl 1 rfl) ?_
            refine lv_if_eq (tgt := 797) hx hb dL_law_754 (by decide) (fun c => absurd c (by decide)) (fun _ => ?_)
            refine lv_iload hx hb dL_law_757 (lv_at hl 0 rfl) ?_
            refine lv_if_ne (tgt := 797) hx hb dL_law_759 (by decide) (fun c => absurd (by decide) c) (fun _ => ?_)
            rcases hop : opn k i with _ | _
            · skip
              refine lv_aload hx hb dL_law_762 (lv_at hl 10 rfl) ?_
              refine lv_iload hx hb dL_law_764 (lv_at hl 4 rfl) ?_
              refine tpi (x' := nI i) (rfl) ?_
              refine g_ald (r := r5) (n := 64) hx hb hK hP 33 1 rfl rfl (x := i) (hi) (by decide) dL_law_766 ?_
              refine lv_iconst (v := 3) hx hb dL_law_767 (by decide) ?_
              refine tpi (x' := nI 3) (rfl) ?_
              refine l_iald (X := [(hc, oX a t), ((a 0), oC a (cy.mo) (cy.co) (cy.le)), ((a 3), iA (cs 0) (cy.K)), ((a 4), iA (cs 0) (cy.Q)), ((a 5), iA (cs 0) (cy.L)), ((a 6), iA (cs 0) (cy.H)), ((a 7), iA (cs 0) (cy.M)), ((a 8), iA (cs 0) (cy.B)), ((a 9), iA (cs 0) (cy.C)), ((a 10), iA (cs 0) (cy.D)), ((a 11), iA (cs 0) (cy.F)), ((a 12), iA (cs 0) (cy.W)), ((t 0), oC t (dy.mo) (dy.co) (dy.le)), ((t 3), iA (cs 0) (dy.K)), ((t 4), iA (cs 0) (dy.Q)), ((t 5), iA (cs 0) (dy.L)), ((t 6), iA (cs 0) (dy.H)), ((t 7), iA (cs 0) (dy.M)), ((t 8), iA (cs 0) (dy.B)), ((t 9), iA (cs 0) (dy.C)), ((t 10), iA (cs 0) (dy.D)), ((t 11), iA (cs 0) (dy.F)), ((t 12), iA (cs 0) (dy.W)), (h, oS o (cy.mo) (cy.co) (cy.le)), (o, oQ (cs 1) 8 r), ((r 0), iB (cs 0) 8 (cl8 K 0)), ((r 1), iB (cs 0) 8 (cl8 K 1)), ((r 2), iB (cs 0) 8 (cl8 K 2)), ((r 3), iB (cs 0) 8 (cl8 K 3)), ((r 4), iB (cs 0) 8 (cl8 K 4)), ((r 5), iB (cs 0) 8 (cl8 K 5)), ((r 6), iB (cs 0) 8 (cl8 K 6)), ((r 7), iB (cs 0) 8 (cl8 K 7)), (q5, oQ (cs 1) 64 r5), (q6, iB (cs 0) 7 R6), (q7, iB (cs 0) 64 R7)]) (r := r5) (F := F) hx hb hK hP 0 rfl (i := i) (w := 3) (hi) (by decide) dL_law_768 ?_
              refine tpi (x' := 0) (o3.trans (by rw [wt_by hwi, hop]; rfl)) ?_
              refine lv_iconst (v := 1) hx hb dL_law_769 (by decide) ?_
              refine lv_icmp_ne (tgt := 797) hx hb dL_law_770 (by decide) (fun _ => ?_) (fun c => absurd c (by decide))
              exact kk cy _ _ _ (hg) hP hD hS (lv_sub hl [3, 4, 5, 6, 7, 8, 9, 10, 11, 12, 13, 14, 15] rfl)
            · skip
              refine lv_aload hx hb dL_law_762 (lv_at hl 10 rfl) ?_
              refine lv_iload hx hb dL_law_764 (lv_at hl 4 rfl) ?_
              refine tpi (x' := nI i) (rfl) ?_
              refine g_ald (r := r5) (n := 64) hx hb hK hP 33 1 rfl rfl (x := i) (hi) (by decide) dL_law_766 ?_
              refine lv_iconst (v := 3) hx hb dL_law_767 (by decide) ?_
              refine tpi (x' := nI 3) (rfl) ?_
              refine l_iald (X := [(hc, oX a t), ((a 0), oC a (cy.mo) (cy.co) (cy.le)), ((a 3), iA (cs 0) (cy.K)), ((a 4), iA (cs 0) (cy.Q)), ((a 5), iA (cs 0) (cy.L)), ((a 6), iA (cs 0) (cy.H)), ((a 7), iA (cs 0) (cy.M)), ((a 8), iA (cs 0) (cy.B)), ((a 9), iA (cs 0) (cy.C)), ((a 10), iA (cs 0) (cy.D)), ((a 11), iA (cs 0) (cy.F)), ((a 12), iA (cs 0) (cy.W)), ((t 0), oC t (dy.mo) (dy.co) (dy.le)), ((t 3), iA (cs 0) (dy.K)), ((t 4), iA (cs 0) (dy.Q)), ((t 5), iA (cs 0) (dy.L)), ((t 6), iA (cs 0) (dy.H)), ((t 7), iA (cs 0) (dy.M)), ((t 8), iA (cs 0) (dy.B)), ((t 9), iA (cs 0) (dy.C)), ((t 10), iA (cs 0) (dy.D)), ((t 11), iA (cs 0) (dy.F)), ((t 12), iA (cs 0) (dy.W)), (h, oS o (cy.mo) (cy.co) (cy.le)), (o, oQ (cs 1) 8 r), ((r 0), iB (cs 0) 8 (cl8 K 0)), ((r 1), iB (cs 0) 8 (cl8 K 1)), ((r 2), iB (cs 0) 8 (cl8 K 2)), ((r 3), iB (cs 0) 8 (cl8 K 3)), ((r 4), iB (cs 0) 8 (cl8 K 4)), ((r 5), iB (cs 0) 8 (cl8 K 5)), ((r 6), iB (cs 0) 8 (cl8 K 6)), ((r 7), iB (cs 0) 8 (cl8 K 7)), (q5, oQ (cs 1) 64 r5), (q6, iB (cs 0) 7 R6), (q7, iB (cs 0) 64 R7)]) (r := r5) (F := F) hx hb hK hP 0 rfl (i := i) (w := 3) (hi) (by decide) dL_law_768 ?_
              refine tpi (x' := 1) (o3.trans (by rw [wt_by hwi, hop]; rfl)) ?_
              refine lv_iconst (v := 1) hx hb dL_law_769 (by decide) ?_
              refine lv_icmp_ne (tgt := 797) hx hb dL_law_770 (by decide) (fun c => absurd (by decide) c) (fun _ => ?_)
              refine lv_aload hx hb dL_law_773 (lv_at hl 10 rfl) ?_
              refine lv_iload hx hb dL_law_775 (lv_at hl 2 rfl) ?_
              refine tpi (x' := nI to) (rfl) ?_
              refine g_ald (r := r5) (n := 64) hx hb hK hP 33 1 rfl rfl (x := to) (hto) (by decide) dL_law_777 ?_
              refine lv_iconst (v := 0) hx hb dL_law_778 (by decide) ?_
              refine tpi (x' := nI 0) (rfl) ?_
              refine l_iald (X := [(hc, oX a t), ((a 0), oC a (cy.mo) (cy.co) (cy.le)), ((a 3), iA (cs 0) (cy.K)), ((a 4), iA (cs 0) (cy.Q)), ((a 5), iA (cs 0) (cy.L)), ((a 6), iA (cs 0) (cy.H)), ((a 7), iA (cs 0) (cy.M)), ((a 8), iA (cs 0) (cy.B)), ((a 9), iA (cs 0) (cy.C)), ((a 10), iA (cs 0) (cy.D)), ((a 11), iA (cs 0) (cy.F)), ((a 12), iA (cs 0) (cy.W)), ((t 0), oC t (dy.mo) (dy.co) (dy.le)), ((t 3), iA (cs 0) (dy.K)), ((t 4), iA (cs 0) (dy.Q)), ((t 5), iA (cs 0) (dy.L)), ((t 6), iA (cs 0) (dy.H)), ((t 7), iA (cs 0) (dy.M)), ((t 8), iA (cs 0) (dy.B)), ((t 9), iA (cs 0) (dy.C)), ((t 10), iA (cs 0) (dy.D)), ((t 11), iA (cs 0) (dy.F)), ((t 12), iA (cs 0) (dy.W)), (h, oS o (cy.mo) (cy.co) (cy.le)), (o, oQ (cs 1) 8 r), ((r 0), iB (cs 0) 8 (cl8 K 0)), ((r 1), iB (cs 0) 8 (cl8 K 1)), ((r 2), iB (cs 0) 8 (cl8 K 2)), ((r 3), iB (cs 0) 8 (cl8 K 3)), ((r 4), iB (cs 0) 8 (cl8 K 4)), ((r 5), iB (cs 0) 8 (cl8 K 5)), ((r 6), iB (cs 0) 8 (cl8 K 6)), ((r 7), iB (cs 0) 8 (cl8 K 7)), (q5, oQ (cs 1) 64 r5), (q6, iB (cs 0) 7 R6), (q7, iB (cs 0) 64 R7)]) (r := r5) (F := F) hx hb hK hP 0 rfl (i := to) (w := 0) (hto) (by decide) dL_law_779 ?_
              refine tpi (x' := k to) (p0) ?_
              refine lv_iconst (v := 1) hx hb dL_law_780 (by decide) ?_
              refine lv_icmp_le (tgt := 797) hx hb dL_law_781 (by decide) (fun _ => ?_) (fun c => absurd ((lnd_no (hkd to hto) hlto).1) c)
              exact kk cy _ _ _ (hg) hP hD hS (lv_sub hl [3, 4, 5, 6, 7, 8, 9, 10, 11, 12, 13, 14, 15] rfl)
          · skip
            refine lv_iload hx hb dL_law_703 (lv_at hl 1 rfl) ?_
            refine lv_if_eq (tgt := 752) hx hb dL_law_705 (by decide) (fun c => absurd c (by decide)) (fun _ => ?_)
            refine lv_iload hx hb dL_law_708 (lv_at hl 0 rfl) ?_
            refine lv_if_eq (tgt := 752) hx hb dL_law_710 (by decide) (fun _ => ?_) (fun c => absurd (rfl) c)
            refine lv_iload hx hb dL_law_752 (lv_at hl 1 rfl) ?_
            refine lv_if_eq (tgt := 797) hx hb dL_law_754 (by decide) (fun c => absurd c (by decide)) (fun _ => ?_)
            refine lv_iload hx hb dL_law_757 (lv_at hl 0 rfl) ?_
            refine lv_if_ne (tgt := 797) hx hb dL_law_759 (by decide) (fun c => absurd (by decide) c) (fun _ => ?_)
            rcases hop : opn k i with _ | _
            · skip
              refine lv_aload hx hb dL_law_762 (lv_at hl 10 rfl) ?_
              refine lv_iload hx hb dL_law_764 (lv_at hl 4 rfl) ?_
              refine tpi (x' := nI i) (rfl) ?_
              refine g_ald (r := r5) (n := 64) hx hb hK hP 33 1 rfl rfl (x := i) (hi) (by decide) dL_law_766 ?_
              refine lv_iconst (v := 3) hx hb dL_law_767 (by decide) ?_
              refine tpi (x' := nI 3) (rfl) ?_
              refine l_iald (X := [(hc, oX a t), ((a 0), oC a (cy.mo) (cy.co) (cy.le)), ((a 3), iA (cs 0) (cy.K)), ((a 4), iA (cs 0) (cy.Q)), ((a 5), iA (cs 0) (cy.L)), ((a 6), iA (cs 0) (cy.H)), ((a 7), iA (cs 0) (cy.M)), ((a 8), iA (cs 0) (cy.B)), ((a 9), iA (cs 0) (cy.C)), ((a 10), iA (cs 0) (cy.D)), ((a 11), iA (cs 0) (cy.F)), ((a 12), iA (cs 0) (cy.W)), ((t 0), oC t (dy.mo) (dy.co) (dy.le)), ((t 3), iA (cs 0) (dy.K)), ((t 4), iA (cs 0) (dy.Q)), ((t 5), iA (cs 0) (dy.L)), ((t 6), iA (cs 0) (dy.H)), ((t 7), iA (cs 0) (dy.M)), ((t 8), iA (cs 0) (dy.B)), ((t 9), iA (cs 0) (dy.C)), ((t 10), iA (cs 0) (dy.D)), ((t 11), iA (cs 0) (dy.F)), ((t 12), iA (cs 0) (dy.W)), (h, oS o (cy.mo) (cy.co) (cy.le)), (o, oQ (cs 1) 8 r), ((r 0), iB (cs 0) 8 (cl8 K 0)), ((r 1), iB (cs 0) 8 (cl8 K 1)), ((r 2), iB (cs 0) 8 (cl8 K 2)), ((r 3), iB (cs 0) 8 (cl8 K 3)), ((r 4), iB (cs 0) 8 (cl8 K 4)), ((r 5), iB (cs 0) 8 (cl8 K 5)), ((r 6), iB (cs 0) 8 (cl8 K 6)), ((r 7), iB (cs 0) 8 (cl8 K 7)), (q5, oQ (cs 1) 64 r5), (q6, iB (cs 0) 7 R6), (q7, iB (cs 0) 64 R7)]) (r := r5) (F := F) hx hb hK hP 0 rfl (i := i) (w := 3) (hi) (by decide) dL_law_768 ?_
              refine tpi (x' := 0) (o3.trans (by rw [wt_by hwi, hop]; rfl)) ?_
              refine lv_iconst (v := 1) hx hb dL_law_769 (by decide) ?_
              refine lv_icmp_ne (tgt := 797) hx hb dL_law_770 (by decide) (fun _ => ?_) (fun c => absurd c (by decide))
              exact kk cy _ _ _ (hg) hP hD hS (lv_sub hl [3, 4, 5, 6, 7, 8, 9, 10, 11, 12, 13, 14, 15] rfl)
            · skip
              refine lv_aload hx hb dL_law_762 (lv_at hl 10 rfl) ?_
              refine lv_iload hx hb dL_law_764 (lv_at hl 4 rfl) ?_
              refine tpi (x' := nI i) (rfl) ?_
              refine g_ald (r := r5) (n := 64) hx hb hK hP 33 1 rfl rfl (x := i) (hi) (by decide) dL_law_766 ?_
              refine lv_iconst (v := 3) hx hb dL_law_767 (by decide) ?_
              refine tpi (x' := nI 3) (rfl) ?_
              refine l_iald (X := [(hc, oX a t), ((a 0), oC a (cy.mo) (cy.co) (cy.le)), ((a 3), iA (cs 0) (cy.K)), ((a 4), iA (cs 0) (cy.Q)), ((a 5), iA (cs 0) (cy.L)), ((a 6), iA (cs 0) (cy.H)), ((a 7), iA (cs 0) (cy.M)), ((a 8), iA (cs 0) (cy.B)), ((a 9), iA (cs 0) (cy.C)), ((a 10), iA (cs 0) (cy.D)), ((a 11), iA (cs 0) (cy.F)), ((a 12), iA (cs 0) (cy.W)), ((t 0), oC t (dy.mo) (dy.co) (dy.le)), ((t 3), iA (cs 0) (dy.K)), ((t 4), iA (cs 0) (dy.Q)), ((t 5), iA (cs 0) (dy.L)), ((t 6), iA (cs 0) (dy.H)), ((t 7), iA (cs 0) (dy.M)), ((t 8), iA (cs 0) (dy.B)), ((t 9), iA (cs 0) (dy.C)), ((t 10), iA (cs 0) (dy.D)), ((t 11), iA (cs 0) (dy.F)), ((t 12), iA (cs 0) (dy.W)), (h, oS o (cy.mo) (cy.co) (cy.le)), (o, oQ (cs 1) 8 r), ((r 0), iB (cs 0) 8 (cl8 K 0)), ((r 1), iB (cs 0) 8 (cl8 K 1)), ((r 2), iB (cs 0) 8 (cl8 K 2)), ((r 3), iB (cs 0) 8 (cl8 K 3)), ((r 4), iB (cs 0) 8 (cl8 K 4)), ((r 5), iB (cs 0) 8 (cl8 K 5)), ((r 6), iB (cs 0) 8 (cl8 K 6)), ((r 7), iB (cs 0) 8 (cl8 K 7)), (q5, oQ (cs 1) 64 r5), (q6, iB (cs 0) 7 R6), (q7, iB (cs 0) 64 R7)]) (r := r5) (F := F) hx hb hK hP 0 rfl (i := i) (w := 3) (hi) (by decide) dL_law_768 ?_
              refine tpi (x' := 1) (o3.trans (by rw [wt_by hwi, hop]; rfl)) ?_
              refine lv_iconst (v := 1) hx hb dL_law_769 (by decide) ?_
              refine lv_icmp_ne (tgt := 797) hx hb dL_law_770 (by decide) (fun c => absurd (by decide) c) (fun _ => ?_)
              refine lv_aload hx hb dL_law_773 (lv_at hl 10 rfl) ?_
              refine lv_iload hx hb dL_law_775 (lv_at hl 2 rfl) ?_
              refine tpi (x' := nI to) (rfl) ?_
              refine g_ald (r := r5) (n := 64) hx hb hK hP 33 1 rfl rfl (x := to) (hto) (by decide) dL_law_777 ?_
              refine lv_iconst (v := 0) hx hb dL_law_778 (by decide) ?_
              refine tpi (x' := nI 0) (rfl) ?_
              refine l_iald (X := [(hc, oX a t), ((a 0), oC a (cy.mo) (cy.co) (cy.le)), ((a 3), iA (cs 0) (cy.K)), ((a 4), iA (cs 0) (cy.Q)), ((a 5), iA (cs 0) (cy.L)), ((a 6), iA (cs 0) (cy.H)), ((a 7), iA (cs 0) (cy.M)), ((a 8), iA (cs 0) (cy.B)), ((a 9), iA (cs 0) (cy.C)), ((a 10), iA (cs 0) (cy.D)), ((a 11), iA (cs 0) (cy.F)), ((a 12), iA (cs 0) (cy.W)), ((t 0), oC t (dy.mo) (dy.co) (dy.le)), ((t 3), iA (cs 0) (dy.K)), ((t 4), iA (cs 0) (dy.Q)), ((t 5), iA (cs 0) (dy.L)), ((t 6), iA (cs 0) (dy.H)), ((t 7), iA (cs 0) (dy.M)), ((t 8), iA (cs 0) (dy.B)), ((t 9), iA (cs 0) (dy.C)), ((t 10), iA (cs 0) (dy.D)), ((t 11), iA (cs 0) (dy.F)), ((t 12), iA (cs 0) (dy.W)), (h, oS o (cy.mo) (cy.co) (cy.le)), (o, oQ (cs 1) 8 r), ((r 0), iB (cs 0) 8 (cl8 K 0)), ((r 1), iB (cs 0) 8 (cl8 K 1)), ((r 2), iB (cs 0) 8 (cl8 K 2)), ((r 3), iB (cs 0) 8 (cl8 K 3)), ((r 4), iB (cs 0) 8 (cl8 K 4)), ((r 5), iB (cs 0) 8 (cl8 K 5)), ((r 6), iB (cs 0) 8 (cl8 K 6)), ((r 7), iB (cs 0) 8 (cl8 K 7)), (q5, oQ (cs 1) 64 r5), (q6, iB (cs 0) 7 R6), (q7, iB (cs 0) 64 R7)]) (r := r5) (F := F) hx hb hK hP 0 rfl (i := to) (w := 0) (hto) (by decide) dL_law_779 ?_
              refine tpi (x' := k to) (p0) ?_
              refine lv_iconst (v := 1) hx hb dL_law_780 (by decide) ?_
              refine lv_icmp_le (tgt := 797) hx hb dL_law_781 (by decide) (fun c => absurd c ((lnd_2 hlto).2.1)) (fun _ => ?_)
              refine lv_aload hx hb dL_law_784 (lv_at hl 10 rfl) ?_
              refine lv_iload hx hb dL_law_786 (lv_at hl 2 rfl) ?_
              refine tpi (x' := nI to) (rfl) ?_
              refine g_ald (r := r5) (n := 64) hx hb hK hP 33 1 rfl rfl (x := to) (hto) (by decide) dL_law_788 ?_
              refine lv_iconst (v := 3) hx hb dL_law_789 (by decide) ?_
              refine tpi (x' := nI 3) (rfl) ?_
              refine l_iald (X := [(hc, oX a t), ((a 0), oC a (cy.mo) (cy.co) (cy.le)), ((a 3), iA (cs 0) (cy.K)), ((a 4), iA (cs 0) (cy.Q)), ((a 5), iA (cs 0) (cy.L)), ((a 6), iA (cs 0) (cy.H)), ((a 7), iA (cs 0) (cy.M)), ((a 8), iA (cs 0) (cy.B)), ((a 9), iA (cs 0) (cy.C)), ((a 10), iA (cs 0) (cy.D)), ((a 11), iA (cs 0) (cy.F)), ((a 12), iA (cs 0) (cy.W)), ((t 0), oC t (dy.mo) (dy.co) (dy.le)), ((t 3), iA (cs 0) (dy.K)), ((t 4), iA (cs 0) (dy.Q)), ((t 5), iA (cs 0) (dy.L)), ((t 6), iA (cs 0) (dy.H)), ((t 7), iA (cs 0) (dy.M)), ((t 8), iA (cs 0) (dy.B)), ((t 9), iA (cs 0) (dy.C)), ((t 10), iA (cs 0) (dy.D)), ((t 11), iA (cs 0) (dy.F)), ((t 12), iA (cs 0) (dy.W)), (h, oS o (cy.mo) (cy.co) (cy.le)), (o, oQ (cs 1) 8 r), ((r 0), iB (cs 0) 8 (cl8 K 0)), ((r 1), iB (cs 0) 8 (cl8 K 1)), ((r 2), iB (cs 0) 8 (cl8 K 2)), ((r 3), iB (cs 0) 8 (cl8 K 3)), ((r 4), iB (cs 0) 8 (cl8 K 4)), ((r 5), iB (cs 0) 8 (cl8 K 5)), ((r 6), iB (cs 0) 8 (cl8 K 6)), ((r 7), iB (cs 0) 8 (cl8 K 7)), (q5, oQ (cs 1) 64 r5), (q6, iB (cs 0) 7 R6), (q7, iB (cs 0) 64 R7)]) (r := r5) (F := F) hx hb hK hP 0 rfl (i := to) (w := 3) (hto) (by decide) dL_law_790 ?_
              refine tpi (x' := 1) (p3.trans (by rw [nb_boat hi hadj hop hlto (wtr_no hwto).2]; rfl)) ?_
              refine lv_iconst (v := 1) hx hb dL_law_791 (by decide) ?_
              refine lv_icmp_eq (tgt := 797) hx hb dL_law_792 (by decide) (fun _ => ?_) (fun c => absurd (by decide) c)
              exact kk cy _ _ _ (hg) hP hD hS (lv_sub hl [3, 4, 5, 6, 7, 8, 9, 10, 11, 12, 13, 14, 15] rfl)
        · skip
          rcases hlto : lnd (k to) with _ | _
          · skip
            refine lv_aload hx hb dL_law_650 (lv_at hl 10 rfl) ?_
            refine lv_iload hx hb dL_law_652 (lv_at hl 4 rfl) ?_
            refine tpi (x' := nI i) (rfl) ?_
            refine g_ald (r := r5) (n := 64) hx hb hK hP 33 1 rfl rfl (x := i) (hi) (by decide) dL_law_654 ?_
            refine lv_iconst (v := 0) hx hb dL_law_655 (by decide) ?_
            refine tpi (x' := nI 0) (rfl) ?_
            refine l_iald (X := [(hc, oX a t), ((a 0), oC a (cy.mo) (cy.co) (cy.le)), ((a 3), iA (cs 0) (cy.K)), ((a 4), iA (cs 0) (cy.Q)), ((a 5), iA (cs 0) (cy.L)), ((a 6), iA (cs 0) (cy.H)), ((a 7), iA (cs 0) (cy.M)), ((a 8), iA (cs 0) (cy.B)), ((a 9), iA (cs 0) (cy.C)), ((a 10), iA (cs 0) (cy.D)), ((a 11), iA (cs 0) (cy.F)), ((a 12), iA (cs 0) (cy.W)), ((t 0), oC t (dy.mo) (dy.co) (dy.le)), ((t 3), iA (cs 0) (dy.K)), ((t 4), iA (cs 0) (dy.Q)), ((t 5), iA (cs 0) (dy.L)), ((t 6), iA (cs 0) (dy.H)), ((t 7), iA (cs 0) (dy.M)), ((t 8), iA (cs 0) (dy.B)), ((t 9), iA (cs 0) (dy.C)), ((t 10), iA (cs 0) (dy.D)), ((t 11), iA (cs 0) (dy.F)), ((t 12), iA (cs 0) (dy.W)), (h, oS o (cy.mo) (cy.co) (cy.le)), (o, oQ (cs 1) 8 r), ((r 0), iB (cs 0) 8 (cl8 K 0)), ((r 1), iB (cs 0) 8 (cl8 K 1)), ((r 2), iB (cs 0) 8 (cl8 K 2)), ((r 3), iB (cs 0) 8 (cl8 K 3)), ((r 4), iB (cs 0) 8 (cl8 K 4)), ((r 5), iB (cs 0) 8 (cl8 K 5)), ((r 6), iB (cs 0) 8 (cl8 K 6)), ((r 7), iB (cs 0) 8 (cl8 K 7)), (q5, oQ (cs 1) 64 r5), (q6, iB (cs 0) 7 R6), (q7, iB (cs 0) 64 R7)]) (r := r5) (F := F) hx hb hK hP 0 rfl (i := i) (w := 0) (hi) (by decide) dL_law_656 ?_
            refine tpi (x' := k i) (o0) ?_
            refine lv_iconst (v := 1) hx hb dL_law_657 (by decide) ?_
            refine lv_icmp_le (tgt := 703) hx hb dL_law_658 (by decide) (fun c => absurd c ((lnd_2 hli).2.1)) (fun _ => ?_)
            refine lv_aload hx hb dL_law_661 (lv_at hl 10 rfl) ?_
            refine lv_iload hx hb dL_law_663 (lv_at hl 2 rfl) ?_
            refine tpi (x' := nI to) (rfl) ?_
            refine g_ald (r := r5) (n := 64) hx hb hK hP 33 1 rfl rfl (x := to) (hto) (by decide) dL_law_665 ?_
            refine lv_iconst (v := 0) hx hb dL_law_666 (by decide) ?_
            refine tpi (x' := nI 0) (rfl) ?_
            refine l_iald (X := [(hc, oX a t), ((a 0), oC a (cy.mo) (cy.co) (cy.le)), ((a 3), iA (cs 0) (cy.K)), ((a 4), iA (cs 0) (cy.Q)), ((a 5), iA (cs 0) (cy.L)), ((a 6), iA (cs 0) (cy.H)), ((a 7), iA (cs 0) (cy.M)), ((a 8), iA (cs 0) (cy.B)), ((a 9), iA (cs 0) (cy.C)), ((a 10), iA (cs 0) (cy.D)), ((a 11), iA (cs 0) (cy.F)), ((a 12), iA (cs 0) (cy.W)), ((t 0), oC t (dy.mo) (dy.co) (dy.le)), ((t 3), iA (cs 0) (dy.K)), ((t 4), iA (cs 0) (dy.Q)), ((t 5), iA (cs 0) (dy.L)), ((t 6), iA (cs 0) (dy.H)), ((t 7), iA (cs 0) (dy.M)), ((t 8), iA (cs 0) (dy.B)), ((t 9), iA (cs 0) (dy.C)), ((t 10), iA (cs 0) (dy.D)), ((t 11), iA (cs 0) (dy.F)), ((t 12), iA (cs 0) (dy.W)), (h, oS o (cy.mo) (cy.co) (cy.le)), (o, oQ (cs 1) 8 r), ((r 0), iB (cs 0) 8 (cl8 K 0)), ((r 1), iB (cs 0) 8 (cl8 K 1)), ((r 2), iB (cs 0) 8 (cl8 K 2)), ((r 3), iB (cs 0) 8 (cl8 K 3)), ((r 4), iB (cs 0) 8 (cl8 K 4)), ((r 5), iB (cs 0) 8 (cl8 K 5)), ((r 6), iB (cs 0) 8 (cl8 K 6)), ((r 7), iB (cs 0) 8 (cl8 K 7)), (q5, oQ (cs 1) 64 r5), (q6, iB (cs 0) 7 R6), (q7, iB (cs 0) 64 R7)]) (r := r5) (F := F) hx hb hK hP 0 rfl (i := to) (w := 0) (hto) (by decide) dL_law_667 ?_
            refine tpi (x' := k to) (p0) ?_
            refine lv_iconst (v := 1) hx hb dL_law_668 (by decide) ?_
            refine lv_icmp_le (tgt := 703) hx hb dL_law_669 (by decide) (fun _ => ?_) (fun c => absurd ((lnd_no (hkd to hto) hlto).1) c)
            refine lv_iload hx hb dL_law_703 (lv_at hl 1 rfl) ?_
            refine lv_if_eq (tgt := 752) hx hb dL_law_705 (by decide) (fun c => absurd c (by decide)) (fun _ => ?_)
            refine lv_iload hx hb dL_law_708 (lv_at hl 0 rfl) ?_
            refine lv_if_eq (tgt := 752) hx hb dL_law_710 (by decide) (fun _ => ?_) (fun c => absurd (rfl) c)
            refine lv_iload hx hb dL_law_752 (lv_at hl 1 rfl) ?_
            refine lv_if_eq (tgt := 797) hx hb dL_law_754 (by decide) (fun c => absurd c (by decide)) (fun _ => ?_)
            refine lv_iload hx hb dL_law_757 (lv_at hl 0 rfl) ?_
            refine lv_if_ne (tgt := 797) hx hb dL_law_759 (by decide) (fun c => absurd (by decide) c) (fun _ => ?_)
            rcases hop : opn k i with _ | _
            · skip
              refine lv_aload hx hb dL_law_762 (lv_at hl 10 rfl) ?_
              refine lv_iload hx hb dL_law_764 (lv_at hl 4 rfl) ?_
              refine tpi (x' := nI i) (rfl) ?_
              refine g_ald (r := r5) (n := 64) hx hb hK hP 33 1 rfl rfl (x := i) (hi) (by decide) dL_law_766 ?_
              refine lv_iconst (v := 3) hx hb dL_law_767 (by decide) ?_
              refine tpi (x' := nI 3) (rfl) ?_
              refine l_iald (X := [(hc, oX a t), ((a 0), oC a (cy.mo) (cy.co) (cy.le)), ((a 3), iA (cs 0) (cy.K)), ((a 4), iA (cs 0) (cy.Q)), ((a 5), iA (cs 0) (cy.L)), ((a 6), iA (cs 0) (cy.H)), ((a 7), iA (cs 0) (cy.M)), ((a 8), iA (cs 0) (cy.B)), ((a 9), iA (cs 0) (cy.C)), ((a 10), iA (cs 0) (cy.D)), ((a 11), iA (cs 0) (cy.F)), ((a 12), iA (cs 0) (cy.W)), ((t 0), oC t (dy.mo) (dy.co) (dy.le)), ((t 3), iA (cs 0) (dy.K)), ((t 4), iA (cs 0) (dy.Q)), ((t 5), iA (cs 0) (dy.L)), ((t 6), iA (cs 0) (dy.H)), ((t 7), iA (cs 0) (dy.M)), ((t 8), iA (cs 0) (dy.B)), ((t 9), iA (cs 0) (dy.C)), ((t 10), iA (cs 0) (dy.D)), ((t 11), iA (cs 0) (dy.F)), ((t 12), iA (cs 0) (dy.W)), (h, oS o (cy.mo) (cy.co) (cy.le)), (o, oQ (cs 1) 8 r), ((r 0), iB (cs 0) 8 (cl8 K 0)), ((r 1), iB (cs 0) 8 (cl8 K 1)), ((r 2), iB (cs 0) 8 (cl8 K 2)), ((r 3), iB (cs 0) 8 (cl8 K 3)), ((r 4), iB (cs 0) 8 (cl8 K 4)), ((r 5), iB (cs 0) 8 (cl8 K 5)), ((r 6), iB (cs 0) 8 (cl8 K 6)), ((r 7), iB (cs 0) 8 (cl8 K 7)), (q5, oQ (cs 1) 64 r5), (q6, iB (cs 0) 7 R6), (q7, iB (cs 0) 64 R7)]) (r := r5) (F := F) hx hb hK hP 0 rfl (i := i) (w := 3) (hi) (by decide) dL_law_768 ?_
              refine tpi (x' := 0) (o3.trans (by rw [wt_by hwi, hop]; rfl)) ?_
              refine lv_iconst (v := 1) hx hb dL_law_769 (by decide) ?_
              refine lv_icmp_ne (tgt := 797) hx hb dL_law_770 (by decide) (fun _ => ?_) (fun c => absurd c (by decide))
              exact kk cy _ _ _ (hg) hP hD hS (lv_sub hl [3, 4, 5, 6, 7, 8, 9, 10, 11, 12, 13, 14, 15] rfl)
            · skip
              refine lv_aload hx hb dL_law_762 (lv_at hl 10 rfl) ?_
              refine lv_iload hx hb dL_law_764 (lv_at hl 4 rfl) ?_
              refine tpi (x' := nI i) (rfl) ?_
              refine g_ald (r := r5) (n := 64) hx hb hK hP 33 1 rfl rfl (x := i) (hi) (by decide) dL_law_766 ?_
              refine lv_iconst (v := 3) hx hb dL_law_767 (by decide) ?_
              refine tpi (x' := nI 3) (rfl) ?_
              refine l_iald (X := [(hc, oX a t), ((a 0), oC a (cy.mo) (cy.co) (cy.le)), ((a 3), iA (cs 0) (cy.K)), ((a 4), iA (cs 0) (cy.Q)), ((a 5), iA (cs 0) (cy.L)), ((a 6), iA (cs 0) (cy.H)), ((a 7), iA (cs 0) (cy.M)), ((a 8), iA (cs 0) (cy.B)), ((a 9), iA (cs 0) (cy.C)), ((a 10), iA (cs 0) (cy.D)), ((a 11), iA (cs 0) (cy.F)), ((a 12), iA (cs 0) (cy.W)), ((t 0), oC t (dy.mo) (dy.co) (dy.le)), ((t 3), iA (cs 0) (dy.K)), ((t 4), iA (cs 0) (dy.Q)), ((t 5), iA (cs 0) (dy.L)), ((t 6), iA (cs 0) (dy.H)), ((t 7), iA (cs 0) (dy.M)), ((t 8), iA (cs 0) (dy.B)), ((t 9), iA (cs 0) (dy.C)), ((t 10), iA (cs 0) (dy.D)), ((t 11), iA (cs 0) (dy.F)), ((t 12), iA (cs 0) (dy.W)), (h, oS o (cy.mo) (cy.co) (cy.le)), (o, oQ (cs 1) 8 r), ((r 0), iB (cs 0) 8 (cl8 K 0)), ((r 1), iB (cs 0) 8 (cl8 K 1)), ((r 2), iB (cs 0) 8 (cl8 K 2)), ((r 3), iB (cs 0) 8 (cl8 K 3)), ((r 4), iB (cs 0) 8 (cl8 K 4)), ((r 5), iB (cs 0) 8 (cl8 K 5)), ((r 6), iB (cs 0) 8 (cl8 K 6)), ((r 7), iB (cs 0) 8 (cl8 K 7)), (q5, oQ (cs 1) 64 r5), (q6, iB (cs 0) 7 R6), (q7, iB (cs 0) 64 R7)]) (r := r5) (F := F) hx hb hK hP 0 rfl (i := i) (w := 3) (hi) (by decide) dL_law_768 ?_
              refine tpi (x' := 1) (o3.trans (by rw [wt_by hwi, hop]; rfl)) ?_
              refine lv_iconst (v := 1) hx hb dL_law_769 (by decide) ?_
              refine lv_icmp_ne (tgt := 797) hx hb dL_law_770 (by decide) (fun c => absurd (by decide) c) (fun _ => ?_)
              refine lv_aload hx hb dL_law_773 (lv_at hl 10 rfl) ?_
              refine lv_iload hx hb dL_law_775 (lv_at hl 2 rfl) ?_
              refine tpi (x' := nI to) (rfl) ?_
              refine g_ald (r := r5) (n := 64) hx hb hK hP 33 1 rfl rfl (x := to) (hto) (by decide) dL_law_777 ?_
              refine lv_iconst (v := 0) hx hb dL_law_778 (by decide) ?_
              refine tpi (x' := nI 0) (rfl) ?_
              refine l_iald (X := [(hc, oX a t), ((a 0), oC a (cy.mo) (cy.co) (cy.le)), ((a 3), iA (cs 0) (cy.K)), ((a 4), iA (cs 0) (cy.Q)), ((a 5), iA (cs 0) (cy.L)), ((a 6), iA (cs 0) (cy.H)), ((a 7), iA (cs 0) (cy.M)), ((a 8), iA (cs 0) (cy.B)), ((a 9), iA (cs 0) (cy.C)), ((a 10), iA (cs 0) (cy.D)), ((a 11), iA (cs 0) (cy.F)), ((a 12), iA (cs 0) (cy.W)), ((t 0), oC t (dy.mo) (dy.co) (dy.le)), ((t 3), iA (cs 0) (dy.K)), ((t 4), iA (cs 0) (dy.Q)), ((t 5), iA (cs 0) (dy.L)), ((t 6), iA (cs 0) (dy.H)), ((t 7), iA (cs 0) (dy.M)), ((t 8), iA (cs 0) (dy.B)), ((t 9), iA (cs 0) (dy.C)), ((t 10), iA (cs 0) (dy.D)), ((t 11), iA (cs 0) (dy.F)), ((t 12), iA (cs 0) (dy.W)), (h, oS o (cy.mo) (cy.co) (cy.le)), (o, oQ (cs 1) 8 r), ((r 0), iB (cs 0) 8 (cl8 K 0)), ((r 1), iB (cs 0) 8 (cl8 K 1)), ((r 2), iB (cs 0) 8 (cl8 K 2)), ((r 3), iB (cs 0) 8 (cl8 K 3)), ((r 4), iB (cs 0) 8 (cl8 K 4)), ((r 5), iB (cs 0) 8 (cl8 K 5)), ((r 6), iB (cs 0) 8 (cl8 K 6)), ((r 7), iB (cs 0) 8 (cl8 K 7)), (q5, oQ (cs 1) 64 r5), (q6, iB (cs 0) 7 R6), (q7, iB (cs 0) 64 R7)]) (r := r5) (F := F) hx hb hK hP 0 rfl (i := to) (w := 0) (hto) (by decide) dL_law_779 ?_
              refine tpi (x' := k to) (p0) ?_
              refine lv_iconst (v := 1) hx hb dL_law_780 (by decide) ?_
              refine lv_icmp_le (tgt := 797) hx hb dL_law_781 (by decide) (fun _ => ?_) (fun c => absurd ((lnd_no (hkd to hto) hlto).1) c)
              exact kk cy _ _ _ (hg) hP hD hS (lv_sub hl [3, 4, 5, 6, 7, 8, 9, 10, 11, 12, 13, 14, 15] rfl)
          · skip
            refine lv_aload hx hb dL_law_650 (lv_at hl 10 rfl) ?_
            refine lv_iload hx hb dL_law_652 (lv_at hl 4 rfl) ?_
            refine tpi (x' := nI i) (rfl) ?_
            refine g_ald (r := r5) (n := 64) hx hb hK hP 33 1 rfl rfl (x := i) (hi) (by decide) dL_law_654 ?_
            refine lv_iconst (v := 0) hx hb dL_law_655 (by decide) ?_
            refine tpi (x' := nI 0) (rfl) ?_
            refine l_iald (X := [(hc, oX a t), ((a 0), oC a (cy.mo) (cy.co) (cy.le)), ((a 3), iA (cs 0) (cy.K)), ((a 4), iA (cs 0) (cy.Q)), ((a 5), iA (cs 0) (cy.L)), ((a 6), iA (cs 0) (cy.H)), ((a 7), iA (cs 0) (cy.M)), ((a 8), iA (cs 0) (cy.B)), ((a 9), iA (cs 0) (cy.C)), ((a 10), iA (cs 0) (cy.D)), ((a 11), iA (cs 0) (cy.F)), ((a 12), iA (cs 0) (cy.W)), ((t 0), oC t (dy.mo) (dy.co) (dy.le)), ((t 3), iA (cs 0) (dy.K)), ((t 4), iA (cs 0) (dy.Q)), ((t 5), iA (cs 0) (dy.L)), ((t 6), iA (cs 0) (dy.H)), ((t 7), iA (cs 0) (dy.M)), ((t 8), iA (cs 0) (dy.B)), ((t 9), iA (cs 0) (dy.C)), ((t 10), iA (cs 0) (dy.D)), ((t 11), iA (cs 0) (dy.F)), ((t 12), iA (cs 0) (dy.W)), (h, oS o (cy.mo) (cy.co) (cy.le)), (o, oQ (cs 1) 8 r), ((r 0), iB (cs 0) 8 (cl8 K 0)), ((r 1), iB (cs 0) 8 (cl8 K 1)), ((r 2), iB (cs 0) 8 (cl8 K 2)), ((r 3), iB (cs 0) 8 (cl8 K 3)), ((r 4), iB (cs 0) 8 (cl8 K 4)), ((r 5), iB (cs 0) 8 (cl8 K 5)), ((r 6), iB (cs 0) 8 (cl8 K 6)), ((r 7), iB (cs 0) 8 (cl8 K 7)), (q5, oQ (cs 1) 64 r5), (q6, iB (cs 0) 7 R6), (q7, iB (cs 0) 64 R7)]) (r := r5) (F := F) hx hb hK hP 0 rfl (i := i) (w := 0) (hi) (by decide) dL_law_656 ?_
            refine tpi (x' := k i) (o0) ?_
            refine lv_iconst (v := 1) hx hb dL_law_657 (by decide) ?_
            refine lv_icmp_le (tgt := 703) hx hb dL_law_658 (by decide) (fun c => absurd c ((lnd_2 hli).2.1)) (fun _ => ?_)
            refine lv_aload hx hb dL_law_661 (lv_at hl 10 rfl) ?_
            refine lv_iload hx hb dL_law_663 (lv_at hl 2 rfl) ?_
            refine tpi (x' := nI to) (rfl) ?_
            refine g_ald (r := r5) (n := 64) hx hb hK hP 33 1 rfl rfl (x := to) (hto) (by decide) dL_law_665 ?_
            refine lv_iconst (v := 0) hx hb dL_law_666 (by decide) ?_
            refine tpi (x' := nI 0) (rfl) ?_
            refine l_iald (X := [(hc, oX a t), ((a 0), oC a (cy.mo) (cy.co) (cy.le)), ((a 3), iA (cs 0) (cy.K)), ((a 4), iA (cs 0) (cy.Q)), ((a 5), iA (cs 0) (cy.L)), ((a 6), iA (cs 0) (cy.H)), ((a 7), iA (cs 0) (cy.M)), ((a 8), iA (cs 0) (cy.B)), ((a 9), iA (cs 0) (cy.C)), ((a 10), iA (cs 0) (cy.D)), ((a 11), iA (cs 0) (cy.F)), ((a 12), iA (cs 0) (cy.W)), ((t 0), oC t (dy.mo) (dy.co) (dy.le)), ((t 3), iA (cs 0) (dy.K)), ((t 4), iA (cs 0) (dy.Q)), ((t 5), iA (cs 0) (dy.L)), ((t 6), iA (cs 0) (dy.H)), ((t 7), iA (cs 0) (dy.M)), ((t 8), iA (cs 0) (dy.B)), ((t 9), iA (cs 0) (dy.C)), ((t 10), iA (cs 0) (dy.D)), ((t 11), iA (cs 0) (dy.F)), ((t 12), iA (cs 0) (dy.W)), (h, oS o (cy.mo) (cy.co) (cy.le)), (o, oQ (cs 1) 8 r), ((r 0), iB (cs 0) 8 (cl8 K 0)), ((r 1), iB (cs 0) 8 (cl8 K 1)), ((r 2), iB (cs 0) 8 (cl8 K 2)), ((r 3), iB (cs 0) 8 (cl8 K 3)), ((r 4), iB (cs 0) 8 (cl8 K 4)), ((r 5), iB (cs 0) 8 (cl8 K 5)), ((r 6), iB (cs 0) 8 (cl8 K 6)), ((r 7), iB (cs 0) 8 (cl8 K 7)), (q5, oQ (cs 1) 64 r5), (q6, iB (cs 0) 7 R6), (q7, iB (cs 0) 64 R7)]) (r := r5) (F := F) hx hb hK hP 0 rfl (i := to) (w := 0) (hto) (by decide) dL_law_667 ?_
            refine tpi (x' := k to) (p0) ?_
            refine lv_iconst (v := 1) hx hb dL_law_668 (by decide) ?_
            refine lv_icmp_le (tgt := 703) hx hb dL_law_669 (by decide) (fun c => absurd c ((lnd_2 hlto).2.1)) (fun _ => ?_)
            refine lv_aload hx hb dL_law_672 (lv_at hl 10 rfl) ?_
            refine lv_iload hx hb dL_law_674 (lv_at hl 4 rfl) ?_
            refine tpi (x' := nI i) (rfl) ?_
            refine g_ald (r := r5) (n := 64) hx hb hK hP 33 1 rfl rfl (x := i) (hi) (by decide) dL_law_676 ?_
            refine lv_iconst (v := 1) hx hb dL_law_677 (by decide) ?_
            refine tpi (x' := nI 1) (rfl) ?_
            refine l_iald (X := [(hc, oX a t), ((a 0), oC a (cy.mo) (cy.co) (cy.le)), ((a 3), iA (cs 0) (cy.K)), ((a 4), iA (cs 0) (cy.Q)), ((a 5), iA (cs 0) (cy.L)), ((a 6), iA (cs 0) (cy.H)), ((a 7), iA (cs 0) (cy.M)), ((a 8), iA (cs 0) (cy.B)), ((a 9), iA (cs 0) (cy.C)), ((a 10), iA (cs 0) (cy.D)), ((a 11), iA (cs 0) (cy.F)), ((a 12), iA (cs 0) (cy.W)), ((t 0), oC t (dy.mo) (dy.co) (dy.le)), ((t 3), iA (cs 0) (dy.K)), ((t 4), iA (cs 0) (dy.Q)), ((t 5), iA (cs 0) (dy.L)), ((t 6), iA (cs 0) (dy.H)), ((t 7), iA (cs 0) (dy.M)), ((t 8), iA (cs 0) (dy.B)), ((t 9), iA (cs 0) (dy.C)), ((t 10), iA (cs 0) (dy.D)), ((t 11), iA (cs 0) (dy.F)), ((t 12), iA (cs 0) (dy.W)), (h, oS o (cy.mo) (cy.co) (cy.le)), (o, oQ (cs 1) 8 r), ((r 0), iB (cs 0) 8 (cl8 K 0)), ((r 1), iB (cs 0) 8 (cl8 K 1)), ((r 2), iB (cs 0) 8 (cl8 K 2)), ((r 3), iB (cs 0) 8 (cl8 K 3)), ((r 4), iB (cs 0) 8 (cl8 K 4)), ((r 5), iB (cs 0) 8 (cl8 K 5)), ((r 6), iB (cs 0) 8 (cl8 K 6)), ((r 7), iB (cs 0) 8 (cl8 K 7)), (q5, oQ (cs 1) 64 r5), (q6, iB (cs 0) 7 R6), (q7, iB (cs 0) 64 R7)]) (r := r5) (F := F) hx hb hK hP 0 rfl (i := i) (w := 1) (hi) (by decide) dL_law_678 ?_
            refine tpi (x' := toI (qrt k i)) (o1) ?_
            refine lv_aload hx hb dL_law_679 (lv_at hl 10 rfl) ?_
            refine lv_iload hx hb dL_law_681 (lv_at hl 2 rfl) ?_
            refine tpi (x' := nI to) (rfl) ?_
            refine g_ald (r := r5) (n := 64) hx hb hK hP 33 1 rfl rfl (x := to) (hto) (by decide) dL_law_683 ?_
            refine lv_iconst (v := 1) hx hb dL_law_684 (by decide) ?_
            refine tpi (x' := nI 1) (rfl) ?_
            refine l_iald (X := [(hc, oX a t), ((a 0), oC a (cy.mo) (cy.co) (cy.le)), ((a 3), iA (cs 0) (cy.K)), ((a 4), iA (cs 0) (cy.Q)), ((a 5), iA (cs 0) (cy.L)), ((a 6), iA (cs 0) (cy.H)), ((a 7), iA (cs 0) (cy.M)), ((a 8), iA (cs 0) (cy.B)), ((a 9), iA (cs 0) (cy.C)), ((a 10), iA (cs 0) (cy.D)), ((a 11), iA (cs 0) (cy.F)), ((a 12), iA (cs 0) (cy.W)), ((t 0), oC t (dy.mo) (dy.co) (dy.le)), ((t 3), iA (cs 0) (dy.K)), ((t 4), iA (cs 0) (dy.Q)), ((t 5), iA (cs 0) (dy.L)), ((t 6), iA (cs 0) (dy.H)), ((t 7), iA (cs 0) (dy.M)), ((t 8), iA (cs 0) (dy.B)), ((t 9), iA (cs 0) (dy.C)), ((t 10), iA (cs 0) (dy.D)), ((t 11), iA (cs 0) (dy.F)), ((t 12), iA (cs 0) (dy.W)), (h, oS o (cy.mo) (cy.co) (cy.le)), (o, oQ (cs 1) 8 r), ((r 0), iB (cs 0) 8 (cl8 K 0)), ((r 1), iB (cs 0) 8 (cl8 K 1)), ((r 2), iB (cs 0) 8 (cl8 K 2)), ((r 3), iB (cs 0) 8 (cl8 K 3)), ((r 4), iB (cs 0) 8 (cl8 K 4)), ((r 5), iB (cs 0) 8 (cl8 K 5)), ((r 6), iB (cs 0) 8 (cl8 K 6)), ((r 7), iB (cs 0) 8 (cl8 K 7)), (q5, oQ (cs 1) 64 r5), (q6, iB (cs 0) 7 R6), (q7, iB (cs 0) 64 R7)]) (r := r5) (F := F) hx hb hK hP 0 rfl (i := to) (w := 1) (hto) (by decide) dL_law_685 ?_
            refine tpi (x' := toI (qrt k to)) (p1) ?_
            refine lv_icmp_ne (tgt := 701) hx hb dL_law_686 (by decide) (fun c => absurd (congrArg toI (nb_q hi hadj hli hlto)) c) (fun _ => ?_)
            refine lv_aload_n hx hb dL_law_689 rfl (lv_at hl 14 rfl) ?_
            refine lv_iload hx hb dL_law_690 (lv_at hl 4 rfl) ?_
            refine lv_iload hx hb dL_law_692 (lv_at hl 2 rfl) ?_
            refine cq_i (X := [(hc, oX a t), ((a 0), oC a (cy.mo) (cy.co) (cy.le)), ((a 3), iA (cs 0) (cy.K)), ((a 4), iA (cs 0) (cy.Q)), ((a 5), iA (cs 0) (cy.L)), ((a 6), iA (cs 0) (cy.H)), ((a 7), iA (cs 0) (cy.M)), ((a 8), iA (cs 0) (cy.B)), ((a 9), iA (cs 0) (cy.C)), ((a 10), iA (cs 0) (cy.D)), ((a 11), iA (cs 0) (cy.F)), ((a 12), iA (cs 0) (cy.W)), ((t 0), oC t (dy.mo) (dy.co) (dy.le)), ((t 3), iA (cs 0) (dy.K)), ((t 4), iA (cs 0) (dy.Q)), ((t 5), iA (cs 0) (dy.L)), ((t 6), iA (cs 0) (dy.H)), ((t 7), iA (cs 0) (dy.M)), ((t 8), iA (cs 0) (dy.B)), ((t 9), iA (cs 0) (dy.C)), ((t 10), iA (cs 0) (dy.D)), ((t 11), iA (cs 0) (dy.F)), ((t 12), iA (cs 0) (dy.W)), (h, oS o (cy.mo) (cy.co) (cy.le)), (o, oQ (cs 1) 8 r), ((r 0), iB (cs 0) 8 (cl8 K 0)), ((r 1), iB (cs 0) 8 (cl8 K 1)), ((r 2), iB (cs 0) 8 (cl8 K 2)), ((r 3), iB (cs 0) 8 (cl8 K 3)), ((r 4), iB (cs 0) 8 (cl8 K 4)), ((r 5), iB (cs 0) 8 (cl8 K 5)), ((r 6), iB (cs 0) 8 (cl8 K 6)), ((r 7), iB (cs 0) 8 (cl8 K 7)), (q5, oQ (cs 1) 64 r5), (q6, iB (cs 0) 7 R6), (q7, iB (cs 0) 64 R7)]) (pl := (lR (cs 0) r5 F)) (wr := [((t 0), oC t (dy.mo) (dy.co) (dy.le)), ((t 3), iA (cs 0) (dy.K)), ((t 4), iA (cs 0) (dy.Q)), ((t 5), iA (cs 0) (dy.L)), ((t 6), iA (cs 0) (dy.H)), ((t 7), iA (cs 0) (dy.M)), ((t 8), iA (cs 0) (dy.B)), ((t 9), iA (cs 0) (dy.C)), ((t 10), iA (cs 0) (dy.D)), ((t 11), iA (cs 0) (dy.F)), ((t 12), iA (cs 0) (dy.W)), (h, oS o (cy.mo) (cy.co) (cy.le)), (o, oQ (cs 1) 8 r), ((r 0), iB (cs 0) 8 (cl8 K 0)), ((r 1), iB (cs 0) 8 (cl8 K 1)), ((r 2), iB (cs 0) 8 (cl8 K 2)), ((r 3), iB (cs 0) 8 (cl8 K 3)), ((r 4), iB (cs 0) 8 (cl8 K 4)), ((r 5), iB (cs 0) 8 (cl8 K 5)), ((r 6), iB (cs 0) 8 (cl8 K 6)), ((r 7), iB (cs 0) 8 (cl8 K 7)), (q5, oQ (cs 1) 64 r5), (q6, iB (cs 0) 7 R6), (q7, iB (cs 0) 64 R7)]) (va_runV (As := [.int (nI i), .int (nI to)]) (rest := []) FX (c_X1_walk_ok l G (cs 0) hc a t cy.mo cy.co cy.le cy.K cy.Q cy.L cy.H cy.M cy.B cy.C cy.D cy.F cy.W k (nI i) (nI to) hk (inB_063 hi) (inB_063 hto) (by rw [nI_cl hi]; exact hli) (by rw [nI_cl hto]; exact hlto) _) (cwV 2 hts gL_law_X1_walk rfl rfl rfl (by decide +kernel) ⟨Nat.le_of_ble_eq_true rfl, Nat.le_of_ble_eq_true rfl⟩) (wrV hKI hP hD hNI [0, 1, 2, 3, 4, 5, 6, 7, 8, 9, 10, 11] (by decide) rfl rfl (ci := 1) (q0 := 0) rfl rfl) rfl rfl hl.1 rfl (lv_room (Nat.le_of_ble_eq_true rfl)) dL_law_694 ⟨hzc, hzs⟩) hS hP hD hA [0, 1, 2, 3, 4, 5, 6, 7, 8, 9, 10, 11] [12, 13, 14, 15, 16, 17, 18, 19, 20, 21, 22, 23, 24, 25, 26, 27, 28, 29, 30, 31, 32, 33, 34, 35] rfl rfl rfl (by decide) (by decide) (fun r9 u H locs hw hP hD hS => ?_)
            obtain ⟨F1, W1⟩ := u
            have hr9 := hw
            have hP : va_P G vwCl ([(hc, oX a t), ((a 0), oC a (cy.mo) (cy.co) (cy.le)), ((a 3), iA (cs 0) (cy.K)), ((a 4), iA (cs 0) (cy.Q)), ((a 5), iA (cs 0) (cy.L)), ((a 6), iA (cs 0) (cy.H)), ((a 7), iA (cs 0) (cy.M)), ((a 8), iA (cs 0) (cy.B)), ((a 9), iA (cs 0) (cy.C)), ((a 10), iA (cs 0) (cy.D)), ((a 11), iA (cs 0) F1), ((a 12), iA (cs 0) W1), ((t 0), oC t (dy.mo) (dy.co) (dy.le)), ((t 3), iA (cs 0) (dy.K)), ((t 4), iA (cs 0) (dy.Q)), ((t 5), iA (cs 0) (dy.L)), ((t 6), iA (cs 0) (dy.H)), ((t 7), iA (cs 0) (dy.M)), ((t 8), iA (cs 0) (dy.B)), ((t 9), iA (cs 0) (dy.C)), ((t 10), iA (cs 0) (dy.D)), ((t 11), iA (cs 0) (dy.F)), ((t 12), iA (cs 0) (dy.W)), (h, oS o (cy.mo) (cy.co) (cy.le)), (o, oQ (cs 1) 8 r), ((r 0), iB (cs 0) 8 (cl8 K 0)), ((r 1), iB (cs 0) 8 (cl8 K 1)), ((r 2), iB (cs 0) 8 (cl8 K 2)), ((r 3), iB (cs 0) 8 (cl8 K 3)), ((r 4), iB (cs 0) 8 (cl8 K 4)), ((r 5), iB (cs 0) 8 (cl8 K 5)), ((r 6), iB (cs 0) 8 (cl8 K 6)), ((r 7), iB (cs 0) 8 (cl8 K 7)), (q5, oQ (cs 1) 64 r5), (q6, iB (cs 0) 7 R6), (q7, iB (cs 0) 64 R7)] ++ (lR (cs 0) r5 F)) H := hP.part (cx := [(hc, oX a t), ((a 0), oC a (cy.mo) (cy.co) (cy.le)), ((a 3), iA (cs 0) (cy.K)), ((a 4), iA (cs 0) (cy.Q)), ((a 5), iA (cs 0) (cy.L)), ((a 6), iA (cs 0) (cy.H)), ((a 7), iA (cs 0) (cy.M)), ((a 8), iA (cs 0) (cy.B)), ((a 9), iA (cs 0) (cy.C)), ((a 10), iA (cs 0) (cy.D)), ((a 11), iA (cs 0) F1), ((a 12), iA (cs 0) W1), ((t 0), oC t (dy.mo) (dy.co) (dy.le)), ((t 3), iA (cs 0) (dy.K)), ((t 4), iA (cs 0) (dy.Q)), ((t 5), iA (cs 0) (dy.L)), ((t 6), iA (cs 0) (dy.H)), ((t 7), iA (cs 0) (dy.M)), ((t 8), iA (cs 0) (dy.B)), ((t 9), iA (cs 0) (dy.C)), ((t 10), iA (cs 0) (dy.D)), ((t 11), iA (cs 0) (dy.F)), ((t 12), iA (cs 0) (dy.W)), (h, oS o (cy.mo) (cy.co) (cy.le)), (o, oQ (cs 1) 8 r), ((r 0), iB (cs 0) 8 (cl8 K 0)), ((r 1), iB (cs 0) 8 (cl8 K 1)), ((r 2), iB (cs 0) 8 (cl8 K 2)), ((r 3), iB (cs 0) 8 (cl8 K 3)), ((r 4), iB (cs 0) 8 (cl8 K 4)), ((r 5), iB (cs 0) 8 (cl8 K 5)), ((r 6), iB (cs 0) 8 (cl8 K 6)), ((r 7), iB (cs 0) 8 (cl8 K 7)), (q5, oQ (cs 1) 64 r5), (q6, iB (cs 0) 7 R6), (q7, iB (cs 0) 64 R7)]) [24, 25, 26, 27, 28, 29, 30, 31, 32, 33, 34, 35, 0, 1, 2, 3, 4, 5, 6, 7, 8, 9, 10, 11, 12, 13, 14, 15, 16, 17, 18, 19, 20, 21, 22, 23] rfl
            have hD : va_D A ([(hc, oX a t), ((a 0), oC a (cy.mo) (cy.co) (cy.le)), ((a 3), iA (cs 0) (cy.K)), ((a 4), iA (cs 0) (cy.Q)), ((a 5), iA (cs 0) (cy.L)), ((a 6), iA (cs 0) (cy.H)), ((a 7), iA (cs 0) (cy.M)), ((a 8), iA (cs 0) (cy.B)), ((a 9), iA (cs 0) (cy.C)), ((a 10), iA (cs 0) (cy.D)), ((a 11), iA (cs 0) F1), ((a 12), iA (cs 0) W1), ((t 0), oC t (dy.mo) (dy.co) (dy.le)), ((t 3), iA (cs 0) (dy.K)), ((t 4), iA (cs 0) (dy.Q)), ((t 5), iA (cs 0) (dy.L)), ((t 6), iA (cs 0) (dy.H)), ((t 7), iA (cs 0) (dy.M)), ((t 8), iA (cs 0) (dy.B)), ((t 9), iA (cs 0) (dy.C)), ((t 10), iA (cs 0) (dy.D)), ((t 11), iA (cs 0) (dy.F)), ((t 12), iA (cs 0) (dy.W)), (h, oS o (cy.mo) (cy.co) (cy.le)), (o, oQ (cs 1) 8 r), ((r 0), iB (cs 0) 8 (cl8 K 0)), ((r 1), iB (cs 0) 8 (cl8 K 1)), ((r 2), iB (cs 0) 8 (cl8 K 2)), ((r 3), iB (cs 0) 8 (cl8 K 3)), ((r 4), iB (cs 0) 8 (cl8 K 4)), ((r 5), iB (cs 0) 8 (cl8 K 5)), ((r 6), iB (cs 0) 8 (cl8 K 6)), ((r 7), iB (cs 0) 8 (cl8 K 7)), (q5, oQ (cs 1) 64 r5), (q6, iB (cs 0) 7 R6), (q7, iB (cs 0) 64 R7)] ++ (lR (cs 0) r5 F)) := hD.part (cx := [(hc, oX a t), ((a 0), oC a (cy.mo) (cy.co) (cy.le)), ((a 3), iA (cs 0) (cy.K)), ((a 4), iA (cs 0) (cy.Q)), ((a 5), iA (cs 0) (cy.L)), ((a 6), iA (cs 0) (cy.H)), ((a 7), iA (cs 0) (cy.M)), ((a 8), iA (cs 0) (cy.B)), ((a 9), iA (cs 0) (cy.C)), ((a 10), iA (cs 0) (cy.D)), ((a 11), iA (cs 0) F1), ((a 12), iA (cs 0) W1), ((t 0), oC t (dy.mo) (dy.co) (dy.le)), ((t 3), iA (cs 0) (dy.K)), ((t 4), iA (cs 0) (dy.Q)), ((t 5), iA (cs 0) (dy.L)), ((t 6), iA (cs 0) (dy.H)), ((t 7), iA (cs 0) (dy.M)), ((t 8), iA (cs 0) (dy.B)), ((t 9), iA (cs 0) (dy.C)), ((t 10), iA (cs 0) (dy.D)), ((t 11), iA (cs 0) (dy.F)), ((t 12), iA (cs 0) (dy.W)), (h, oS o (cy.mo) (cy.co) (cy.le)), (o, oQ (cs 1) 8 r), ((r 0), iB (cs 0) 8 (cl8 K 0)), ((r 1), iB (cs 0) 8 (cl8 K 1)), ((r 2), iB (cs 0) 8 (cl8 K 2)), ((r 3), iB (cs 0) 8 (cl8 K 3)), ((r 4), iB (cs 0) 8 (cl8 K 4)), ((r 5), iB (cs 0) 8 (cl8 K 5)), ((r 6), iB (cs 0) 8 (cl8 K 6)), ((r 7), iB (cs 0) 8 (cl8 K 7)), (q5, oQ (cs 1) 64 r5), (q6, iB (cs 0) 7 R6), (q7, iB (cs 0) 64 R7)]) [24, 25, 26, 27, 28, 29, 30, 31, 32, 33, 34, 35, 0, 1, 2, 3, 4, 5, 6, 7, 8, 9, 10, 11, 12, 13, 14, 15, 16, 17, 18, 19, 20, 21, 22, 23] (by decide) rfl
            refine tpi (x' := 1) (hr9.trans (by rw [nI_cl hi, nI_cl hto]; exact nb_walk hadj hne hlto)) ?_
            refine lv_iconst (v := 1) hx hb dL_law_697 (by decide) ?_
            refine lv_icmp_eq (tgt := 703) hx hb dL_law_698 (by decide) (fun _ => ?_) (fun c => absurd (rfl) c)
            obtain ⟨cy2, hcy2⟩ : ∃ z : Cy, z = ⟨cy.mo, cy.co, cy.le, cy.K, cy.Q, cy.L, cy.H, cy.M, cy.B, cy.C, cy.D, F1, W1⟩ := ⟨_, rfl⟩
            have hg2 : Sd cy2 k := by rw [hcy2]; exact hg
            have hP : va_P G vwCl ([(hc, oX a t), ((a 0), oC a (cy2.mo) (cy2.co) (cy2.le)), ((a 3), iA (cs 0) (cy2.K)), ((a 4), iA (cs 0) (cy2.Q)), ((a 5), iA (cs 0) (cy2.L)), ((a 6), iA (cs 0) (cy2.H)), ((a 7), iA (cs 0) (cy2.M)), ((a 8), iA (cs 0) (cy2.B)), ((a 9), iA (cs 0) (cy2.C)), ((a 10), iA (cs 0) (cy2.D)), ((a 11), iA (cs 0) (cy2.F)), ((a 12), iA (cs 0) (cy2.W)), ((t 0), oC t (dy.mo) (dy.co) (dy.le)), ((t 3), iA (cs 0) (dy.K)), ((t 4), iA (cs 0) (dy.Q)), ((t 5), iA (cs 0) (dy.L)), ((t 6), iA (cs 0) (dy.H)), ((t 7), iA (cs 0) (dy.M)), ((t 8), iA (cs 0) (dy.B)), ((t 9), iA (cs 0) (dy.C)), ((t 10), iA (cs 0) (dy.D)), ((t 11), iA (cs 0) (dy.F)), ((t 12), iA (cs 0) (dy.W)), (h, oS o (cy2.mo) (cy2.co) (cy2.le)), (o, oQ (cs 1) 8 r), ((r 0), iB (cs 0) 8 (cl8 K 0)), ((r 1), iB (cs 0) 8 (cl8 K 1)), ((r 2), iB (cs 0) 8 (cl8 K 2)), ((r 3), iB (cs 0) 8 (cl8 K 3)), ((r 4), iB (cs 0) 8 (cl8 K 4)), ((r 5), iB (cs 0) 8 (cl8 K 5)), ((r 6), iB (cs 0) 8 (cl8 K 6)), ((r 7), iB (cs 0) 8 (cl8 K 7)), (q5, oQ (cs 1) 64 r5), (q6, iB (cs 0) 7 R6), (q7, iB (cs 0) 64 R7)] ++ (lR (cs 0) r5 F)) H := by rw [hcy2]; exact hP
            have hD : va_D A ([(hc, oX a t), ((a 0), oC a (cy2.mo) (cy2.co) (cy2.le)), ((a 3), iA (cs 0) (cy2.K)), ((a 4), iA (cs 0) (cy2.Q)), ((a 5), iA (cs 0) (cy2.L)), ((a 6), iA (cs 0) (cy2.H)), ((a 7), iA (cs 0) (cy2.M)), ((a 8), iA (cs 0) (cy2.B)), ((a 9), iA (cs 0) (cy2.C)), ((a 10), iA (cs 0) (cy2.D)), ((a 11), iA (cs 0) (cy2.F)), ((a 12), iA (cs 0) (cy2.W)), ((t 0), oC t (dy.mo) (dy.co) (dy.le)), ((t 3), iA (cs 0) (dy.K)), ((t 4), iA (cs 0) (dy.Q)), ((t 5), iA (cs 0) (dy.L)), ((t 6), iA (cs 0) (dy.H)), ((t 7), iA (cs 0) (dy.M)), ((t 8), iA (cs 0) (dy.B)), ((t 9), iA (cs 0) (dy.C)), ((t 10), iA (cs 0) (dy.D)), ((t 11), iA (cs 0) (dy.F)), ((t 12), iA (cs 0) (dy.W)), (h, oS o (cy2.mo) (cy2.co) (cy2.le)), (o, oQ (cs 1) 8 r), ((r 0), iB (cs 0) 8 (cl8 K 0)), ((r 1), iB (cs 0) 8 (cl8 K 1)), ((r 2), iB (cs 0) 8 (cl8 K 2)), ((r 3), iB (cs 0) 8 (cl8 K 3)), ((r 4), iB (cs 0) 8 (cl8 K 4)), ((r 5), iB (cs 0) 8 (cl8 K 5)), ((r 6), iB (cs 0) 8 (cl8 K 6)), ((r 7), iB (cs 0) 8 (cl8 K 7)), (q5, oQ (cs 1) 64 r5), (q6, iB (cs 0) 7 R6), (q7, iB (cs 0) 64 R7)] ++ (lR (cs 0) r5 F)) := by rw [hcy2]; exact hD
            have hk := hg2.1
            have hS0 := hg2.2.1
            refine lv_iload hx hb dL_law_703 (lv_at hl 1 rfl) ?_
            refine lv_if_eq (tgt := 752) hx hb dL_law_705 (by decide) (fun c => absurd c (by decide)) (fun _ => ?_)
            refine lv_iload hx hb dL_law_708 (lv_at hl 0 rfl) ?_
            refine lv_if_eq (tgt := 752) hx hb dL_law_710 (by decide) (fun _ => ?_) (fun c => absurd (rfl) c)
            refine lv_iload hx hb dL_law_752 (lv_at hl 1 rfl) ?_
            refine lv_if_eq (tgt := 797) hx hb dL_law_754 (by decide) (fun c => absurd c (by decide)) (fun _ => ?_)
            refine lv_iload hx hb dL_law_757 (lv_at hl 0 rfl) ?_
            refine lv_if_ne (tgt := 797) hx hb dL_law_759 (by decide) (fun c => absurd (by decide) c) (fun _ => ?_)
            rcases hop : opn k i with _ | _
            · skip
              refine lv_aload hx hb dL_law_762 (lv_at hl 10 rfl) ?_
              refine lv_iload hx hb dL_law_764 (lv_at hl 4 rfl) ?_
              refine tpi (x' := nI i) (rfl) ?_
              refine g_ald (r := r5) (n := 64) hx hb hK hP 33 1 rfl rfl (x := i) (hi) (by decide) dL_law_766 ?_
              refine lv_iconst (v := 3) hx hb dL_law_767 (by decide) ?_
              refine tpi (x' := nI 3) (rfl) ?_
              refine l_iald (X := [(hc, oX a t), ((a 0), oC a (cy2.mo) (cy2.co) (cy2.le)), ((a 3), iA (cs 0) (cy2.K)), ((a 4), iA (cs 0) (cy2.Q)), ((a 5), iA (cs 0) (cy2.L)), ((a 6), iA (cs 0) (cy2.H)), ((a 7), iA (cs 0) (cy2.M)), ((a 8), iA (cs 0) (cy2.B)), ((a 9), iA (cs 0) (cy2.C)), ((a 10), iA (cs 0) (cy2.D)), ((a 11), iA (cs 0) (cy2.F)), ((a 12), iA (cs 0) (cy2.W)), ((t 0), oC t (dy.mo) (dy.co) (dy.le)), ((t 3), iA (cs 0) (dy.K)), ((t 4), iA (cs 0) (dy.Q)), ((t 5), iA (cs 0) (dy.L)), ((t 6), iA (cs 0) (dy.H)), ((t 7), iA (cs 0) (dy.M)), ((t 8), iA (cs 0) (dy.B)), ((t 9), iA (cs 0) (dy.C)), ((t 10), iA (cs 0) (dy.D)), ((t 11), iA (cs 0) (dy.F)), ((t 12), iA (cs 0) (dy.W)), (h, oS o (cy2.mo) (cy2.co) (cy2.le)), (o, oQ (cs 1) 8 r), ((r 0), iB (cs 0) 8 (cl8 K 0)), ((r 1), iB (cs 0) 8 (cl8 K 1)), ((r 2), iB (cs 0) 8 (cl8 K 2)), ((r 3), iB (cs 0) 8 (cl8 K 3)), ((r 4), iB (cs 0) 8 (cl8 K 4)), ((r 5), iB (cs 0) 8 (cl8 K 5)), ((r 6), iB (cs 0) 8 (cl8 K 6)), ((r 7), iB (cs 0) 8 (cl8 K 7)), (q5, oQ (cs 1) 64 r5), (q6, iB (cs 0) 7 R6), (q7, iB (cs 0) 64 R7)]) (r := r5) (F := F) hx hb hK hP 0 rfl (i := i) (w := 3) (hi) (by decide) dL_law_768 ?_
              refine tpi (x' := 0) (o3.trans (by rw [wt_by hwi, hop]; rfl)) ?_
              refine lv_iconst (v := 1) hx hb dL_law_769 (by decide) ?_
              refine lv_icmp_ne (tgt := 797) hx hb dL_law_770 (by decide) (fun _ => ?_) (fun c => absurd c (by decide))
              exact kk cy2 _ _ _ (hg2) hP hD hS (lv_sub hl [3, 4, 5, 6, 7, 8, 9, 10, 11, 12, 13, 14, 15] rfl)
            · skip
              refine lv_aload hx hb dL_law_762 (lv_at hl 10 rfl) ?_
              refine lv_iload hx hb dL_law_764 (lv_at hl 4 rfl) ?_
              refine tpi (x' := nI i) (rfl) ?_
              refine g_ald (r := r5) (n := 64) hx hb hK hP 33 1 rfl rfl (x := i) (hi) (by decide) dL_law_766 ?_
              refine lv_iconst (v := 3) hx hb dL_law_767 (by decide) ?_
              refine tpi (x' := nI 3) (rfl) ?_
              refine l_iald (X := [(hc, oX a t), ((a 0), oC a (cy2.mo) (cy2.co) (cy2.le)), ((a 3), iA (cs 0) (cy2.K)), ((a 4), iA (cs 0) (cy2.Q)), ((a 5), iA (cs 0) (cy2.L)), ((a 6), iA (cs 0) (cy2.H)), ((a 7), iA (cs 0) (cy2.M)), ((a 8), iA (cs 0) (cy2.B)), ((a 9), iA (cs 0) (cy2.C)), ((a 10), iA (cs 0) (cy2.D)), ((a 11), iA (cs 0) (cy2.F)), ((a 12), iA (cs 0) (cy2.W)), ((t 0), oC t (dy.mo) (dy.co) (dy.le)), ((t 3), iA (cs 0) (dy.K)), ((t 4), iA (cs 0) (dy.Q)), ((t 5), iA (cs 0) (dy.L)), ((t 6), iA (cs 0) (dy.H)), ((t 7), iA (cs 0) (dy.M)), ((t 8), iA (cs 0) (dy.B)), ((t 9), iA (cs 0) (dy.C)), ((t 10), iA (cs 0) (dy.D)), ((t 11), iA (cs 0) (dy.F)), ((t 12), iA (cs 0) (dy.W)), (h, oS o (cy2.mo) (cy2.co) (cy2.le)), (o, oQ (cs 1) 8 r), ((r 0), iB (cs 0) 8 (cl8 K 0)), ((r 1), iB (cs 0) 8 (cl8 K 1)), ((r 2), iB (cs 0) 8 (cl8 K 2)), ((r 3), iB (cs 0) 8 (cl8 K 3)), ((r 4), iB (cs 0) 8 (cl8 K 4)), ((r 5), iB (cs 0) 8 (cl8 K 5)), ((r 6), iB (cs 0) 8 (cl8 K 6)), ((r 7), iB (cs 0) 8 (cl8 K 7)), (q5, oQ (cs 1) 64 r5), (q6, iB (cs 0) 7 R6), (q7, iB (cs 0) 64 R7)]) (r := r5) (F := F) hx hb hK hP 0 rfl (i := i) (w := 3) (hi) (by decide) dL_law_768 ?_
              refine tpi (x' := 1) (o3.trans (by rw [wt_by hwi, hop]; rfl)) ?_
              refine lv_iconst (v := 1) hx hb dL_law_769 (by decide) ?_
              refine lv_icmp_ne (tgt := 797) hx hb dL_law_770 (by decide) (fun c => absurd (by decide) c) (fun _ => ?_)
              refine lv_aload hx hb dL_law_773 (lv_at hl 10 rfl) ?_
              refine lv_iload hx hb dL_law_775 (lv_at hl 2 rfl) ?_
              refine tpi (x' := nI to) (rfl) ?_
              refine g_ald (r := r5) (n := 64) hx hb hK hP 33 1 rfl rfl (x := to) (hto) (by decide) dL_law_777 ?_
              refine lv_iconst (v := 0) hx hb dL_law_778 (by decide) ?_
              refine tpi (x' := nI 0) (rfl) ?_
              refine l_iald (X := [(hc, oX a t), ((a 0), oC a (cy2.mo) (cy2.co) (cy2.le)), ((a 3), iA (cs 0) (cy2.K)), ((a 4), iA (cs 0) (cy2.Q)), ((a 5), iA (cs 0) (cy2.L)), ((a 6), iA (cs 0) (cy2.H)), ((a 7), iA (cs 0) (cy2.M)), ((a 8), iA (cs 0) (cy2.B)), ((a 9), iA (cs 0) (cy2.C)), ((a 10), iA (cs 0) (cy2.D)), ((a 11), iA (cs 0) (cy2.F)), ((a 12), iA (cs 0) (cy2.W)), ((t 0), oC t (dy.mo) (dy.co) (dy.le)), ((t 3), iA (cs 0) (dy.K)), ((t 4), iA (cs 0) (dy.Q)), ((t 5), iA (cs 0) (dy.L)), ((t 6), iA (cs 0) (dy.H)), ((t 7), iA (cs 0) (dy.M)), ((t 8), iA (cs 0) (dy.B)), ((t 9), iA (cs 0) (dy.C)), ((t 10), iA (cs 0) (dy.D)), ((t 11), iA (cs 0) (dy.F)), ((t 12), iA (cs 0) (dy.W)), (h, oS o (cy2.mo) (cy2.co) (cy2.le)), (o, oQ (cs 1) 8 r), ((r 0), iB (cs 0) 8 (cl8 K 0)), ((r 1), iB (cs 0) 8 (cl8 K 1)), ((r 2), iB (cs 0) 8 (cl8 K 2)), ((r 3), iB (cs 0) 8 (cl8 K 3)), ((r 4), iB (cs 0) 8 (cl8 K 4)), ((r 5), iB (cs 0) 8 (cl8 K 5)), ((r 6), iB (cs 0) 8 (cl8 K 6)), ((r 7), iB (cs 0) 8 (cl8 K 7)), (q5, oQ (cs 1) 64 r5), (q6, iB (cs 0) 7 R6), (q7, iB (cs 0) 64 R7)]) (r := r5) (F := F) hx hb hK hP 0 rfl (i := to) (w := 0) (hto) (by decide) dL_law_779 ?_
              refine tpi (x' := k to) (p0) ?_
              refine lv_iconst (v := 1) hx hb dL_law_780 (by decide) ?_
              refine lv_icmp_le (tgt := 797) hx hb dL_law_781 (by decide) (fun c => absurd c ((lnd_2 hlto).2.1)) (fun _ => ?_)
              refine lv_aload hx hb dL_law_784 (lv_at hl 10 rfl) ?_
              refine lv_iload hx hb dL_law_786 (lv_at hl 2 rfl) ?_
              refine tpi (x' := nI to) (rfl) ?_
              refine g_ald (r := r5) (n := 64) hx hb hK hP 33 1 rfl rfl (x := to) (hto) (by decide) dL_law_788 ?_
              refine lv_iconst (v := 3) hx hb dL_law_789 (by decide) ?_
              refine tpi (x' := nI 3) (rfl) ?_
              refine l_iald (X := [(hc, oX a t), ((a 0), oC a (cy2.mo) (cy2.co) (cy2.le)), ((a 3), iA (cs 0) (cy2.K)), ((a 4), iA (cs 0) (cy2.Q)), ((a 5), iA (cs 0) (cy2.L)), ((a 6), iA (cs 0) (cy2.H)), ((a 7), iA (cs 0) (cy2.M)), ((a 8), iA (cs 0) (cy2.B)), ((a 9), iA (cs 0) (cy2.C)), ((a 10), iA (cs 0) (cy2.D)), ((a 11), iA (cs 0) (cy2.F)), ((a 12), iA (cs 0) (cy2.W)), ((t 0), oC t (dy.mo) (dy.co) (dy.le)), ((t 3), iA (cs 0) (dy.K)), ((t 4), iA (cs 0) (dy.Q)), ((t 5), iA (cs 0) (dy.L)), ((t 6), iA (cs 0) (dy.H)), ((t 7), iA (cs 0) (dy.M)), ((t 8), iA (cs 0) (dy.B)), ((t 9), iA (cs 0) (dy.C)), ((t 10), iA (cs 0) (dy.D)), ((t 11), iA (cs 0) (dy.F)), ((t 12), iA (cs 0) (dy.W)), (h, oS o (cy2.mo) (cy2.co) (cy2.le)), (o, oQ (cs 1) 8 r), ((r 0), iB (cs 0) 8 (cl8 K 0)), ((r 1), iB (cs 0) 8 (cl8 K 1)), ((r 2), iB (cs 0) 8 (cl8 K 2)), ((r 3), iB (cs 0) 8 (cl8 K 3)), ((r 4), iB (cs 0) 8 (cl8 K 4)), ((r 5), iB (cs 0) 8 (cl8 K 5)), ((r 6), iB (cs 0) 8 (cl8 K 6)), ((r 7), iB (cs 0) 8 (cl8 K 7)), (q5, oQ (cs 1) 64 r5), (q6, iB (cs 0) 7 R6), (q7, iB (cs 0) 64 R7)]) (r := r5) (F := F) hx hb hK hP 0 rfl (i := to) (w := 3) (hto) (by decide) dL_law_790 ?_
              refine tpi (x' := 1) (p3.trans (by rw [nb_boat hi hadj hop hlto (wtr_no hwto).2]; rfl)) ?_
              refine lv_iconst (v := 1) hx hb dL_law_791 (by decide) ?_
              refine lv_icmp_eq (tgt := 797) hx hb dL_law_792 (by decide) (fun _ => ?_) (fun c => absurd (by decide) c)
              exact kk cy2 _ _ _ (hg2) hP hD hS (lv_sub hl [3, 4, 5, 6, 7, 8, 9, 10, 11, 12, 13, 14, 15] rfl)
      · skip
        have jto : ∀ (H : Heap) (locs : List Loc), va_P G vwCl ([(hc, oX a t), ((a 0), oC a (cy.mo) (cy.co) (cy.le)), ((a 3), iA (cs 0) (cy.K)), ((a 4), iA (cs 0) (cy.Q)), ((a 5), iA (cs 0) (cy.L)), ((a 6), iA (cs 0) (cy.H)), ((a 7), iA (cs 0) (cy.M)), ((a 8), iA (cs 0) (cy.B)), ((a 9), iA (cs 0) (cy.C)), ((a 10), iA (cs 0) (cy.D)), ((a 11), iA (cs 0) (cy.F)), ((a 12), iA (cs 0) (cy.W)), ((t 0), oC t (dy.mo) (dy.co) (dy.le)), ((t 3), iA (cs 0) (dy.K)), ((t 4), iA (cs 0) (dy.Q)), ((t 5), iA (cs 0) (dy.L)), ((t 6), iA (cs 0) (dy.H)), ((t 7), iA (cs 0) (dy.M)), ((t 8), iA (cs 0) (dy.B)), ((t 9), iA (cs 0) (dy.C)), ((t 10), iA (cs 0) (dy.D)), ((t 11), iA (cs 0) (dy.F)), ((t 12), iA (cs 0) (dy.W)), (h, oS o (cy.mo) (cy.co) (cy.le)), (o, oQ (cs 1) 8 r), ((r 0), iB (cs 0) 8 (cl8 K 0)), ((r 1), iB (cs 0) 8 (cl8 K 1)), ((r 2), iB (cs 0) 8 (cl8 K 2)), ((r 3), iB (cs 0) 8 (cl8 K 3)), ((r 4), iB (cs 0) 8 (cl8 K 4)), ((r 5), iB (cs 0) 8 (cl8 K 5)), ((r 6), iB (cs 0) 8 (cl8 K 6)), ((r 7), iB (cs 0) 8 (cl8 K 7)), (q5, oQ (cs 1) 64 r5), (q6, iB (cs 0) 7 R6), (q7, iB (cs 0) 64 R7)] ++ (lR (cs 0) r5 F)) H → va_D A ([(hc, oX a t), ((a 0), oC a (cy.mo) (cy.co) (cy.le)), ((a 3), iA (cs 0) (cy.K)), ((a 4), iA (cs 0) (cy.Q)), ((a 5), iA (cs 0) (cy.L)), ((a 6), iA (cs 0) (cy.H)), ((a 7), iA (cs 0) (cy.M)), ((a 8), iA (cs 0) (cy.B)), ((a 9), iA (cs 0) (cy.C)), ((a 10), iA (cs 0) (cy.D)), ((a 11), iA (cs 0) (cy.F)), ((a 12), iA (cs 0) (cy.W)), ((t 0), oC t (dy.mo) (dy.co) (dy.le)), ((t 3), iA (cs 0) (dy.K)), ((t 4), iA (cs 0) (dy.Q)), ((t 5), iA (cs 0) (dy.L)), ((t 6), iA (cs 0) (dy.H)), ((t 7), iA (cs 0) (dy.M)), ((t 8), iA (cs 0) (dy.B)), ((t 9), iA (cs 0) (dy.C)), ((t 10), iA (cs 0) (dy.D)), ((t 11), iA (cs 0) (dy.F)), ((t 12), iA (cs 0) (dy.W)), (h, oS o (cy.mo) (cy.co) (cy.le)), (o, oQ (cs 1) 8 r), ((r 0), iB (cs 0) 8 (cl8 K 0)), ((r 1), iB (cs 0) 8 (cl8 K 1)), ((r 2), iB (cs 0) 8 (cl8 K 2)), ((r 3), iB (cs 0) 8 (cl8 K 3)), ((r 4), iB (cs 0) 8 (cl8 K 4)), ((r 5), iB (cs 0) 8 (cl8 K 5)), ((r 6), iB (cs 0) 8 (cl8 K 6)), ((r 7), iB (cs 0) 8 (cl8 K 7)), (q5, oQ (cs 1) 64 r5), (q6, iB (cs 0) 7 R6), (q7, iB (cs 0) 64 R7)] ++ (lR (cs 0) r5 F)) → va_S A s.heap H locs → W p l e room_1 s m #[Value.ref b] below meth c H locs cells slots Q (F0 m 643 ls []) := by
          intro  H locs hP hD hS
          refine lv_iconst (v := 1) hx hb dL_law_643 (by decide) ?_
          refine lv_goto (tgt := 648) hx hb dL_law_644 (by decide) ?_
          refine lv_istore (lv' := [(15, .int 1), (14, .int 1), (13, .int (nI to)), (12, .int sd), (11, .int (nI i)), (10, .int qn), (9, .int (dall k)), (8, .int (call k)), (7, .ref q7), (6, .ref q6), (5, .ref q5), (4, .int x4), (3, .int (nI tm)), (0, .ref b), (1, .ref hc), (2, .ref h)]) hx hb dL_law_648 hl (by decide) rfl (fun ls hl => ?_)
          rcases hli : lnd (k i) with _ | _
          · skip
            refine lv_aload hx hb dL_law_650 (lv_at hl 10 rfl) ?_
            refine lv_iload hx hb dL_law_652 (lv_at hl 4 rfl) ?_
            refine tpi (x' := nI i) (rfl) ?_
            refine g_ald (r := r5) (n := 64) hx hb hK hP 33 1 rfl rfl (x := i) (hi) (by decide) dL_law_654 ?_
            refine lv_iconst (v := 0) hx hb dL_law_655 (by decide) ?_
            refine tpi (x' := nI 0) (rfl) ?_
            refine l_iald (X := [(hc, oX a t), ((a 0), oC a (cy.mo) (cy.co) (cy.le)), ((a 3), iA (cs 0) (cy.K)), ((a 4), iA (cs 0) (cy.Q)), ((a 5), iA (cs 0) (cy.L)), ((a 6), iA (cs 0) (cy.H)), ((a 7), iA (cs 0) (cy.M)), ((a 8), iA (cs 0) (cy.B)), ((a 9), iA (cs 0) (cy.C)), ((a 10), iA (cs 0) (cy.D)), ((a 11), iA (cs 0) (cy.F)), ((a 12), iA (cs 0) (cy.W)), ((t 0), oC t (dy.mo) (dy.co) (dy.le)), ((t 3), iA (cs 0) (dy.K)), ((t 4), iA (cs 0) (dy.Q)), ((t 5), iA (cs 0) (dy.L)), ((t 6), iA (cs 0) (dy.H)), ((t 7), iA (cs 0) (dy.M)), ((t 8), iA (cs 0) (dy.B)), ((t 9), iA (cs 0) (dy.C)), ((t 10), iA (cs 0) (dy.D)), ((t 11), iA (cs 0) (dy.F)), ((t 12), iA (cs 0) (dy.W)), (h, oS o (cy.mo) (cy.co) (cy.le)), (o, oQ (cs 1) 8 r), ((r 0), iB (cs 0) 8 (cl8 K 0)), ((r 1), iB (cs 0) 8 (cl8 K 1)), ((r 2), iB (cs 0) 8 (cl8 K 2)), ((r 3), iB (cs 0) 8 (cl8 K 3)), ((r 4), iB (cs 0) 8 (cl8 K 4)), ((r 5), iB (cs 0) 8 (cl8 K 5)), ((r 6), iB (cs 0) 8 (cl8 K 6)), ((r 7), iB (cs 0) 8 (cl8 K 7)), (q5, oQ (cs 1) 64 r5), (q6, iB (cs 0) 7 R6), (q7, iB (cs 0) 64 R7)]) (r := r5) (F := F) hx hb hK hP 0 rfl (i := i) (w := 0) (hi) (by decide) dL_law_656 ?_
            refine tpi (x' := k i) (o0) ?_
            refine lv_iconst (v := 1) hx hb dL_law_657 (by decide) ?_
            refine lv_icmp_le (tgt := 703) hx hb dL_law_658 (by decide) (fun _ => ?_) (fun c => absurd ((lnd_no (hkd i hi) hli).1) c)
            rcases hlto : lnd (k to) with _ | _
            · skip
              refine lv_iload hx hb dL_law_703 (lv_at hl 1 rfl) ?_
              refine lv_if_eq (tgt := 752) hx hb dL_law_705 (by decide) (fun c => absurd c (by decide)) (fun _ => ?_)
              refine lv_iload hx hb dL_law_708 (lv_at hl 0 rfl) ?_
              refine lv_if_eq (tgt := 752) hx hb dL_law_710 (by decide) (fun c => absurd c (by decide)) (fun _ => ?_)
              refine lv_aload hx hb dL_law_713 (lv_at hl 10 rfl) ?_
              refine lv_iload hx hb dL_law_715 (lv_at hl 4 rfl) ?_
              refine tpi (x' := nI i) (rfl) ?_
              refine g_ald (r := r5) (n := 64) hx hb hK hP 33 1 rfl rfl (x := i) (hi) (by decide) dL_law_717 ?_
              refine lv_iconst (v := 3) hx hb dL_law_718 (by decide) ?_
              refine tpi (x' := nI 3) (rfl) ?_
              refine l_iald (X := [(hc, oX a t), ((a 0), oC a (cy.mo) (cy.co) (cy.le)), ((a 3), iA (cs 0) (cy.K)), ((a 4), iA (cs 0) (cy.Q)), ((a 5), iA (cs 0) (cy.L)), ((a 6), iA (cs 0) (cy.H)), ((a 7), iA (cs 0) (cy.M)), ((a 8), iA (cs 0) (cy.B)), ((a 9), iA (cs 0) (cy.C)), ((a 10), iA (cs 0) (cy.D)), ((a 11), iA (cs 0) (cy.F)), ((a 12), iA (cs 0) (cy.W)), ((t 0), oC t (dy.mo) (dy.co) (dy.le)), ((t 3), iA (cs 0) (dy.K)), ((t 4), iA (cs 0) (dy.Q)), ((t 5), iA (cs 0) (dy.L)), ((t 6), iA (cs 0) (dy.H)), ((t 7), iA (cs 0) (dy.M)), ((t 8), iA (cs 0) (dy.B)), ((t 9), iA (cs 0) (dy.C)), ((t 10), iA (cs 0) (dy.D)), ((t 11), iA (cs 0) (dy.F)), ((t 12), iA (cs 0) (dy.W)), (h, oS o (cy.mo) (cy.co) (cy.le)), (o, oQ (cs 1) 8 r), ((r 0), iB (cs 0) 8 (cl8 K 0)), ((r 1), iB (cs 0) 8 (cl8 K 1)), ((r 2), iB (cs 0) 8 (cl8 K 2)), ((r 3), iB (cs 0) 8 (cl8 K 3)), ((r 4), iB (cs 0) 8 (cl8 K 4)), ((r 5), iB (cs 0) 8 (cl8 K 5)), ((r 6), iB (cs 0) 8 (cl8 K 6)), ((r 7), iB (cs 0) 8 (cl8 K 7)), (q5, oQ (cs 1) 64 r5), (q6, iB (cs 0) 7 R6), (q7, iB (cs 0) 64 R7)]) (r := r5) (F := F) hx hb hK hP 0 rfl (i := i) (w := 3) (hi) (by decide) dL_law_719 ?_
              refine tpi (x' := b2i (byB k i || opn k i)) (o3) ?_
              refine lv_aload hx hb dL_law_720 (lv_at hl 10 rfl) ?_
              refine lv_iload hx hb dL_law_722 (lv_at hl 2 rfl) ?_
              refine tpi (x' := nI to) (rfl) ?_
              refine g_ald (r := r5) (n := 64) hx hb hK hP 33 1 rfl rfl (x := to) (hto) (by decide) dL_law_724 ?_
              refine lv_iconst (v := 3) hx hb dL_law_725 (by decide) ?_
              refine tpi (x' := nI 3) (rfl) ?_
              refine l_iald (X := [(hc, oX a t), ((a 0), oC a (cy.mo) (cy.co) (cy.le)), ((a 3), iA (cs 0) (cy.K)), ((a 4), iA (cs 0) (cy.Q)), ((a 5), iA (cs 0) (cy.L)), ((a 6), iA (cs 0) (cy.H)), ((a 7), iA (cs 0) (cy.M)), ((a 8), iA (cs 0) (cy.B)), ((a 9), iA (cs 0) (cy.C)), ((a 10), iA (cs 0) (cy.D)), ((a 11), iA (cs 0) (cy.F)), ((a 12), iA (cs 0) (cy.W)), ((t 0), oC t (dy.mo) (dy.co) (dy.le)), ((t 3), iA (cs 0) (dy.K)), ((t 4), iA (cs 0) (dy.Q)), ((t 5), iA (cs 0) (dy.L)), ((t 6), iA (cs 0) (dy.H)), ((t 7), iA (cs 0) (dy.M)), ((t 8), iA (cs 0) (dy.B)), ((t 9), iA (cs 0) (dy.C)), ((t 10), iA (cs 0) (dy.D)), ((t 11), iA (cs 0) (dy.F)), ((t 12), iA (cs 0) (dy.W)), (h, oS o (cy.mo) (cy.co) (cy.le)), (o, oQ (cs 1) 8 r), ((r 0), iB (cs 0) 8 (cl8 K 0)), ((r 1), iB (cs 0) 8 (cl8 K 1)), ((r 2), iB (cs 0) 8 (cl8 K 2)), ((r 3), iB (cs 0) 8 (cl8 K 3)), ((r 4), iB (cs 0) 8 (cl8 K 4)), ((r 5), iB (cs 0) 8 (cl8 K 5)), ((r 6), iB (cs 0) 8 (cl8 K 6)), ((r 7), iB (cs 0) 8 (cl8 K 7)), (q5, oQ (cs 1) 64 r5), (q6, iB (cs 0) 7 R6), (q7, iB (cs 0) 64 R7)]) (r := r5) (F := F) hx hb hK hP 0 rfl (i := to) (w := 3) (hto) (by decide) dL_law_726 ?_
              refine tpi (x' := b2i (byB k to || opn k to)) (p3) ?_
              refine lv_icmp_ne (tgt := 750) hx hb dL_law_727 (by decide) (fun c => absurd (by rw [wt_by hwi, wt_by hwto, nb_opn hi hadj hwi hwto]) c) (fun _ => ?_)
              refine lv_aload_n hx hb dL_law_730 rfl (lv_at hl 14 rfl) ?_
              refine lv_iload hx hb dL_law_731 (lv_at hl 4 rfl) ?_
              refine cr_i (va_runV (As := [.int (nI i)]) (rest := []) FX (c_X1_sail_ok l G (cs 0) hc a t cy.mo cy.co cy.le cy.K cy.Q cy.L cy.H cy.M cy.B cy.C cy.D cy.F cy.W k (nI i) hk hS0 (inB_063 hi) (by rw [nI_cl hi]; exact hwi)) (cwV 1 hts gL_law_X1_sail rfl rfl rfl (by decide +kernel) ⟨Nat.le_of_ble_eq_true rfl, Nat.le_of_ble_eq_true rfl⟩) (rdV hKI hP hNI [0, 1, 2, 3, 4, 5, 6, 7, 8, 9, 10, 11] rfl (ci := 1) (q0 := 0) rfl rfl) rfl rfl hl.1 rfl (lv_room (Nat.le_of_ble_eq_true rfl)) dL_law_733 ⟨hzc, hzs⟩) hS hP (fun H locs hP hS => ?_)
              refine tpi (x' := toI (dst (PB false k) 3 i)) (by rw [nI_cl hi]) ?_
              refine lv_aload_n hx hb dL_law_736 rfl (lv_at hl 14 rfl) ?_
              refine lv_iload hx hb dL_law_737 (lv_at hl 2 rfl) ?_
              refine cr_i (va_runV (As := [.int (nI to)]) (rest := [.int (toI (dst (PB false k) 3 i))]) FX (c_X1_sail_ok l G (cs 0) hc a t cy.mo cy.co cy.le cy.K cy.Q cy.L cy.H cy.M cy.B cy.C cy.D cy.F cy.W k (nI to) hk hS0 (inB_063 hto) (by rw [nI_cl hto]; exact hwto)) (cwV 1 hts gL_law_X1_sail rfl rfl rfl (by decide +kernel) ⟨Nat.le_of_ble_eq_true rfl, Nat.le_of_ble_eq_true rfl⟩) (rdV hKI hP hNI [0, 1, 2, 3, 4, 5, 6, 7, 8, 9, 10, 11] rfl (ci := 1) (q0 := 0) rfl rfl) rfl rfl hl.1 rfl (lv_room (Nat.le_of_ble_eq_true rfl)) dL_law_739 ⟨hzc, hzs⟩) hS hP (fun H locs hP hS => ?_)
              refine tpi (x' := toI (dst (PB false k) 3 to)) (by rw [nI_cl hto]) ?_
              refine lv_isub hx hb dL_law_742 ?_
              refine va_mabs hx hb (hml.trans hl.1.symm) hown (hts (.methodLink RL 93 Lib.Math.abs.name) (by decide +kernel)) (hts (.static Lib.Math.abs.name) (by decide +kernel)) (hts (.initialized "java/lang/Math") (by decide +kernel)) (hts (.code Lib.Math.abs.name Lib.Math.abs.code 1 (some .int)) (by decide +kernel)) (Nat.le_of_ble_eq_true rfl) (Nat.le_of_ble_eq_true rfl) (by omega) (by omega) dL_law_743 ?_
              refine lv_iconst (v := 1) hx hb dL_law_746 (by decide) ?_
              refine lv_icmp_le (tgt := 752) hx hb dL_law_747 (by decide) (fun _ => ?_) (fun c => absurd (nb_abs hi hadj hwi hwto) c)
              refine lv_iload hx hb dL_law_752 (lv_at hl 1 rfl) ?_
              refine lv_if_eq (tgt := 797) hx hb dL_law_754 (by decide) (fun c => absurd c (by decide)) (fun _ => ?_)
              refine lv_iload hx hb dL_law_757 (lv_at hl 0 rfl) ?_
              refine lv_if_ne (tgt := 797) hx hb dL_law_759 (by decide) (fun _ => ?_) (fun c => absurd c (by decide))
              exact kk cy _ _ _ (hg) hP hD hS (lv_sub hl [3, 4, 5, 6, 7, 8, 9, 10, 11, 12, 13, 14, 15] rfl)
            · skip
              refine lv_iload hx hb dL_law_703 (lv_at hl 1 rfl) ?_
              refine lv_if_eq (tgt := 752) hx hb dL_law_705 (by decide) (fun c => absurd c (by decide)) (fun _ => ?_)
              refine lv_iload hx hb dL_law_708 (lv_at hl 0 rfl) ?_
              refine lv_if_eq (tgt := 752) hx hb dL_law_710 (by decide) (fun c => absurd c (by decide)) (fun _ => ?_)
              refine lv_aload hx hb dL_law_713 (lv_at hl 10 rfl) ?_
              refine lv_iload hx hb dL_law_715 (lv_at hl 4 rfl) ?_
              refine tpi (x' := nI i) (rfl) ?_
              refine g_ald (r := r5) (n := 64) hx hb hK hP 33 1 rfl rfl (x := i) (hi) (by decide) dL_law_717 ?_
              refine lv_iconst (v := 3) hx hb dL_law_718 (by decide) ?_
              refine tpi (x' := nI 3) (rfl) ?_
              refine l_iald (X := [(hc, oX a t), ((a 0), oC a (cy.mo) (cy.co) (cy.le)), ((a 3), iA (cs 0) (cy.K)), ((a 4), iA (cs 0) (cy.Q)), ((a 5), iA (cs 0) (cy.L)), ((a 6), iA (cs 0) (cy.H)), ((a 7), iA (cs 0) (cy.M)), ((a 8), iA (cs 0) (cy.B)), ((a 9), iA (cs 0) (cy.C)), ((a 10), iA (cs 0) (cy.D)), ((a 11), iA (cs 0) (cy.F)), ((a 12), iA (cs 0) (cy.W)), ((t 0), oC t (dy.mo) (dy.co) (dy.le)), ((t 3), iA (cs 0) (dy.K)), ((t 4), iA (cs 0) (dy.Q)), ((t 5), iA (cs 0) (dy.L)), ((t 6), iA (cs 0) (dy.H)), ((t 7), iA (cs 0) (dy.M)), ((t 8), iA (cs 0) (dy.B)), ((t 9), iA (cs 0) (dy.C)), ((t 10), iA (cs 0) (dy.D)), ((t 11), iA (cs 0) (dy.F)), ((t 12), iA (cs 0) (dy.W)), (h, oS o (cy.mo) (cy.co) (cy.le)), (o, oQ (cs 1) 8 r), ((r 0), iB (cs 0) 8 (cl8 K 0)), ((r 1), iB (cs 0) 8 (cl8 K 1)), ((r 2), iB (cs 0) 8 (cl8 K 2)), ((r 3), iB (cs 0) 8 (cl8 K 3)), ((r 4), iB (cs 0) 8 (cl8 K 4)), ((r 5), iB (cs 0) 8 (cl8 K 5)), ((r 6), iB (cs 0) 8 (cl8 K 6)), ((r 7), iB (cs 0) 8 (cl8 K 7)), (q5, oQ (cs 1) 64 r5), (q6, iB (cs 0) 7 R6), (q7, iB (cs 0) 64 R7)]) (r := r5) (F := F) hx hb hK hP 0 rfl (i := i) (w := 3) (hi) (by decide) dL_law_719 ?_
              refine tpi (x' := b2i (byB k i || opn k i)) (o3) ?_
              refine lv_aload hx hb dL_law_720 (lv_at hl 10 rfl) ?_
              refine lv_iload hx hb dL_law_722 (lv_at hl 2 rfl) ?_
              refine tpi (x' := nI to) (rfl) ?_
              refine g_ald (r := r5) (n := 64) hx hb hK hP 33 1 rfl rfl (x := to) (hto) (by decide) dL_law_724 ?_
              refine lv_iconst (v := 3) hx hb dL_law_725 (by decide) ?_
              refine tpi (x' := nI 3) (rfl) ?_
              refine l_iald (X := [(hc, oX a t), ((a 0), oC a (cy.mo) (cy.co) (cy.le)), ((a 3), iA (cs 0) (cy.K)), ((a 4), iA (cs 0) (cy.Q)), ((a 5), iA (cs 0) (cy.L)), ((a 6), iA (cs 0) (cy.H)), ((a 7), iA (cs 0) (cy.M)), ((a 8), iA (cs 0) (cy.B)), ((a 9), iA (cs 0) (cy.C)), ((a 10), iA (cs 0) (cy.D)), ((a 11), iA (cs 0) (cy.F)), ((a 12), iA (cs 0) (cy.W)), ((t 0), oC t (dy.mo) (dy.co) (dy.le)), ((t 3), iA (cs 0) (dy.K)), ((t 4), iA (cs 0) (dy.Q)), ((t 5), iA (cs 0) (dy.L)), ((t 6), iA (cs 0) (dy.H)), ((t 7), iA (cs 0) (dy.M)), ((t 8), iA (cs 0) (dy.B)), ((t 9), iA (cs 0) (dy.C)), ((t 10), iA (cs 0) (dy.D)), ((t 11), iA (cs 0) (dy.F)), ((t 12), iA (cs 0) (dy.W)), (h, oS o (cy.mo) (cy.co) (cy.le)), (o, oQ (cs 1) 8 r), ((r 0), iB (cs 0) 8 (cl8 K 0)), ((r 1), iB (cs 0) 8 (cl8 K 1)), ((r 2), iB (cs 0) 8 (cl8 K 2)), ((r 3), iB (cs 0) 8 (cl8 K 3)), ((r 4), iB (cs 0) 8 (cl8 K 4)), ((r 5), iB (cs 0) 8 (cl8 K 5)), ((r 6), iB (cs 0) 8 (cl8 K 6)), ((r 7), iB (cs 0) 8 (cl8 K 7)), (q5, oQ (cs 1) 64 r5), (q6, iB (cs 0) 7 R6), (q7, iB (cs 0) 64 R7)]) (r := r5) (F := F) hx hb hK hP 0 rfl (i := to) (w := 3) (hto) (by decide) dL_law_726 ?_
              refine tpi (x' := b2i (byB k to || opn k to)) (p3) ?_
              refine lv_icmp_ne (tgt := 750) hx hb dL_law_727 (by decide) (fun c => absurd (by rw [wt_by hwi, wt_by hwto, nb_opn hi hadj hwi hwto]) c) (fun _ => ?_)
              refine lv_aload_n hx hb dL_law_730 rfl (lv_at hl 14 rfl) ?_
              refine lv_iload hx hb dL_law_731 (lv_at hl 4 rfl) ?_
              refine cr_i (va_runV (As := [.int (nI i)]) (rest := []) FX (c_X1_sail_ok l G (cs 0) hc a t cy.mo cy.co cy.le cy.K cy.Q cy.L cy.H cy.M cy.B cy.C cy.D cy.F cy.W k (nI i) hk hS0 (inB_063 hi) (by rw [nI_cl hi]; exact hwi)) (cwV 1 hts gL_law_X1_sail rfl rfl rfl (by decide +kernel) ⟨Nat.le_of_ble_eq_true rfl, Nat.le_of_ble_eq_true rfl⟩) (rdV hKI hP hNI [0, 1, 2, 3, 4, 5, 6, 7, 8, 9, 10, 11] rfl (ci := 1) (q0 := 0) rfl rfl) rfl rfl hl.1 rfl (lv_room (Nat.le_of_ble_eq_true rfl)) dL_law_733 ⟨hzc, hzs⟩) hS hP (fun H locs hP hS => ?_)
              refine tpi (x' := toI (dst (PB false k) 3 i)) (by rw [nI_cl hi]) ?_
              refine lv_aload_n hx hb dL_law_736 rfl (lv_at hl 14 rfl) ?_
              refine lv_iload hx hb dL_law_737 (lv_at hl 2 rfl) ?_
              refine cr_i (va_runV (As := [.int (nI to)]) (rest := [.int (toI (dst (PB false k) 3 i))]) FX (c_X1_sail_ok l G (cs 0) hc a t cy.mo cy.co cy.le cy.K cy.Q cy.L cy.H cy.M cy.B cy.C cy.D cy.F cy.W k (nI to) hk hS0 (inB_063 hto) (by rw [nI_cl hto]; exact hwto)) (cwV 1 hts gL_law_X1_sail rfl rfl rfl (by decide +kernel) ⟨Nat.le_of_ble_eq_true rfl, Nat.le_of_ble_eq_true rfl⟩) (rdV hKI hP hNI [0, 1, 2, 3, 4, 5, 6, 7, 8, 9, 10, 11] rfl (ci := 1) (q0 := 0) rfl rfl) rfl rfl hl.1 rfl (lv_room (Nat.le_of_ble_eq_true rfl)) dL_law_739 ⟨hzc, hzs⟩) hS hP (fun H locs hP hS => ?_)
              refine tpi (x' := toI (dst (PB false k) 3 to)) (by rw [nI_cl hto]) ?_
              refine lv_isub hx hb dL_law_742 ?_
              refine va_mabs hx hb (hml.trans hl.1.symm) hown (hts (.methodLink RL 93 Lib.Math.abs.name) (by decide +kernel)) (hts (.static Lib.Math.abs.name) (by decide +kernel)) (hts (.initialized "java/lang/Math") (by decide +kernel)) (hts (.code Lib.Math.abs.name Lib.Math.abs.code 1 (some .int)) (by decide +kernel)) (Nat.le_of_ble_eq_true rfl) (Nat.le_of_ble_eq_true rfl) (by omega) (by omega) dL_law_743 ?_
              refine lv_iconst (v := 1) hx hb dL_law_746 (by decide) ?_
              refine lv_icmp_le (tgt := 752) hx hb dL_law_747 (by decide) (fun _ => ?_) (fun c => absurd (nb_abs hi hadj hwi hwto) c)
              refine lv_iload hx hb dL_law_752 (lv_at hl 1 rfl) ?_
              refine lv_if_eq (tgt := 797) hx hb dL_law_754 (by decide) (fun c => absurd c (by decide)) (fun _ => ?_)
              refine lv_iload hx hb dL_law_757 (lv_at hl 0 rfl) ?_
              refine lv_if_ne (tgt := 797) hx hb dL_law_759 (by decide) (fun _ => ?_) (fun c => absurd c (by decide))
              exact kk cy _ _ _ (hg) hP hD hS (lv_sub hl [3, 4, 5, 6, 7, 8, 9, 10, 11, 12, 13, 14, 15] rfl)
          · skip
            rcases hlto : lnd (k to) with _ | _
            · skip
              refine lv_aload hx hb dL_law_650 (lv_at hl 10 rfl) ?_
              refine lv_iload hx hb dL_law_652 (lv_at hl 4 rfl) ?_
              refine tpi (x' := nI i) (rfl) ?_
              refine g_ald (r := r5) (n := 64) hx hb hK hP 33 1 rfl rfl (x := i) (hi) (by decide) dL_law_654 ?_
              refine lv_iconst (v := 0) hx hb dL_law_655 (by decide) ?_
              refine tpi (x' := nI 0) (rfl) ?_
              refine l_iald (X := [(hc, oX a t), ((a 0), oC a (cy.mo) (cy.co) (cy.le)), ((a 3), iA (cs 0) (cy.K)), ((a 4), iA (cs 0) (cy.Q)), ((a 5), iA (cs 0) (cy.L)), ((a 6), iA (cs 0) (cy.H)), ((a 7), iA (cs 0) (cy.M)), ((a 8), iA (cs 0) (cy.B)), ((a 9), iA (cs 0) (cy.C)), ((a 10), iA (cs 0) (cy.D)), ((a 11), iA (cs 0) (cy.F)), ((a 12), iA (cs 0) (cy.W)), ((t 0), oC t (dy.mo) (dy.co) (dy.le)), ((t 3), iA (cs 0) (dy.K)), ((t 4), iA (cs 0) (dy.Q)), ((t 5), iA (cs 0) (dy.L)), ((t 6), iA (cs 0) (dy.H)), ((t 7), iA (cs 0) (dy.M)), ((t 8), iA (cs 0) (dy.B)), ((t 9), iA (cs 0) (dy.C)), ((t 10), iA (cs 0) (dy.D)), ((t 11), iA (cs 0) (dy.F)), ((t 12), iA (cs 0) (dy.W)), (h, oS o (cy.mo) (cy.co) (cy.le)), (o, oQ (cs 1) 8 r), ((r 0), iB (cs 0) 8 (cl8 K 0)), ((r 1), iB (cs 0) 8 (cl8 K 1)), ((r 2), iB (cs 0) 8 (cl8 K 2)), ((r 3), iB (cs 0) 8 (cl8 K 3)), ((r 4), iB (cs 0) 8 (cl8 K 4)), ((r 5), iB (cs 0) 8 (cl8 K 5)), ((r 6), iB (cs 0) 8 (cl8 K 6)), ((r 7), iB (cs 0) 8 (cl8 K 7)), (q5, oQ (cs 1) 64 r5), (q6, iB (cs 0) 7 R6), (q7, iB (cs 0) 64 R7)]) (r := r5) (F := F) hx hb hK hP 0 rfl (i := i) (w := 0) (hi) (by decide) dL_law_656 ?_
              refine tpi (x' := k i) (o0) ?_
              refine lv_iconst (v := 1) hx hb dL_law_657 (by decide) ?_
              refine lv_icmp_le (tgt := 703) hx hb dL_law_658 (by decide) (fun c => absurd c ((lnd_2 hli).2.1)) (fun _ => ?_)
              refine lv_aload hx hb dL_law_661 (lv_at hl 10 rfl) ?_
              refine lv_iload hx hb dL_law_663 (lv_at hl 2 rfl) ?_
              refine tpi (x' := nI to) (rfl) ?_
              refine g_ald (r := r5) (n := 64) hx hb hK hP 33 1 rfl rfl (x := to) (hto) (by decide) dL_law_665 ?_
              refine lv_iconst (v := 0) hx hb dL_law_666 (by decide) ?_
              refine tpi (x' := nI 0) (rfl) ?_
              refine l_iald (X := [(hc, oX a t), ((a 0), oC a (cy.mo) (cy.co) (cy.le)), ((a 3), iA (cs 0) (cy.K)), ((a 4), iA (cs 0) (cy.Q)), ((a 5), iA (cs 0) (cy.L)), ((a 6), iA (cs 0) (cy.H)), ((a 7), iA (cs 0) (cy.M)), ((a 8), iA (cs 0) (cy.B)), ((a 9), iA (cs 0) (cy.C)), ((a 10), iA (cs 0) (cy.D)), ((a 11), iA (cs 0) (cy.F)), ((a 12), iA (cs 0) (cy.W)), ((t 0), oC t (dy.mo) (dy.co) (dy.le)), ((t 3), iA (cs 0) (dy.K)), ((t 4), iA (cs 0) (dy.Q)), ((t 5), iA (cs 0) (dy.L)), ((t 6), iA (cs 0) (dy.H)), ((t 7), iA (cs 0) (dy.M)), ((t 8), iA (cs 0) (dy.B)), ((t 9), iA (cs 0) (dy.C)), ((t 10), iA (cs 0) (dy.D)), ((t 11), iA (cs 0) (dy.F)), ((t 12), iA (cs 0) (dy.W)), (h, oS o (cy.mo) (cy.co) (cy.le)), (o, oQ (cs 1) 8 r), ((r 0), iB (cs 0) 8 (cl8 K 0)), ((r 1), iB (cs 0) 8 (cl8 K 1)), ((r 2), iB (cs 0) 8 (cl8 K 2)), ((r 3), iB (cs 0) 8 (cl8 K 3)), ((r 4), iB (cs 0) 8 (cl8 K 4)), ((r 5), iB (cs 0) 8 (cl8 K 5)), ((r 6), iB (cs 0) 8 (cl8 K 6)), ((r 7), iB (cs 0) 8 (cl8 K 7)), (q5, oQ (cs 1) 64 r5), (q6, iB (cs 0) 7 R6), (q7, iB (cs 0) 64 R7)]) (r := r5) (F := F) hx hb hK hP 0 rfl (i := to) (w := 0) (hto) (by decide) dL_law_667 ?_
              refine tpi (x' := k to) (p0) ?_
              refine lv_iconst (v := 1) hx hb dL_law_668 (by decide) ?_
              refine lv_icmp_le (tgt := 703) hx hb dL_law_669 (by decide) (fun _ => ?_) (fun c => absurd ((lnd_no (hkd to hto) hlto).1) c)
              refine lv_iload hx hb dL_law_703 (lv_at hl 1 rfl) ?_
              refine lv_if_eq (tgt := 752) hx hb dL_law_705 (by decide) (fun c => absurd c (by decide)) (fun _ => ?_)
              refine lv_iload hx hb dL_law_708 (lv_at hl 0 rfl) ?_
              refine lv_if_eq (tgt := 752) hx hb dL_law_710 (by decide) (fun c => absurd c (by decide)) (fun _ => ?_)
              refine lv_aload hx hb dL_law_713 (lv_at hl 10 rfl) ?_
              refine lv_iload hx hb dL_law_715 (lv_at hl 4 rfl) ?_
              refine tpi (x' := nI i) (rfl) ?_
              refine g_ald (r := r5) (n := 64) hx hb hK hP 33 1 rfl rfl (x := i) (hi) (by decide) dL_law_717 ?_
              refine lv_iconst (v := 3) hx hb dL_law_718 (by decide) ?_
              refine tpi (x' := nI 3) (rfl) ?_
              refine l_iald (X := [(hc, oX a t), ((a 0), oC a (cy.mo) (cy.co) (cy.le)), ((a 3), iA (cs 0) (cy.K)), ((a 4), iA (cs 0) (cy.Q)), ((a 5), iA (cs 0) (cy.L)), ((a 6), iA (cs 0) (cy.H)), ((a 7), iA (cs 0) (cy.M)), ((a 8), iA (cs 0) (cy.B)), ((a 9), iA (cs 0) (cy.C)), ((a 10), iA (cs 0) (cy.D)), ((a 11), iA (cs 0) (cy.F)), ((a 12), iA (cs 0) (cy.W)), ((t 0), oC t (dy.mo) (dy.co) (dy.le)), ((t 3), iA (cs 0) (dy.K)), ((t 4), iA (cs 0) (dy.Q)), ((t 5), iA (cs 0) (dy.L)), ((t 6), iA (cs 0) (dy.H)), ((t 7), iA (cs 0) (dy.M)), ((t 8), iA (cs 0) (dy.B)), ((t 9), iA (cs 0) (dy.C)), ((t 10), iA (cs 0) (dy.D)), ((t 11), iA (cs 0) (dy.F)), ((t 12), iA (cs 0) (dy.W)), (h, oS o (cy.mo) (cy.co) (cy.le)), (o, oQ (cs 1) 8 r), ((r 0), iB (cs 0) 8 (cl8 K 0)), ((r 1), iB (cs 0) 8 (cl8 K 1)), ((r 2), iB (cs 0) 8 (cl8 K 2)), ((r 3), iB (cs 0) 8 (cl8 K 3)), ((r 4), iB (cs 0) 8 (cl8 K 4)), ((r 5), iB (cs 0) 8 (cl8 K 5)), ((r 6), iB (cs 0) 8 (cl8 K 6)), ((r 7), iB (cs 0) 8 (cl8 K 7)), (q5, oQ (cs 1) 64 r5), (q6, iB (cs 0) 7 R6), (q7, iB (cs 0) 64 R7)]) (r := r5) (F := F) hx hb hK hP 0 rfl (i := i) (w := 3) (hi) (by decide) dL_law_719 ?_
              refine tpi (x' := b2i (byB k i || opn k i)) (o3) ?_
              refine lv_aload hx hb dL_law_720 (lv_at hl 10 rfl) ?_
              refine lv_iload hx hb dL_law_722 (lv_at hl 2 rfl) ?_
              refine tpi (x' := nI to) (rfl) ?_
              refine g_ald (r := r5) (n := 64) hx hb hK hP 33 1 rfl rfl (x := to) (hto) (by decide) dL_law_724 ?_
              refine lv_iconst (v := 3) hx hb dL_law_725 (by decide) ?_
              refine tpi (x' := nI 3) (rfl) ?_
              refine l_iald (X := [(hc, oX a t), ((a 0), oC a (cy.mo) (cy.co) (cy.le)), ((a 3), iA (cs 0) (cy.K)), ((a 4), iA (cs 0) (cy.Q)), ((a 5), iA (cs 0) (cy.L)), ((a 6), iA (cs 0) (cy.H)), ((a 7), iA (cs 0) (cy.M)), ((a 8), iA (cs 0) (cy.B)), ((a 9), iA (cs 0) (cy.C)), ((a 10), iA (cs 0) (cy.D)), ((a 11), iA (cs 0) (cy.F)), ((a 12), iA (cs 0) (cy.W)), ((t 0), oC t (dy.mo) (dy.co) (dy.le)), ((t 3), iA (cs 0) (dy.K)), ((t 4), iA (cs 0) (dy.Q)), ((t 5), iA (cs 0) (dy.L)), ((t 6), iA (cs 0) (dy.H)), ((t 7), iA (cs 0) (dy.M)), ((t 8), iA (cs 0) (dy.B)), ((t 9), iA (cs 0) (dy.C)), ((t 10), iA (cs 0) (dy.D)), ((t 11), iA (cs 0) (dy.F)), ((t 12), iA (cs 0) (dy.W)), (h, oS o (cy.mo) (cy.co) (cy.le)), (o, oQ (cs 1) 8 r), ((r 0), iB (cs 0) 8 (cl8 K 0)), ((r 1), iB (cs 0) 8 (cl8 K 1)), ((r 2), iB (cs 0) 8 (cl8 K 2)), ((r 3), iB (cs 0) 8 (cl8 K 3)), ((r 4), iB (cs 0) 8 (cl8 K 4)), ((r 5), iB (cs 0) 8 (cl8 K 5)), ((r 6), iB (cs 0) 8 (cl8 K 6)), ((r 7), iB (cs 0) 8 (cl8 K 7)), (q5, oQ (cs 1) 64 r5), (q6, iB (cs 0) 7 R6), (q7, iB (cs 0) 64 R7)]) (r := r5) (F := F) hx hb hK hP 0 rfl (i := to) (w := 3) (hto) (by decide) dL_law_726 ?_
              refine tpi (x' := b2i (byB k to || opn k to)) (p3) ?_
              refine lv_icmp_ne (tgt := 750) hx hb dL_law_727 (by decide) (fun c => absurd (by rw [wt_by hwi, wt_by hwto, nb_opn hi hadj hwi hwto]) c) (fun _ => ?_)
              refine lv_aload_n hx hb dL_law_730 rfl (lv_at hl 14 rfl) ?_
              refine lv_iload hx hb dL_law_731 (lv_at hl 4 rfl) ?_
              refine cr_i (va_runV (As := [.int (nI i)]) (rest := []) FX (c_X1_sail_ok l G (cs 0) hc a t cy.mo cy.co cy.le cy.K cy.Q cy.L cy.H cy.M cy.B cy.C cy.D cy.F cy.W k (nI i) hk hS0 (inB_063 hi) (by rw [nI_cl hi]; exact hwi)) (cwV 1 hts gL_law_X1_sail rfl rfl rfl (by decide +kernel) ⟨Nat.le_of_ble_eq_true rfl, Nat.le_of_ble_eq_true rfl⟩) (rdV hKI hP hNI [0, 1, 2, 3, 4, 5, 6, 7, 8, 9, 10, 11] rfl (ci := 1) (q0 := 0) rfl rfl) rfl rfl hl.1 rfl (lv_room (Nat.le_of_ble_eq_true rfl)) dL_law_733 ⟨hzc, hzs⟩) hS hP (fun H locs hP hS => ?_)
              refine tpi (x' := toI (dst (PB false k) 3 i)) (by rw [nI_cl hi]) ?_
              refine lv_aload_n hx hb dL_law_736 rfl (lv_at hl 14 rfl) ?_
              refine lv_iload hx hb dL_law_737 (lv_at hl 2 rfl) ?_
              refine cr_i (va_runV (As := [.int (nI to)]) (rest := [.int (toI (dst (PB false k) 3 i))]) FX (c_X1_sail_ok l G (cs 0) hc a t cy.mo cy.co cy.le cy.K cy.Q cy.L cy.H cy.M cy.B cy.C cy.D cy.F cy.W k (nI to) hk hS0 (inB_063 hto) (by rw [nI_cl hto]; exact hwto)) (cwV 1 hts gL_law_X1_sail rfl rfl rfl (by decide +kernel) ⟨Nat.le_of_ble_eq_true rfl, Nat.le_of_ble_eq_true rfl⟩) (rdV hKI hP hNI [0, 1, 2, 3, 4, 5, 6, 7, 8, 9, 10, 11] rfl (ci := 1) (q0 := 0) rfl rfl) rfl rfl hl.1 rfl (lv_room (Nat.le_of_ble_eq_true rfl)) dL_law_739 ⟨hzc, hzs⟩) hS hP (fun H locs hP hS => ?_)
              refine tpi (x' := toI (dst (PB false k) 3 to)) (by rw [nI_cl hto]) ?_
              refine lv_isub hx hb dL_law_742 ?_
              refine va_mabs hx hb (hml.trans hl.1.symm) hown (hts (.methodLink RL 93 Lib.Math.abs.name) (by decide +kernel)) (hts (.static Lib.Math.abs.name) (by decide +kernel)) (hts (.initialized "java/lang/Math") (by decide +kernel)) (hts (.code Lib.Math.abs.name Lib.Math.abs.code 1 (some .int)) (by decide +kernel)) (Nat.le_of_ble_eq_true rfl) (Nat.le_of_ble_eq_true rfl) (by omega) (by omega) dL_law_743 ?_
              refine lv_iconst (v := 1) hx hb dL_law_746 (by decide) ?_
              refine lv_icmp_le (tgt := 752) hx hb dL_law_747 (by decide) (fun _ => ?_) (fun c => absurd (nb_abs hi hadj hwi hwto) c)
              refine lv_iload hx hb dL_law_752 (lv_at hl 1 rfl) ?_
              refine lv_if_eq (tgt := 797) hx hb dL_law_754 (by decide) (fun c => absurd c (by decide)) (fun _ => ?_)
              refine lv_iload hx hb dL_law_757 (lv_at hl 0 rfl) ?_
              refine lv_if_ne (tgt := 797) hx hb dL_law_759 (by decide) (fun _ => ?_) (fun c => absurd c (by decide))
              exact kk cy _ _ _ (hg) hP hD hS (lv_sub hl [3, 4, 5, 6, 7, 8, 9, 10, 11, 12, 13, 14, 15] rfl)
            · skip
              refine lv_aload hx hb dL_law_650 (lv_at hl 10 rfl) ?_
              refine lv_iload hx hb dL_law_652 (lv_at hl 4 rfl) ?_
              refine tpi (x' := nI i) (rfl) ?_
              refine g_ald (r := r5) (n := 64) hx hb hK hP 33 1 rfl rfl (x := i) (hi) (by decide) dL_law_654 ?_
              refine lv_iconst (v := 0) hx hb dL_law_655 (by decide) ?_
              refine tpi (x' := nI 0) (rfl) ?_
              refine l_iald (X := [(hc, oX a t), ((a 0), oC a (cy.mo) (cy.co) (cy.le)), ((a 3), iA (cs 0) (cy.K)), ((a 4), iA (cs 0) (cy.Q)), ((a 5), iA (cs 0) (cy.L)), ((a 6), iA (cs 0) (cy.H)), ((a 7), iA (cs 0) (cy.M)), ((a 8), iA (cs 0) (cy.B)), ((a 9), iA (cs 0) (cy.C)), ((a 10), iA (cs 0) (cy.D)), ((a 11), iA (cs 0) (cy.F)), ((a 12), iA (cs 0) (cy.W)), ((t 0), oC t (dy.mo) (dy.co) (dy.le)), ((t 3), iA (cs 0) (dy.K)), ((t 4), iA (cs 0) (dy.Q)), ((t 5), iA (cs 0) (dy.L)), ((t 6), iA (cs 0) (dy.H)), ((t 7), iA (cs 0) (dy.M)), ((t 8), iA (cs 0) (dy.B)), ((t 9), iA (cs 0) (dy.C)), ((t 10), iA (cs 0) (dy.D)), ((t 11), iA (cs 0) (dy.F)), ((t 12), iA (cs 0) (dy.W)), (h, oS o (cy.mo) (cy.co) (cy.le)), (o, oQ (cs 1) 8 r), ((r 0), iB (cs 0) 8 (cl8 K 0)), ((r 1), iB (cs 0) 8 (cl8 K 1)), ((r 2), iB (cs 0) 8 (cl8 K 2)), ((r 3), iB (cs 0) 8 (cl8 K 3)), ((r 4), iB (cs 0) 8 (cl8 K 4)), ((r 5), iB (cs 0) 8 (cl8 K 5)), ((r 6), iB (cs 0) 8 (cl8 K 6)), ((r 7), iB (cs 0) 8 (cl8 K 7)), (q5, oQ (cs 1) 64 r5), (q6, iB (cs 0) 7 R6), (q7, iB (cs 0) 64 R7)]) (r := r5) (F := F) hx hb hK hP 0 rfl (i := i) (w := 0) (hi) (by decide) dL_law_656 ?_
              refine tpi (x' := k i) (o0) ?_
              refine lv_iconst (v := 1) hx hb dL_law_657 (by decide) ?_
              refine lv_icmp_le (tgt := 703) hx hb dL_law_658 (by decide) (fun c => absurd c ((lnd_2 hli).2.1)) (fun _ => ?_)
              refine lv_aload hx hb dL_law_661 (lv_at hl 10 rfl) ?_
              refine lv_iload hx hb dL_law_663 (lv_at hl 2 rfl) ?_
              refine tpi (x' := nI to) (rfl) ?_
              refine g_ald (r := r5) (n := 64) hx hb hK hP 33 1 rfl rfl (x := to) (hto) (by decide) dL_law_665 ?_
              refine lv_iconst (v := 0) hx hb dL_law_666 (by decide) ?_
              refine tpi (x' := nI 0) (rfl) ?_
              refine l_iald (X := [(hc, oX a t), ((a 0), oC a (cy.mo) (cy.co) (cy.le)), ((a 3), iA (cs 0) (cy.K)), ((a 4), iA (cs 0) (cy.Q)), ((a 5), iA (cs 0) (cy.L)), ((a 6), iA (cs 0) (cy.H)), ((a 7), iA (cs 0) (cy.M)), ((a 8), iA (cs 0) (cy.B)), ((a 9), iA (cs 0) (cy.C)), ((a 10), iA (cs 0) (cy.D)), ((a 11), iA (cs 0) (cy.F)), ((a 12), iA (cs 0) (cy.W)), ((t 0), oC t (dy.mo) (dy.co) (dy.le)), ((t 3), iA (cs 0) (dy.K)), ((t 4), iA (cs 0) (dy.Q)), ((t 5), iA (cs 0) (dy.L)), ((t 6), iA (cs 0) (dy.H)), ((t 7), iA (cs 0) (dy.M)), ((t 8), iA (cs 0) (dy.B)), ((t 9), iA (cs 0) (dy.C)), ((t 10), iA (cs 0) (dy.D)), ((t 11), iA (cs 0) (dy.F)), ((t 12), iA (cs 0) (dy.W)), (h, oS o (cy.mo) (cy.co) (cy.le)), (o, oQ (cs 1) 8 r), ((r 0), iB (cs 0) 8 (cl8 K 0)), ((r 1), iB (cs 0) 8 (cl8 K 1)), ((r 2), iB (cs 0) 8 (cl8 K 2)), ((r 3), iB (cs 0) 8 (cl8 K 3)), ((r 4), iB (cs 0) 8 (cl8 K 4)), ((r 5), iB (cs 0) 8 (cl8 K 5)), ((r 6), iB (cs 0) 8 (cl8 K 6)), ((r 7), iB (cs 0) 8 (cl8 K 7)), (q5, oQ (cs 1) 64 r5), (q6, iB (cs 0) 7 R6), (q7, iB (cs 0) 64 R7)]) (r := r5) (F := F) hx hb hK hP 0 rfl (i := to) (w := 0) (hto) (by decide) dL_law_667 ?_
              refine tpi (x' := k to) (p0) ?_
              refine lv_iconst (v := 1) hx hb dL_law_668 (by decide) ?_
              refine lv_icmp_le (tgt := 703) hx hb dL_law_669 (by decide) (fun c => absurd c ((lnd_2 hlto).2.1)) (fun _ => ?_)
              refine lv_aload hx hb dL_law_672 (lv_at hl 10 rfl) ?_
              refine lv_iload hx hb dL_law_674 (lv_at hl 4 rfl) ?_
              refine tpi (x' := nI i) (rfl) ?_
              refine g_ald (r := r5) (n := 64) hx hb hK hP 33 1 rfl rfl (x := i) (hi) (by decide) dL_law_676 ?_
              refine lv_iconst (v := 1) hx hb dL_law_677 (by decide) ?_
              refine tpi (x' := nI 1) (rfl) ?_
              refine l_iald (X := [(hc, oX a t), ((a 0), oC a (cy.mo) (cy.co) (cy.le)), ((a 3), iA (cs 0) (cy.K)), ((a 4), iA (cs 0) (cy.Q)), ((a 5), iA (cs 0) (cy.L)), ((a 6), iA (cs 0) (cy.H)), ((a 7), iA (cs 0) (cy.M)), ((a 8), iA (cs 0) (cy.B)), ((a 9), iA (cs 0) (cy.C)), ((a 10), iA (cs 0) (cy.D)), ((a 11), iA (cs 0) (cy.F)), ((a 12), iA (cs 0) (cy.W)), ((t 0), oC t (dy.mo) (dy.co) (dy.le)), ((t 3), iA (cs 0) (dy.K)), ((t 4), iA (cs 0) (dy.Q)), ((t 5), iA (cs 0) (dy.L)), ((t 6), iA (cs 0) (dy.H)), ((t 7), iA (cs 0) (dy.M)), ((t 8), iA (cs 0) (dy.B)), ((t 9), iA (cs 0) (dy.C)), ((t 10), iA (cs 0) (dy.D)), ((t 11), iA (cs 0) (dy.F)), ((t 12), iA (cs 0) (dy.W)), (h, oS o (cy.mo) (cy.co) (cy.le)), (o, oQ (cs 1) 8 r), ((r 0), iB (cs 0) 8 (cl8 K 0)), ((r 1), iB (cs 0) 8 (cl8 K 1)), ((r 2), iB (cs 0) 8 (cl8 K 2)), ((r 3), iB (cs 0) 8 (cl8 K 3)), ((r 4), iB (cs 0) 8 (cl8 K 4)), ((r 5), iB (cs 0) 8 (cl8 K 5)), ((r 6), iB (cs 0) 8 (cl8 K 6)), ((r 7), iB (cs 0) 8 (cl8 K 7)), (q5, oQ (cs 1) 64 r5), (q6, iB (cs 0) 7 R6), (q7, iB (cs 0) 64 R7)]) (r := r5) (F := F) hx hb hK hP 0 rfl (i := i) (w := 1) (hi) (by decide) dL_law_678 ?_
              refine tpi (x' := toI (qrt k i)) (o1) ?_
              refine lv_aload hx hb dL_law_679 (lv_at hl 10 rfl) ?_
              refine lv_iload hx hb dL_law_681 (lv_at hl 2 rfl) ?_
              refine tpi (x' := nI to) (rfl) ?_
              refine g_ald (r := r5) (n := 64) hx hb hK hP 33 1 rfl rfl (x := to) (hto) (by decide) dL_law_683 ?_
              refine lv_iconst (v := 1) hx hb dL_law_684 (by decide) ?_
              refine tpi (x' := nI 1) (rfl) ?_
              refine l_iald (X := [(hc, oX a t), ((a 0), oC a (cy.mo) (cy.co) (cy.le)), ((a 3), iA (cs 0) (cy.K)), ((a 4), iA (cs 0) (cy.Q)), ((a 5), iA (cs 0) (cy.L)), ((a 6), iA (cs 0) (cy.H)), ((a 7), iA (cs 0) (cy.M)), ((a 8), iA (cs 0) (cy.B)), ((a 9), iA (cs 0) (cy.C)), ((a 10), iA (cs 0) (cy.D)), ((a 11), iA (cs 0) (cy.F)), ((a 12), iA (cs 0) (cy.W)), ((t 0), oC t (dy.mo) (dy.co) (dy.le)), ((t 3), iA (cs 0) (dy.K)), ((t 4), iA (cs 0) (dy.Q)), ((t 5), iA (cs 0) (dy.L)), ((t 6), iA (cs 0) (dy.H)), ((t 7), iA (cs 0) (dy.M)), ((t 8), iA (cs 0) (dy.B)), ((t 9), iA (cs 0) (dy.C)), ((t 10), iA (cs 0) (dy.D)), ((t 11), iA (cs 0) (dy.F)), ((t 12), iA (cs 0) (dy.W)), (h, oS o (cy.mo) (cy.co) (cy.le)), (o, oQ (cs 1) 8 r), ((r 0), iB (cs 0) 8 (cl8 K 0)), ((r 1), iB (cs 0) 8 (cl8 K 1)), ((r 2), iB (cs 0) 8 (cl8 K 2)), ((r 3), iB (cs 0) 8 (cl8 K 3)), ((r 4), iB (cs 0) 8 (cl8 K 4)), ((r 5), iB (cs 0) 8 (cl8 K 5)), ((r 6), iB (cs 0) 8 (cl8 K 6)), ((r 7), iB (cs 0) 8 (cl8 K 7)), (q5, oQ (cs 1) 64 r5), (q6, iB (cs 0) 7 R6), (q7, iB (cs 0) 64 R7)]) (r := r5) (F := F) hx hb hK hP 0 rfl (i := to) (w := 1) (hto) (by decide) dL_law_685 ?_
              refine tpi (x' := toI (qrt k to)) (p1) ?_
              refine lv_icmp_ne (tgt := 701) hx hb dL_law_686 (by decide) (fun c => absurd (congrArg toI (nb_q hi hadj hli hlto)) c) (fun _ => ?_)
              refine lv_aload_n hx hb dL_law_689 rfl (lv_at hl 14 rfl) ?_
              refine lv_iload hx hb dL_law_690 (lv_at hl 4 rfl) ?_
              refine lv_iload hx hb dL_law_692 (lv_at hl 2 rfl) ?_
              refine cq_i (X := [(hc, oX a t), ((a 0), oC a (cy.mo) (cy.co) (cy.le)), ((a 3), iA (cs 0) (cy.K)), ((a 4), iA (cs 0) (cy.Q)), ((a 5), iA (cs 0) (cy.L)), ((a 6), iA (cs 0) (cy.H)), ((a 7), iA (cs 0) (cy.M)), ((a 8), iA (cs 0) (cy.B)), ((a 9), iA (cs 0) (cy.C)), ((a 10), iA (cs 0) (cy.D)), ((a 11), iA (cs 0) (cy.F)), ((a 12), iA (cs 0) (cy.W)), ((t 0), oC t (dy.mo) (dy.co) (dy.le)), ((t 3), iA (cs 0) (dy.K)), ((t 4), iA (cs 0) (dy.Q)), ((t 5), iA (cs 0) (dy.L)), ((t 6), iA (cs 0) (dy.H)), ((t 7), iA (cs 0) (dy.M)), ((t 8), iA (cs 0) (dy.B)), ((t 9), iA (cs 0) (dy.C)), ((t 10), iA (cs 0) (dy.D)), ((t 11), iA (cs 0) (dy.F)), ((t 12), iA (cs 0) (dy.W)), (h, oS o (cy.mo) (cy.co) (cy.le)), (o, oQ (cs 1) 8 r), ((r 0), iB (cs 0) 8 (cl8 K 0)), ((r 1), iB (cs 0) 8 (cl8 K 1)), ((r 2), iB (cs 0) 8 (cl8 K 2)), ((r 3), iB (cs 0) 8 (cl8 K 3)), ((r 4), iB (cs 0) 8 (cl8 K 4)), ((r 5), iB (cs 0) 8 (cl8 K 5)), ((r 6), iB (cs 0) 8 (cl8 K 6)), ((r 7), iB (cs 0) 8 (cl8 K 7)), (q5, oQ (cs 1) 64 r5), (q6, iB (cs 0) 7 R6), (q7, iB (cs 0) 64 R7)]) (pl := (lR (cs 0) r5 F)) (wr := [((t 0), oC t (dy.mo) (dy.co) (dy.le)), ((t 3), iA (cs 0) (dy.K)), ((t 4), iA (cs 0) (dy.Q)), ((t 5), iA (cs 0) (dy.L)), ((t 6), iA (cs 0) (dy.H)), ((t 7), iA (cs 0) (dy.M)), ((t 8), iA (cs 0) (dy.B)), ((t 9), iA (cs 0) (dy.C)), ((t 10), iA (cs 0) (dy.D)), ((t 11), iA (cs 0) (dy.F)), ((t 12), iA (cs 0) (dy.W)), (h, oS o (cy.mo) (cy.co) (cy.le)), (o, oQ (cs 1) 8 r), ((r 0), iB (cs 0) 8 (cl8 K 0)), ((r 1), iB (cs 0) 8 (cl8 K 1)), ((r 2), iB (cs 0) 8 (cl8 K 2)), ((r 3), iB (cs 0) 8 (cl8 K 3)), ((r 4), iB (cs 0) 8 (cl8 K 4)), ((r 5), iB (cs 0) 8 (cl8 K 5)), ((r 6), iB (cs 0) 8 (cl8 K 6)), ((r 7), iB (cs 0) 8 (cl8 K 7)), (q5, oQ (cs 1) 64 r5), (q6, iB (cs 0) 7 R6), (q7, iB (cs 0) 64 R7)]) (va_runV (As := [.int (nI i), .int (nI to)]) (rest := []) FX (c_X1_walk_ok l G (cs 0) hc a t cy.mo cy.co cy.le cy.K cy.Q cy.L cy.H cy.M cy.B cy.C cy.D cy.F cy.W k (nI i) (nI to) hk (inB_063 hi) (inB_063 hto) (by rw [nI_cl hi]; exact hli) (by rw [nI_cl hto]; exact hlto) _) (cwV 2 hts gL_law_X1_walk rfl rfl rfl (by decide +kernel) ⟨Nat.le_of_ble_eq_true rfl, Nat.le_of_ble_eq_true rfl⟩) (wrV hKI hP hD hNI [0, 1, 2, 3, 4, 5, 6, 7, 8, 9, 10, 11] (by decide) rfl rfl (ci := 1) (q0 := 0) rfl rfl) rfl rfl hl.1 rfl (lv_room (Nat.le_of_ble_eq_true rfl)) dL_law_694 ⟨hzc, hzs⟩) hS hP hD hA [0, 1, 2, 3, 4, 5, 6, 7, 8, 9, 10, 11] [12, 13, 14, 15, 16, 17, 18, 19, 20, 21, 22, 23, 24, 25, 26, 27, 28, 29, 30, 31, 32, 33, 34, 35] rfl rfl rfl (by decide) (by decide) (fun r9 u H locs hw hP hD hS => ?_)
              obtain ⟨F1, W1⟩ := u
              have hr9 := hw
              have hP : va_P G vwCl ([(hc, oX a t), ((a 0), oC a (cy.mo) (cy.co) (cy.le)), ((a 3), iA (cs 0) (cy.K)), ((a 4), iA (cs 0) (cy.Q)), ((a 5), iA (cs 0) (cy.L)), ((a 6), iA (cs 0) (cy.H)), ((a 7), iA (cs 0) (cy.M)), ((a 8), iA (cs 0) (cy.B)), ((a 9), iA (cs 0) (cy.C)), ((a 10), iA (cs 0) (cy.D)), ((a 11), iA (cs 0) F1), ((a 12), iA (cs 0) W1), ((t 0), oC t (dy.mo) (dy.co) (dy.le)), ((t 3), iA (cs 0) (dy.K)), ((t 4), iA (cs 0) (dy.Q)), ((t 5), iA (cs 0) (dy.L)), ((t 6), iA (cs 0) (dy.H)), ((t 7), iA (cs 0) (dy.M)), ((t 8), iA (cs 0) (dy.B)), ((t 9), iA (cs 0) (dy.C)), ((t 10), iA (cs 0) (dy.D)), ((t 11), iA (cs 0) (dy.F)), ((t 12), iA (cs 0) (dy.W)), (h, oS o (cy.mo) (cy.co) (cy.le)), (o, oQ (cs 1) 8 r), ((r 0), iB (cs 0) 8 (cl8 K 0)), ((r 1), iB (cs 0) 8 (cl8 K 1)), ((r 2), iB (cs 0) 8 (cl8 K 2)), ((r 3), iB (cs 0) 8 (cl8 K 3)), ((r 4), iB (cs 0) 8 (cl8 K 4)), ((r 5), iB (cs 0) 8 (cl8 K 5)), ((r 6), iB (cs 0) 8 (cl8 K 6)), ((r 7), iB (cs 0) 8 (cl8 K 7)), (q5, oQ (cs 1) 64 r5), (q6, iB (cs 0) 7 R6), (q7, iB (cs 0) 64 R7)] ++ (lR (cs 0) r5 F)) H := hP.part (cx := [(hc, oX a t), ((a 0), oC a (cy.mo) (cy.co) (cy.le)), ((a 3), iA (cs 0) (cy.K)), ((a 4), iA (cs 0) (cy.Q)), ((a 5), iA (cs 0) (cy.L)), ((a 6), iA (cs 0) (cy.H)), ((a 7), iA (cs 0) (cy.M)), ((a 8), iA (cs 0) (cy.B)), ((a 9), iA (cs 0) (cy.C)), ((a 10), iA (cs 0) (cy.D)), ((a 11), iA (cs 0) F1), ((a 12), iA (cs 0) W1), ((t 0), oC t (dy.mo) (dy.co) (dy.le)), ((t 3), iA (cs 0) (dy.K)), ((t 4), iA (cs 0) (dy.Q)), ((t 5), iA (cs 0) (dy.L)), ((t 6), iA (cs 0) (dy.H)), ((t 7), iA (cs 0) (dy.M)), ((t 8), iA (cs 0) (dy.B)), ((t 9), iA (cs 0) (dy.C)), ((t 10), iA (cs 0) (dy.D)), ((t 11), iA (cs 0) (dy.F)), ((t 12), iA (cs 0) (dy.W)), (h, oS o (cy.mo) (cy.co) (cy.le)), (o, oQ (cs 1) 8 r), ((r 0), iB (cs 0) 8 (cl8 K 0)), ((r 1), iB (cs 0) 8 (cl8 K 1)), ((r 2), iB (cs 0) 8 (cl8 K 2)), ((r 3), iB (cs 0) 8 (cl8 K 3)), ((r 4), iB (cs 0) 8 (cl8 K 4)), ((r 5), iB (cs 0) 8 (cl8 K 5)), ((r 6), iB (cs 0) 8 (cl8 K 6)), ((r 7), iB (cs 0) 8 (cl8 K 7)), (q5, oQ (cs 1) 64 r5), (q6, iB (cs 0) 7 R6), (q7, iB (cs 0) 64 R7)]) [24, 25, 26, 27, 28, 29, 30, 31, 32, 33, 34, 35, 0, 1, 2, 3, 4, 5, 6, 7, 8, 9, 10, 11, 12, 13, 14, 15, 16, 17, 18, 19, 20, 21, 22, 23] rfl
              have hD : va_D A ([(hc, oX a t), ((a 0), oC a (cy.mo) (cy.co) (cy.le)), ((a 3), iA (cs 0) (cy.K)), ((a 4), iA (cs 0) (cy.Q)), ((a 5), iA (cs 0) (cy.L)), ((a 6), iA (cs 0) (cy.H)), ((a 7), iA (cs 0) (cy.M)), ((a 8), iA (cs 0) (cy.B)), ((a 9), iA (cs 0) (cy.C)), ((a 10), iA (cs 0) (cy.D)), ((a 11), iA (cs 0) F1), ((a 12), iA (cs 0) W1), ((t 0), oC t (dy.mo) (dy.co) (dy.le)), ((t 3), iA (cs 0) (dy.K)), ((t 4), iA (cs 0) (dy.Q)), ((t 5), iA (cs 0) (dy.L)), ((t 6), iA (cs 0) (dy.H)), ((t 7), iA (cs 0) (dy.M)), ((t 8), iA (cs 0) (dy.B)), ((t 9), iA (cs 0) (dy.C)), ((t 10), iA (cs 0) (dy.D)), ((t 11), iA (cs 0) (dy.F)), ((t 12), iA (cs 0) (dy.W)), (h, oS o (cy.mo) (cy.co) (cy.le)), (o, oQ (cs 1) 8 r), ((r 0), iB (cs 0) 8 (cl8 K 0)), ((r 1), iB (cs 0) 8 (cl8 K 1)), ((r 2), iB (cs 0) 8 (cl8 K 2)), ((r 3), iB (cs 0) 8 (cl8 K 3)), ((r 4), iB (cs 0) 8 (cl8 K 4)), ((r 5), iB (cs 0) 8 (cl8 K 5)), ((r 6), iB (cs 0) 8 (cl8 K 6)), ((r 7), iB (cs 0) 8 (cl8 K 7)), (q5, oQ (cs 1) 64 r5), (q6, iB (cs 0) 7 R6), (q7, iB (cs 0) 64 R7)] ++ (lR (cs 0) r5 F)) := hD.part (cx := [(hc, oX a t), ((a 0), oC a (cy.mo) (cy.co) (cy.le)), ((a 3), iA (cs 0) (cy.K)), ((a 4), iA (cs 0) (cy.Q)), ((a 5), iA (cs 0) (cy.L)), ((a 6), iA (cs 0) (cy.H)), ((a 7), iA (cs 0) (cy.M)), ((a 8), iA (cs 0) (cy.B)), ((a 9), iA (cs 0) (cy.C)), ((a 10), iA (cs 0) (cy.D)), ((a 11), iA (cs 0) F1), ((a 12), iA (cs 0) W1), ((t 0), oC t (dy.mo) (dy.co) (dy.le)), ((t 3), iA (cs 0) (dy.K)), ((t 4), iA (cs 0) (dy.Q)), ((t 5), iA (cs 0) (dy.L)), ((t 6), iA (cs 0) (dy.H)), ((t 7), iA (cs 0) (dy.M)), ((t 8), iA (cs 0) (dy.B)), ((t 9), iA (cs 0) (dy.C)), ((t 10), iA (cs 0) (dy.D)), ((t 11), iA (cs 0) (dy.F)), ((t 12), iA (cs 0) (dy.W)), (h, oS o (cy.mo) (cy.co) (cy.le)), (o, oQ (cs 1) 8 r), ((r 0), iB (cs 0) 8 (cl8 K 0)), ((r 1), iB (cs 0) 8 (cl8 K 1)), ((r 2), iB (cs 0) 8 (cl8 K 2)), ((r 3), iB (cs 0) 8 (cl8 K 3)), ((r 4), iB (cs 0) 8 (cl8 K 4)), ((r 5), iB (cs 0) 8 (cl8 K 5)), ((r 6), iB (cs 0) 8 (cl8 K 6)), ((r 7), iB (cs 0) 8 (cl8 K 7)), (q5, oQ (cs 1) 64 r5), (q6, iB (cs 0) 7 R6), (q7, iB (cs 0) 64 R7)]) [24, 25, 26, 27, 28, 29, 30, 31, 32, 33, 34, 35, 0, 1, 2, 3, 4, 5, 6, 7, 8, 9, 10, 11, 12, 13, 14, 15, 16, 17, 18, 19, 20, 21, 22, 23] (by decide) rfl
              refine tpi (x' := 1) (hr9.trans (by rw [nI_cl hi, nI_cl hto]; exact nb_walk hadj hne hlto)) ?_
              refine lv_iconst (v := 1) hx hb dL_law_697 (by decide) ?_
              refine lv_icmp_eq (tgt := 703) hx hb dL_law_698 (by decide) (fun _ => ?_) (fun c => absurd (rfl) c)
              obtain ⟨cy2, hcy2⟩ : ∃ z : Cy, z = ⟨cy.mo, cy.co, cy.le, cy.K, cy.Q, cy.L, cy.H, cy.M, cy.B, cy.C, cy.D, F1, W1⟩ := ⟨_, rfl⟩
              have hg2 : Sd cy2 k := by rw [hcy2]; exact hg
              have hP : va_P G vwCl ([(hc, oX a t), ((a 0), oC a (cy2.mo) (cy2.co) (cy2.le)), ((a 3), iA (cs 0) (cy2.K)), ((a 4), iA (cs 0) (cy2.Q)), ((a 5), iA (cs 0) (cy2.L)), ((a 6), iA (cs 0) (cy2.H)), ((a 7), iA (cs 0) (cy2.M)), ((a 8), iA (cs 0) (cy2.B)), ((a 9), iA (cs 0) (cy2.C)), ((a 10), iA (cs 0) (cy2.D)), ((a 11), iA (cs 0) (cy2.F)), ((a 12), iA (cs 0) (cy2.W)), ((t 0), oC t (dy.mo) (dy.co) (dy.le)), ((t 3), iA (cs 0) (dy.K)), ((t 4), iA (cs 0) (dy.Q)), ((t 5), iA (cs 0) (dy.L)), ((t 6), iA (cs 0) (dy.H)), ((t 7), iA (cs 0) (dy.M)), ((t 8), iA (cs 0) (dy.B)), ((t 9), iA (cs 0) (dy.C)), ((t 10), iA (cs 0) (dy.D)), ((t 11), iA (cs 0) (dy.F)), ((t 12), iA (cs 0) (dy.W)), (h, oS o (cy2.mo) (cy2.co) (cy2.le)), (o, oQ (cs 1) 8 r), ((r 0), iB (cs 0) 8 (cl8 K 0)), ((r 1), iB (cs 0) 8 (cl8 K 1)), ((r 2), iB (cs 0) 8 (cl8 K 2)), ((r 3), iB (cs 0) 8 (cl8 K 3)), ((r 4), iB (cs 0) 8 (cl8 K 4)), ((r 5), iB (cs 0) 8 (cl8 K 5)), ((r 6), iB (cs 0) 8 (cl8 K 6)), ((r 7), iB (cs 0) 8 (cl8 K 7)), (q5, oQ (cs 1) 64 r5), (q6, iB (cs 0) 7 R6), (q7, iB (cs 0) 64 R7)] ++ (lR (cs 0) r5 F)) H := by rw [hcy2]; exact hP
              have hD : va_D A ([(hc, oX a t), ((a 0), oC a (cy2.mo) (cy2.co) (cy2.le)), ((a 3), iA (cs 0) (cy2.K)), ((a 4), iA (cs 0) (cy2.Q)), ((a 5), iA (cs 0) (cy2.L)), ((a 6), iA (cs 0) (cy2.H)), ((a 7), iA (cs 0) (cy2.M)), ((a 8), iA (cs 0) (cy2.B)), ((a 9), iA (cs 0) (cy2.C)), ((a 10), iA (cs 0) (cy2.D)), ((a 11), iA (cs 0) (cy2.F)), ((a 12), iA (cs 0) (cy2.W)), ((t 0), oC t (dy.mo) (dy.co) (dy.le)), ((t 3), iA (cs 0) (dy.K)), ((t 4), iA (cs 0) (dy.Q)), ((t 5), iA (cs 0) (dy.L)), ((t 6), iA (cs 0) (dy.H)), ((t 7), iA (cs 0) (dy.M)), ((t 8), iA (cs 0) (dy.B)), ((t 9), iA (cs 0) (dy.C)), ((t 10), iA (cs 0) (dy.D)), ((t 11), iA (cs 0) (dy.F)), ((t 12), iA (cs 0) (dy.W)), (h, oS o (cy2.mo) (cy2.co) (cy2.le)), (o, oQ (cs 1) 8 r), ((r 0), iB (cs 0) 8 (cl8 K 0)), ((r 1), iB (cs 0) 8 (cl8 K 1)), ((r 2), iB (cs 0) 8 (cl8 K 2)), ((r 3), iB (cs 0) 8 (cl8 K 3)), ((r 4), iB (cs 0) 8 (cl8 K 4)), ((r 5), iB (cs 0) 8 (cl8 K 5)), ((r 6), iB (cs 0) 8 (cl8 K 6)), ((r 7), iB (cs 0) 8 (cl8 K 7)), (q5, oQ (cs 1) 64 r5), (q6, iB (cs 0) 7 R6), (q7, iB (cs 0) 64 R7)] ++ (lR (cs 0) r5 F)) := by rw [hcy2]; exact hD
              have hk := hg2.1
              have hS0 := hg2.2.1
              refine lv_iload hx hb dL_law_703 (lv_at hl 1 rfl) ?_
              refine lv_if_eq (tgt := 752) hx hb dL_law_705 (by decide) (fun c => absurd c (by decide)) (fun _ => ?_)
              refine lv_iload hx hb dL_law_708 (lv_at hl 0 rfl) ?_
              refine lv_if_eq (tgt := 752) hx hb dL_law_710 (by decide) (fun c => absurd c (by decide)) (fun _ => ?_)
              refine lv_aload hx hb dL_law_713 (lv_at hl 10 rfl) ?_
              refine lv_iload hx hb dL_law_715 (lv_at hl 4 rfl) ?_
              refine tpi (x' := nI i) (rfl) ?_
              refine g_ald (r := r5) (n := 64) hx hb hK hP 33 1 rfl rfl (x := i) (hi) (by decide) dL_law_717 ?_
              refine lv_iconst (v := 3) hx hb dL_law_718 (by decide) ?_
              refine tpi (x' := nI 3) (rfl) ?_
              refine l_iald (X := [(hc, oX a t), ((a 0), oC a (cy2.mo) (cy2.co) (cy2.le)), ((a 3), iA (cs 0) (cy2.K)), ((a 4), iA (cs 0) (cy2.Q)), ((a 5), iA (cs 0) (cy2.L)), ((a 6), iA (cs 0) (cy2.H)), ((a 7), iA (cs 0) (cy2.M)), ((a 8), iA (cs 0) (cy2.B)), ((a 9), iA (cs 0) (cy2.C)), ((a 10), iA (cs 0) (cy2.D)), ((a 11), iA (cs 0) (cy2.F)), ((a 12), iA (cs 0) (cy2.W)), ((t 0), oC t (dy.mo) (dy.co) (dy.le)), ((t 3), iA (cs 0) (dy.K)), ((t 4), iA (cs 0) (dy.Q)), ((t 5), iA (cs 0) (dy.L)), ((t 6), iA (cs 0) (dy.H)), ((t 7), iA (cs 0) (dy.M)), ((t 8), iA (cs 0) (dy.B)), ((t 9), iA (cs 0) (dy.C)), ((t 10), iA (cs 0) (dy.D)), ((t 11), iA (cs 0) (dy.F)), ((t 12), iA (cs 0) (dy.W)), (h, oS o (cy2.mo) (cy2.co) (cy2.le)), (o, oQ (cs 1) 8 r), ((r 0), iB (cs 0) 8 (cl8 K 0)), ((r 1), iB (cs 0) 8 (cl8 K 1)), ((r 2), iB (cs 0) 8 (cl8 K 2)), ((r 3), iB (cs 0) 8 (cl8 K 3)), ((r 4), iB (cs 0) 8 (cl8 K 4)), ((r 5), iB (cs 0) 8 (cl8 K 5)), ((r 6), iB (cs 0) 8 (cl8 K 6)), ((r 7), iB (cs 0) 8 (cl8 K 7)), (q5, oQ (cs 1) 64 r5), (q6, iB (cs 0) 7 R6), (q7, iB (cs 0) 64 R7)]) (r := r5) (F := F) hx hb hK hP 0 rfl (i := i) (w := 3) (hi) (by decide) dL_law_719 ?_
              refine tpi (x' := b2i (byB k i || opn k i)) (o3) ?_
              refine lv_aload hx hb dL_law_720 (lv_at hl 10 rfl) ?_
              refine lv_iload hx hb dL_law_722 (lv_at hl 2 rfl) ?_
              refine tpi (x' := nI to) (rfl) ?_
              refine g_ald (r := r5) (n := 64) hx hb hK hP 33 1 rfl rfl (x := to) (hto) (by decide) dL_law_724 ?_
              refine lv_iconst (v := 3) hx hb dL_law_725 (by decide) ?_
              refine tpi (x' := nI 3) (rfl) ?_
              refine l_iald (X := [(hc, oX a t), ((a 0), oC a (cy2.mo) (cy2.co) (cy2.le)), ((a 3), iA (cs 0) (cy2.K)), ((a 4), iA (cs 0) (cy2.Q)), ((a 5), iA (cs 0) (cy2.L)), ((a 6), iA (cs 0) (cy2.H)), ((a 7), iA (cs 0) (cy2.M)), ((a 8), iA (cs 0) (cy2.B)), ((a 9), iA (cs 0) (cy2.C)), ((a 10), iA (cs 0) (cy2.D)), ((a 11), iA (cs 0) (cy2.F)), ((a 12), iA (cs 0) (cy2.W)), ((t 0), oC t (dy.mo) (dy.co) (dy.le)), ((t 3), iA (cs 0) (dy.K)), ((t 4), iA (cs 0) (dy.Q)), ((t 5), iA (cs 0) (dy.L)), ((t 6), iA (cs 0) (dy.H)), ((t 7), iA (cs 0) (dy.M)), ((t 8), iA (cs 0) (dy.B)), ((t 9), iA (cs 0) (dy.C)), ((t 10), iA (cs 0) (dy.D)), ((t 11), iA (cs 0) (dy.F)), ((t 12), iA (cs 0) (dy.W)), (h, oS o (cy2.mo) (cy2.co) (cy2.le)), (o, oQ (cs 1) 8 r), ((r 0), iB (cs 0) 8 (cl8 K 0)), ((r 1), iB (cs 0) 8 (cl8 K 1)), ((r 2), iB (cs 0) 8 (cl8 K 2)), ((r 3), iB (cs 0) 8 (cl8 K 3)), ((r 4), iB (cs 0) 8 (cl8 K 4)), ((r 5), iB (cs 0) 8 (cl8 K 5)), ((r 6), iB (cs 0) 8 (cl8 K 6)), ((r 7), iB (cs 0) 8 (cl8 K 7)), (q5, oQ (cs 1) 64 r5), (q6, iB (cs 0) 7 R6), (q7, iB (cs 0) 64 R7)]) (r := r5) (F := F) hx hb hK hP 0 rfl (i := to) (w := 3) (hto) (by decide) dL_law_726 ?_
              refine tpi (x' := b2i (byB k to || opn k to)) (p3) ?_
              refine lv_icmp_ne (tgt := 750) hx hb dL_law_727 (by decide) (fun c => absurd (by rw [wt_by hwi, wt_by hwto, nb_opn hi hadj hwi hwto]) c) (fun _ => ?_)
              refine lv_aload_n hx hb dL_law_730 rfl (lv_at hl 14 rfl) ?_
              refine lv_iload hx hb dL_law_731 (lv_at hl 4 rfl) ?_
              refine cr_i (va_runV (As := [.int (nI i)]) (rest := []) FX (c_X1_sail_ok l G (cs 0) hc a t cy2.mo cy2.co cy2.le cy2.K cy2.Q cy2.L cy2.H cy2.M cy2.B cy2.C cy2.D cy2.F cy2.W k (nI i) hk hS0 (inB_063 hi) (by rw [nI_cl hi]; exact hwi)) (cwV 1 hts gL_law_X1_sail rfl rfl rfl (by decide +kernel) ⟨Nat.le_of_ble_eq_true rfl, Nat.le_of_ble_eq_true rfl⟩) (rdV hKI hP hNI [0, 1, 2, 3, 4, 5, 6, 7, 8, 9, 10, 11] rfl (ci := 1) (q0 := 0) rfl rfl) rfl rfl hl.1 rfl (lv_room (Nat.le_of_ble_eq_true rfl)) dL_law_733 ⟨hzc, hzs⟩) hS hP (fun H locs hP hS => ?_)
              refine tpi (x' := toI (dst (PB false k) 3 i)) (by rw [nI_cl hi]) ?_
              refine lv_aload_n hx hb dL_law_736 rfl (lv_at hl 14 rfl) ?_
              refine lv_iload hx hb dL_law_737 (lv_at hl 2 rfl) ?_
              refine cr_i (va_runV (As := [.int (nI to)]) (rest := [.int (toI (dst (PB false k) 3 i))]) FX (c_X1_sail_ok l G (cs 0) hc a t cy2.mo cy2.co cy2.le cy2.K cy2.Q cy2.L cy2.H cy2.M cy2.B cy2.C cy2.D cy2.F cy2.W k (nI to) hk hS0 (inB_063 hto) (by rw [nI_cl hto]; exact hwto)) (cwV 1 hts gL_law_X1_sail rfl rfl rfl (by decide +kernel) ⟨Nat.le_of_ble_eq_true rfl, Nat.le_of_ble_eq_true rfl⟩) (rdV hKI hP hNI [0, 1, 2, 3, 4, 5, 6, 7, 8, 9, 10, 11] rfl (ci := 1) (q0 := 0) rfl rfl) rfl rfl hl.1 rfl (lv_room (Nat.le_of_ble_eq_true rfl)) dL_law_739 ⟨hzc, hzs⟩) hS hP (fun H locs hP hS => ?_)
              refine tpi (x' := toI (dst (PB false k) 3 to)) (by rw [nI_cl hto]) ?_
              refine lv_isub hx hb dL_law_742 ?_
              refine va_mabs hx hb (hml.trans hl.1.symm) hown (hts (.methodLink RL 93 Lib.Math.abs.name) (by decide +kernel)) (hts (.static Lib.Math.abs.name) (by decide +kernel)) (hts (.initialized "java/lang/Math") (by decide +kernel)) (hts (.code Lib.Math.abs.name Lib.Math.abs.code 1 (some .int)) (by decide +kernel)) (Nat.le_of_ble_eq_true rfl) (Nat.le_of_ble_eq_true rfl) (by omega) (by omega) dL_law_743 ?_
              refine lv_iconst (v := 1) hx hb dL_law_746 (by decide) ?_
              refine lv_icmp_le (tgt := 752) hx hb dL_law_747 (by decide) (fun _ => ?_) (fun c => absurd (nb_abs hi hadj hwi hwto) c)
              refine lv_iload hx hb dL_law_752 (lv_at hl 1 rfl) ?_
              refine lv_if_eq (tgt := 797) hx hb dL_law_754 (by decide) (fun c => absurd c (by decide)) (fun _ => ?_)
              refine lv_iload hx hb dL_law_757 (lv_at hl 0 rfl) ?_
              refine lv_if_ne (tgt := 797) hx hb dL_law_759 (by decide) (fun _ => ?_) (fun c => absurd c (by decide))
              exact kk cy2 _ _ _ (hg2) hP hD hS (lv_sub hl [3, 4, 5, 6, 7, 8, 9, 10, 11, 12, 13, 14, 15] rfl)
        rcases wtr_or hwto with he | he
        · skip
          refine lv_aload hx hb dL_law_620 (lv_at hl 9 rfl) ?_
          refine lv_iload hx hb dL_law_622 (lv_at hl 1 rfl) ?_
          refine tpi (x' := nI to) (rfl) ?_
          refine g_ald (r := r5) (n := 64) hx hb hK hP 33 1 rfl rfl (x := to) (hto) (by decide) dL_law_624 ?_
          refine lv_iconst (v := 0) hx hb dL_law_625 (by decide) ?_
          refine tpi (x' := nI 0) (rfl) ?_
          refine l_iald (X := [(hc, oX a t), ((a 0), oC a (cy.mo) (cy.co) (cy.le)), ((a 3), iA (cs 0) (cy.K)), ((a 4), iA (cs 0) (cy.Q)), ((a 5), iA (cs 0) (cy.L)), ((a 6), iA (cs 0) (cy.H)), ((a 7), iA (cs 0) (cy.M)), ((a 8), iA (cs 0) (cy.B)), ((a 9), iA (cs 0) (cy.C)), ((a 10), iA (cs 0) (cy.D)), ((a 11), iA (cs 0) (cy.F)), ((a 12), iA (cs 0) (cy.W)), ((t 0), oC t (dy.mo) (dy.co) (dy.le)), ((t 3), iA (cs 0) (dy.K)), ((t 4), iA (cs 0) (dy.Q)), ((t 5), iA (cs 0) (dy.L)), ((t 6), iA (cs 0) (dy.H)), ((t 7), iA (cs 0) (dy.M)), ((t 8), iA (cs 0) (dy.B)), ((t 9), iA (cs 0) (dy.C)), ((t 10), iA (cs 0) (dy.D)), ((t 11), iA (cs 0) (dy.F)), ((t 12), iA (cs 0) (dy.W)), (h, oS o (cy.mo) (cy.co) (cy.le)), (o, oQ (cs 1) 8 r), ((r 0), iB (cs 0) 8 (cl8 K 0)), ((r 1), iB (cs 0) 8 (cl8 K 1)), ((r 2), iB (cs 0) 8 (cl8 K 2)), ((r 3), iB (cs 0) 8 (cl8 K 3)), ((r 4), iB (cs 0) 8 (cl8 K 4)), ((r 5), iB (cs 0) 8 (cl8 K 5)), ((r 6), iB (cs 0) 8 (cl8 K 6)), ((r 7), iB (cs 0) 8 (cl8 K 7)), (q5, oQ (cs 1) 64 r5), (q6, iB (cs 0) 7 R6), (q7, iB (cs 0) 64 R7)]) (r := r5) (F := F) hx hb hK hP 0 rfl (i := to) (w := 0) (hto) (by decide) dL_law_626 ?_
          refine tpi (x' := 1) (p0.trans he) ?_
          refine lv_iconst (v := 1) hx hb dL_law_627 (by decide) ?_
          refine lv_icmp_eq (tgt := 643) hx hb dL_law_628 (by decide) (fun _ => ?_) (fun c => absurd (by decide) c)
          exact jto H locs hP hD hS
        · skip
          refine lv_aload hx hb dL_law_620 (lv_at hl 9 rfl) ?_
          refine lv_iload hx hb dL_law_622 (lv_at hl 1 rfl) ?_
          refine tpi (x' := nI to) (rfl) ?_
          refine g_ald (r := r5) (n := 64) hx hb hK hP 33 1 rfl rfl (x := to) (hto) (by decide) dL_law_624 ?_
          refine lv_iconst (v := 0) hx hb dL_law_625 (by decide) ?_
          refine tpi (x' := nI 0) (rfl) ?_
          refine l_iald (X := [(hc, oX a t), ((a 0), oC a (cy.mo) (cy.co) (cy.le)), ((a 3), iA (cs 0) (cy.K)), ((a 4), iA (cs 0) (cy.Q)), ((a 5), iA (cs 0) (cy.L)), ((a 6), iA (cs 0) (cy.H)), ((a 7), iA (cs 0) (cy.M)), ((a 8), iA (cs 0) (cy.B)), ((a 9), iA (cs 0) (cy.C)), ((a 10), iA (cs 0) (cy.D)), ((a 11), iA (cs 0) (cy.F)), ((a 12), iA (cs 0) (cy.W)), ((t 0), oC t (dy.mo) (dy.co) (dy.le)), ((t 3), iA (cs 0) (dy.K)), ((t 4), iA (cs 0) (dy.Q)), ((t 5), iA (cs 0) (dy.L)), ((t 6), iA (cs 0) (dy.H)), ((t 7), iA (cs 0) (dy.M)), ((t 8), iA (cs 0) (dy.B)), ((t 9), iA (cs 0) (dy.C)), ((t 10), iA (cs 0) (dy.D)), ((t 11), iA (cs 0) (dy.F)), ((t 12), iA (cs 0) (dy.W)), (h, oS o (cy.mo) (cy.co) (cy.le)), (o, oQ (cs 1) 8 r), ((r 0), iB (cs 0) 8 (cl8 K 0)), ((r 1), iB (cs 0) 8 (cl8 K 1)), ((r 2), iB (cs 0) 8 (cl8 K 2)), ((r 3), iB (cs 0) 8 (cl8 K 3)), ((r 4), iB (cs 0) 8 (cl8 K 4)), ((r 5), iB (cs 0) 8 (cl8 K 5)), ((r 6), iB (cs 0) 8 (cl8 K 6)), ((r 7), iB (cs 0) 8 (cl8 K 7)), (q5, oQ (cs 1) 64 r5), (q6, iB (cs 0) 7 R6), (q7, iB (cs 0) 64 R7)]) (r := r5) (F := F) hx hb hK hP 0 rfl (i := to) (w := 0) (hto) (by decide) dL_law_626 ?_
          refine tpi (x' := 6) (p0.trans he) ?_
          refine lv_iconst (v := 1) hx hb dL_law_627 (by decide) ?_
          refine lv_icmp_eq (tgt := 643) hx hb dL_law_628 (by decide) (fun c => absurd c (by decide)) (fun _ => ?_)
          refine lv_aload hx hb dL_law_631 (lv_at hl 9 rfl) ?_
          refine lv_iload hx hb dL_law_633 (lv_at hl 1 rfl) ?_
          refine tpi (x' := nI to) (rfl) ?_
          refine g_ald (r := r5) (n := 64) hx hb hK hP 33 1 rfl rfl (x := to) (hto) (by decide) dL_law_635 ?_
          refine lv_iconst (v := 0) hx hb dL_law_636 (by decide) ?_
          refine tpi (x' := nI 0) (rfl) ?_
          refine l_iald (X := [(hc, oX a t), ((a 0), oC a (cy.mo) (cy.co) (cy.le)), ((a 3), iA (cs 0) (cy.K)), ((a 4), iA (cs 0) (cy.Q)), ((a 5), iA (cs 0) (cy.L)), ((a 6), iA (cs 0) (cy.H)), ((a 7), iA (cs 0) (cy.M)), ((a 8), iA (cs 0) (cy.B)), ((a 9), iA (cs 0) (cy.C)), ((a 10), iA (cs 0) (cy.D)), ((a 11), iA (cs 0) (cy.F)), ((a 12), iA (cs 0) (cy.W)), ((t 0), oC t (dy.mo) (dy.co) (dy.le)), ((t 3), iA (cs 0) (dy.K)), ((t 4), iA (cs 0) (dy.Q)), ((t 5), iA (cs 0) (dy.L)), ((t 6), iA (cs 0) (dy.H)), ((t 7), iA (cs 0) (dy.M)), ((t 8), iA (cs 0) (dy.B)), ((t 9), iA (cs 0) (dy.C)), ((t 10), iA (cs 0) (dy.D)), ((t 11), iA (cs 0) (dy.F)), ((t 12), iA (cs 0) (dy.W)), (h, oS o (cy.mo) (cy.co) (cy.le)), (o, oQ (cs 1) 8 r), ((r 0), iB (cs 0) 8 (cl8 K 0)), ((r 1), iB (cs 0) 8 (cl8 K 1)), ((r 2), iB (cs 0) 8 (cl8 K 2)), ((r 3), iB (cs 0) 8 (cl8 K 3)), ((r 4), iB (cs 0) 8 (cl8 K 4)), ((r 5), iB (cs 0) 8 (cl8 K 5)), ((r 6), iB (cs 0) 8 (cl8 K 6)), ((r 7), iB (cs 0) 8 (cl8 K 7)), (q5, oQ (cs 1) 64 r5), (q6, iB (cs 0) 7 R6), (q7, iB (cs 0) 64 R7)]) (r := r5) (F := F) hx hb hK hP 0 rfl (i := to) (w := 0) (hto) (by decide) dL_law_637 ?_
          refine tpi (x' := 6) (p0.trans he) ?_
          refine lv_bipush (v := 6) hx hb dL_law_638 (by decide) ?_
          refine lv_icmp_ne (tgt := 647) hx hb dL_law_640 (by decide) (fun c => absurd (by decide) c) (fun _ => ?_)
          exact jto H locs hP hD hS
    rcases wtr_or hwi with he | he
    · skip
      refine lv_aload hx hb dL_law_590 (lv_at hl 8 rfl) ?_
      refine lv_iload hx hb dL_law_592 (lv_at hl 2 rfl) ?_
      refine tpi (x' := nI i) (rfl) ?_
      refine g_ald (r := r5) (n := 64) hx hb hK hP 33 1 rfl rfl (x := i) (hi) (by decide) dL_law_594 ?_
      refine lv_iconst (v := 0) hx hb dL_law_595 (by decide) ?_
      refine tpi (x' := nI 0) (rfl) ?_
      refine l_iald (X := [(hc, oX a t), ((a 0), oC a (cy.mo) (cy.co) (cy.le)), ((a 3), iA (cs 0) (cy.K)), ((a 4), iA (cs 0) (cy.Q)), ((a 5), iA (cs 0) (cy.L)), ((a 6), iA (cs 0) (cy.H)), ((a 7), iA (cs 0) (cy.M)), ((a 8), iA (cs 0) (cy.B)), ((a 9), iA (cs 0) (cy.C)), ((a 10), iA (cs 0) (cy.D)), ((a 11), iA (cs 0) (cy.F)), ((a 12), iA (cs 0) (cy.W)), ((t 0), oC t (dy.mo) (dy.co) (dy.le)), ((t 3), iA (cs 0) (dy.K)), ((t 4), iA (cs 0) (dy.Q)), ((t 5), iA (cs 0) (dy.L)), ((t 6), iA (cs 0) (dy.H)), ((t 7), iA (cs 0) (dy.M)), ((t 8), iA (cs 0) (dy.B)), ((t 9), iA (cs 0) (dy.C)), ((t 10), iA (cs 0) (dy.D)), ((t 11), iA (cs 0) (dy.F)), ((t 12), iA (cs 0) (dy.W)), (h, oS o (cy.mo) (cy.co) (cy.le)), (o, oQ (cs 1) 8 r), ((r 0), iB (cs 0) 8 (cl8 K 0)), ((r 1), iB (cs 0) 8 (cl8 K 1)), ((r 2), iB (cs 0) 8 (cl8 K 2)), ((r 3), iB (cs 0) 8 (cl8 K 3)), ((r 4), iB (cs 0) 8 (cl8 K 4)), ((r 5), iB (cs 0) 8 (cl8 K 5)), ((r 6), iB (cs 0) 8 (cl8 K 6)), ((r 7), iB (cs 0) 8 (cl8 K 7)), (q5, oQ (cs 1) 64 r5), (q6, iB (cs 0) 7 R6), (q7, iB (cs 0) 64 R7)]) (r := r5) (F := F) hx hb hK hP 0 rfl (i := i) (w := 0) (hi) (by decide) dL_law_596 ?_
      refine tpi (x' := 1) (o0.trans he) ?_
      refine lv_iconst (v := 1) hx hb dL_law_597 (by decide) ?_
      refine lv_icmp_eq (tgt := 613) hx hb dL_law_598 (by decide) (fun _ => ?_) (fun c => absurd (by decide) c)
      exact ji H locs hP hD hS
    · skip
      refine lv_aload hx hb dL_law_590 (lv_at hl 8 rfl) ?_
      refine lv_iload hx hb dL_law_592 (lv_at hl 2 rfl) ?_
      refine tpi (x' := nI i) (rfl) ?_
      refine g_ald (r := r5) (n := 64) hx hb hK hP 33 1 rfl rfl (x := i) (hi) (by decide) dL_law_594 ?_
      refine lv_iconst (v := 0) hx hb dL_law_595 (by decide) ?_
      refine tpi (x' := nI 0) (rfl) ?_
      refine l_iald (X := [(hc, oX a t), ((a 0), oC a (cy.mo) (cy.co) (cy.le)), ((a 3), iA (cs 0) (cy.K)), ((a 4), iA (cs 0) (cy.Q)), ((a 5), iA (cs 0) (cy.L)), ((a 6), iA (cs 0) (cy.H)), ((a 7), iA (cs 0) (cy.M)), ((a 8), iA (cs 0) (cy.B)), ((a 9), iA (cs 0) (cy.C)), ((a 10), iA (cs 0) (cy.D)), ((a 11), iA (cs 0) (cy.F)), ((a 12), iA (cs 0) (cy.W)), ((t 0), oC t (dy.mo) (dy.co) (dy.le)), ((t 3), iA (cs 0) (dy.K)), ((t 4), iA (cs 0) (dy.Q)), ((t 5), iA (cs 0) (dy.L)), ((t 6), iA (cs 0) (dy.H)), ((t 7), iA (cs 0) (dy.M)), ((t 8), iA (cs 0) (dy.B)), ((t 9), iA (cs 0) (dy.C)), ((t 10), iA (cs 0) (dy.D)), ((t 11), iA (cs 0) (dy.F)), ((t 12), iA (cs 0) (dy.W)), (h, oS o (cy.mo) (cy.co) (cy.le)), (o, oQ (cs 1) 8 r), ((r 0), iB (cs 0) 8 (cl8 K 0)), ((r 1), iB (cs 0) 8 (cl8 K 1)), ((r 2), iB (cs 0) 8 (cl8 K 2)), ((r 3), iB (cs 0) 8 (cl8 K 3)), ((r 4), iB (cs 0) 8 (cl8 K 4)), ((r 5), iB (cs 0) 8 (cl8 K 5)), ((r 6), iB (cs 0) 8 (cl8 K 6)), ((r 7), iB (cs 0) 8 (cl8 K 7)), (q5, oQ (cs 1) 64 r5), (q6, iB (cs 0) 7 R6), (q7, iB (cs 0) 64 R7)]) (r := r5) (F := F) hx hb hK hP 0 rfl (i := i) (w := 0) (hi) (by decide) dL_law_596 ?_
      refine tpi (x' := 6) (o0.trans he) ?_
      refine lv_iconst (v := 1) hx hb dL_law_597 (by decide) ?_
      refine lv_icmp_eq (tgt := 613) hx hb dL_law_598 (by decide) (fun c => absurd c (by decide)) (fun _ => ?_)
      refine lv_aload hx hb dL_law_601 (lv_at hl 8 rfl) ?_
      refine lv_iload hx hb dL_law_603 (lv_at hl 2 rfl) ?_
      refine tpi (x' := nI i) (rfl) ?_
      refine g_ald (r := r5) (n := 64) hx hb hK hP 33 1 rfl rfl (x := i) (hi) (by decide) dL_law_605 ?_
      refine lv_iconst (v := 0) hx hb dL_law_606 (by decide) ?_
      refine tpi (x' := nI 0) (rfl) ?_
      refine l_iald (X := [(hc, oX a t), ((a 0), oC a (cy.mo) (cy.co) (cy.le)), ((a 3), iA (cs 0) (cy.K)), ((a 4), iA (cs 0) (cy.Q)), ((a 5), iA (cs 0) (cy.L)), ((a 6), iA (cs 0) (cy.H)), ((a 7), iA (cs 0) (cy.M)), ((a 8), iA (cs 0) (cy.B)), ((a 9), iA (cs 0) (cy.C)), ((a 10), iA (cs 0) (cy.D)), ((a 11), iA (cs 0) (cy.F)), ((a 12), iA (cs 0) (cy.W)), ((t 0), oC t (dy.mo) (dy.co) (dy.le)), ((t 3), iA (cs 0) (dy.K)), ((t 4), iA (cs 0) (dy.Q)), ((t 5), iA (cs 0) (dy.L)), ((t 6), iA (cs 0) (dy.H)), ((t 7), iA (cs 0) (dy.M)), ((t 8), iA (cs 0) (dy.B)), ((t 9), iA (cs 0) (dy.C)), ((t 10), iA (cs 0) (dy.D)), ((t 11), iA (cs 0) (dy.F)), ((t 12), iA (cs 0) (dy.W)), (h, oS o (cy.mo) (cy.co) (cy.le)), (o, oQ (cs 1) 8 r), ((r 0), iB (cs 0) 8 (cl8 K 0)), ((r 1), iB (cs 0) 8 (cl8 K 1)), ((r 2), iB (cs 0) 8 (cl8 K 2)), ((r 3), iB (cs 0) 8 (cl8 K 3)), ((r 4), iB (cs 0) 8 (cl8 K 4)), ((r 5), iB (cs 0) 8 (cl8 K 5)), ((r 6), iB (cs 0) 8 (cl8 K 6)), ((r 7), iB (cs 0) 8 (cl8 K 7)), (q5, oQ (cs 1) 64 r5), (q6, iB (cs 0) 7 R6), (q7, iB (cs 0) 64 R7)]) (r := r5) (F := F) hx hb hK hP 0 rfl (i := i) (w := 0) (hi) (by decide) dL_law_607 ?_
      refine tpi (x' := 6) (o0.trans he) ?_
      refine lv_bipush (v := 6) hx hb dL_law_608 (by decide) ?_
      refine lv_icmp_ne (tgt := 617) hx hb dL_law_610 (by decide) (fun c => absurd (by decide) c) (fun _ => ?_)
      exact ji H locs hP hD hS

/-! what a month did to lots -/
theorem lfI_e (k : Nat → Int32) : csum (lfI k) 64 = lvN k := rfl
theorem lfI_1 {k : Nat → Int32} {p : Nat} (h : lft k p = true) : csum (lfI k) p + 1 = csum (lfI k) (p + 1) := by
  show _ = csum (lfI k) p + lfI k p
  unfold lfI
  rw [if_pos h]
theorem lfI_0 {k : Nat → Int32} {p : Nat} (h : lft k p = false) : csum (lfI k) p + 0 = csum (lfI k) (p + 1) := by
  show _ = csum (lfI k) p + lfI k p
  unfold lfI
  rw [h, if_neg (by decide)]
theorem tel_y {k : Nat → Int32} {p s q : Nat} (h : nbC p s = some q) (h0 : k q = 0) : tel k 0 (nbC p s) = 1 := by
  rw [h]
  exact if_pos h0
theorem tel_n {k : Nat → Int32} {p s q : Nat} (h : nbC p s = some q) (h0 : ¬ k q = 0) : tel k 0 (nbC p s) = 0 := by
  rw [h]
  exact if_neg h0
theorem tel_o {k : Nat → Int32} {p s : Nat} (h : nbC p s = none) : tel k 0 (nbC p s) = 0 := by
  rw [h]
  rfl
theorem nb_l {p : Nat} (h : 0 < p % 8) : nbC p 1 = some (p - 1) := by simp only [nbC]; rw [if_pos h]
theorem nb_l0 {p : Nat} (h : ¬ 0 < p % 8) : nbC p 1 = none := by simp only [nbC]; rw [if_neg h]
theorem nb_r {p : Nat} (h : p % 8 < 7) : nbC p 2 = some (p + 1) := by simp only [nbC]; rw [if_pos h]
theorem nb_r0 {p : Nat} (h : ¬ p % 8 < 7) : nbC p 2 = none := by simp only [nbC]; rw [if_neg h]
theorem nb_u {p : Nat} (h : 7 < p) : nbC p 0 = some (p - 8) := by simp only [nbC]; rw [if_pos (by omega)]
theorem nb_u0 {p : Nat} (h : ¬ 7 < p) : nbC p 0 = none := by simp only [nbC]; rw [if_neg (by omega)]
theorem nb_d {p : Nat} (h : p < 56) : nbC p 3 = some (p + 8) := by simp only [nbC]; rw [if_pos (by omega)]
theorem nb_d0 {p : Nat} (h : ¬ p < 56) : nbC p 3 = none := by simp only [nbC]; rw [if_neg (by omega)]
set_option maxHeartbeats 16000000 in
set_option maxRecDepth 100000 in
theorem law_then {p : Program} {l : Launch} {e : Env} {s : State} {m : MethodId} {below : List Frame} {meth : Method} {c : Code} {b Ln : Nat} {xs : Nat → Int32} {A : Nat → Prop} {cells slots : Nat} {Q : State → Prop} {G : va_G} {cs : Nat → ClassId} {hc h o : Nat} {a t r : Nat → Nat} {cy dy : Cy} {K k : Nat → Int32} {H : Heap} {locs : List Loc} {ls : Array Slot} {tm : Nat} {x4 : Int32} {q5 q6 q7 : Nat} {r5 : Nat → Nat} {F : Nat → Nat → Int32} {R6 R7 : Nat → Int32} {q13 : Nat} {R13 : Nat → Int32} {kp : Nat → Int32} {had : Int32} (E0 : LwE p l s m c b Ln xs G cs A) (hg : Sd cy k) (hk9 : eqK K k) (hkm : k = mon kp) (hF : ∀ i, i < 64 → OWN kp F i) (hkp : ∀ x, x < 64 → kd (kp x)) (hle : cy.le = had + lvN kp) (hP : va_P G vwCl ([(hc, oX a t), ((a 0), oC a (cy.mo) (cy.co) (cy.le)), ((a 3), iA (cs 0) (cy.K)), ((a 4), iA (cs 0) (cy.Q)), ((a 5), iA (cs 0) (cy.L)), ((a 6), iA (cs 0) (cy.H)), ((a 7), iA (cs 0) (cy.M)), ((a 8), iA (cs 0) (cy.B)), ((a 9), iA (cs 0) (cy.C)), ((a 10), iA (cs 0) (cy.D)), ((a 11), iA (cs 0) (cy.F)), ((a 12), iA (cs 0) (cy.W)), ((t 0), oC t (dy.mo) (dy.co) (dy.le)), ((t 3), iA (cs 0) (dy.K)), ((t 4), iA (cs 0) (dy.Q)), ((t 5), iA (cs 0) (dy.L)), ((t 6), iA (cs 0) (dy.H)), ((t 7), iA (cs 0) (dy.M)), ((t 8), iA (cs 0) (dy.B)), ((t 9), iA (cs 0) (dy.C)), ((t 10), iA (cs 0) (dy.D)), ((t 11), iA (cs 0) (dy.F)), ((t 12), iA (cs 0) (dy.W)), (h, oS o (cy.mo) (cy.co) (cy.le)), (o, oQ (cs 1) 8 r), ((r 0), iB (cs 0) 8 (cl8 K 0)), ((r 1), iB (cs 0) 8 (cl8 K 1)), ((r 2), iB (cs 0) 8 (cl8 K 2)), ((r 3), iB (cs 0) 8 (cl8 K 3)), ((r 4), iB (cs 0) 8 (cl8 K 4)), ((r 5), iB (cs 0) 8 (cl8 K 5)), ((r 6), iB (cs 0) 8 (cl8 K 6)), ((r 7), iB (cs 0) 8 (cl8 K 7)), (q5, oQ (cs 1) 64 r5), (q6, iB (cs 0) 7 R6), (q7, iB (cs 0) 64 R7), (q13, iB (cs 0) 13 R13)] ++ (lR (cs 0) r5 F)) H) (hD : va_D A ([(hc, oX a t), ((a 0), oC a (cy.mo) (cy.co) (cy.le)), ((a 3), iA (cs 0) (cy.K)), ((a 4), iA (cs 0) (cy.Q)), ((a 5), iA (cs 0) (cy.L)), ((a 6), iA (cs 0) (cy.H)), ((a 7), iA (cs 0) (cy.M)), ((a 8), iA (cs 0) (cy.B)), ((a 9), iA (cs 0) (cy.C)), ((a 10), iA (cs 0) (cy.D)), ((a 11), iA (cs 0) (cy.F)), ((a 12), iA (cs 0) (cy.W)), ((t 0), oC t (dy.mo) (dy.co) (dy.le)), ((t 3), iA (cs 0) (dy.K)), ((t 4), iA (cs 0) (dy.Q)), ((t 5), iA (cs 0) (dy.L)), ((t 6), iA (cs 0) (dy.H)), ((t 7), iA (cs 0) (dy.M)), ((t 8), iA (cs 0) (dy.B)), ((t 9), iA (cs 0) (dy.C)), ((t 10), iA (cs 0) (dy.D)), ((t 11), iA (cs 0) (dy.F)), ((t 12), iA (cs 0) (dy.W)), (h, oS o (cy.mo) (cy.co) (cy.le)), (o, oQ (cs 1) 8 r), ((r 0), iB (cs 0) 8 (cl8 K 0)), ((r 1), iB (cs 0) 8 (cl8 K 1)), ((r 2), iB (cs 0) 8 (cl8 K 2)), ((r 3), iB (cs 0) 8 (cl8 K 3)), ((r 4), iB (cs 0) 8 (cl8 K 4)), ((r 5), iB (cs 0) 8 (cl8 K 5)), ((r 6), iB (cs 0) 8 (cl8 K 6)), ((r 7), iB (cs 0) 8 (cl8 K 7)), (q5, oQ (cs 1) 64 r5), (q6, iB (cs 0) 7 R6), (q7, iB (cs 0) 64 R7), (q13, iB (cs 0) 13 R13)] ++ (lR (cs 0) r5 F))) (hS : va_S A s.heap H locs) (hl : lv_has ls 25 [(18, .int had), (9, .int (dall kp)), (8, .int (call kp)), (7, .ref q7), (6, .ref q6), (5, .ref q5), (4, .int x4), (3, .int (nI tm)), (0, .ref b), (1, .ref hc), (2, .ref h)]) (hzc0 : cells + 0 ≤ room_1.cells) (hzs0 : slots + 0 ≤ room_1.slots)
    (kk : ∀ (u9 : Unit) (H2 : Heap) (locs2 : List Loc) (ls2 : Array Slot), va_P G vwCl [(hc, oX a t), ((a 0), oC a (cy.mo) (cy.co) (cy.le)), ((a 3), iA (cs 0) (cy.K)), ((a 4), iA (cs 0) (cy.Q)), ((a 5), iA (cs 0) (cy.L)), ((a 6), iA (cs 0) (cy.H)), ((a 7), iA (cs 0) (cy.M)), ((a 8), iA (cs 0) (cy.B)), ((a 9), iA (cs 0) (cy.C)), ((a 10), iA (cs 0) (cy.D)), ((a 11), iA (cs 0) (cy.F)), ((a 12), iA (cs 0) (cy.W)), ((t 0), oC t (dy.mo) (dy.co) (dy.le)), ((t 3), iA (cs 0) (dy.K)), ((t 4), iA (cs 0) (dy.Q)), ((t 5), iA (cs 0) (dy.L)), ((t 6), iA (cs 0) (dy.H)), ((t 7), iA (cs 0) (dy.M)), ((t 8), iA (cs 0) (dy.B)), ((t 9), iA (cs 0) (dy.C)), ((t 10), iA (cs 0) (dy.D)), ((t 11), iA (cs 0) (dy.F)), ((t 12), iA (cs 0) (dy.W)), (h, oS o (cy.mo) (cy.co) (cy.le)), (o, oQ (cs 1) 8 r), ((r 0), iB (cs 0) 8 (cl8 K 0)), ((r 1), iB (cs 0) 8 (cl8 K 1)), ((r 2), iB (cs 0) 8 (cl8 K 2)), ((r 3), iB (cs 0) 8 (cl8 K 3)), ((r 4), iB (cs 0) 8 (cl8 K 4)), ((r 5), iB (cs 0) 8 (cl8 K 5)), ((r 6), iB (cs 0) 8 (cl8 K 6)), ((r 7), iB (cs 0) 8 (cl8 K 7))] H2 → va_D A [(hc, oX a t), ((a 0), oC a (cy.mo) (cy.co) (cy.le)), ((a 3), iA (cs 0) (cy.K)), ((a 4), iA (cs 0) (cy.Q)), ((a 5), iA (cs 0) (cy.L)), ((a 6), iA (cs 0) (cy.H)), ((a 7), iA (cs 0) (cy.M)), ((a 8), iA (cs 0) (cy.B)), ((a 9), iA (cs 0) (cy.C)), ((a 10), iA (cs 0) (cy.D)), ((a 11), iA (cs 0) (cy.F)), ((a 12), iA (cs 0) (cy.W)), ((t 0), oC t (dy.mo) (dy.co) (dy.le)), ((t 3), iA (cs 0) (dy.K)), ((t 4), iA (cs 0) (dy.Q)), ((t 5), iA (cs 0) (dy.L)), ((t 6), iA (cs 0) (dy.H)), ((t 7), iA (cs 0) (dy.M)), ((t 8), iA (cs 0) (dy.B)), ((t 9), iA (cs 0) (dy.C)), ((t 10), iA (cs 0) (dy.D)), ((t 11), iA (cs 0) (dy.F)), ((t 12), iA (cs 0) (dy.W)), (h, oS o (cy.mo) (cy.co) (cy.le)), (o, oQ (cs 1) 8 r), ((r 0), iB (cs 0) 8 (cl8 K 0)), ((r 1), iB (cs 0) 8 (cl8 K 1)), ((r 2), iB (cs 0) 8 (cl8 K 2)), ((r 3), iB (cs 0) 8 (cl8 K 3)), ((r 4), iB (cs 0) 8 (cl8 K 4)), ((r 5), iB (cs 0) 8 (cl8 K 5)), ((r 6), iB (cs 0) 8 (cl8 K 6)), ((r 7), iB (cs 0) 8 (cl8 K 7))] → va_S A s.heap H2 locs2 → lv_has ls2 25 [(3, .int (nI tm)), (0, .ref b), (1, .ref hc), (2, .ref h)] → W p l e room_1 s m #[Value.ref b] below meth c H2 locs2 (cells) (slots) Q (F0 m 1486 ls2 [])) : W p l e room_1 s m #[Value.ref b] below meth c H locs (cells) (slots) Q (F0 m 1164 ls []) := by
  have E9 := E0
  obtain ⟨hx, hb, hml, hown, hts, hst, hK, hN, hE, hX, hZ, hBL, hA, hXs, hbl, hbA⟩ := E0
  have hk := hg.1
  have hS0 := hg.2.1
  have hgt := hg.2.2.1
  have hkd := hg.2.2.2
  have hKI : va_K G vwCl (TY (cs 0)) s := hK.sub [0] rfl
  have hNI := hN.1
  have hzc : cells + 0 ≤ room_1.cells := by omega
  have hzs : slots + 0 ≤ room_1.slots := by omega
  have FX : CallFix p m c cL_law 25 s #[Value.ref b] wsL_law RL := ⟨hx, hb, hml, hown, hts⟩
  have hP : va_P G vwCl ([(hc, oX a t), ((a 0), oC a (cy.mo) (cy.co) (cy.le)), ((a 3), iA (cs 0) (cy.K)), ((a 4), iA (cs 0) (cy.Q)), ((a 5), iA (cs 0) (cy.L)), ((a 6), iA (cs 0) (cy.H)), ((a 7), iA (cs 0) (cy.M)), ((a 8), iA (cs 0) (cy.B)), ((a 9), iA (cs 0) (cy.C)), ((a 10), iA (cs 0) (cy.D)), ((a 11), iA (cs 0) (cy.F)), ((a 12), iA (cs 0) (cy.W)), ((t 0), oC t (dy.mo) (dy.co) (dy.le)), ((t 3), iA (cs 0) (dy.K)), ((t 4), iA (cs 0) (dy.Q)), ((t 5), iA (cs 0) (dy.L)), ((t 6), iA (cs 0) (dy.H)), ((t 7), iA (cs 0) (dy.M)), ((t 8), iA (cs 0) (dy.B)), ((t 9), iA (cs 0) (dy.C)), ((t 10), iA (cs 0) (dy.D)), ((t 11), iA (cs 0) (dy.F)), ((t 12), iA (cs 0) (dy.W)), (h, oS o (cy.mo) (cy.co) (cy.le)), (o, oQ (cs 1) 8 r), ((r 0), iB (cs 0) 8 (cl8 K 0)), ((r 1), iB (cs 0) 8 (cl8 K 1)), ((r 2), iB (cs 0) 8 (cl8 K 2)), ((r 3), iB (cs 0) 8 (cl8 K 3)), ((r 4), iB (cs 0) 8 (cl8 K 4)), ((r 5), iB (cs 0) 8 (cl8 K 5)), ((r 6), iB (cs 0) 8 (cl8 K 6)), ((r 7), iB (cs 0) 8 (cl8 K 7)), (q5, oQ (cs 1) 64 r5), (q6, iB (cs 0) 7 R6), (q7, iB (cs 0) 64 R7), (q13, iB (cs 0) 13 R13)] ++ (lR (cs 0) r5 F)) H := hP
  have hD : va_D A ([(hc, oX a t), ((a 0), oC a (cy.mo) (cy.co) (cy.le)), ((a 3), iA (cs 0) (cy.K)), ((a 4), iA (cs 0) (cy.Q)), ((a 5), iA (cs 0) (cy.L)), ((a 6), iA (cs 0) (cy.H)), ((a 7), iA (cs 0) (cy.M)), ((a 8), iA (cs 0) (cy.B)), ((a 9), iA (cs 0) (cy.C)), ((a 10), iA (cs 0) (cy.D)), ((a 11), iA (cs 0) (cy.F)), ((a 12), iA (cs 0) (cy.W)), ((t 0), oC t (dy.mo) (dy.co) (dy.le)), ((t 3), iA (cs 0) (dy.K)), ((t 4), iA (cs 0) (dy.Q)), ((t 5), iA (cs 0) (dy.L)), ((t 6), iA (cs 0) (dy.H)), ((t 7), iA (cs 0) (dy.M)), ((t 8), iA (cs 0) (dy.B)), ((t 9), iA (cs 0) (dy.C)), ((t 10), iA (cs 0) (dy.D)), ((t 11), iA (cs 0) (dy.F)), ((t 12), iA (cs 0) (dy.W)), (h, oS o (cy.mo) (cy.co) (cy.le)), (o, oQ (cs 1) 8 r), ((r 0), iB (cs 0) 8 (cl8 K 0)), ((r 1), iB (cs 0) 8 (cl8 K 1)), ((r 2), iB (cs 0) 8 (cl8 K 2)), ((r 3), iB (cs 0) 8 (cl8 K 3)), ((r 4), iB (cs 0) 8 (cl8 K 4)), ((r 5), iB (cs 0) 8 (cl8 K 5)), ((r 6), iB (cs 0) 8 (cl8 K 6)), ((r 7), iB (cs 0) 8 (cl8 K 7)), (q5, oQ (cs 1) 64 r5), (q6, iB (cs 0) 7 R6), (q7, iB (cs 0) 64 R7), (q13, iB (cs 0) 13 R13)] ++ (lR (cs 0) r5 F)) := hD
  refine lv_iconst (v := 0) hx hb dL_law_1164 (by decide) ?_
  refine lv_istore (lv' := [(20, .int 0), (18, .int had), (9, .int (dall kp)), (8, .int (call kp)), (7, .ref q7), (6, .ref q6), (5, .ref q5), (4, .int x4), (3, .int (nI tm)), (0, .ref b), (1, .ref hc), (2, .ref h)]) hx hb dL_law_1165 hl (by decide) rfl (fun ls hl => ?_)
  refine lv_iconst (v := 0) hx hb dL_law_1167 (by decide) ?_
  refine lv_istore (lv' := [(21, .int 0), (20, .int 0), (18, .int had), (9, .int (dall kp)), (8, .int (call kp)), (7, .ref q7), (6, .ref q6), (5, .ref q5), (4, .int x4), (3, .int (nI tm)), (0, .ref b), (1, .ref hc), (2, .ref h)]) hx hb dL_law_1168 hl (by decide) rfl (fun ls hl => ?_)
  have hl : lv_has ls 25 [(21, .int (nI 0)), (20, .int (csum (lfI kp) 0)), (18, .int had), (9, .int (dall kp)), (8, .int (call kp)), (7, .ref q7), (6, .ref q6), (5, .ref q5), (4, .int x4), (3, .int (nI tm)), (0, .ref b), (1, .ref hc), (2, .ref h)] := hl
  have lo : ∀ (n : Nat) (i : Nat), (hi : i ≤ 64) → (64 - i) < n → ∀ (H : Heap) (locs : List Loc) (ls : Array Slot), va_P G vwCl ([(hc, oX a t), ((a 0), oC a (cy.mo) (cy.co) (cy.le)), ((a 3), iA (cs 0) (cy.K)), ((a 4), iA (cs 0) (cy.Q)), ((a 5), iA (cs 0) (cy.L)), ((a 6), iA (cs 0) (cy.H)), ((a 7), iA (cs 0) (cy.M)), ((a 8), iA (cs 0) (cy.B)), ((a 9), iA (cs 0) (cy.C)), ((a 10), iA (cs 0) (cy.D)), ((a 11), iA (cs 0) (cy.F)), ((a 12), iA (cs 0) (cy.W)), ((t 0), oC t (dy.mo) (dy.co) (dy.le)), ((t 3), iA (cs 0) (dy.K)), ((t 4), iA (cs 0) (dy.Q)), ((t 5), iA (cs 0) (dy.L)), ((t 6), iA (cs 0) (dy.H)), ((t 7), iA (cs 0) (dy.M)), ((t 8), iA (cs 0) (dy.B)), ((t 9), iA (cs 0) (dy.C)), ((t 10), iA (cs 0) (dy.D)), ((t 11), iA (cs 0) (dy.F)), ((t 12), iA (cs 0) (dy.W)), (h, oS o (cy.mo) (cy.co) (cy.le)), (o, oQ (cs 1) 8 r), ((r 0), iB (cs 0) 8 (cl8 K 0)), ((r 1), iB (cs 0) 8 (cl8 K 1)), ((r 2), iB (cs 0) 8 (cl8 K 2)), ((r 3), iB (cs 0) 8 (cl8 K 3)), ((r 4), iB (cs 0) 8 (cl8 K 4)), ((r 5), iB (cs 0) 8 (cl8 K 5)), ((r 6), iB (cs 0) 8 (cl8 K 6)), ((r 7), iB (cs 0) 8 (cl8 K 7)), (q5, oQ (cs 1) 64 r5), (q6, iB (cs 0) 7 R6), (q7, iB (cs 0) 64 R7), (q13, iB (cs 0) 13 R13)] ++ (lR (cs 0) r5 F)) H → va_D A ([(hc, oX a t), ((a 0), oC a (cy.mo) (cy.co) (cy.le)), ((a 3), iA (cs 0) (cy.K)), ((a 4), iA (cs 0) (cy.Q)), ((a 5), iA (cs 0) (cy.L)), ((a 6), iA (cs 0) (cy.H)), ((a 7), iA (cs 0) (cy.M)), ((a 8), iA (cs 0) (cy.B)), ((a 9), iA (cs 0) (cy.C)), ((a 10), iA (cs 0) (cy.D)), ((a 11), iA (cs 0) (cy.F)), ((a 12), iA (cs 0) (cy.W)), ((t 0), oC t (dy.mo) (dy.co) (dy.le)), ((t 3), iA (cs 0) (dy.K)), ((t 4), iA (cs 0) (dy.Q)), ((t 5), iA (cs 0) (dy.L)), ((t 6), iA (cs 0) (dy.H)), ((t 7), iA (cs 0) (dy.M)), ((t 8), iA (cs 0) (dy.B)), ((t 9), iA (cs 0) (dy.C)), ((t 10), iA (cs 0) (dy.D)), ((t 11), iA (cs 0) (dy.F)), ((t 12), iA (cs 0) (dy.W)), (h, oS o (cy.mo) (cy.co) (cy.le)), (o, oQ (cs 1) 8 r), ((r 0), iB (cs 0) 8 (cl8 K 0)), ((r 1), iB (cs 0) 8 (cl8 K 1)), ((r 2), iB (cs 0) 8 (cl8 K 2)), ((r 3), iB (cs 0) 8 (cl8 K 3)), ((r 4), iB (cs 0) 8 (cl8 K 4)), ((r 5), iB (cs 0) 8 (cl8 K 5)), ((r 6), iB (cs 0) 8 (cl8 K 6)), ((r 7), iB (cs 0) 8 (cl8 K 7)), (q5, oQ (cs 1) 64 r5), (q6, iB (cs 0) 7 R6), (q7, iB (cs 0) 64 R7), (q13, iB (cs 0) 13 R13)] ++ (lR (cs 0) r5 F)) → va_S A s.heap H locs → lv_has ls 25 [(21, .int (nI i)), (20, .int (csum (lfI kp) i)), (18, .int had), (9, .int (dall kp)), (8, .int (call kp)), (7, .ref q7), (6, .ref q6), (5, .ref q5), (4, .int x4), (3, .int (nI tm)), (0, .ref b), (1, .ref hc), (2, .ref h)] → W p l e room_1 s m #[Value.ref b] below meth c H locs cells slots Q (F0 m 1170 ls []) := by
    intro n
    induction n with
    | zero => intro i hi hn; exact absurd hn (by omega)
    | succ n ih_lo =>
      intro i hi hn H locs ls hP hD hS hl
      refine lv_iload hx hb dL_law_1170 (lv_at hl 0 rfl) ?_
      refine lv_bipush (v := 64) hx hb dL_law_1172 (by decide) ?_
      rcases Nat.lt_or_ge i 64 with hi64 | hi64
      · skip
        refine lv_icmp_ge (tgt := 1470) hx hb dL_law_1174 (by decide) (fun c => absurd c (lt_n (n := 64) hi64 (by decide))) (fun _ => ?_)
        have jn : ∀ (H : Heap) (locs : List Loc) (ls : Array Slot), va_P G vwCl ([(hc, oX a t), ((a 0), oC a (cy.mo) (cy.co) (cy.le)), ((a 3), iA (cs 0) (cy.K)), ((a 4), iA (cs 0) (cy.Q)), ((a 5), iA (cs 0) (cy.L)), ((a 6), iA (cs 0) (cy.H)), ((a 7), iA (cs 0) (cy.M)), ((a 8), iA (cs 0) (cy.B)), ((a 9), iA (cs 0) (cy.C)), ((a 10), iA (cs 0) (cy.D)), ((a 11), iA (cs 0) (cy.F)), ((a 12), iA (cs 0) (cy.W)), ((t 0), oC t (dy.mo) (dy.co) (dy.le)), ((t 3), iA (cs 0) (dy.K)), ((t 4), iA (cs 0) (dy.Q)), ((t 5), iA (cs 0) (dy.L)), ((t 6), iA (cs 0) (dy.H)), ((t 7), iA (cs 0) (dy.M)), ((t 8), iA (cs 0) (dy.B)), ((t 9), iA (cs 0) (dy.C)), ((t 10), iA (cs 0) (dy.D)), ((t 11), iA (cs 0) (dy.F)), ((t 12), iA (cs 0) (dy.W)), (h, oS o (cy.mo) (cy.co) (cy.le)), (o, oQ (cs 1) 8 r), ((r 0), iB (cs 0) 8 (cl8 K 0)), ((r 1), iB (cs 0) 8 (cl8 K 1)), ((r 2), iB (cs 0) 8 (cl8 K 2)), ((r 3), iB (cs 0) 8 (cl8 K 3)), ((r 4), iB (cs 0) 8 (cl8 K 4)), ((r 5), iB (cs 0) 8 (cl8 K 5)), ((r 6), iB (cs 0) 8 (cl8 K 6)), ((r 7), iB (cs 0) 8 (cl8 K 7)), (q5, oQ (cs 1) 64 r5), (q6, iB (cs 0) 7 R6), (q7, iB (cs 0) 64 R7), (q13, iB (cs 0) 13 R13)] ++ (lR (cs 0) r5 F)) H → va_D A ([(hc, oX a t), ((a 0), oC a (cy.mo) (cy.co) (cy.le)), ((a 3), iA (cs 0) (cy.K)), ((a 4), iA (cs 0) (cy.Q)), ((a 5), iA (cs 0) (cy.L)), ((a 6), iA (cs 0) (cy.H)), ((a 7), iA (cs 0) (cy.M)), ((a 8), iA (cs 0) (cy.B)), ((a 9), iA (cs 0) (cy.C)), ((a 10), iA (cs 0) (cy.D)), ((a 11), iA (cs 0) (cy.F)), ((a 12), iA (cs 0) (cy.W)), ((t 0), oC t (dy.mo) (dy.co) (dy.le)), ((t 3), iA (cs 0) (dy.K)), ((t 4), iA (cs 0) (dy.Q)), ((t 5), iA (cs 0) (dy.L)), ((t 6), iA (cs 0) (dy.H)), ((t 7), iA (cs 0) (dy.M)), ((t 8), iA (cs 0) (dy.B)), ((t 9), iA (cs 0) (dy.C)), ((t 10), iA (cs 0) (dy.D)), ((t 11), iA (cs 0) (dy.F)), ((t 12), iA (cs 0) (dy.W)), (h, oS o (cy.mo) (cy.co) (cy.le)), (o, oQ (cs 1) 8 r), ((r 0), iB (cs 0) 8 (cl8 K 0)), ((r 1), iB (cs 0) 8 (cl8 K 1)), ((r 2), iB (cs 0) 8 (cl8 K 2)), ((r 3), iB (cs 0) 8 (cl8 K 3)), ((r 4), iB (cs 0) 8 (cl8 K 4)), ((r 5), iB (cs 0) 8 (cl8 K 5)), ((r 6), iB (cs 0) 8 (cl8 K 6)), ((r 7), iB (cs 0) 8 (cl8 K 7)), (q5, oQ (cs 1) 64 r5), (q6, iB (cs 0) 7 R6), (q7, iB (cs 0) 64 R7), (q13, iB (cs 0) 13 R13)] ++ (lR (cs 0) r5 F)) → va_S A s.heap H locs → lv_has ls 25 [(21, .int (nI i)), (20, .int (csum (lfI kp) (i + 1))), (18, .int had), (9, .int (dall kp)), (8, .int (call kp)), (7, .ref q7), (6, .ref q6), (5, .ref q5), (4, .int x4), (3, .int (nI tm)), (0, .ref b), (1, .ref hc), (2, .ref h)] → W p l e room_1 s m #[Value.ref b] below meth c H locs cells slots Q (F0 m 1464 ls []) := by
          intro  H locs ls hP hD hS hl
          refine lv_iinc (v := nI (i + 1)) (lv' := [(21, .int (nI (i + 1))), (20, .int (csum (lfI kp) (i + 1))), (18, .int had), (9, .int (dall kp)), (8, .int (call kp)), (7, .ref q7), (6, .ref q6), (5, .ref q5), (4, .int x4), (3, .int (nI tm)), (0, .ref b), (1, .ref hc), (2, .ref h)]) hx hb dL_law_1464 hl (k := 0) rfl (nI_inc i) (by decide) rfl (fun ls hl => ?_)
          refine lv_goto (tgt := 1170) hx hb dL_law_1467 (by decide) ?_
          exact ih_lo (i + 1) (by omega) (by omega) _ _ _ hP hD hS (lv_sub hl [0, 1, 2, 3, 4, 5, 6, 7, 8, 9, 10, 11, 12] (rfl))
        have jm : ∀ (now : Int32) (hnow : now = if 3 ≤ nbk kp 0 i then 0 else 2) (H : Heap) (locs : List Loc) (ls : Array Slot), va_P G vwCl ([(hc, oX a t), ((a 0), oC a (cy.mo) (cy.co) (cy.le)), ((a 3), iA (cs 0) (cy.K)), ((a 4), iA (cs 0) (cy.Q)), ((a 5), iA (cs 0) (cy.L)), ((a 6), iA (cs 0) (cy.H)), ((a 7), iA (cs 0) (cy.M)), ((a 8), iA (cs 0) (cy.B)), ((a 9), iA (cs 0) (cy.C)), ((a 10), iA (cs 0) (cy.D)), ((a 11), iA (cs 0) (cy.F)), ((a 12), iA (cs 0) (cy.W)), ((t 0), oC t (dy.mo) (dy.co) (dy.le)), ((t 3), iA (cs 0) (dy.K)), ((t 4), iA (cs 0) (dy.Q)), ((t 5), iA (cs 0) (dy.L)), ((t 6), iA (cs 0) (dy.H)), ((t 7), iA (cs 0) (dy.M)), ((t 8), iA (cs 0) (dy.B)), ((t 9), iA (cs 0) (dy.C)), ((t 10), iA (cs 0) (dy.D)), ((t 11), iA (cs 0) (dy.F)), ((t 12), iA (cs 0) (dy.W)), (h, oS o (cy.mo) (cy.co) (cy.le)), (o, oQ (cs 1) 8 r), ((r 0), iB (cs 0) 8 (cl8 K 0)), ((r 1), iB (cs 0) 8 (cl8 K 1)), ((r 2), iB (cs 0) 8 (cl8 K 2)), ((r 3), iB (cs 0) 8 (cl8 K 3)), ((r 4), iB (cs 0) 8 (cl8 K 4)), ((r 5), iB (cs 0) 8 (cl8 K 5)), ((r 6), iB (cs 0) 8 (cl8 K 6)), ((r 7), iB (cs 0) 8 (cl8 K 7)), (q5, oQ (cs 1) 64 r5), (q6, iB (cs 0) 7 R6), (q7, iB (cs 0) 64 R7), (q13, iB (cs 0) 13 R13)] ++ (lR (cs 0) r5 F)) H → va_D A ([(hc, oX a t), ((a 0), oC a (cy.mo) (cy.co) (cy.le)), ((a 3), iA (cs 0) (cy.K)), ((a 4), iA (cs 0) (cy.Q)), ((a 5), iA (cs 0) (cy.L)), ((a 6), iA (cs 0) (cy.H)), ((a 7), iA (cs 0) (cy.M)), ((a 8), iA (cs 0) (cy.B)), ((a 9), iA (cs 0) (cy.C)), ((a 10), iA (cs 0) (cy.D)), ((a 11), iA (cs 0) (cy.F)), ((a 12), iA (cs 0) (cy.W)), ((t 0), oC t (dy.mo) (dy.co) (dy.le)), ((t 3), iA (cs 0) (dy.K)), ((t 4), iA (cs 0) (dy.Q)), ((t 5), iA (cs 0) (dy.L)), ((t 6), iA (cs 0) (dy.H)), ((t 7), iA (cs 0) (dy.M)), ((t 8), iA (cs 0) (dy.B)), ((t 9), iA (cs 0) (dy.C)), ((t 10), iA (cs 0) (dy.D)), ((t 11), iA (cs 0) (dy.F)), ((t 12), iA (cs 0) (dy.W)), (h, oS o (cy.mo) (cy.co) (cy.le)), (o, oQ (cs 1) 8 r), ((r 0), iB (cs 0) 8 (cl8 K 0)), ((r 1), iB (cs 0) 8 (cl8 K 1)), ((r 2), iB (cs 0) 8 (cl8 K 2)), ((r 3), iB (cs 0) 8 (cl8 K 3)), ((r 4), iB (cs 0) 8 (cl8 K 4)), ((r 5), iB (cs 0) 8 (cl8 K 5)), ((r 6), iB (cs 0) 8 (cl8 K 6)), ((r 7), iB (cs 0) 8 (cl8 K 7)), (q5, oQ (cs 1) 64 r5), (q6, iB (cs 0) 7 R6), (q7, iB (cs 0) 64 R7), (q13, iB (cs 0) 13 R13)] ++ (lR (cs 0) r5 F)) → va_S A s.heap H locs → lv_has ls 25 [(22, .int now), (21, .int (nI i)), (20, .int (csum (lfI kp) (i + 1))), (18, .int had), (9, .int (dall kp)), (8, .int (call kp)), (7, .ref q7), (6, .ref q6), (5, .ref q5), (4, .int x4), (3, .int (nI tm)), (0, .ref b), (1, .ref hc), (2, .ref h)] → W p l e room_1 s m #[Value.ref b] below meth c H locs cells slots Q (F0 m 1313 ls []) := by
          intro now hnow H locs ls hP hD hS hl
          refine lv_iconst (v := 0) hx hb dL_law_1313 (by decide) ?_
          refine lv_istore (lv' := [(24, .int 0), (22, .int now), (21, .int (nI i)), (20, .int (csum (lfI kp) (i + 1))), (18, .int had), (9, .int (dall kp)), (8, .int (call kp)), (7, .ref q7), (6, .ref q6), (5, .ref q5), (4, .int x4), (3, .int (nI tm)), (0, .ref b), (1, .ref hc), (2, .ref h)]) hx hb dL_law_1314 hl (by decide) rfl (fun ls hl => ?_)
          have jl : ∀ (H : Heap) (locs : List Loc) (ls : Array Slot), va_P G vwCl ([(hc, oX a t), ((a 0), oC a (cy.mo) (cy.co) (cy.le)), ((a 3), iA (cs 0) (cy.K)), ((a 4), iA (cs 0) (cy.Q)), ((a 5), iA (cs 0) (cy.L)), ((a 6), iA (cs 0) (cy.H)), ((a 7), iA (cs 0) (cy.M)), ((a 8), iA (cs 0) (cy.B)), ((a 9), iA (cs 0) (cy.C)), ((a 10), iA (cs 0) (cy.D)), ((a 11), iA (cs 0) (cy.F)), ((a 12), iA (cs 0) (cy.W)), ((t 0), oC t (dy.mo) (dy.co) (dy.le)), ((t 3), iA (cs 0) (dy.K)), ((t 4), iA (cs 0) (dy.Q)), ((t 5), iA (cs 0) (dy.L)), ((t 6), iA (cs 0) (dy.H)), ((t 7), iA (cs 0) (dy.M)), ((t 8), iA (cs 0) (dy.B)), ((t 9), iA (cs 0) (dy.C)), ((t 10), iA (cs 0) (dy.D)), ((t 11), iA (cs 0) (dy.F)), ((t 12), iA (cs 0) (dy.W)), (h, oS o (cy.mo) (cy.co) (cy.le)), (o, oQ (cs 1) 8 r), ((r 0), iB (cs 0) 8 (cl8 K 0)), ((r 1), iB (cs 0) 8 (cl8 K 1)), ((r 2), iB (cs 0) 8 (cl8 K 2)), ((r 3), iB (cs 0) 8 (cl8 K 3)), ((r 4), iB (cs 0) 8 (cl8 K 4)), ((r 5), iB (cs 0) 8 (cl8 K 5)), ((r 6), iB (cs 0) 8 (cl8 K 6)), ((r 7), iB (cs 0) 8 (cl8 K 7)), (q5, oQ (cs 1) 64 r5), (q6, iB (cs 0) 7 R6), (q7, iB (cs 0) 64 R7), (q13, iB (cs 0) 13 R13)] ++ (lR (cs 0) r5 F)) H → va_D A ([(hc, oX a t), ((a 0), oC a (cy.mo) (cy.co) (cy.le)), ((a 3), iA (cs 0) (cy.K)), ((a 4), iA (cs 0) (cy.Q)), ((a 5), iA (cs 0) (cy.L)), ((a 6), iA (cs 0) (cy.H)), ((a 7), iA (cs 0) (cy.M)), ((a 8), iA (cs 0) (cy.B)), ((a 9), iA (cs 0) (cy.C)), ((a 10), iA (cs 0) (cy.D)), ((a 11), iA (cs 0) (cy.F)), ((a 12), iA (cs 0) (cy.W)), ((t 0), oC t (dy.mo) (dy.co) (dy.le)), ((t 3), iA (cs 0) (dy.K)), ((t 4), iA (cs 0) (dy.Q)), ((t 5), iA (cs 0) (dy.L)), ((t 6), iA (cs 0) (dy.H)), ((t 7), iA (cs 0) (dy.M)), ((t 8), iA (cs 0) (dy.B)), ((t 9), iA (cs 0) (dy.C)), ((t 10), iA (cs 0) (dy.D)), ((t 11), iA (cs 0) (dy.F)), ((t 12), iA (cs 0) (dy.W)), (h, oS o (cy.mo) (cy.co) (cy.le)), (o, oQ (cs 1) 8 r), ((r 0), iB (cs 0) 8 (cl8 K 0)), ((r 1), iB (cs 0) 8 (cl8 K 1)), ((r 2), iB (cs 0) 8 (cl8 K 2)), ((r 3), iB (cs 0) 8 (cl8 K 3)), ((r 4), iB (cs 0) 8 (cl8 K 4)), ((r 5), iB (cs 0) 8 (cl8 K 5)), ((r 6), iB (cs 0) 8 (cl8 K 6)), ((r 7), iB (cs 0) 8 (cl8 K 7)), (q5, oQ (cs 1) 64 r5), (q6, iB (cs 0) 7 R6), (q7, iB (cs 0) 64 R7), (q13, iB (cs 0) 13 R13)] ++ (lR (cs 0) r5 F)) → va_S A s.heap H locs → lv_has ls 25 [(24, .int (0 + tel kp 0 (nbC i 1))), (22, .int now), (21, .int (nI i)), (20, .int (csum (lfI kp) (i + 1))), (18, .int had), (9, .int (dall kp)), (8, .int (call kp)), (7, .ref q7), (6, .ref q6), (5, .ref q5), (4, .int x4), (3, .int (nI tm)), (0, .ref b), (1, .ref hc), (2, .ref h)] → W p l e room_1 s m #[Value.ref b] below meth c H locs cells slots Q (F0 m 1346 ls []) := by
            intro  H locs ls hP hD hS hl
            have jr : ∀ (H : Heap) (locs : List Loc) (ls : Array Slot), va_P G vwCl ([(hc, oX a t), ((a 0), oC a (cy.mo) (cy.co) (cy.le)), ((a 3), iA (cs 0) (cy.K)), ((a 4), iA (cs 0) (cy.Q)), ((a 5), iA (cs 0) (cy.L)), ((a 6), iA (cs 0) (cy.H)), ((a 7), iA (cs 0) (cy.M)), ((a 8), iA (cs 0) (cy.B)), ((a 9), iA (cs 0) (cy.C)), ((a 10), iA (cs 0) (cy.D)), ((a 11), iA (cs 0) (cy.F)), ((a 12), iA (cs 0) (cy.W)), ((t 0), oC t (dy.mo) (dy.co) (dy.le)), ((t 3), iA (cs 0) (dy.K)), ((t 4), iA (cs 0) (dy.Q)), ((t 5), iA (cs 0) (dy.L)), ((t 6), iA (cs 0) (dy.H)), ((t 7), iA (cs 0) (dy.M)), ((t 8), iA (cs 0) (dy.B)), ((t 9), iA (cs 0) (dy.C)), ((t 10), iA (cs 0) (dy.D)), ((t 11), iA (cs 0) (dy.F)), ((t 12), iA (cs 0) (dy.W)), (h, oS o (cy.mo) (cy.co) (cy.le)), (o, oQ (cs 1) 8 r), ((r 0), iB (cs 0) 8 (cl8 K 0)), ((r 1), iB (cs 0) 8 (cl8 K 1)), ((r 2), iB (cs 0) 8 (cl8 K 2)), ((r 3), iB (cs 0) 8 (cl8 K 3)), ((r 4), iB (cs 0) 8 (cl8 K 4)), ((r 5), iB (cs 0) 8 (cl8 K 5)), ((r 6), iB (cs 0) 8 (cl8 K 6)), ((r 7), iB (cs 0) 8 (cl8 K 7)), (q5, oQ (cs 1) 64 r5), (q6, iB (cs 0) 7 R6), (q7, iB (cs 0) 64 R7), (q13, iB (cs 0) 13 R13)] ++ (lR (cs 0) r5 F)) H → va_D A ([(hc, oX a t), ((a 0), oC a (cy.mo) (cy.co) (cy.le)), ((a 3), iA (cs 0) (cy.K)), ((a 4), iA (cs 0) (cy.Q)), ((a 5), iA (cs 0) (cy.L)), ((a 6), iA (cs 0) (cy.H)), ((a 7), iA (cs 0) (cy.M)), ((a 8), iA (cs 0) (cy.B)), ((a 9), iA (cs 0) (cy.C)), ((a 10), iA (cs 0) (cy.D)), ((a 11), iA (cs 0) (cy.F)), ((a 12), iA (cs 0) (cy.W)), ((t 0), oC t (dy.mo) (dy.co) (dy.le)), ((t 3), iA (cs 0) (dy.K)), ((t 4), iA (cs 0) (dy.Q)), ((t 5), iA (cs 0) (dy.L)), ((t 6), iA (cs 0) (dy.H)), ((t 7), iA (cs 0) (dy.M)), ((t 8), iA (cs 0) (dy.B)), ((t 9), iA (cs 0) (dy.C)), ((t 10), iA (cs 0) (dy.D)), ((t 11), iA (cs 0) (dy.F)), ((t 12), iA (cs 0) (dy.W)), (h, oS o (cy.mo) (cy.co) (cy.le)), (o, oQ (cs 1) 8 r), ((r 0), iB (cs 0) 8 (cl8 K 0)), ((r 1), iB (cs 0) 8 (cl8 K 1)), ((r 2), iB (cs 0) 8 (cl8 K 2)), ((r 3), iB (cs 0) 8 (cl8 K 3)), ((r 4), iB (cs 0) 8 (cl8 K 4)), ((r 5), iB (cs 0) 8 (cl8 K 5)), ((r 6), iB (cs 0) 8 (cl8 K 6)), ((r 7), iB (cs 0) 8 (cl8 K 7)), (q5, oQ (cs 1) 64 r5), (q6, iB (cs 0) 7 R6), (q7, iB (cs 0) 64 R7), (q13, iB (cs 0) 13 R13)] ++ (lR (cs 0) r5 F)) → va_S A s.heap H locs → lv_has ls 25 [(24, .int ((0 + tel kp 0 (nbC i 1)) + tel kp 0 (nbC i 2))), (22, .int now), (21, .int (nI i)), (20, .int (csum (lfI kp) (i + 1))), (18, .int had), (9, .int (dall kp)), (8, .int (call kp)), (7, .ref q7), (6, .ref q6), (5, .ref q5), (4, .int x4), (3, .int (nI tm)), (0, .ref b), (1, .ref hc), (2, .ref h)] → W p l e room_1 s m #[Value.ref b] below meth c H locs cells slots Q (F0 m 1378 ls []) := by
              intro  H locs ls hP hD hS hl
              have ju : ∀ (H : Heap) (locs : List Loc) (ls : Array Slot), va_P G vwCl ([(hc, oX a t), ((a 0), oC a (cy.mo) (cy.co) (cy.le)), ((a 3), iA (cs 0) (cy.K)), ((a 4), iA (cs 0) (cy.Q)), ((a 5), iA (cs 0) (cy.L)), ((a 6), iA (cs 0) (cy.H)), ((a 7), iA (cs 0) (cy.M)), ((a 8), iA (cs 0) (cy.B)), ((a 9), iA (cs 0) (cy.C)), ((a 10), iA (cs 0) (cy.D)), ((a 11), iA (cs 0) (cy.F)), ((a 12), iA (cs 0) (cy.W)), ((t 0), oC t (dy.mo) (dy.co) (dy.le)), ((t 3), iA (cs 0) (dy.K)), ((t 4), iA (cs 0) (dy.Q)), ((t 5), iA (cs 0) (dy.L)), ((t 6), iA (cs 0) (dy.H)), ((t 7), iA (cs 0) (dy.M)), ((t 8), iA (cs 0) (dy.B)), ((t 9), iA (cs 0) (dy.C)), ((t 10), iA (cs 0) (dy.D)), ((t 11), iA (cs 0) (dy.F)), ((t 12), iA (cs 0) (dy.W)), (h, oS o (cy.mo) (cy.co) (cy.le)), (o, oQ (cs 1) 8 r), ((r 0), iB (cs 0) 8 (cl8 K 0)), ((r 1), iB (cs 0) 8 (cl8 K 1)), ((r 2), iB (cs 0) 8 (cl8 K 2)), ((r 3), iB (cs 0) 8 (cl8 K 3)), ((r 4), iB (cs 0) 8 (cl8 K 4)), ((r 5), iB (cs 0) 8 (cl8 K 5)), ((r 6), iB (cs 0) 8 (cl8 K 6)), ((r 7), iB (cs 0) 8 (cl8 K 7)), (q5, oQ (cs 1) 64 r5), (q6, iB (cs 0) 7 R6), (q7, iB (cs 0) 64 R7), (q13, iB (cs 0) 13 R13)] ++ (lR (cs 0) r5 F)) H → va_D A ([(hc, oX a t), ((a 0), oC a (cy.mo) (cy.co) (cy.le)), ((a 3), iA (cs 0) (cy.K)), ((a 4), iA (cs 0) (cy.Q)), ((a 5), iA (cs 0) (cy.L)), ((a 6), iA (cs 0) (cy.H)), ((a 7), iA (cs 0) (cy.M)), ((a 8), iA (cs 0) (cy.B)), ((a 9), iA (cs 0) (cy.C)), ((a 10), iA (cs 0) (cy.D)), ((a 11), iA (cs 0) (cy.F)), ((a 12), iA (cs 0) (cy.W)), ((t 0), oC t (dy.mo) (dy.co) (dy.le)), ((t 3), iA (cs 0) (dy.K)), ((t 4), iA (cs 0) (dy.Q)), ((t 5), iA (cs 0) (dy.L)), ((t 6), iA (cs 0) (dy.H)), ((t 7), iA (cs 0) (dy.M)), ((t 8), iA (cs 0) (dy.B)), ((t 9), iA (cs 0) (dy.C)), ((t 10), iA (cs 0) (dy.D)), ((t 11), iA (cs 0) (dy.F)), ((t 12), iA (cs 0) (dy.W)), (h, oS o (cy.mo) (cy.co) (cy.le)), (o, oQ (cs 1) 8 r), ((r 0), iB (cs 0) 8 (cl8 K 0)), ((r 1), iB (cs 0) 8 (cl8 K 1)), ((r 2), iB (cs 0) 8 (cl8 K 2)), ((r 3), iB (cs 0) 8 (cl8 K 3)), ((r 4), iB (cs 0) 8 (cl8 K 4)), ((r 5), iB (cs 0) 8 (cl8 K 5)), ((r 6), iB (cs 0) 8 (cl8 K 6)), ((r 7), iB (cs 0) 8 (cl8 K 7)), (q5, oQ (cs 1) 64 r5), (q6, iB (cs 0) 7 R6), (q7, iB (cs 0) 64 R7), (q13, iB (cs 0) 13 R13)] ++ (lR (cs 0) r5 F)) → va_S A s.heap H locs → lv_has ls 25 [(24, .int (((0 + tel kp 0 (nbC i 1)) + tel kp 0 (nbC i 2)) + tel kp 0 (nbC i 0))), (22, .int now), (21, .int (nI i)), (20, .int (csum (lfI kp) (i + 1))), (18, .int had), (9, .int (dall kp)), (8, .int (call kp)), (7, .ref q7), (6, .ref q6), (5, .ref q5), (4, .int x4), (3, .int (nI tm)), (0, .ref b), (1, .ref hc), (2, .ref h)] → W p l e room_1 s m #[Value.ref b] below meth c H locs cells slots Q (F0 m 1408 ls []) := by
                intro  H locs ls hP hD hS hl
                have jd : ∀ (H : Heap) (locs : List Loc) (ls : Array Slot), va_P G vwCl ([(hc, oX a t), ((a 0), oC a (cy.mo) (cy.co) (cy.le)), ((a 3), iA (cs 0) (cy.K)), ((a 4), iA (cs 0) (cy.Q)), ((a 5), iA (cs 0) (cy.L)), ((a 6), iA (cs 0) (cy.H)), ((a 7), iA (cs 0) (cy.M)), ((a 8), iA (cs 0) (cy.B)), ((a 9), iA (cs 0) (cy.C)), ((a 10), iA (cs 0) (cy.D)), ((a 11), iA (cs 0) (cy.F)), ((a 12), iA (cs 0) (cy.W)), ((t 0), oC t (dy.mo) (dy.co) (dy.le)), ((t 3), iA (cs 0) (dy.K)), ((t 4), iA (cs 0) (dy.Q)), ((t 5), iA (cs 0) (dy.L)), ((t 6), iA (cs 0) (dy.H)), ((t 7), iA (cs 0) (dy.M)), ((t 8), iA (cs 0) (dy.B)), ((t 9), iA (cs 0) (dy.C)), ((t 10), iA (cs 0) (dy.D)), ((t 11), iA (cs 0) (dy.F)), ((t 12), iA (cs 0) (dy.W)), (h, oS o (cy.mo) (cy.co) (cy.le)), (o, oQ (cs 1) 8 r), ((r 0), iB (cs 0) 8 (cl8 K 0)), ((r 1), iB (cs 0) 8 (cl8 K 1)), ((r 2), iB (cs 0) 8 (cl8 K 2)), ((r 3), iB (cs 0) 8 (cl8 K 3)), ((r 4), iB (cs 0) 8 (cl8 K 4)), ((r 5), iB (cs 0) 8 (cl8 K 5)), ((r 6), iB (cs 0) 8 (cl8 K 6)), ((r 7), iB (cs 0) 8 (cl8 K 7)), (q5, oQ (cs 1) 64 r5), (q6, iB (cs 0) 7 R6), (q7, iB (cs 0) 64 R7), (q13, iB (cs 0) 13 R13)] ++ (lR (cs 0) r5 F)) H → va_D A ([(hc, oX a t), ((a 0), oC a (cy.mo) (cy.co) (cy.le)), ((a 3), iA (cs 0) (cy.K)), ((a 4), iA (cs 0) (cy.Q)), ((a 5), iA (cs 0) (cy.L)), ((a 6), iA (cs 0) (cy.H)), ((a 7), iA (cs 0) (cy.M)), ((a 8), iA (cs 0) (cy.B)), ((a 9), iA (cs 0) (cy.C)), ((a 10), iA (cs 0) (cy.D)), ((a 11), iA (cs 0) (cy.F)), ((a 12), iA (cs 0) (cy.W)), ((t 0), oC t (dy.mo) (dy.co) (dy.le)), ((t 3), iA (cs 0) (dy.K)), ((t 4), iA (cs 0) (dy.Q)), ((t 5), iA (cs 0) (dy.L)), ((t 6), iA (cs 0) (dy.H)), ((t 7), iA (cs 0) (dy.M)), ((t 8), iA (cs 0) (dy.B)), ((t 9), iA (cs 0) (dy.C)), ((t 10), iA (cs 0) (dy.D)), ((t 11), iA (cs 0) (dy.F)), ((t 12), iA (cs 0) (dy.W)), (h, oS o (cy.mo) (cy.co) (cy.le)), (o, oQ (cs 1) 8 r), ((r 0), iB (cs 0) 8 (cl8 K 0)), ((r 1), iB (cs 0) 8 (cl8 K 1)), ((r 2), iB (cs 0) 8 (cl8 K 2)), ((r 3), iB (cs 0) 8 (cl8 K 3)), ((r 4), iB (cs 0) 8 (cl8 K 4)), ((r 5), iB (cs 0) 8 (cl8 K 5)), ((r 6), iB (cs 0) 8 (cl8 K 6)), ((r 7), iB (cs 0) 8 (cl8 K 7)), (q5, oQ (cs 1) 64 r5), (q6, iB (cs 0) 7 R6), (q7, iB (cs 0) 64 R7), (q13, iB (cs 0) 13 R13)] ++ (lR (cs 0) r5 F)) → va_S A s.heap H locs → lv_has ls 25 [(24, .int ((((0 + tel kp 0 (nbC i 1)) + tel kp 0 (nbC i 2)) + tel kp 0 (nbC i 0)) + tel kp 0 (nbC i 3))), (22, .int now), (21, .int (nI i)), (20, .int (csum (lfI kp) (i + 1))), (18, .int had), (9, .int (dall kp)), (8, .int (call kp)), (7, .ref q7), (6, .ref q6), (5, .ref q5), (4, .int x4), (3, .int (nI tm)), (0, .ref b), (1, .ref hc), (2, .ref h)] → W p l e room_1 s m #[Value.ref b] below meth c H locs cells slots Q (F0 m 1438 ls []) := by
                  intro  H locs ls hP hD hS hl
                  have hl : lv_has ls 25 [(24, .int (nbk kp 0 i)), (22, .int now), (21, .int (nI i)), (20, .int (csum (lfI kp) (i + 1))), (18, .int had), (9, .int (dall kp)), (8, .int (call kp)), (7, .ref q7), (6, .ref q6), (5, .ref q5), (4, .int x4), (3, .int (nI tm)), (0, .ref b), (1, .ref hc), (2, .ref h)] := by have h9 := hl; rw [nbk_law] at h9; exact h9
                  rcases Decidable.em ((3 : Int32) ≤ nbk kp 0 i) with hn | hn
                  · skip
                    rw [if_pos hn] at hnow
                    subst hnow
                    refine lv_iload hx hb dL_law_1438 (lv_at hl 1 rfl) ?_
                    refine lv_if_ne (tgt := 1447) hx hb dL_law_1440 (by decide) (fun c => absurd (rfl) c) (fun _ => ?_)
                    refine lv_iconst (v := 1) hx hb dL_law_1443 (by decide) ?_
                    refine lv_goto (tgt := 1448) hx hb dL_law_1444 (by decide) ?_
                    refine lv_iload hx hb dL_law_1448 (lv_at hl 0 rfl) ?_
                    refine lv_iconst (v := 3) hx hb dL_law_1450 (by decide) ?_
                    refine lv_icmp_lt (tgt := 1458) hx hb dL_law_1451 (by decide) (fun c => absurd c (Int32.not_lt.mpr hn)) (fun _ => ?_)
                    refine lv_iconst (v := 1) hx hb dL_law_1454 (by decide) ?_
                    refine lv_goto (tgt := 1459) hx hb dL_law_1455 (by decide) ?_
                    refine lv_icmp_eq (tgt := 1464) hx hb dL_law_1459 (by decide) (fun _ => ?_) (fun c => absurd (rfl) c)
                    exact jn H locs ls hP hD hS (lv_sub hl [2, 3, 4, 5, 6, 7, 8, 9, 10, 11, 12, 13, 14] rfl)
                  · skip
                    rw [if_neg hn] at hnow
                    subst hnow
                    refine lv_iload hx hb dL_law_1438 (lv_at hl 1 rfl) ?_
                    refine lv_if_ne (tgt := 1447) hx hb dL_law_1440 (by decide) (fun _ => ?_) (fun c => absurd c (by decide))
                    refine lv_iconst (v := 0) hx hb dL_law_1447 (by decide) ?_
                    refine lv_iload hx hb dL_law_1448 (lv_at hl 0 rfl) ?_
                    refine lv_iconst (v := 3) hx hb dL_law_1450 (by decide) ?_
                    refine lv_icmp_lt (tgt := 1458) hx hb dL_law_1451 (by decide) (fun _ => ?_) (fun c => absurd (Int32.not_le.mp hn) c)
                    refine lv_iconst (v := 0) hx hb dL_law_1458 (by decide) ?_
                    refine lv_icmp_eq (tgt := 1464) hx hb dL_law_1459 (by decide) (fun _ => ?_) (fun c => absurd (rfl) c)
                    exact jn H locs ls hP hD hS (lv_sub hl [2, 3, 4, 5, 6, 7, 8, 9, 10, 11, 12, 13, 14] rfl)
                refine lv_iload hx hb dL_law_1408 (lv_at hl 2 rfl) ?_
                refine lv_bipush (v := 56) hx hb dL_law_1410 (by decide) ?_
                rcases Decidable.em (i < 56) with hcc | hcc
                · skip
                  refine lv_icmp_ge (tgt := 1438) hx hb dL_law_1412 (by decide) (fun c => absurd c (lt_n (n := 56) hcc (by decide))) (fun _ => ?_)
                  refine lv_iload hx hb dL_law_1415 (lv_at hl 0 rfl) ?_
                  refine lv_aload hx hb dL_law_1417 (lv_at hl 9 rfl) ?_
                  refine lv_iload hx hb dL_law_1419 (lv_at hl 2 rfl) ?_
                  refine lv_bipush (v := 8) hx hb dL_law_1421 (by decide) ?_
                  refine lv_iadd hx hb dL_law_1423 ?_
                  refine tpi (x' := nI (i + 8)) (nI_add i 8) ?_
                  refine tpi (x' := nI (i + 8)) (rfl) ?_
                  refine g_ald (r := r5) (n := 64) hx hb hK hP 33 1 rfl rfl (x := (i + 8)) (by omega) (by decide) dL_law_1424 ?_
                  refine lv_iconst (v := 0) hx hb dL_law_1425 (by decide) ?_
                  refine tpi (x' := nI 0) (rfl) ?_
                  refine l_iald (X := [(hc, oX a t), ((a 0), oC a (cy.mo) (cy.co) (cy.le)), ((a 3), iA (cs 0) (cy.K)), ((a 4), iA (cs 0) (cy.Q)), ((a 5), iA (cs 0) (cy.L)), ((a 6), iA (cs 0) (cy.H)), ((a 7), iA (cs 0) (cy.M)), ((a 8), iA (cs 0) (cy.B)), ((a 9), iA (cs 0) (cy.C)), ((a 10), iA (cs 0) (cy.D)), ((a 11), iA (cs 0) (cy.F)), ((a 12), iA (cs 0) (cy.W)), ((t 0), oC t (dy.mo) (dy.co) (dy.le)), ((t 3), iA (cs 0) (dy.K)), ((t 4), iA (cs 0) (dy.Q)), ((t 5), iA (cs 0) (dy.L)), ((t 6), iA (cs 0) (dy.H)), ((t 7), iA (cs 0) (dy.M)), ((t 8), iA (cs 0) (dy.B)), ((t 9), iA (cs 0) (dy.C)), ((t 10), iA (cs 0) (dy.D)), ((t 11), iA (cs 0) (dy.F)), ((t 12), iA (cs 0) (dy.W)), (h, oS o (cy.mo) (cy.co) (cy.le)), (o, oQ (cs 1) 8 r), ((r 0), iB (cs 0) 8 (cl8 K 0)), ((r 1), iB (cs 0) 8 (cl8 K 1)), ((r 2), iB (cs 0) 8 (cl8 K 2)), ((r 3), iB (cs 0) 8 (cl8 K 3)), ((r 4), iB (cs 0) 8 (cl8 K 4)), ((r 5), iB (cs 0) 8 (cl8 K 5)), ((r 6), iB (cs 0) 8 (cl8 K 6)), ((r 7), iB (cs 0) 8 (cl8 K 7)), (q5, oQ (cs 1) 64 r5), (q6, iB (cs 0) 7 R6), (q7, iB (cs 0) 64 R7), (q13, iB (cs 0) 13 R13)]) (r := r5) (F := F) hx hb hK hP 0 rfl (i := (i + 8)) (w := 0) (by omega) (by decide) dL_law_1426 ?_
                  refine tpi (x' := kp (i + 8)) ((hF (i + 8) (by omega)).1) ?_
                  rcases Decidable.em (kp (i + 8) = 0) with h0 | h0
                  · skip
                    refine tpi (x' := 0) (h0) ?_
                    refine lv_if_ne (tgt := 1434) hx hb dL_law_1427 (by decide) (fun c => absurd (rfl) c) (fun _ => ?_)
                    refine lv_iconst (v := 1) hx hb dL_law_1430 (by decide) ?_
                    refine lv_goto (tgt := 1435) hx hb dL_law_1431 (by decide) ?_
                    refine lv_iadd hx hb dL_law_1435 ?_
                    refine tpi (x' := ((((0 + tel kp 0 (nbC i 1)) + tel kp 0 (nbC i 2)) + tel kp 0 (nbC i 0)) + tel kp 0 (nbC i 3))) (by rw [tel_y (k := kp) (nb_d hcc) h0]) ?_
                    refine lv_istore (lv' := [(24, .int ((((0 + tel kp 0 (nbC i 1)) + tel kp 0 (nbC i 2)) + tel kp 0 (nbC i 0)) + tel kp 0 (nbC i 3))), (22, .int now), (21, .int (nI i)), (20, .int (csum (lfI kp) (i + 1))), (18, .int had), (9, .int (dall kp)), (8, .int (call kp)), (7, .ref q7), (6, .ref q6), (5, .ref q5), (4, .int x4), (3, .int (nI tm)), (0, .ref b), (1, .ref hc), (2, .ref h)]) hx hb dL_law_1436 hl (by decide) rfl (fun ls hl => ?_)
                    exact jd H locs ls hP hD hS (lv_sub hl [0, 1, 2, 3, 4, 5, 6, 7, 8, 9, 10, 11, 12, 13, 14] rfl)
                  · skip
                    refine lv_if_ne (tgt := 1434) hx hb dL_law_1427 (by decide) (fun _ => ?_) (fun c => absurd c (h0))
                    refine lv_iconst (v := 0) hx hb dL_law_1434 (by decide) ?_
                    refine lv_iadd hx hb dL_law_1435 ?_
                    refine tpi (x' := ((((0 + tel kp 0 (nbC i 1)) + tel kp 0 (nbC i 2)) + tel kp 0 (nbC i 0)) + tel kp 0 (nbC i 3))) (by rw [tel_n (k := kp) (nb_d hcc) h0]) ?_
                    refine lv_istore (lv' := [(24, .int ((((0 + tel kp 0 (nbC i 1)) + tel kp 0 (nbC i 2)) + tel kp 0 (nbC i 0)) + tel kp 0 (nbC i 3))), (22, .int now), (21, .int (nI i)), (20, .int (csum (lfI kp) (i + 1))), (18, .int had), (9, .int (dall kp)), (8, .int (call kp)), (7, .ref q7), (6, .ref q6), (5, .ref q5), (4, .int x4), (3, .int (nI tm)), (0, .ref b), (1, .ref hc), (2, .ref h)]) hx hb dL_law_1436 hl (by decide) rfl (fun ls hl => ?_)
                    exact jd H locs ls hP hD hS (lv_sub hl [0, 1, 2, 3, 4, 5, 6, 7, 8, 9, 10, 11, 12, 13, 14] rfl)
                · skip
                  refine lv_icmp_ge (tgt := 1438) hx hb dL_law_1412 (by decide) (fun _ => ?_) (fun c => absurd (le_n (n := 56) (by omega) (by omega)) c)
                  have e24 : (((0 + tel kp 0 (nbC i 1)) + tel kp 0 (nbC i 2)) + tel kp 0 (nbC i 0)) = ((((0 + tel kp 0 (nbC i 1)) + tel kp 0 (nbC i 2)) + tel kp 0 (nbC i 0)) + tel kp 0 (nbC i 3)) := by rw [tel_o (k := kp) (nb_d0 hcc), Int32.add_zero]
                  have hl : lv_has ls 25 [(24, .int ((((0 + tel kp 0 (nbC i 1)) + tel kp 0 (nbC i 2)) + tel kp 0 (nbC i 0)) + tel kp 0 (nbC i 3))), (22, .int now), (21, .int (nI i)), (20, .int (csum (lfI kp) (i + 1))), (18, .int had), (9, .int (dall kp)), (8, .int (call kp)), (7, .ref q7), (6, .ref q6), (5, .ref q5), (4, .int x4), (3, .int (nI tm)), (0, .ref b), (1, .ref hc), (2, .ref h)] := by rw [← e24]; exact hl
                  exact jd H locs ls hP hD hS (lv_sub hl [0, 1, 2, 3, 4, 5, 6, 7, 8, 9, 10, 11, 12, 13, 14] rfl)
              refine lv_iload hx hb dL_law_1378 (lv_at hl 2 rfl) ?_
              refine lv_bipush (v := 7) hx hb dL_law_1380 (by decide) ?_
              rcases Decidable.em (7 < i) with hcc | hcc
              · skip
                refine lv_icmp_le (tgt := 1408) hx hb dL_law_1382 (by decide) (fun c => absurd c (nI_ge (a := 7) hcc (by omega))) (fun _ => ?_)
                refine lv_iload hx hb dL_law_1385 (lv_at hl 0 rfl) ?_
                refine lv_aload hx hb dL_law_1387 (lv_at hl 9 rfl) ?_
                refine lv_iload hx hb dL_law_1389 (lv_at hl 2 rfl) ?_
                refine lv_bipush (v := 8) hx hb dL_law_1391 (by decide) ?_
                refine lv_isub hx hb dL_law_1393 ?_
                refine tpi (x' := nI (i - 8)) (pk_sub (a := i) (b := 8) (by omega)) ?_
                refine tpi (x' := nI (i - 8)) (rfl) ?_
                refine g_ald (r := r5) (n := 64) hx hb hK hP 33 1 rfl rfl (x := (i - 8)) (by omega) (by decide) dL_law_1394 ?_
                refine lv_iconst (v := 0) hx hb dL_law_1395 (by decide) ?_
                refine tpi (x' := nI 0) (rfl) ?_
                refine l_iald (X := [(hc, oX a t), ((a 0), oC a (cy.mo) (cy.co) (cy.le)), ((a 3), iA (cs 0) (cy.K)), ((a 4), iA (cs 0) (cy.Q)), ((a 5), iA (cs 0) (cy.L)), ((a 6), iA (cs 0) (cy.H)), ((a 7), iA (cs 0) (cy.M)), ((a 8), iA (cs 0) (cy.B)), ((a 9), iA (cs 0) (cy.C)), ((a 10), iA (cs 0) (cy.D)), ((a 11), iA (cs 0) (cy.F)), ((a 12), iA (cs 0) (cy.W)), ((t 0), oC t (dy.mo) (dy.co) (dy.le)), ((t 3), iA (cs 0) (dy.K)), ((t 4), iA (cs 0) (dy.Q)), ((t 5), iA (cs 0) (dy.L)), ((t 6), iA (cs 0) (dy.H)), ((t 7), iA (cs 0) (dy.M)), ((t 8), iA (cs 0) (dy.B)), ((t 9), iA (cs 0) (dy.C)), ((t 10), iA (cs 0) (dy.D)), ((t 11), iA (cs 0) (dy.F)), ((t 12), iA (cs 0) (dy.W)), (h, oS o (cy.mo) (cy.co) (cy.le)), (o, oQ (cs 1) 8 r), ((r 0), iB (cs 0) 8 (cl8 K 0)), ((r 1), iB (cs 0) 8 (cl8 K 1)), ((r 2), iB (cs 0) 8 (cl8 K 2)), ((r 3), iB (cs 0) 8 (cl8 K 3)), ((r 4), iB (cs 0) 8 (cl8 K 4)), ((r 5), iB (cs 0) 8 (cl8 K 5)), ((r 6), iB (cs 0) 8 (cl8 K 6)), ((r 7), iB (cs 0) 8 (cl8 K 7)), (q5, oQ (cs 1) 64 r5), (q6, iB (cs 0) 7 R6), (q7, iB (cs 0) 64 R7), (q13, iB (cs 0) 13 R13)]) (r := r5) (F := F) hx hb hK hP 0 rfl (i := (i - 8)) (w := 0) (by omega) (by decide) dL_law_1396 ?_
                refine tpi (x' := kp (i - 8)) ((hF (i - 8) (by omega)).1) ?_
                rcases Decidable.em (kp (i - 8) = 0) with h0 | h0
                · skip
                  refine tpi (x' := 0) (h0) ?_
                  refine lv_if_ne (tgt := 1404) hx hb dL_law_1397 (by decide) (fun c => absurd (rfl) c) (fun _ => ?_)
                  refine lv_iconst (v := 1) hx hb dL_law_1400 (by decide) ?_
                  refine lv_goto (tgt := 1405) hx hb dL_law_1401 (by decide) ?_
                  refine lv_iadd hx hb dL_law_1405 ?_
                  refine tpi (x' := (((0 + tel kp 0 (nbC i 1)) + tel kp 0 (nbC i 2)) + tel kp 0 (nbC i 0))) (by rw [tel_y (k := kp) (nb_u hcc) h0]) ?_
                  refine lv_istore (lv' := [(24, .int (((0 + tel kp 0 (nbC i 1)) + tel kp 0 (nbC i 2)) + tel kp 0 (nbC i 0))), (22, .int now), (21, .int (nI i)), (20, .int (csum (lfI kp) (i + 1))), (18, .int had), (9, .int (dall kp)), (8, .int (call kp)), (7, .ref q7), (6, .ref q6), (5, .ref q5), (4, .int x4), (3, .int (nI tm)), (0, .ref b), (1, .ref hc), (2, .ref h)]) hx hb dL_law_1406 hl (by decide) rfl (fun ls hl => ?_)
                  exact ju H locs ls hP hD hS (lv_sub hl [0, 1, 2, 3, 4, 5, 6, 7, 8, 9, 10, 11, 12, 13, 14] rfl)
                · skip
                  refine lv_if_ne (tgt := 1404) hx hb dL_law_1397 (by decide) (fun _ => ?_) (fun c => absurd c (h0))
                  refine lv_iconst (v := 0) hx hb dL_law_1404 (by decide) ?_
                  refine lv_iadd hx hb dL_law_1405 ?_
                  refine tpi (x' := (((0 + tel kp 0 (nbC i 1)) + tel kp 0 (nbC i 2)) + tel kp 0 (nbC i 0))) (by rw [tel_n (k := kp) (nb_u hcc) h0]) ?_
                  refine lv_istore (lv' := [(24, .int (((0 + tel kp 0 (nbC i 1)) + tel kp 0 (nbC i 2)) + tel kp 0 (nbC i 0))), (22, .int now), (21, .int (nI i)), (20, .int (csum (lfI kp) (i + 1))), (18, .int had), (9, .int (dall kp)), (8, .int (call kp)), (7, .ref q7), (6, .ref q6), (5, .ref q5), (4, .int x4), (3, .int (nI tm)), (0, .ref b), (1, .ref hc), (2, .ref h)]) hx hb dL_law_1406 hl (by decide) rfl (fun ls hl => ?_)
                  exact ju H locs ls hP hD hS (lv_sub hl [0, 1, 2, 3, 4, 5, 6, 7, 8, 9, 10, 11, 12, 13, 14] rfl)
              · skip
                refine lv_icmp_le (tgt := 1408) hx hb dL_law_1382 (by decide) (fun _ => ?_) (fun c => absurd (nI_le (b := 7) (by omega) (by decide)) c)
                have e24 : ((0 + tel kp 0 (nbC i 1)) + tel kp 0 (nbC i 2)) = (((0 + tel kp 0 (nbC i 1)) + tel kp 0 (nbC i 2)) + tel kp 0 (nbC i 0)) := by rw [tel_o (k := kp) (nb_u0 hcc), Int32.add_zero]
                have hl : lv_has ls 25 [(24, .int (((0 + tel kp 0 (nbC i 1)) + tel kp 0 (nbC i 2)) + tel kp 0 (nbC i 0))), (22, .int now), (21, .int (nI i)), (20, .int (csum (lfI kp) (i + 1))), (18, .int had), (9, .int (dall kp)), (8, .int (call kp)), (7, .ref q7), (6, .ref q6), (5, .ref q5), (4, .int x4), (3, .int (nI tm)), (0, .ref b), (1, .ref hc), (2, .ref h)] := by rw [← e24]; exact hl
                exact ju H locs ls hP hD hS (lv_sub hl [0, 1, 2, 3, 4, 5, 6, 7, 8, 9, 10, 11, 12, 13, 14] rfl)
            refine lv_iload hx hb dL_law_1346 (lv_at hl 2 rfl) ?_
            refine lv_bipush (v := 8) hx hb dL_law_1348 (by decide) ?_
            refine lv_irem hx hb dL_law_1350 (by decide) ?_
            refine tpi (x' := nI (i % 8)) (pk_rem (a := i) (d := 8) (by omega) (by decide) (by decide)) ?_
            refine lv_bipush (v := 7) hx hb dL_law_1351 (by decide) ?_
            rcases Decidable.em (i % 8 < 7) with hcc | hcc
            · skip
              refine lv_icmp_ge (tgt := 1378) hx hb dL_law_1353 (by decide) (fun c => absurd c (lt_n (n := 7) hcc (by decide))) (fun _ => ?_)
              refine lv_iload hx hb dL_law_1356 (lv_at hl 0 rfl) ?_
              refine lv_aload hx hb dL_law_1358 (lv_at hl 9 rfl) ?_
              refine lv_iload hx hb dL_law_1360 (lv_at hl 2 rfl) ?_
              refine lv_iconst (v := 1) hx hb dL_law_1362 (by decide) ?_
              refine lv_iadd hx hb dL_law_1363 ?_
              refine tpi (x' := nI (i + 1)) (nI_add i 1) ?_
              refine tpi (x' := nI (i + 1)) (rfl) ?_
              refine g_ald (r := r5) (n := 64) hx hb hK hP 33 1 rfl rfl (x := (i + 1)) (by omega) (by decide) dL_law_1364 ?_
              refine lv_iconst (v := 0) hx hb dL_law_1365 (by decide) ?_
              refine tpi (x' := nI 0) (rfl) ?_
              refine l_iald (X := [(hc, oX a t), ((a 0), oC a (cy.mo) (cy.co) (cy.le)), ((a 3), iA (cs 0) (cy.K)), ((a 4), iA (cs 0) (cy.Q)), ((a 5), iA (cs 0) (cy.L)), ((a 6), iA (cs 0) (cy.H)), ((a 7), iA (cs 0) (cy.M)), ((a 8), iA (cs 0) (cy.B)), ((a 9), iA (cs 0) (cy.C)), ((a 10), iA (cs 0) (cy.D)), ((a 11), iA (cs 0) (cy.F)), ((a 12), iA (cs 0) (cy.W)), ((t 0), oC t (dy.mo) (dy.co) (dy.le)), ((t 3), iA (cs 0) (dy.K)), ((t 4), iA (cs 0) (dy.Q)), ((t 5), iA (cs 0) (dy.L)), ((t 6), iA (cs 0) (dy.H)), ((t 7), iA (cs 0) (dy.M)), ((t 8), iA (cs 0) (dy.B)), ((t 9), iA (cs 0) (dy.C)), ((t 10), iA (cs 0) (dy.D)), ((t 11), iA (cs 0) (dy.F)), ((t 12), iA (cs 0) (dy.W)), (h, oS o (cy.mo) (cy.co) (cy.le)), (o, oQ (cs 1) 8 r), ((r 0), iB (cs 0) 8 (cl8 K 0)), ((r 1), iB (cs 0) 8 (cl8 K 1)), ((r 2), iB (cs 0) 8 (cl8 K 2)), ((r 3), iB (cs 0) 8 (cl8 K 3)), ((r 4), iB (cs 0) 8 (cl8 K 4)), ((r 5), iB (cs 0) 8 (cl8 K 5)), ((r 6), iB (cs 0) 8 (cl8 K 6)), ((r 7), iB (cs 0) 8 (cl8 K 7)), (q5, oQ (cs 1) 64 r5), (q6, iB (cs 0) 7 R6), (q7, iB (cs 0) 64 R7), (q13, iB (cs 0) 13 R13)]) (r := r5) (F := F) hx hb hK hP 0 rfl (i := (i + 1)) (w := 0) (by omega) (by decide) dL_law_1366 ?_
              refine tpi (x' := kp (i + 1)) ((hF (i + 1) (by omega)).1) ?_
              rcases Decidable.em (kp (i + 1) = 0) with h0 | h0
              · skip
                refine tpi (x' := 0) (h0) ?_
                refine lv_if_ne (tgt := 1374) hx hb dL_law_1367 (by decide) (fun c => absurd (rfl) c) (fun _ => ?_)
                refine lv_iconst (v := 1) hx hb dL_law_1370 (by decide) ?_
                refine lv_goto (tgt := 1375) hx hb dL_law_1371 (by decide) ?_
                refine lv_iadd hx hb dL_law_1375 ?_
                refine tpi (x' := ((0 + tel kp 0 (nbC i 1)) + tel kp 0 (nbC i 2))) (by rw [tel_y (k := kp) (nb_r hcc) h0]) ?_
                refine lv_istore (lv' := [(24, .int ((0 + tel kp 0 (nbC i 1)) + tel kp 0 (nbC i 2))), (22, .int now), (21, .int (nI i)), (20, .int (csum (lfI kp) (i + 1))), (18, .int had), (9, .int (dall kp)), (8, .int (call kp)), (7, .ref q7), (6, .ref q6), (5, .ref q5), (4, .int x4), (3, .int (nI tm)), (0, .ref b), (1, .ref hc), (2, .ref h)]) hx hb dL_law_1376 hl (by decide) rfl (fun ls hl => ?_)
                exact jr H locs ls hP hD hS (lv_sub hl [0, 1, 2, 3, 4, 5, 6, 7, 8, 9, 10, 11, 12, 13, 14] rfl)
              · skip
                refine lv_if_ne (tgt := 1374) hx hb dL_law_1367 (by decide) (fun _ => ?_) (fun c => absurd c (h0))
                refine lv_iconst (v := 0) hx hb dL_law_1374 (by decide) ?_
                refine lv_iadd hx hb dL_law_1375 ?_
                refine tpi (x' := ((0 + tel kp 0 (nbC i 1)) + tel kp 0 (nbC i 2))) (by rw [tel_n (k := kp) (nb_r hcc) h0]) ?_
                refine lv_istore (lv' := [(24, .int ((0 + tel kp 0 (nbC i 1)) + tel kp 0 (nbC i 2))), (22, .int now), (21, .int (nI i)), (20, .int (csum (lfI kp) (i + 1))), (18, .int had), (9, .int (dall kp)), (8, .int (call kp)), (7, .ref q7), (6, .ref q6), (5, .ref q5), (4, .int x4), (3, .int (nI tm)), (0, .ref b), (1, .ref hc), (2, .ref h)]) hx hb dL_law_1376 hl (by decide) rfl (fun ls hl => ?_)
                exact jr H locs ls hP hD hS (lv_sub hl [0, 1, 2, 3, 4, 5, 6, 7, 8, 9, 10, 11, 12, 13, 14] rfl)
            · skip
              refine lv_icmp_ge (tgt := 1378) hx hb dL_law_1353 (by decide) (fun _ => ?_) (fun c => absurd (le_n (n := 7) (by omega) (by omega)) c)
              have e24 : (0 + tel kp 0 (nbC i 1)) = ((0 + tel kp 0 (nbC i 1)) + tel kp 0 (nbC i 2)) := by rw [tel_o (k := kp) (nb_r0 hcc), Int32.add_zero]
              have hl : lv_has ls 25 [(24, .int ((0 + tel kp 0 (nbC i 1)) + tel kp 0 (nbC i 2))), (22, .int now), (21, .int (nI i)), (20, .int (csum (lfI kp) (i + 1))), (18, .int had), (9, .int (dall kp)), (8, .int (call kp)), (7, .ref q7), (6, .ref q6), (5, .ref q5), (4, .int x4), (3, .int (nI tm)), (0, .ref b), (1, .ref hc), (2, .ref h)] := by rw [← e24]; exact hl
              exact jr H locs ls hP hD hS (lv_sub hl [0, 1, 2, 3, 4, 5, 6, 7, 8, 9, 10, 11, 12, 13, 14] rfl)
          refine lv_iload hx hb dL_law_1316 (lv_at hl 2 rfl) ?_
          refine lv_bipush (v := 8) hx hb dL_law_1318 (by decide) ?_
          refine lv_irem hx hb dL_law_1320 (by decide) ?_
          refine tpi (x' := nI (i % 8)) (pk_rem (a := i) (d := 8) (by omega) (by decide) (by decide)) ?_
          rcases Decidable.em (0 < i % 8) with hcc | hcc
          · skip
            refine lv_if_le (tgt := 1346) hx hb dL_law_1321 (by decide) (fun c => absurd c (nI_ge (a := 0) hcc (by omega))) (fun _ => ?_)
            refine lv_iload hx hb dL_law_1324 (lv_at hl 0 rfl) ?_
            refine lv_aload hx hb dL_law_1326 (lv_at hl 9 rfl) ?_
            refine lv_iload hx hb dL_law_1328 (lv_at hl 2 rfl) ?_
            refine lv_iconst (v := 1) hx hb dL_law_1330 (by decide) ?_
            refine lv_isub hx hb dL_law_1331 ?_
            refine tpi (x' := nI (i - 1)) (pk_sub (a := i) (b := 1) (by omega)) ?_
            refine tpi (x' := nI (i - 1)) (rfl) ?_
            refine g_ald (r := r5) (n := 64) hx hb hK hP 33 1 rfl rfl (x := (i - 1)) (by omega) (by decide) dL_law_1332 ?_
            refine lv_iconst (v := 0) hx hb dL_law_1333 (by decide) ?_
            refine tpi (x' := nI 0) (rfl) ?_
            refine l_iald (X := [(hc, oX a t), ((a 0), oC a (cy.mo) (cy.co) (cy.le)), ((a 3), iA (cs 0) (cy.K)), ((a 4), iA (cs 0) (cy.Q)), ((a 5), iA (cs 0) (cy.L)), ((a 6), iA (cs 0) (cy.H)), ((a 7), iA (cs 0) (cy.M)), ((a 8), iA (cs 0) (cy.B)), ((a 9), iA (cs 0) (cy.C)), ((a 10), iA (cs 0) (cy.D)), ((a 11), iA (cs 0) (cy.F)), ((a 12), iA (cs 0) (cy.W)), ((t 0), oC t (dy.mo) (dy.co) (dy.le)), ((t 3), iA (cs 0) (dy.K)), ((t 4), iA (cs 0) (dy.Q)), ((t 5), iA (cs 0) (dy.L)), ((t 6), iA (cs 0) (dy.H)), ((t 7), iA (cs 0) (dy.M)), ((t 8), iA (cs 0) (dy.B)), ((t 9), iA (cs 0) (dy.C)), ((t 10), iA (cs 0) (dy.D)), ((t 11), iA (cs 0) (dy.F)), ((t 12), iA (cs 0) (dy.W)), (h, oS o (cy.mo) (cy.co) (cy.le)), (o, oQ (cs 1) 8 r), ((r 0), iB (cs 0) 8 (cl8 K 0)), ((r 1), iB (cs 0) 8 (cl8 K 1)), ((r 2), iB (cs 0) 8 (cl8 K 2)), ((r 3), iB (cs 0) 8 (cl8 K 3)), ((r 4), iB (cs 0) 8 (cl8 K 4)), ((r 5), iB (cs 0) 8 (cl8 K 5)), ((r 6), iB (cs 0) 8 (cl8 K 6)), ((r 7), iB (cs 0) 8 (cl8 K 7)), (q5, oQ (cs 1) 64 r5), (q6, iB (cs 0) 7 R6), (q7, iB (cs 0) 64 R7), (q13, iB (cs 0) 13 R13)]) (r := r5) (F := F) hx hb hK hP 0 rfl (i := (i - 1)) (w := 0) (by omega) (by decide) dL_law_1334 ?_
            refine tpi (x' := kp (i - 1)) ((hF (i - 1) (by omega)).1) ?_
            rcases Decidable.em (kp (i - 1) = 0) with h0 | h0
            · skip
              refine tpi (x' := 0) (h0) ?_
              refine lv_if_ne (tgt := 1342) hx hb dL_law_1335 (by decide) (fun c => absurd (rfl) c) (fun _ => ?_)
              refine lv_iconst (v := 1) hx hb dL_law_1338 (by decide) ?_
              refine lv_goto (tgt := 1343) hx hb dL_law_1339 (by decide) ?_
              refine lv_iadd hx hb dL_law_1343 ?_
              refine tpi (x' := (0 + tel kp 0 (nbC i 1))) (by rw [tel_y (k := kp) (nb_l hcc) h0]) ?_
              refine lv_istore (lv' := [(24, .int (0 + tel kp 0 (nbC i 1))), (22, .int now), (21, .int (nI i)), (20, .int (csum (lfI kp) (i + 1))), (18, .int had), (9, .int (dall kp)), (8, .int (call kp)), (7, .ref q7), (6, .ref q6), (5, .ref q5), (4, .int x4), (3, .int (nI tm)), (0, .ref b), (1, .ref hc), (2, .ref h)]) hx hb dL_law_1344 hl (by decide) rfl (fun ls hl => ?_)
              exact jl H locs ls hP hD hS (lv_sub hl [0, 1, 2, 3, 4, 5, 6, 7, 8, 9, 10, 11, 12, 13, 14] rfl)
            · skip
              refine lv_if_ne (tgt := 1342) hx hb dL_law_1335 (by decide) (fun _ => ?_) (fun c => absurd c (h0))
              refine lv_iconst (v := 0) hx hb dL_law_1342 (by decide) ?_
              refine lv_iadd hx hb dL_law_1343 ?_
              refine tpi (x' := (0 + tel kp 0 (nbC i 1))) (by rw [tel_n (k := kp) (nb_l hcc) h0]) ?_
              refine lv_istore (lv' := [(24, .int (0 + tel kp 0 (nbC i 1))), (22, .int now), (21, .int (nI i)), (20, .int (csum (lfI kp) (i + 1))), (18, .int had), (9, .int (dall kp)), (8, .int (call kp)), (7, .ref q7), (6, .ref q6), (5, .ref q5), (4, .int x4), (3, .int (nI tm)), (0, .ref b), (1, .ref hc), (2, .ref h)]) hx hb dL_law_1344 hl (by decide) rfl (fun ls hl => ?_)
              exact jl H locs ls hP hD hS (lv_sub hl [0, 1, 2, 3, 4, 5, 6, 7, 8, 9, 10, 11, 12, 13, 14] rfl)
          · skip
            refine lv_if_le (tgt := 1346) hx hb dL_law_1321 (by decide) (fun _ => ?_) (fun c => absurd (nI_le (b := 0) (by omega) (by decide)) c)
            have e24 : 0 = (0 + tel kp 0 (nbC i 1)) := by rw [tel_o (k := kp) (nb_l0 hcc), Int32.add_zero]
            have hl : lv_has ls 25 [(24, .int (0 + tel kp 0 (nbC i 1))), (22, .int now), (21, .int (nI i)), (20, .int (csum (lfI kp) (i + 1))), (18, .int had), (9, .int (dall kp)), (8, .int (call kp)), (7, .ref q7), (6, .ref q6), (5, .ref q5), (4, .int x4), (3, .int (nI tm)), (0, .ref b), (1, .ref hc), (2, .ref h)] := by rw [← e24]; exact hl
            exact jl H locs ls hP hD hS (lv_sub hl [0, 1, 2, 3, 4, 5, 6, 7, 8, 9, 10, 11, 12, 13, 14] rfl)
        rcases Decidable.em ((4 : Int32) ≤ cpl kp i) with hl4 | hl4
        · skip
          obtain ⟨hlf, h3⟩ := lft_of hl4
          have hm := mon_house (k := kp) (p := i) (Or.inl hlf)
          rcases Decidable.em ((3 : Int32) ≤ nbk kp 0 i) with hn | hn
          · skip
            refine lv_aload_n hx hb dL_law_1177 rfl (lv_at hl 11 rfl) ?_
            refine lv_iload hx hb dL_law_1178 (lv_at hl 0 rfl) ?_
            refine lv_bipush (v := 8) hx hb dL_law_1180 (by decide) ?_
            refine lv_irem hx hb dL_law_1182 (by decide) ?_
            refine tpi (x' := nI (i % 8)) (pk_rem (a := i) (d := 8) (by omega) (by decide) (by decide)) ?_
            refine lv_iload hx hb dL_law_1183 (lv_at hl 0 rfl) ?_
            refine lv_bipush (v := 8) hx hb dL_law_1185 (by decide) ?_
            refine lv_idiv hx hb dL_law_1187 (by decide) ?_
            refine tpi (x' := nI (i / 8)) (pk_div (a := i) (d := 8) (by omega) (by decide) (by decide)) ?_
            refine lv_iconst (v := 0) hx hb dL_law_1188 (by decide) ?_
            refine cr_i (va_runV (As := [.int (nI (i % 8)), .int (nI (i / 8)), .int 0]) (rest := []) FX (c_X1_lot_ok l G (cs 0) hc a t cy.mo cy.co cy.le cy.K cy.Q cy.L cy.H cy.M cy.B cy.C cy.D cy.F cy.W k (nI (i % 8)) (nI (i / 8)) 0 hk hS0 (pl_in (by omega) (by omega)) (by decide)) (cwV 3 hts gL_law_X1_lot rfl rfl rfl (by decide +kernel) ⟨Nat.le_of_ble_eq_true rfl, Nat.le_of_ble_eq_true rfl⟩) (rdV hKI hP hNI [0, 1, 2, 3, 4, 5, 6, 7, 8, 9, 10, 11] rfl (ci := 1) (q0 := 0) rfl rfl) rfl rfl hl.1 rfl (lv_room (Nat.le_of_ble_eq_true rfl)) dL_law_1189 ⟨hzc, hzs⟩) hS hP (fun H locs hP hS => ?_)
            refine tpi (x' := 0) ((by rw [pAt_i hi64, hkm]; exact hm.trans (if_pos hn))) ?_
            refine lv_istore (lv' := [(22, .int 0), (21, .int (nI i)), (20, .int (csum (lfI kp) i)), (18, .int had), (9, .int (dall kp)), (8, .int (call kp)), (7, .ref q7), (6, .ref q6), (5, .ref q5), (4, .int x4), (3, .int (nI tm)), (0, .ref b), (1, .ref hc), (2, .ref h)]) hx hb dL_law_1192 hl (by decide) rfl (fun ls hl => ?_)
            refine lv_aload hx hb dL_law_1194 (lv_at hl 8 rfl) ?_
            refine lv_iload hx hb dL_law_1196 (lv_at hl 1 rfl) ?_
            refine tpi (x' := nI i) (rfl) ?_
            refine g_ald (r := r5) (n := 64) hx hb hK hP 33 1 rfl rfl (x := i) (hi64) (by decide) dL_law_1198 ?_
            refine lv_iconst (v := 4) hx hb dL_law_1199 (by decide) ?_
            refine tpi (x' := nI 4) (rfl) ?_
            refine l_iald (X := [(hc, oX a t), ((a 0), oC a (cy.mo) (cy.co) (cy.le)), ((a 3), iA (cs 0) (cy.K)), ((a 4), iA (cs 0) (cy.Q)), ((a 5), iA (cs 0) (cy.L)), ((a 6), iA (cs 0) (cy.H)), ((a 7), iA (cs 0) (cy.M)), ((a 8), iA (cs 0) (cy.B)), ((a 9), iA (cs 0) (cy.C)), ((a 10), iA (cs 0) (cy.D)), ((a 11), iA (cs 0) (cy.F)), ((a 12), iA (cs 0) (cy.W)), ((t 0), oC t (dy.mo) (dy.co) (dy.le)), ((t 3), iA (cs 0) (dy.K)), ((t 4), iA (cs 0) (dy.Q)), ((t 5), iA (cs 0) (dy.L)), ((t 6), iA (cs 0) (dy.H)), ((t 7), iA (cs 0) (dy.M)), ((t 8), iA (cs 0) (dy.B)), ((t 9), iA (cs 0) (dy.C)), ((t 10), iA (cs 0) (dy.D)), ((t 11), iA (cs 0) (dy.F)), ((t 12), iA (cs 0) (dy.W)), (h, oS o (cy.mo) (cy.co) (cy.le)), (o, oQ (cs 1) 8 r), ((r 0), iB (cs 0) 8 (cl8 K 0)), ((r 1), iB (cs 0) 8 (cl8 K 1)), ((r 2), iB (cs 0) 8 (cl8 K 2)), ((r 3), iB (cs 0) 8 (cl8 K 3)), ((r 4), iB (cs 0) 8 (cl8 K 4)), ((r 5), iB (cs 0) 8 (cl8 K 5)), ((r 6), iB (cs 0) 8 (cl8 K 6)), ((r 7), iB (cs 0) 8 (cl8 K 7)), (q5, oQ (cs 1) 64 r5), (q6, iB (cs 0) 7 R6), (q7, iB (cs 0) 64 R7), (q13, iB (cs 0) 13 R13)]) (r := r5) (F := F) hx hb hK hP 0 rfl (i := i) (w := 4) (hi64) (by decide) dL_law_1200 ?_
            refine tpi (x' := cpl kp i) ((hF i hi64).2.2.2.2.1) ?_
            refine lv_iconst (v := 4) hx hb dL_law_1201 (by decide) ?_
            refine lv_icmp_lt (tgt := 1209) hx hb dL_law_1202 (by decide) (fun c => absurd c (Int32.not_lt.mpr hl4)) (fun _ => ?_)
            refine lv_iconst (v := 1) hx hb dL_law_1205 (by decide) ?_
            refine lv_goto (tgt := 1210) hx hb dL_law_1206 (by decide) ?_
            refine lv_istore (lv' := [(23, .int 1), (22, .int 0), (21, .int (nI i)), (20, .int (csum (lfI kp) i)), (18, .int had), (9, .int (dall kp)), (8, .int (call kp)), (7, .ref q7), (6, .ref q6), (5, .ref q5), (4, .int x4), (3, .int (nI tm)), (0, .ref b), (1, .ref hc), (2, .ref h)]) hx hb dL_law_1210 hl (by decide) rfl (fun ls hl => ?_)
            refine lv_iload hx hb dL_law_1212 (lv_at hl 3 rfl) ?_
            refine lv_iload hx hb dL_law_1214 (lv_at hl 0 rfl) ?_
            refine lv_if_eq (tgt := 1223) hx hb dL_law_1216 (by decide) (fun c => absurd c (by decide)) (fun _ => ?_)
            refine lv_iconst (v := 1) hx hb dL_law_1219 (by decide) ?_
            refine lv_goto (tgt := 1224) hx hb dL_law_1220 (by decide) ?_
            refine lv_iadd hx hb dL_law_1224 ?_
            refine tpi (x' := csum (lfI kp) (i + 1)) (lfI_1 hlf) ?_
            refine lv_istore (lv' := [(20, .int (csum (lfI kp) (i + 1))), (23, .int 1), (22, .int 0), (21, .int (nI i)), (18, .int had), (9, .int (dall kp)), (8, .int (call kp)), (7, .ref q7), (6, .ref q6), (5, .ref q5), (4, .int x4), (3, .int (nI tm)), (0, .ref b), (1, .ref hc), (2, .ref h)]) hx hb dL_law_1225 hl (by decide) rfl (fun ls hl => ?_)
            refine lv_iload hx hb dL_law_1227 (lv_at hl 2 rfl) ?_
            refine lv_aload hx hb dL_law_1229 (lv_at hl 9 rfl) ?_
            refine lv_iload hx hb dL_law_1231 (lv_at hl 3 rfl) ?_
            refine tpi (x' := nI i) (rfl) ?_
            refine g_ald (r := r5) (n := 64) hx hb hK hP 33 1 rfl rfl (x := i) (hi64) (by decide) dL_law_1233 ?_
            refine lv_iconst (v := 0) hx hb dL_law_1234 (by decide) ?_
            refine tpi (x' := nI 0) (rfl) ?_
            refine l_iald (X := [(hc, oX a t), ((a 0), oC a (cy.mo) (cy.co) (cy.le)), ((a 3), iA (cs 0) (cy.K)), ((a 4), iA (cs 0) (cy.Q)), ((a 5), iA (cs 0) (cy.L)), ((a 6), iA (cs 0) (cy.H)), ((a 7), iA (cs 0) (cy.M)), ((a 8), iA (cs 0) (cy.B)), ((a 9), iA (cs 0) (cy.C)), ((a 10), iA (cs 0) (cy.D)), ((a 11), iA (cs 0) (cy.F)), ((a 12), iA (cs 0) (cy.W)), ((t 0), oC t (dy.mo) (dy.co) (dy.le)), ((t 3), iA (cs 0) (dy.K)), ((t 4), iA (cs 0) (dy.Q)), ((t 5), iA (cs 0) (dy.L)), ((t 6), iA (cs 0) (dy.H)), ((t 7), iA (cs 0) (dy.M)), ((t 8), iA (cs 0) (dy.B)), ((t 9), iA (cs 0) (dy.C)), ((t 10), iA (cs 0) (dy.D)), ((t 11), iA (cs 0) (dy.F)), ((t 12), iA (cs 0) (dy.W)), (h, oS o (cy.mo) (cy.co) (cy.le)), (o, oQ (cs 1) 8 r), ((r 0), iB (cs 0) 8 (cl8 K 0)), ((r 1), iB (cs 0) 8 (cl8 K 1)), ((r 2), iB (cs 0) 8 (cl8 K 2)), ((r 3), iB (cs 0) 8 (cl8 K 3)), ((r 4), iB (cs 0) 8 (cl8 K 4)), ((r 5), iB (cs 0) 8 (cl8 K 5)), ((r 6), iB (cs 0) 8 (cl8 K 6)), ((r 7), iB (cs 0) 8 (cl8 K 7)), (q5, oQ (cs 1) 64 r5), (q6, iB (cs 0) 7 R6), (q7, iB (cs 0) 64 R7), (q13, iB (cs 0) 13 R13)]) (r := r5) (F := F) hx hb hK hP 0 rfl (i := i) (w := 0) (hi64) (by decide) dL_law_1235 ?_
            refine tpi (x' := 3) ((hF i hi64).1.trans h3) ?_
            refine lv_icmp_ne (tgt := 1246) hx hb dL_law_1236 (by decide) (fun _ => ?_) (fun c => absurd c (by decide))
            refine lv_iload hx hb dL_law_1246 (lv_at hl 2 rfl) ?_
            refine lv_iconst (v := 2) hx hb dL_law_1248 (by decide) ?_
            refine lv_icmp_ne (tgt := 1260) hx hb dL_law_1249 (by decide) (fun _ => ?_) (fun c => absurd c (by decide))
            refine lv_iload hx hb dL_law_1260 (lv_at hl 2 rfl) ?_
            refine lv_if_ne (tgt := 1281) hx hb dL_law_1262 (by decide) (fun c => absurd (by decide) c) (fun _ => ?_)
            refine lv_iload hx hb dL_law_1265 (lv_at hl 1 rfl) ?_
            refine lv_if_ne (tgt := 1283) hx hb dL_law_1267 (by decide) (fun _ => ?_) (fun c => absurd c (by decide))
            refine lv_iload hx hb dL_law_1283 (lv_at hl 2 rfl) ?_
            refine lv_iconst (v := 2) hx hb dL_law_1285 (by decide) ?_
            refine lv_icmp_eq (tgt := 1313) hx hb dL_law_1286 (by decide) (fun c => absurd c (by decide)) (fun _ => ?_)
            refine lv_iload hx hb dL_law_1289 (lv_at hl 2 rfl) ?_
            refine lv_if_ne (tgt := 1464) hx hb dL_law_1291 (by decide) (fun c => absurd (by decide) c) (fun _ => ?_)
            refine lv_iload hx hb dL_law_1294 (lv_at hl 1 rfl) ?_
            refine lv_if_ne (tgt := 1313) hx hb dL_law_1296 (by decide) (fun _ => ?_) (fun c => absurd c (by decide))
            exact jm 0 (if_pos hn).symm H locs ls hP hD hS (lv_sub hl [2, 3, 0, 4, 5, 6, 7, 8, 9, 10, 11, 12, 13, 14] rfl)
          · skip
            refine lv_aload_n hx hb dL_law_1177 rfl (lv_at hl 11 rfl) ?_
            refine lv_iload hx hb dL_law_1178 (lv_at hl 0 rfl) ?_
            refine lv_bipush (v := 8) hx hb dL_law_1180 (by decide) ?_
            refine lv_irem hx hb dL_law_1182 (by decide) ?_
            refine tpi (x' := nI (i % 8)) (pk_rem (a := i) (d := 8) (by omega) (by decide) (by decide)) ?_
            refine lv_iload hx hb dL_law_1183 (lv_at hl 0 rfl) ?_
            refine lv_bipush (v := 8) hx hb dL_law_1185 (by decide) ?_
            refine lv_idiv hx hb dL_law_1187 (by decide) ?_
            refine tpi (x' := nI (i / 8)) (pk_div (a := i) (d := 8) (by omega) (by decide) (by decide)) ?_
            refine lv_iconst (v := 0) hx hb dL_law_1188 (by decide) ?_
            refine cr_i (va_runV (As := [.int (nI (i % 8)), .int (nI (i / 8)), .int 0]) (rest := []) FX (c_X1_lot_ok l G (cs 0) hc a t cy.mo cy.co cy.le cy.K cy.Q cy.L cy.H cy.M cy.B cy.C cy.D cy.F cy.W k (nI (i % 8)) (nI (i / 8)) 0 hk hS0 (pl_in (by omega) (by omega)) (by decide)) (cwV 3 hts gL_law_X1_lot rfl rfl rfl (by decide +kernel) ⟨Nat.le_of_ble_eq_true rfl, Nat.le_of_ble_eq_true rfl⟩) (rdV hKI hP hNI [0, 1, 2, 3, 4, 5, 6, 7, 8, 9, 10, 11] rfl (ci := 1) (q0 := 0) rfl rfl) rfl rfl hl.1 rfl (lv_room (Nat.le_of_ble_eq_true rfl)) dL_law_1189 ⟨hzc, hzs⟩) hS hP (fun H locs hP hS => ?_)
            refine tpi (x' := 2) ((by rw [pAt_i hi64, hkm]; exact hm.trans (if_neg hn))) ?_
            refine lv_istore (lv' := [(22, .int 2), (21, .int (nI i)), (20, .int (csum (lfI kp) i)), (18, .int had), (9, .int (dall kp)), (8, .int (call kp)), (7, .ref q7), (6, .ref q6), (5, .ref q5), (4, .int x4), (3, .int (nI tm)), (0, .ref b), (1, .ref hc), (2, .ref h)]) hx hb dL_law_1192 hl (by decide) rfl (fun ls hl => ?_)
            refine lv_aload hx hb dL_law_1194 (lv_at hl 8 rfl) ?_
            refine lv_iload hx hb dL_law_1196 (lv_at hl 1 rfl) ?_
            refine tpi (x' := nI i) (rfl) ?_
            refine g_ald (r := r5) (n := 64) hx hb hK hP 33 1 rfl rfl (x := i) (hi64) (by decide) dL_law_1198 ?_
            refine lv_iconst (v := 4) hx hb dL_law_1199 (by decide) ?_
            refine tpi (x' := nI 4) (rfl) ?_
            refine l_iald (X := [(hc, oX a t), ((a 0), oC a (cy.mo) (cy.co) (cy.le)), ((a 3), iA (cs 0) (cy.K)), ((a 4), iA (cs 0) (cy.Q)), ((a 5), iA (cs 0) (cy.L)), ((a 6), iA (cs 0) (cy.H)), ((a 7), iA (cs 0) (cy.M)), ((a 8), iA (cs 0) (cy.B)), ((a 9), iA (cs 0) (cy.C)), ((a 10), iA (cs 0) (cy.D)), ((a 11), iA (cs 0) (cy.F)), ((a 12), iA (cs 0) (cy.W)), ((t 0), oC t (dy.mo) (dy.co) (dy.le)), ((t 3), iA (cs 0) (dy.K)), ((t 4), iA (cs 0) (dy.Q)), ((t 5), iA (cs 0) (dy.L)), ((t 6), iA (cs 0) (dy.H)), ((t 7), iA (cs 0) (dy.M)), ((t 8), iA (cs 0) (dy.B)), ((t 9), iA (cs 0) (dy.C)), ((t 10), iA (cs 0) (dy.D)), ((t 11), iA (cs 0) (dy.F)), ((t 12), iA (cs 0) (dy.W)), (h, oS o (cy.mo) (cy.co) (cy.le)), (o, oQ (cs 1) 8 r), ((r 0), iB (cs 0) 8 (cl8 K 0)), ((r 1), iB (cs 0) 8 (cl8 K 1)), ((r 2), iB (cs 0) 8 (cl8 K 2)), ((r 3), iB (cs 0) 8 (cl8 K 3)), ((r 4), iB (cs 0) 8 (cl8 K 4)), ((r 5), iB (cs 0) 8 (cl8 K 5)), ((r 6), iB (cs 0) 8 (cl8 K 6)), ((r 7), iB (cs 0) 8 (cl8 K 7)), (q5, oQ (cs 1) 64 r5), (q6, iB (cs 0) 7 R6), (q7, iB (cs 0) 64 R7), (q13, iB (cs 0) 13 R13)]) (r := r5) (F := F) hx hb hK hP 0 rfl (i := i) (w := 4) (hi64) (by decide) dL_law_1200 ?_
            refine tpi (x' := cpl kp i) ((hF i hi64).2.2.2.2.1) ?_
            refine lv_iconst (v := 4) hx hb dL_law_1201 (by decide) ?_
            refine lv_icmp_lt (tgt := 1209) hx hb dL_law_1202 (by decide) (fun c => absurd c (Int32.not_lt.mpr hl4)) (fun _ => ?_)
            refine lv_iconst (v := 1) hx hb dL_law_1205 (by decide) ?_
            refine lv_goto (tgt := 1210) hx hb dL_law_1206 (by decide) ?_
            refine lv_istore (lv' := [(23, .int 1), (22, .int 2), (21, .int (nI i)), (20, .int (csum (lfI kp) i)), (18, .int had), (9, .int (dall kp)), (8, .int (call kp)), (7, .ref q7), (6, .ref q6), (5, .ref q5), (4, .int x4), (3, .int (nI tm)), (0, .ref b), (1, .ref hc), (2, .ref h)]) hx hb dL_law_1210 hl (by decide) rfl (fun ls hl => ?_)
            refine lv_iload hx hb dL_law_1212 (lv_at hl 3 rfl) ?_
            refine lv_iload hx hb dL_law_1214 (lv_at hl 0 rfl) ?_
            refine lv_if_eq (tgt := 1223) hx hb dL_law_1216 (by decide) (fun c => absurd c (by decide)) (fun _ => ?_)
            refine lv_iconst (v := 1) hx hb dL_law_1219 (by decide) ?_
            refine lv_goto (tgt := 1224) hx hb dL_law_1220 (by decide) ?_
            refine lv_iadd hx hb dL_law_1224 ?_
            refine tpi (x' := csum (lfI kp) (i + 1)) (lfI_1 hlf) ?_
            refine lv_istore (lv' := [(20, .int (csum (lfI kp) (i + 1))), (23, .int 1), (22, .int 2), (21, .int (nI i)), (18, .int had), (9, .int (dall kp)), (8, .int (call kp)), (7, .ref q7), (6, .ref q6), (5, .ref q5), (4, .int x4), (3, .int (nI tm)), (0, .ref b), (1, .ref hc), (2, .ref h)]) hx hb dL_law_1225 hl (by decide) rfl (fun ls hl => ?_)
            refine lv_iload hx hb dL_law_1227 (lv_at hl 2 rfl) ?_
            refine lv_aload hx hb dL_law_1229 (lv_at hl 9 rfl) ?_
            refine lv_iload hx hb dL_law_1231 (lv_at hl 3 rfl) ?_
            refine tpi (x' := nI i) (rfl) ?_
            refine g_ald (r := r5) (n := 64) hx hb hK hP 33 1 rfl rfl (x := i) (hi64) (by decide) dL_law_1233 ?_
            refine lv_iconst (v := 0) hx hb dL_law_1234 (by decide) ?_
            refine tpi (x' := nI 0) (rfl) ?_
            refine l_iald (X := [(hc, oX a t), ((a 0), oC a (cy.mo) (cy.co) (cy.le)), ((a 3), iA (cs 0) (cy.K)), ((a 4), iA (cs 0) (cy.Q)), ((a 5), iA (cs 0) (cy.L)), ((a 6), iA (cs 0) (cy.H)), ((a 7), iA (cs 0) (cy.M)), ((a 8), iA (cs 0) (cy.B)), ((a 9), iA (cs 0) (cy.C)), ((a 10), iA (cs 0) (cy.D)), ((a 11), iA (cs 0) (cy.F)), ((a 12), iA (cs 0) (cy.W)), ((t 0), oC t (dy.mo) (dy.co) (dy.le)), ((t 3), iA (cs 0) (dy.K)), ((t 4), iA (cs 0) (dy.Q)), ((t 5), iA (cs 0) (dy.L)), ((t 6), iA (cs 0) (dy.H)), ((t 7), iA (cs 0) (dy.M)), ((t 8), iA (cs 0) (dy.B)), ((t 9), iA (cs 0) (dy.C)), ((t 10), iA (cs 0) (dy.D)), ((t 11), iA (cs 0) (dy.F)), ((t 12), iA (cs 0) (dy.W)), (h, oS o (cy.mo) (cy.co) (cy.le)), (o, oQ (cs 1) 8 r), ((r 0), iB (cs 0) 8 (cl8 K 0)), ((r 1), iB (cs 0) 8 (cl8 K 1)), ((r 2), iB (cs 0) 8 (cl8 K 2)), ((r 3), iB (cs 0) 8 (cl8 K 3)), ((r 4), iB (cs 0) 8 (cl8 K 4)), ((r 5), iB (cs 0) 8 (cl8 K 5)), ((r 6), iB (cs 0) 8 (cl8 K 6)), ((r 7), iB (cs 0) 8 (cl8 K 7)), (q5, oQ (cs 1) 64 r5), (q6, iB (cs 0) 7 R6), (q7, iB (cs 0) 64 R7), (q13, iB (cs 0) 13 R13)]) (r := r5) (F := F) hx hb hK hP 0 rfl (i := i) (w := 0) (hi64) (by decide) dL_law_1235 ?_
            refine tpi (x' := 3) ((hF i hi64).1.trans h3) ?_
            refine lv_icmp_ne (tgt := 1246) hx hb dL_law_1236 (by decide) (fun _ => ?_) (fun c => absurd c (by decide))
            refine lv_iload hx hb dL_law_1246 (lv_at hl 2 rfl) ?_
            refine lv_iconst (v := 2) hx hb dL_law_1248 (by decide) ?_
            refine lv_icmp_ne (tgt := 1260) hx hb dL_law_1249 (by decide) (fun c => absurd (by decide) c) (fun _ => ?_)
            refine lv_iload hx hb dL_law_1252 (lv_at hl 1 rfl) ?_
            refine lv_if_ne (tgt := 1283) hx hb dL_law_1254 (by decide) (fun _ => ?_) (fun c => absurd c (by decide))
            refine lv_iload hx hb dL_law_1283 (lv_at hl 2 rfl) ?_
            refine lv_iconst (v := 2) hx hb dL_law_1285 (by decide) ?_
            refine lv_icmp_eq (tgt := 1313) hx hb dL_law_1286 (by decide) (fun _ => ?_) (fun c => absurd (by decide) c)
            exact jm 2 (if_neg hn).symm H locs ls hP hD hS (lv_sub hl [2, 3, 0, 4, 5, 6, 7, 8, 9, 10, 11, 12, 13, 14] rfl)
        · skip
          have hlf := lft_not hl4
          rcases Decidable.em (kp i = 2) with h2 | h2
          · skip
            have hm := mon_house (k := kp) (p := i) (Or.inr h2)
            rcases Decidable.em ((3 : Int32) ≤ nbk kp 0 i) with hn | hn
            · skip
              refine lv_aload_n hx hb dL_law_1177 rfl (lv_at hl 11 rfl) ?_
              refine lv_iload hx hb dL_law_1178 (lv_at hl 0 rfl) ?_
              refine lv_bipush (v := 8) hx hb dL_law_1180 (by decide) ?_
              refine lv_irem hx hb dL_law_1182 (by decide) ?_
              refine tpi (x' := nI (i % 8)) (pk_rem (a := i) (d := 8) (by omega) (by decide) (by decide)) ?_
              refine lv_iload hx hb dL_law_1183 (lv_at hl 0 rfl) ?_
              refine lv_bipush (v := 8) hx hb dL_law_1185 (by decide) ?_
              refine lv_idiv hx hb dL_law_1187 (by decide) ?_
              refine tpi (x' := nI (i / 8)) (pk_div (a := i) (d := 8) (by omega) (by decide) (by decide)) ?_
              refine lv_iconst (v := 0) hx hb dL_law_1188 (by decide) ?_
              refine cr_i (va_runV (As := [.int (nI (i % 8)), .int (nI (i / 8)), .int 0]) (rest := []) FX (c_X1_lot_ok l G (cs 0) hc a t cy.mo cy.co cy.le cy.K cy.Q cy.L cy.H cy.M cy.B cy.C cy.D cy.F cy.W k (nI (i % 8)) (nI (i / 8)) 0 hk hS0 (pl_in (by omega) (by omega)) (by decide)) (cwV 3 hts gL_law_X1_lot rfl rfl rfl (by decide +kernel) ⟨Nat.le_of_ble_eq_true rfl, Nat.le_of_ble_eq_true rfl⟩) (rdV hKI hP hNI [0, 1, 2, 3, 4, 5, 6, 7, 8, 9, 10, 11] rfl (ci := 1) (q0 := 0) rfl rfl) rfl rfl hl.1 rfl (lv_room (Nat.le_of_ble_eq_true rfl)) dL_law_1189 ⟨hzc, hzs⟩) hS hP (fun H locs hP hS => ?_)
              refine tpi (x' := 0) ((by rw [pAt_i hi64, hkm]; exact hm.trans (if_pos hn))) ?_
              refine lv_istore (lv' := [(22, .int 0), (21, .int (nI i)), (20, .int (csum (lfI kp) i)), (18, .int had), (9, .int (dall kp)), (8, .int (call kp)), (7, .ref q7), (6, .ref q6), (5, .ref q5), (4, .int x4), (3, .int (nI tm)), (0, .ref b), (1, .ref hc), (2, .ref h)]) hx hb dL_law_1192 hl (by decide) rfl (fun ls hl => ?_)
              refine lv_aload hx hb dL_law_1194 (lv_at hl 8 rfl) ?_
              refine lv_iload hx hb dL_law_1196 (lv_at hl 1 rfl) ?_
              refine tpi (x' := nI i) (rfl) ?_
              refine g_ald (r := r5) (n := 64) hx hb hK hP 33 1 rfl rfl (x := i) (hi64) (by decide) dL_law_1198 ?_
              refine lv_iconst (v := 4) hx hb dL_law_1199 (by decide) ?_
              refine tpi (x' := nI 4) (rfl) ?_
              refine l_iald (X := [(hc, oX a t), ((a 0), oC a (cy.mo) (cy.co) (cy.le)), ((a 3), iA (cs 0) (cy.K)), ((a 4), iA (cs 0) (cy.Q)), ((a 5), iA (cs 0) (cy.L)), ((a 6), iA (cs 0) (cy.H)), ((a 7), iA (cs 0) (cy.M)), ((a 8), iA (cs 0) (cy.B)), ((a 9), iA (cs 0) (cy.C)), ((a 10), iA (cs 0) (cy.D)), ((a 11), iA (cs 0) (cy.F)), ((a 12), iA (cs 0) (cy.W)), ((t 0), oC t (dy.mo) (dy.co) (dy.le)), ((t 3), iA (cs 0) (dy.K)), ((t 4), iA (cs 0) (dy.Q)), ((t 5), iA (cs 0) (dy.L)), ((t 6), iA (cs 0) (dy.H)), ((t 7), iA (cs 0) (dy.M)), ((t 8), iA (cs 0) (dy.B)), ((t 9), iA (cs 0) (dy.C)), ((t 10), iA (cs 0) (dy.D)), ((t 11), iA (cs 0) (dy.F)), ((t 12), iA (cs 0) (dy.W)), (h, oS o (cy.mo) (cy.co) (cy.le)), (o, oQ (cs 1) 8 r), ((r 0), iB (cs 0) 8 (cl8 K 0)), ((r 1), iB (cs 0) 8 (cl8 K 1)), ((r 2), iB (cs 0) 8 (cl8 K 2)), ((r 3), iB (cs 0) 8 (cl8 K 3)), ((r 4), iB (cs 0) 8 (cl8 K 4)), ((r 5), iB (cs 0) 8 (cl8 K 5)), ((r 6), iB (cs 0) 8 (cl8 K 6)), ((r 7), iB (cs 0) 8 (cl8 K 7)), (q5, oQ (cs 1) 64 r5), (q6, iB (cs 0) 7 R6), (q7, iB (cs 0) 64 R7), (q13, iB (cs 0) 13 R13)]) (r := r5) (F := F) hx hb hK hP 0 rfl (i := i) (w := 4) (hi64) (by decide) dL_law_1200 ?_
              refine tpi (x' := cpl kp i) ((hF i hi64).2.2.2.2.1) ?_
              refine lv_iconst (v := 4) hx hb dL_law_1201 (by decide) ?_
              refine lv_icmp_lt (tgt := 1209) hx hb dL_law_1202 (by decide) (fun _ => ?_) (fun c => absurd (Int32.not_le.mp hl4) c)
              refine lv_iconst (v := 0) hx hb dL_law_1209 (by decide) ?_
              refine lv_istore (lv' := [(23, .int 0), (22, .int 0), (21, .int (nI i)), (20, .int (csum (lfI kp) i)), (18, .int had), (9, .int (dall kp)), (8, .int (call kp)), (7, .ref q7), (6, .ref q6), (5, .ref q5), (4, .int x4), (3, .int (nI tm)), (0, .ref b), (1, .ref hc), (2, .ref h)]) hx hb dL_law_1210 hl (by decide) rfl (fun ls hl => ?_)
              refine lv_iload hx hb dL_law_1212 (lv_at hl 3 rfl) ?_
              refine lv_iload hx hb dL_law_1214 (lv_at hl 0 rfl) ?_
              refine lv_if_eq (tgt := 1223) hx hb dL_law_1216 (by decide) (fun _ => ?_) (fun c => absurd (rfl) c)
              refine lv_iconst (v := 0) hx hb dL_law_1223 (by decide) ?_
              refine lv_iadd hx hb dL_law_1224 ?_
              refine tpi (x' := csum (lfI kp) (i + 1)) (lfI_0 hlf) ?_
              refine lv_istore (lv' := [(20, .int (csum (lfI kp) (i + 1))), (23, .int 0), (22, .int 0), (21, .int (nI i)), (18, .int had), (9, .int (dall kp)), (8, .int (call kp)), (7, .ref q7), (6, .ref q6), (5, .ref q5), (4, .int x4), (3, .int (nI tm)), (0, .ref b), (1, .ref hc), (2, .ref h)]) hx hb dL_law_1225 hl (by decide) rfl (fun ls hl => ?_)
              refine lv_iload hx hb dL_law_1227 (lv_at hl 2 rfl) ?_
              refine lv_aload hx hb dL_law_1229 (lv_at hl 9 rfl) ?_
              refine lv_iload hx hb dL_law_1231 (lv_at hl 3 rfl) ?_
              refine tpi (x' := nI i) (rfl) ?_
              refine g_ald (r := r5) (n := 64) hx hb hK hP 33 1 rfl rfl (x := i) (hi64) (by decide) dL_law_1233 ?_
              refine lv_iconst (v := 0) hx hb dL_law_1234 (by decide) ?_
              refine tpi (x' := nI 0) (rfl) ?_
              refine l_iald (X := [(hc, oX a t), ((a 0), oC a (cy.mo) (cy.co) (cy.le)), ((a 3), iA (cs 0) (cy.K)), ((a 4), iA (cs 0) (cy.Q)), ((a 5), iA (cs 0) (cy.L)), ((a 6), iA (cs 0) (cy.H)), ((a 7), iA (cs 0) (cy.M)), ((a 8), iA (cs 0) (cy.B)), ((a 9), iA (cs 0) (cy.C)), ((a 10), iA (cs 0) (cy.D)), ((a 11), iA (cs 0) (cy.F)), ((a 12), iA (cs 0) (cy.W)), ((t 0), oC t (dy.mo) (dy.co) (dy.le)), ((t 3), iA (cs 0) (dy.K)), ((t 4), iA (cs 0) (dy.Q)), ((t 5), iA (cs 0) (dy.L)), ((t 6), iA (cs 0) (dy.H)), ((t 7), iA (cs 0) (dy.M)), ((t 8), iA (cs 0) (dy.B)), ((t 9), iA (cs 0) (dy.C)), ((t 10), iA (cs 0) (dy.D)), ((t 11), iA (cs 0) (dy.F)), ((t 12), iA (cs 0) (dy.W)), (h, oS o (cy.mo) (cy.co) (cy.le)), (o, oQ (cs 1) 8 r), ((r 0), iB (cs 0) 8 (cl8 K 0)), ((r 1), iB (cs 0) 8 (cl8 K 1)), ((r 2), iB (cs 0) 8 (cl8 K 2)), ((r 3), iB (cs 0) 8 (cl8 K 3)), ((r 4), iB (cs 0) 8 (cl8 K 4)), ((r 5), iB (cs 0) 8 (cl8 K 5)), ((r 6), iB (cs 0) 8 (cl8 K 6)), ((r 7), iB (cs 0) 8 (cl8 K 7)), (q5, oQ (cs 1) 64 r5), (q6, iB (cs 0) 7 R6), (q7, iB (cs 0) 64 R7), (q13, iB (cs 0) 13 R13)]) (r := r5) (F := F) hx hb hK hP 0 rfl (i := i) (w := 0) (hi64) (by decide) dL_law_1235 ?_
              refine tpi (x' := 2) ((hF i hi64).1.trans h2) ?_
              refine lv_icmp_ne (tgt := 1246) hx hb dL_law_1236 (by decide) (fun _ => ?_) (fun c => absurd c (by decide))
              refine lv_iload hx hb dL_law_1246 (lv_at hl 2 rfl) ?_
              refine lv_iconst (v := 2) hx hb dL_law_1248 (by decide) ?_
              refine lv_icmp_ne (tgt := 1260) hx hb dL_law_1249 (by decide) (fun _ => ?_) (fun c => absurd c (by decide))
              refine lv_iload hx hb dL_law_1260 (lv_at hl 2 rfl) ?_
              refine lv_if_ne (tgt := 1281) hx hb dL_law_1262 (by decide) (fun c => absurd (by decide) c) (fun _ => ?_)
              refine lv_iload hx hb dL_law_1265 (lv_at hl 1 rfl) ?_
              refine lv_if_ne (tgt := 1283) hx hb dL_law_1267 (by decide) (fun c => absurd (by decide) c) (fun _ => ?_)
              refine lv_aload hx hb dL_law_1270 (lv_at hl 9 rfl) ?_
              refine lv_iload hx hb dL_law_1272 (lv_at hl 3 rfl) ?_
              refine tpi (x' := nI i) (rfl) ?_
              refine g_ald (r := r5) (n := 64) hx hb hK hP 33 1 rfl rfl (x := i) (hi64) (by decide) dL_law_1274 ?_
              refine lv_iconst (v := 0) hx hb dL_law_1275 (by decide) ?_
              refine tpi (x' := nI 0) (rfl) ?_
              refine l_iald (X := [(hc, oX a t), ((a 0), oC a (cy.mo) (cy.co) (cy.le)), ((a 3), iA (cs 0) (cy.K)), ((a 4), iA (cs 0) (cy.Q)), ((a 5), iA (cs 0) (cy.L)), ((a 6), iA (cs 0) (cy.H)), ((a 7), iA (cs 0) (cy.M)), ((a 8), iA (cs 0) (cy.B)), ((a 9), iA (cs 0) (cy.C)), ((a 10), iA (cs 0) (cy.D)), ((a 11), iA (cs 0) (cy.F)), ((a 12), iA (cs 0) (cy.W)), ((t 0), oC t (dy.mo) (dy.co) (dy.le)), ((t 3), iA (cs 0) (dy.K)), ((t 4), iA (cs 0) (dy.Q)), ((t 5), iA (cs 0) (dy.L)), ((t 6), iA (cs 0) (dy.H)), ((t 7), iA (cs 0) (dy.M)), ((t 8), iA (cs 0) (dy.B)), ((t 9), iA (cs 0) (dy.C)), ((t 10), iA (cs 0) (dy.D)), ((t 11), iA (cs 0) (dy.F)), ((t 12), iA (cs 0) (dy.W)), (h, oS o (cy.mo) (cy.co) (cy.le)), (o, oQ (cs 1) 8 r), ((r 0), iB (cs 0) 8 (cl8 K 0)), ((r 1), iB (cs 0) 8 (cl8 K 1)), ((r 2), iB (cs 0) 8 (cl8 K 2)), ((r 3), iB (cs 0) 8 (cl8 K 3)), ((r 4), iB (cs 0) 8 (cl8 K 4)), ((r 5), iB (cs 0) 8 (cl8 K 5)), ((r 6), iB (cs 0) 8 (cl8 K 6)), ((r 7), iB (cs 0) 8 (cl8 K 7)), (q5, oQ (cs 1) 64 r5), (q6, iB (cs 0) 7 R6), (q7, iB (cs 0) 64 R7), (q13, iB (cs 0) 13 R13)]) (r := r5) (F := F) hx hb hK hP 0 rfl (i := i) (w := 0) (hi64) (by decide) dL_law_1276 ?_
              refine tpi (x' := 2) ((hF i hi64).1.trans h2) ?_
              refine lv_iconst (v := 2) hx hb dL_law_1277 (by decide) ?_
              refine lv_icmp_eq (tgt := 1283) hx hb dL_law_1278 (by decide) (fun _ => ?_) (fun c => absurd (by decide) c)
              refine lv_iload hx hb dL_law_1283 (lv_at hl 2 rfl) ?_
              refine lv_iconst (v := 2) hx hb dL_law_1285 (by decide) ?_
              refine lv_icmp_eq (tgt := 1313) hx hb dL_law_1286 (by decide) (fun c => absurd c (by decide)) (fun _ => ?_)
              refine lv_iload hx hb dL_law_1289 (lv_at hl 2 rfl) ?_
              refine lv_if_ne (tgt := 1464) hx hb dL_law_1291 (by decide) (fun c => absurd (by decide) c) (fun _ => ?_)
              refine lv_iload hx hb dL_law_1294 (lv_at hl 1 rfl) ?_
              refine lv_if_ne (tgt := 1313) hx hb dL_law_1296 (by decide) (fun c => absurd (by decide) c) (fun _ => ?_)
              refine lv_aload hx hb dL_law_1299 (lv_at hl 9 rfl) ?_
              refine lv_iload hx hb dL_law_1301 (lv_at hl 3 rfl) ?_
              refine tpi (x' := nI i) (rfl) ?_
              refine g_ald (r := r5) (n := 64) hx hb hK hP 33 1 rfl rfl (x := i) (hi64) (by decide) dL_law_1303 ?_
              refine lv_iconst (v := 0) hx hb dL_law_1304 (by decide) ?_
              refine tpi (x' := nI 0) (rfl) ?_
              refine l_iald (X := [(hc, oX a t), ((a 0), oC a (cy.mo) (cy.co) (cy.le)), ((a 3), iA (cs 0) (cy.K)), ((a 4), iA (cs 0) (cy.Q)), ((a 5), iA (cs 0) (cy.L)), ((a 6), iA (cs 0) (cy.H)), ((a 7), iA (cs 0) (cy.M)), ((a 8), iA (cs 0) (cy.B)), ((a 9), iA (cs 0) (cy.C)), ((a 10), iA (cs 0) (cy.D)), ((a 11), iA (cs 0) (cy.F)), ((a 12), iA (cs 0) (cy.W)), ((t 0), oC t (dy.mo) (dy.co) (dy.le)), ((t 3), iA (cs 0) (dy.K)), ((t 4), iA (cs 0) (dy.Q)), ((t 5), iA (cs 0) (dy.L)), ((t 6), iA (cs 0) (dy.H)), ((t 7), iA (cs 0) (dy.M)), ((t 8), iA (cs 0) (dy.B)), ((t 9), iA (cs 0) (dy.C)), ((t 10), iA (cs 0) (dy.D)), ((t 11), iA (cs 0) (dy.F)), ((t 12), iA (cs 0) (dy.W)), (h, oS o (cy.mo) (cy.co) (cy.le)), (o, oQ (cs 1) 8 r), ((r 0), iB (cs 0) 8 (cl8 K 0)), ((r 1), iB (cs 0) 8 (cl8 K 1)), ((r 2), iB (cs 0) 8 (cl8 K 2)), ((r 3), iB (cs 0) 8 (cl8 K 3)), ((r 4), iB (cs 0) 8 (cl8 K 4)), ((r 5), iB (cs 0) 8 (cl8 K 5)), ((r 6), iB (cs 0) 8 (cl8 K 6)), ((r 7), iB (cs 0) 8 (cl8 K 7)), (q5, oQ (cs 1) 64 r5), (q6, iB (cs 0) 7 R6), (q7, iB (cs 0) 64 R7), (q13, iB (cs 0) 13 R13)]) (r := r5) (F := F) hx hb hK hP 0 rfl (i := i) (w := 0) (hi64) (by decide) dL_law_1305 ?_
              refine tpi (x' := 2) ((hF i hi64).1.trans h2) ?_
              refine lv_iconst (v := 2) hx hb dL_law_1306 (by decide) ?_
              refine lv_icmp_eq (tgt := 1313) hx hb dL_law_1307 (by decide) (fun _ => ?_) (fun c => absurd (by decide) c)
              exact jm 0 (if_pos hn).symm H locs ls hP hD hS (lv_sub hl [2, 3, 0, 4, 5, 6, 7, 8, 9, 10, 11, 12, 13, 14] rfl)
            · skip
              refine lv_aload_n hx hb dL_law_1177 rfl (lv_at hl 11 rfl) ?_
              refine lv_iload hx hb dL_law_1178 (lv_at hl 0 rfl) ?_
              refine lv_bipush (v := 8) hx hb dL_law_1180 (by decide) ?_
              refine lv_irem hx hb dL_law_1182 (by decide) ?_
              refine tpi (x' := nI (i % 8)) (pk_rem (a := i) (d := 8) (by omega) (by decide) (by decide)) ?_
              refine lv_iload hx hb dL_law_1183 (lv_at hl 0 rfl) ?_
              refine lv_bipush (v := 8) hx hb dL_law_1185 (by decide) ?_
              refine lv_idiv hx hb dL_law_1187 (by decide) ?_
              refine tpi (x' := nI (i / 8)) (pk_div (a := i) (d := 8) (by omega) (by decide) (by decide)) ?_
              refine lv_iconst (v := 0) hx hb dL_law_1188 (by decide) ?_
              refine cr_i (va_runV (As := [.int (nI (i % 8)), .int (nI (i / 8)), .int 0]) (rest := []) FX (c_X1_lot_ok l G (cs 0) hc a t cy.mo cy.co cy.le cy.K cy.Q cy.L cy.H cy.M cy.B cy.C cy.D cy.F cy.W k (nI (i % 8)) (nI (i / 8)) 0 hk hS0 (pl_in (by omega) (by omega)) (by decide)) (cwV 3 hts gL_law_X1_lot rfl rfl rfl (by decide +kernel) ⟨Nat.le_of_ble_eq_true rfl, Nat.le_of_ble_eq_true rfl⟩) (rdV hKI hP hNI [0, 1, 2, 3, 4, 5, 6, 7, 8, 9, 10, 11] rfl (ci := 1) (q0 := 0) rfl rfl) rfl rfl hl.1 rfl (lv_room (Nat.le_of_ble_eq_true rfl)) dL_law_1189 ⟨hzc, hzs⟩) hS hP (fun H locs hP hS => ?_)
              refine tpi (x' := 2) ((by rw [pAt_i hi64, hkm]; exact hm.trans (if_neg hn))) ?_
              refine lv_istore (lv' := [(22, .int 2), (21, .int (nI i)), (20, .int (csum (lfI kp) i)), (18, .int had), (9, .int (dall kp)), (8, .int (call kp)), (7, .ref q7), (6, .ref q6), (5, .ref q5), (4, .int x4), (3, .int (nI tm)), (0, .ref b), (1, .ref hc), (2, .ref h)]) hx hb dL_law_1192 hl (by decide) rfl (fun ls hl => ?_)
              refine lv_aload hx hb dL_law_1194 (lv_at hl 8 rfl) ?_
              refine lv_iload hx hb dL_law_1196 (lv_at hl 1 rfl) ?_
              refine tpi (x' := nI i) (rfl) ?_
              refine g_ald (r := r5) (n := 64) hx hb hK hP 33 1 rfl rfl (x := i) (hi64) (by decide) dL_law_1198 ?_
              refine lv_iconst (v := 4) hx hb dL_law_1199 (by decide) ?_
              refine tpi (x' := nI 4) (rfl) ?_
              refine l_iald (X := [(hc, oX a t), ((a 0), oC a (cy.mo) (cy.co) (cy.le)), ((a 3), iA (cs 0) (cy.K)), ((a 4), iA (cs 0) (cy.Q)), ((a 5), iA (cs 0) (cy.L)), ((a 6), iA (cs 0) (cy.H)), ((a 7), iA (cs 0) (cy.M)), ((a 8), iA (cs 0) (cy.B)), ((a 9), iA (cs 0) (cy.C)), ((a 10), iA (cs 0) (cy.D)), ((a 11), iA (cs 0) (cy.F)), ((a 12), iA (cs 0) (cy.W)), ((t 0), oC t (dy.mo) (dy.co) (dy.le)), ((t 3), iA (cs 0) (dy.K)), ((t 4), iA (cs 0) (dy.Q)), ((t 5), iA (cs 0) (dy.L)), ((t 6), iA (cs 0) (dy.H)), ((t 7), iA (cs 0) (dy.M)), ((t 8), iA (cs 0) (dy.B)), ((t 9), iA (cs 0) (dy.C)), ((t 10), iA (cs 0) (dy.D)), ((t 11), iA (cs 0) (dy.F)), ((t 12), iA (cs 0) (dy.W)), (h, oS o (cy.mo) (cy.co) (cy.le)), (o, oQ (cs 1) 8 r), ((r 0), iB (cs 0) 8 (cl8 K 0)), ((r 1), iB (cs 0) 8 (cl8 K 1)), ((r 2), iB (cs 0) 8 (cl8 K 2)), ((r 3), iB (cs 0) 8 (cl8 K 3)), ((r 4), iB (cs 0) 8 (cl8 K 4)), ((r 5), iB (cs 0) 8 (cl8 K 5)), ((r 6), iB (cs 0) 8 (cl8 K 6)), ((r 7), iB (cs 0) 8 (cl8 K 7)), (q5, oQ (cs 1) 64 r5), (q6, iB (cs 0) 7 R6), (q7, iB (cs 0) 64 R7), (q13, iB (cs 0) 13 R13)]) (r := r5) (F := F) hx hb hK hP 0 rfl (i := i) (w := 4) (hi64) (by decide) dL_law_1200 ?_
              refine tpi (x' := cpl kp i) ((hF i hi64).2.2.2.2.1) ?_
              refine lv_iconst (v := 4) hx hb dL_law_1201 (by decide) ?_
              refine lv_icmp_lt (tgt := 1209) hx hb dL_law_1202 (by decide) (fun _ => ?_) (fun c => absurd (Int32.not_le.mp hl4) c)
              refine lv_iconst (v := 0) hx hb dL_law_1209 (by decide) ?_
              refine lv_istore (lv' := [(23, .int 0), (22, .int 2), (21, .int (nI i)), (20, .int (csum (lfI kp) i)), (18, .int had), (9, .int (dall kp)), (8, .int (call kp)), (7, .ref q7), (6, .ref q6), (5, .ref q5), (4, .int x4), (3, .int (nI tm)), (0, .ref b), (1, .ref hc), (2, .ref h)]) hx hb dL_law_1210 hl (by decide) rfl (fun ls hl => ?_)
              refine lv_iload hx hb dL_law_1212 (lv_at hl 3 rfl) ?_
              refine lv_iload hx hb dL_law_1214 (lv_at hl 0 rfl) ?_
              refine lv_if_eq (tgt := 1223) hx hb dL_law_1216 (by decide) (fun _ => ?_) (fun c => absurd (rfl) c)
              refine lv_iconst (v := 0) hx hb dL_law_1223 (by decide) ?_
              refine lv_iadd hx hb dL_law_1224 ?_
              refine tpi (x' := csum (lfI kp) (i + 1)) (lfI_0 hlf) ?_
              refine lv_istore (lv' := [(20, .int (csum (lfI kp) (i + 1))), (23, .int 0), (22, .int 2), (21, .int (nI i)), (18, .int had), (9, .int (dall kp)), (8, .int (call kp)), (7, .ref q7), (6, .ref q6), (5, .ref q5), (4, .int x4), (3, .int (nI tm)), (0, .ref b), (1, .ref hc), (2, .ref h)]) hx hb dL_law_1225 hl (by decide) rfl (fun ls hl => ?_)
              refine lv_iload hx hb dL_law_1227 (lv_at hl 2 rfl) ?_
              refine lv_aload hx hb dL_law_1229 (lv_at hl 9 rfl) ?_
              refine lv_iload hx hb dL_law_1231 (lv_at hl 3 rfl) ?_
              refine tpi (x' := nI i) (rfl) ?_
              refine g_ald (r := r5) (n := 64) hx hb hK hP 33 1 rfl rfl (x := i) (hi64) (by decide) dL_law_1233 ?_
              refine lv_iconst (v := 0) hx hb dL_law_1234 (by decide) ?_
              refine tpi (x' := nI 0) (rfl) ?_
              refine l_iald (X := [(hc, oX a t), ((a 0), oC a (cy.mo) (cy.co) (cy.le)), ((a 3), iA (cs 0) (cy.K)), ((a 4), iA (cs 0) (cy.Q)), ((a 5), iA (cs 0) (cy.L)), ((a 6), iA (cs 0) (cy.H)), ((a 7), iA (cs 0) (cy.M)), ((a 8), iA (cs 0) (cy.B)), ((a 9), iA (cs 0) (cy.C)), ((a 10), iA (cs 0) (cy.D)), ((a 11), iA (cs 0) (cy.F)), ((a 12), iA (cs 0) (cy.W)), ((t 0), oC t (dy.mo) (dy.co) (dy.le)), ((t 3), iA (cs 0) (dy.K)), ((t 4), iA (cs 0) (dy.Q)), ((t 5), iA (cs 0) (dy.L)), ((t 6), iA (cs 0) (dy.H)), ((t 7), iA (cs 0) (dy.M)), ((t 8), iA (cs 0) (dy.B)), ((t 9), iA (cs 0) (dy.C)), ((t 10), iA (cs 0) (dy.D)), ((t 11), iA (cs 0) (dy.F)), ((t 12), iA (cs 0) (dy.W)), (h, oS o (cy.mo) (cy.co) (cy.le)), (o, oQ (cs 1) 8 r), ((r 0), iB (cs 0) 8 (cl8 K 0)), ((r 1), iB (cs 0) 8 (cl8 K 1)), ((r 2), iB (cs 0) 8 (cl8 K 2)), ((r 3), iB (cs 0) 8 (cl8 K 3)), ((r 4), iB (cs 0) 8 (cl8 K 4)), ((r 5), iB (cs 0) 8 (cl8 K 5)), ((r 6), iB (cs 0) 8 (cl8 K 6)), ((r 7), iB (cs 0) 8 (cl8 K 7)), (q5, oQ (cs 1) 64 r5), (q6, iB (cs 0) 7 R6), (q7, iB (cs 0) 64 R7), (q13, iB (cs 0) 13 R13)]) (r := r5) (F := F) hx hb hK hP 0 rfl (i := i) (w := 0) (hi64) (by decide) dL_law_1235 ?_
              refine tpi (x' := 2) ((hF i hi64).1.trans h2) ?_
              refine lv_icmp_ne (tgt := 1246) hx hb dL_law_1236 (by decide) (fun c => absurd (by decide) c) (fun _ => ?_)
              refine lv_iload hx hb dL_law_1239 (lv_at hl 1 rfl) ?_
              refine lv_if_eq (tgt := 1283) hx hb dL_law_1241 (by decide) (fun _ => ?_) (fun c => absurd (by decide) c)
              refine lv_iload hx hb dL_law_1283 (lv_at hl 2 rfl) ?_
              refine lv_iconst (v := 2) hx hb dL_law_1285 (by decide) ?_
              refine lv_icmp_eq (tgt := 1313) hx hb dL_law_1286 (by decide) (fun _ => ?_) (fun c => absurd (by decide) c)
              exact jm 2 (if_neg hn).symm H locs ls hP hD hS (lv_sub hl [2, 3, 0, 4, 5, 6, 7, 8, 9, 10, 11, 12, 13, 14] rfl)
          · skip
            have hm := mon_else hlf h2
            rcases kd_cases (hkp i hi64) with hv | hv | hv | hv | hv | hv | hv
            · skip
              refine lv_aload_n hx hb dL_law_1177 rfl (lv_at hl 11 rfl) ?_
              refine lv_iload hx hb dL_law_1178 (lv_at hl 0 rfl) ?_
              refine lv_bipush (v := 8) hx hb dL_law_1180 (by decide) ?_
              refine lv_irem hx hb dL_law_1182 (by decide) ?_
              refine tpi (x' := nI (i % 8)) (pk_rem (a := i) (d := 8) (by omega) (by decide) (by decide)) ?_
              refine lv_iload hx hb dL_law_1183 (lv_at hl 0 rfl) ?_
              refine lv_bipush (v := 8) hx hb dL_law_1185 (by decide) ?_
              refine lv_idiv hx hb dL_law_1187 (by decide) ?_
              refine tpi (x' := nI (i / 8)) (pk_div (a := i) (d := 8) (by omega) (by decide) (by decide)) ?_
              refine lv_iconst (v := 0) hx hb dL_law_1188 (by decide) ?_
              refine cr_i (va_runV (As := [.int (nI (i % 8)), .int (nI (i / 8)), .int 0]) (rest := []) FX (c_X1_lot_ok l G (cs 0) hc a t cy.mo cy.co cy.le cy.K cy.Q cy.L cy.H cy.M cy.B cy.C cy.D cy.F cy.W k (nI (i % 8)) (nI (i / 8)) 0 hk hS0 (pl_in (by omega) (by omega)) (by decide)) (cwV 3 hts gL_law_X1_lot rfl rfl rfl (by decide +kernel) ⟨Nat.le_of_ble_eq_true rfl, Nat.le_of_ble_eq_true rfl⟩) (rdV hKI hP hNI [0, 1, 2, 3, 4, 5, 6, 7, 8, 9, 10, 11] rfl (ci := 1) (q0 := 0) rfl rfl) rfl rfl hl.1 rfl (lv_room (Nat.le_of_ble_eq_true rfl)) dL_law_1189 ⟨hzc, hzs⟩) hS hP (fun H locs hP hS => ?_)
              refine tpi (x' := 0) ((by rw [pAt_i hi64, hkm]; exact hm.trans hv)) ?_
              refine lv_istore (lv' := [(22, .int 0), (21, .int (nI i)), (20, .int (csum (lfI kp) i)), (18, .int had), (9, .int (dall kp)), (8, .int (call kp)), (7, .ref q7), (6, .ref q6), (5, .ref q5), (4, .int x4), (3, .int (nI tm)), (0, .ref b), (1, .ref hc), (2, .ref h)]) hx hb dL_law_1192 hl (by decide) rfl (fun ls hl => ?_)
              refine lv_aload hx hb dL_law_1194 (lv_at hl 8 rfl) ?_
              refine lv_iload hx hb dL_law_1196 (lv_at hl 1 rfl) ?_
              refine tpi (x' := nI i) (rfl) ?_
              refine g_ald (r := r5) (n := 64) hx hb hK hP 33 1 rfl rfl (x := i) (hi64) (by decide) dL_law_1198 ?_
              refine lv_iconst (v := 4) hx hb dL_law_1199 (by decide) ?_
              refine tpi (x' := nI 4) (rfl) ?_
              refine l_iald (X := [(hc, oX a t), ((a 0), oC a (cy.mo) (cy.co) (cy.le)), ((a 3), iA (cs 0) (cy.K)), ((a 4), iA (cs 0) (cy.Q)), ((a 5), iA (cs 0) (cy.L)), ((a 6), iA (cs 0) (cy.H)), ((a 7), iA (cs 0) (cy.M)), ((a 8), iA (cs 0) (cy.B)), ((a 9), iA (cs 0) (cy.C)), ((a 10), iA (cs 0) (cy.D)), ((a 11), iA (cs 0) (cy.F)), ((a 12), iA (cs 0) (cy.W)), ((t 0), oC t (dy.mo) (dy.co) (dy.le)), ((t 3), iA (cs 0) (dy.K)), ((t 4), iA (cs 0) (dy.Q)), ((t 5), iA (cs 0) (dy.L)), ((t 6), iA (cs 0) (dy.H)), ((t 7), iA (cs 0) (dy.M)), ((t 8), iA (cs 0) (dy.B)), ((t 9), iA (cs 0) (dy.C)), ((t 10), iA (cs 0) (dy.D)), ((t 11), iA (cs 0) (dy.F)), ((t 12), iA (cs 0) (dy.W)), (h, oS o (cy.mo) (cy.co) (cy.le)), (o, oQ (cs 1) 8 r), ((r 0), iB (cs 0) 8 (cl8 K 0)), ((r 1), iB (cs 0) 8 (cl8 K 1)), ((r 2), iB (cs 0) 8 (cl8 K 2)), ((r 3), iB (cs 0) 8 (cl8 K 3)), ((r 4), iB (cs 0) 8 (cl8 K 4)), ((r 5), iB (cs 0) 8 (cl8 K 5)), ((r 6), iB (cs 0) 8 (cl8 K 6)), ((r 7), iB (cs 0) 8 (cl8 K 7)), (q5, oQ (cs 1) 64 r5), (q6, iB (cs 0) 7 R6), (q7, iB (cs 0) 64 R7), (q13, iB (cs 0) 13 R13)]) (r := r5) (F := F) hx hb hK hP 0 rfl (i := i) (w := 4) (hi64) (by decide) dL_law_1200 ?_
              refine tpi (x' := cpl kp i) ((hF i hi64).2.2.2.2.1) ?_
              refine lv_iconst (v := 4) hx hb dL_law_1201 (by decide) ?_
              refine lv_icmp_lt (tgt := 1209) hx hb dL_law_1202 (by decide) (fun _ => ?_) (fun c => absurd (Int32.not_le.mp hl4) c)
              refine lv_iconst (v := 0) hx hb dL_law_1209 (by decide) ?_
              refine lv_istore (lv' := [(23, .int 0), (22, .int 0), (21, .int (nI i)), (20, .int (csum (lfI kp) i)), (18, .int had), (9, .int (dall kp)), (8, .int (call kp)), (7, .ref q7), (6, .ref q6), (5, .ref q5), (4, .int x4), (3, .int (nI tm)), (0, .ref b), (1, .ref hc), (2, .ref h)]) hx hb dL_law_1210 hl (by decide) rfl (fun ls hl => ?_)
              refine lv_iload hx hb dL_law_1212 (lv_at hl 3 rfl) ?_
              refine lv_iload hx hb dL_law_1214 (lv_at hl 0 rfl) ?_
              refine lv_if_eq (tgt := 1223) hx hb dL_law_1216 (by decide) (fun _ => ?_) (fun c => absurd (rfl) c)
              refine lv_iconst (v := 0) hx hb dL_law_1223 (by decide) ?_
              refine lv_iadd hx hb dL_law_1224 ?_
              refine tpi (x' := csum (lfI kp) (i + 1)) (lfI_0 hlf) ?_
              refine lv_istore (lv' := [(20, .int (csum (lfI kp) (i + 1))), (23, .int 0), (22, .int 0), (21, .int (nI i)), (18, .int had), (9, .int (dall kp)), (8, .int (call kp)), (7, .ref q7), (6, .ref q6), (5, .ref q5), (4, .int x4), (3, .int (nI tm)), (0, .ref b), (1, .ref hc), (2, .ref h)]) hx hb dL_law_1225 hl (by decide) rfl (fun ls hl => ?_)
              refine lv_iload hx hb dL_law_1227 (lv_at hl 2 rfl) ?_
              refine lv_aload hx hb dL_law_1229 (lv_at hl 9 rfl) ?_
              refine lv_iload hx hb dL_law_1231 (lv_at hl 3 rfl) ?_
              refine tpi (x' := nI i) (rfl) ?_
              refine g_ald (r := r5) (n := 64) hx hb hK hP 33 1 rfl rfl (x := i) (hi64) (by decide) dL_law_1233 ?_
              refine lv_iconst (v := 0) hx hb dL_law_1234 (by decide) ?_
              refine tpi (x' := nI 0) (rfl) ?_
              refine l_iald (X := [(hc, oX a t), ((a 0), oC a (cy.mo) (cy.co) (cy.le)), ((a 3), iA (cs 0) (cy.K)), ((a 4), iA (cs 0) (cy.Q)), ((a 5), iA (cs 0) (cy.L)), ((a 6), iA (cs 0) (cy.H)), ((a 7), iA (cs 0) (cy.M)), ((a 8), iA (cs 0) (cy.B)), ((a 9), iA (cs 0) (cy.C)), ((a 10), iA (cs 0) (cy.D)), ((a 11), iA (cs 0) (cy.F)), ((a 12), iA (cs 0) (cy.W)), ((t 0), oC t (dy.mo) (dy.co) (dy.le)), ((t 3), iA (cs 0) (dy.K)), ((t 4), iA (cs 0) (dy.Q)), ((t 5), iA (cs 0) (dy.L)), ((t 6), iA (cs 0) (dy.H)), ((t 7), iA (cs 0) (dy.M)), ((t 8), iA (cs 0) (dy.B)), ((t 9), iA (cs 0) (dy.C)), ((t 10), iA (cs 0) (dy.D)), ((t 11), iA (cs 0) (dy.F)), ((t 12), iA (cs 0) (dy.W)), (h, oS o (cy.mo) (cy.co) (cy.le)), (o, oQ (cs 1) 8 r), ((r 0), iB (cs 0) 8 (cl8 K 0)), ((r 1), iB (cs 0) 8 (cl8 K 1)), ((r 2), iB (cs 0) 8 (cl8 K 2)), ((r 3), iB (cs 0) 8 (cl8 K 3)), ((r 4), iB (cs 0) 8 (cl8 K 4)), ((r 5), iB (cs 0) 8 (cl8 K 5)), ((r 6), iB (cs 0) 8 (cl8 K 6)), ((r 7), iB (cs 0) 8 (cl8 K 7)), (q5, oQ (cs 1) 64 r5), (q6, iB (cs 0) 7 R6), (q7, iB (cs 0) 64 R7), (q13, iB (cs 0) 13 R13)]) (r := r5) (F := F) hx hb hK hP 0 rfl (i := i) (w := 0) (hi64) (by decide) dL_law_1235 ?_
              refine tpi (x' := 0) ((hF i hi64).1.trans hv) ?_
              refine lv_icmp_ne (tgt := 1246) hx hb dL_law_1236 (by decide) (fun c => absurd (by decide) c) (fun _ => ?_)
              refine lv_iload hx hb dL_law_1239 (lv_at hl 1 rfl) ?_
              refine lv_if_eq (tgt := 1283) hx hb dL_law_1241 (by decide) (fun _ => ?_) (fun c => absurd (by decide) c)
              refine lv_iload hx hb dL_law_1283 (lv_at hl 2 rfl) ?_
              refine lv_iconst (v := 2) hx hb dL_law_1285 (by decide) ?_
              refine lv_icmp_eq (tgt := 1313) hx hb dL_law_1286 (by decide) (fun c => absurd c (by decide)) (fun _ => ?_)
              refine lv_iload hx hb dL_law_1289 (lv_at hl 2 rfl) ?_
              refine lv_if_ne (tgt := 1464) hx hb dL_law_1291 (by decide) (fun c => absurd (by decide) c) (fun _ => ?_)
              refine lv_iload hx hb dL_law_1294 (lv_at hl 1 rfl) ?_
              refine lv_if_ne (tgt := 1313) hx hb dL_law_1296 (by decide) (fun c => absurd (by decide) c) (fun _ => ?_)
              refine lv_aload hx hb dL_law_1299 (lv_at hl 9 rfl) ?_
              refine lv_iload hx hb dL_law_1301 (lv_at hl 3 rfl) ?_
              refine tpi (x' := nI i) (rfl) ?_
              refine g_ald (r := r5) (n := 64) hx hb hK hP 33 1 rfl rfl (x := i) (hi64) (by decide) dL_law_1303 ?_
              refine lv_iconst (v := 0) hx hb dL_law_1304 (by decide) ?_
              refine tpi (x' := nI 0) (rfl) ?_
              refine l_iald (X := [(hc, oX a t), ((a 0), oC a (cy.mo) (cy.co) (cy.le)), ((a 3), iA (cs 0) (cy.K)), ((a 4), iA (cs 0) (cy.Q)), ((a 5), iA (cs 0) (cy.L)), ((a 6), iA (cs 0) (cy.H)), ((a 7), iA (cs 0) (cy.M)), ((a 8), iA (cs 0) (cy.B)), ((a 9), iA (cs 0) (cy.C)), ((a 10), iA (cs 0) (cy.D)), ((a 11), iA (cs 0) (cy.F)), ((a 12), iA (cs 0) (cy.W)), ((t 0), oC t (dy.mo) (dy.co) (dy.le)), ((t 3), iA (cs 0) (dy.K)), ((t 4), iA (cs 0) (dy.Q)), ((t 5), iA (cs 0) (dy.L)), ((t 6), iA (cs 0) (dy.H)), ((t 7), iA (cs 0) (dy.M)), ((t 8), iA (cs 0) (dy.B)), ((t 9), iA (cs 0) (dy.C)), ((t 10), iA (cs 0) (dy.D)), ((t 11), iA (cs 0) (dy.F)), ((t 12), iA (cs 0) (dy.W)), (h, oS o (cy.mo) (cy.co) (cy.le)), (o, oQ (cs 1) 8 r), ((r 0), iB (cs 0) 8 (cl8 K 0)), ((r 1), iB (cs 0) 8 (cl8 K 1)), ((r 2), iB (cs 0) 8 (cl8 K 2)), ((r 3), iB (cs 0) 8 (cl8 K 3)), ((r 4), iB (cs 0) 8 (cl8 K 4)), ((r 5), iB (cs 0) 8 (cl8 K 5)), ((r 6), iB (cs 0) 8 (cl8 K 6)), ((r 7), iB (cs 0) 8 (cl8 K 7)), (q5, oQ (cs 1) 64 r5), (q6, iB (cs 0) 7 R6), (q7, iB (cs 0) 64 R7), (q13, iB (cs 0) 13 R13)]) (r := r5) (F := F) hx hb hK hP 0 rfl (i := i) (w := 0) (hi64) (by decide) dL_law_1305 ?_
              refine tpi (x' := 0) ((hF i hi64).1.trans hv) ?_
              refine lv_iconst (v := 2) hx hb dL_law_1306 (by decide) ?_
              refine lv_icmp_eq (tgt := 1313) hx hb dL_law_1307 (by decide) (fun c => absurd c (by decide)) (fun _ => ?_)
              refine lv_goto (tgt := 1464) hx hb dL_law_1310 (by decide) ?_
              exact jn H locs ls hP hD hS (lv_sub hl [3, 0, 4, 5, 6, 7, 8, 9, 10, 11, 12, 13, 14] rfl)
            · skip
              refine lv_aload_n hx hb dL_law_1177 rfl (lv_at hl 11 rfl) ?_
              refine lv_iload hx hb dL_law_1178 (lv_at hl 0 rfl) ?_
              refine lv_bipush (v := 8) hx hb dL_law_1180 (by decide) ?_
              refine lv_irem hx hb dL_law_1182 (by decide) ?_
              refine tpi (x' := nI (i % 8)) (pk_rem (a := i) (d := 8) (by omega) (by decide) (by decide)) ?_
              refine lv_iload hx hb dL_law_1183 (lv_at hl 0 rfl) ?_
              refine lv_bipush (v := 8) hx hb dL_law_1185 (by decide) ?_
              refine lv_idiv hx hb dL_law_1187 (by decide) ?_
              refine tpi (x' := nI (i / 8)) (pk_div (a := i) (d := 8) (by omega) (by decide) (by decide)) ?_
              refine lv_iconst (v := 0) hx hb dL_law_1188 (by decide) ?_
              refine cr_i (va_runV (As := [.int (nI (i % 8)), .int (nI (i / 8)), .int 0]) (rest := []) FX (c_X1_lot_ok l G (cs 0) hc a t cy.mo cy.co cy.le cy.K cy.Q cy.L cy.H cy.M cy.B cy.C cy.D cy.F cy.W k (nI (i % 8)) (nI (i / 8)) 0 hk hS0 (pl_in (by omega) (by omega)) (by decide)) (cwV 3 hts gL_law_X1_lot rfl rfl rfl (by decide +kernel) ⟨Nat.le_of_ble_eq_true rfl, Nat.le_of_ble_eq_true rfl⟩) (rdV hKI hP hNI [0, 1, 2, 3, 4, 5, 6, 7, 8, 9, 10, 11] rfl (ci := 1) (q0 := 0) rfl rfl) rfl rfl hl.1 rfl (lv_room (Nat.le_of_ble_eq_true rfl)) dL_law_1189 ⟨hzc, hzs⟩) hS hP (fun H locs hP hS => ?_)
              refine tpi (x' := 1) ((by rw [pAt_i hi64, hkm]; exact hm.trans hv)) ?_
              refine lv_istore (lv' := [(22, .int 1), (21, .int (nI i)), (20, .int (csum (lfI kp) i)), (18, .int had), (9, .int (dall kp)), (8, .int (call kp)), (7, .ref q7), (6, .ref q6), (5, .ref q5), (4, .int x4), (3, .int (nI tm)), (0, .ref b), (1, .ref hc), (2, .ref h)]) hx hb dL_law_1192 hl (by decide) rfl (fun ls hl => ?_)
              refine lv_aload hx hb dL_law_1194 (lv_at hl 8 rfl) ?_
              refine lv_iload hx hb dL_law_1196 (lv_at hl 1 rfl) ?_
              refine tpi (x' := nI i) (rfl) ?_
              refine g_ald (r := r5) (n := 64) hx hb hK hP 33 1 rfl rfl (x := i) (hi64) (by decide) dL_law_1198 ?_
              refine lv_iconst (v := 4) hx hb dL_law_1199 (by decide) ?_
              refine tpi (x' := nI 4) (rfl) ?_
              refine l_iald (X := [(hc, oX a t), ((a 0), oC a (cy.mo) (cy.co) (cy.le)), ((a 3), iA (cs 0) (cy.K)), ((a 4), iA (cs 0) (cy.Q)), ((a 5), iA (cs 0) (cy.L)), ((a 6), iA (cs 0) (cy.H)), ((a 7), iA (cs 0) (cy.M)), ((a 8), iA (cs 0) (cy.B)), ((a 9), iA (cs 0) (cy.C)), ((a 10), iA (cs 0) (cy.D)), ((a 11), iA (cs 0) (cy.F)), ((a 12), iA (cs 0) (cy.W)), ((t 0), oC t (dy.mo) (dy.co) (dy.le)), ((t 3), iA (cs 0) (dy.K)), ((t 4), iA (cs 0) (dy.Q)), ((t 5), iA (cs 0) (dy.L)), ((t 6), iA (cs 0) (dy.H)), ((t 7), iA (cs 0) (dy.M)), ((t 8), iA (cs 0) (dy.B)), ((t 9), iA (cs 0) (dy.C)), ((t 10), iA (cs 0) (dy.D)), ((t 11), iA (cs 0) (dy.F)), ((t 12), iA (cs 0) (dy.W)), (h, oS o (cy.mo) (cy.co) (cy.le)), (o, oQ (cs 1) 8 r), ((r 0), iB (cs 0) 8 (cl8 K 0)), ((r 1), iB (cs 0) 8 (cl8 K 1)), ((r 2), iB (cs 0) 8 (cl8 K 2)), ((r 3), iB (cs 0) 8 (cl8 K 3)), ((r 4), iB (cs 0) 8 (cl8 K 4)), ((r 5), iB (cs 0) 8 (cl8 K 5)), ((r 6), iB (cs 0) 8 (cl8 K 6)), ((r 7), iB (cs 0) 8 (cl8 K 7)), (q5, oQ (cs 1) 64 r5), (q6, iB (cs 0) 7 R6), (q7, iB (cs 0) 64 R7), (q13, iB (cs 0) 13 R13)]) (r := r5) (F := F) hx hb hK hP 0 rfl (i := i) (w := 4) (hi64) (by decide) dL_law_1200 ?_
              refine tpi (x' := cpl kp i) ((hF i hi64).2.2.2.2.1) ?_
              refine lv_iconst (v := 4) hx hb dL_law_1201 (by decide) ?_
              refine lv_icmp_lt (tgt := 1209) hx hb dL_law_1202 (by decide) (fun _ => ?_) (fun c => absurd (Int32.not_le.mp hl4) c)
              refine lv_iconst (v := 0) hx hb dL_law_1209 (by decide) ?_
              refine lv_istore (lv' := [(23, .int 0), (22, .int 1), (21, .int (nI i)), (20, .int (csum (lfI kp) i)), (18, .int had), (9, .int (dall kp)), (8, .int (call kp)), (7, .ref q7), (6, .ref q6), (5, .ref q5), (4, .int x4), (3, .int (nI tm)), (0, .ref b), (1, .ref hc), (2, .ref h)]) hx hb dL_law_1210 hl (by decide) rfl (fun ls hl => ?_)
              refine lv_iload hx hb dL_law_1212 (lv_at hl 3 rfl) ?_
              refine lv_iload hx hb dL_law_1214 (lv_at hl 0 rfl) ?_
              refine lv_if_eq (tgt := 1223) hx hb dL_law_1216 (by decide) (fun _ => ?_) (fun c => absurd (rfl) c)
              refine lv_iconst (v := 0) hx hb dL_law_1223 (by decide) ?_
              refine lv_iadd hx hb dL_law_1224 ?_
              refine tpi (x' := csum (lfI kp) (i + 1)) (lfI_0 hlf) ?_
              refine lv_istore (lv' := [(20, .int (csum (lfI kp) (i + 1))), (23, .int 0), (22, .int 1), (21, .int (nI i)), (18, .int had), (9, .int (dall kp)), (8, .int (call kp)), (7, .ref q7), (6, .ref q6), (5, .ref q5), (4, .int x4), (3, .int (nI tm)), (0, .ref b), (1, .ref hc), (2, .ref h)]) hx hb dL_law_1225 hl (by decide) rfl (fun ls hl => ?_)
              refine lv_iload hx hb dL_law_1227 (lv_at hl 2 rfl) ?_
              refine lv_aload hx hb dL_law_1229 (lv_at hl 9 rfl) ?_
              refine lv_iload hx hb dL_law_1231 (lv_at hl 3 rfl) ?_
              refine tpi (x' := nI i) (rfl) ?_
              refine g_ald (r := r5) (n := 64) hx hb hK hP 33 1 rfl rfl (x := i) (hi64) (by decide) dL_law_1233 ?_
              refine lv_iconst (v := 0) hx hb dL_law_1234 (by decide) ?_
              refine tpi (x' := nI 0) (rfl) ?_
              refine l_iald (X := [(hc, oX a t), ((a 0), oC a (cy.mo) (cy.co) (cy.le)), ((a 3), iA (cs 0) (cy.K)), ((a 4), iA (cs 0) (cy.Q)), ((a 5), iA (cs 0) (cy.L)), ((a 6), iA (cs 0) (cy.H)), ((a 7), iA (cs 0) (cy.M)), ((a 8), iA (cs 0) (cy.B)), ((a 9), iA (cs 0) (cy.C)), ((a 10), iA (cs 0) (cy.D)), ((a 11), iA (cs 0) (cy.F)), ((a 12), iA (cs 0) (cy.W)), ((t 0), oC t (dy.mo) (dy.co) (dy.le)), ((t 3), iA (cs 0) (dy.K)), ((t 4), iA (cs 0) (dy.Q)), ((t 5), iA (cs 0) (dy.L)), ((t 6), iA (cs 0) (dy.H)), ((t 7), iA (cs 0) (dy.M)), ((t 8), iA (cs 0) (dy.B)), ((t 9), iA (cs 0) (dy.C)), ((t 10), iA (cs 0) (dy.D)), ((t 11), iA (cs 0) (dy.F)), ((t 12), iA (cs 0) (dy.W)), (h, oS o (cy.mo) (cy.co) (cy.le)), (o, oQ (cs 1) 8 r), ((r 0), iB (cs 0) 8 (cl8 K 0)), ((r 1), iB (cs 0) 8 (cl8 K 1)), ((r 2), iB (cs 0) 8 (cl8 K 2)), ((r 3), iB (cs 0) 8 (cl8 K 3)), ((r 4), iB (cs 0) 8 (cl8 K 4)), ((r 5), iB (cs 0) 8 (cl8 K 5)), ((r 6), iB (cs 0) 8 (cl8 K 6)), ((r 7), iB (cs 0) 8 (cl8 K 7)), (q5, oQ (cs 1) 64 r5), (q6, iB (cs 0) 7 R6), (q7, iB (cs 0) 64 R7), (q13, iB (cs 0) 13 R13)]) (r := r5) (F := F) hx hb hK hP 0 rfl (i := i) (w := 0) (hi64) (by decide) dL_law_1235 ?_
              refine tpi (x' := 1) ((hF i hi64).1.trans hv) ?_
              refine lv_icmp_ne (tgt := 1246) hx hb dL_law_1236 (by decide) (fun c => absurd (by decide) c) (fun _ => ?_)
              refine lv_iload hx hb dL_law_1239 (lv_at hl 1 rfl) ?_
              refine lv_if_eq (tgt := 1283) hx hb dL_law_1241 (by decide) (fun _ => ?_) (fun c => absurd (by decide) c)
              refine lv_iload hx hb dL_law_1283 (lv_at hl 2 rfl) ?_
              refine lv_iconst (v := 2) hx hb dL_law_1285 (by decide) ?_
              refine lv_icmp_eq (tgt := 1313) hx hb dL_law_1286 (by decide) (fun c => absurd c (by decide)) (fun _ => ?_)
              refine lv_iload hx hb dL_law_1289 (lv_at hl 2 rfl) ?_
              refine lv_if_ne (tgt := 1464) hx hb dL_law_1291 (by decide) (fun _ => ?_) (fun c => absurd c (by decide))
              exact jn H locs ls hP hD hS (lv_sub hl [3, 0, 4, 5, 6, 7, 8, 9, 10, 11, 12, 13, 14] rfl)
            · skip
              exact absurd hv h2
            · skip
              refine lv_aload_n hx hb dL_law_1177 rfl (lv_at hl 11 rfl) ?_
              refine lv_iload hx hb dL_law_1178 (lv_at hl 0 rfl) ?_
              refine lv_bipush (v := 8) hx hb dL_law_1180 (by decide) ?_
              refine lv_irem hx hb dL_law_1182 (by decide) ?_
              refine tpi (x' := nI (i % 8)) (pk_rem (a := i) (d := 8) (by omega) (by decide) (by decide)) ?_
              refine lv_iload hx hb dL_law_1183 (lv_at hl 0 rfl) ?_
              refine lv_bipush (v := 8) hx hb dL_law_1185 (by decide) ?_
              refine lv_idiv hx hb dL_law_1187 (by decide) ?_
              refine tpi (x' := nI (i / 8)) (pk_div (a := i) (d := 8) (by omega) (by decide) (by decide)) ?_
              refine lv_iconst (v := 0) hx hb dL_law_1188 (by decide) ?_
              refine cr_i (va_runV (As := [.int (nI (i % 8)), .int (nI (i / 8)), .int 0]) (rest := []) FX (c_X1_lot_ok l G (cs 0) hc a t cy.mo cy.co cy.le cy.K cy.Q cy.L cy.H cy.M cy.B cy.C cy.D cy.F cy.W k (nI (i % 8)) (nI (i / 8)) 0 hk hS0 (pl_in (by omega) (by omega)) (by decide)) (cwV 3 hts gL_law_X1_lot rfl rfl rfl (by decide +kernel) ⟨Nat.le_of_ble_eq_true rfl, Nat.le_of_ble_eq_true rfl⟩) (rdV hKI hP hNI [0, 1, 2, 3, 4, 5, 6, 7, 8, 9, 10, 11] rfl (ci := 1) (q0 := 0) rfl rfl) rfl rfl hl.1 rfl (lv_room (Nat.le_of_ble_eq_true rfl)) dL_law_1189 ⟨hzc, hzs⟩) hS hP (fun H locs hP hS => ?_)
              refine tpi (x' := 3) ((by rw [pAt_i hi64, hkm]; exact hm.trans hv)) ?_
              refine lv_istore (lv' := [(22, .int 3), (21, .int (nI i)), (20, .int (csum (lfI kp) i)), (18, .int had), (9, .int (dall kp)), (8, .int (call kp)), (7, .ref q7), (6, .ref q6), (5, .ref q5), (4, .int x4), (3, .int (nI tm)), (0, .ref b), (1, .ref hc), (2, .ref h)]) hx hb dL_law_1192 hl (by decide) rfl (fun ls hl => ?_)
              refine lv_aload hx hb dL_law_1194 (lv_at hl 8 rfl) ?_
              refine lv_iload hx hb dL_law_1196 (lv_at hl 1 rfl) ?_
              refine tpi (x' := nI i) (rfl) ?_
              refine g_ald (r := r5) (n := 64) hx hb hK hP 33 1 rfl rfl (x := i) (hi64) (by decide) dL_law_1198 ?_
              refine lv_iconst (v := 4) hx hb dL_law_1199 (by decide) ?_
              refine tpi (x' := nI 4) (rfl) ?_
              refine l_iald (X := [(hc, oX a t), ((a 0), oC a (cy.mo) (cy.co) (cy.le)), ((a 3), iA (cs 0) (cy.K)), ((a 4), iA (cs 0) (cy.Q)), ((a 5), iA (cs 0) (cy.L)), ((a 6), iA (cs 0) (cy.H)), ((a 7), iA (cs 0) (cy.M)), ((a 8), iA (cs 0) (cy.B)), ((a 9), iA (cs 0) (cy.C)), ((a 10), iA (cs 0) (cy.D)), ((a 11), iA (cs 0) (cy.F)), ((a 12), iA (cs 0) (cy.W)), ((t 0), oC t (dy.mo) (dy.co) (dy.le)), ((t 3), iA (cs 0) (dy.K)), ((t 4), iA (cs 0) (dy.Q)), ((t 5), iA (cs 0) (dy.L)), ((t 6), iA (cs 0) (dy.H)), ((t 7), iA (cs 0) (dy.M)), ((t 8), iA (cs 0) (dy.B)), ((t 9), iA (cs 0) (dy.C)), ((t 10), iA (cs 0) (dy.D)), ((t 11), iA (cs 0) (dy.F)), ((t 12), iA (cs 0) (dy.W)), (h, oS o (cy.mo) (cy.co) (cy.le)), (o, oQ (cs 1) 8 r), ((r 0), iB (cs 0) 8 (cl8 K 0)), ((r 1), iB (cs 0) 8 (cl8 K 1)), ((r 2), iB (cs 0) 8 (cl8 K 2)), ((r 3), iB (cs 0) 8 (cl8 K 3)), ((r 4), iB (cs 0) 8 (cl8 K 4)), ((r 5), iB (cs 0) 8 (cl8 K 5)), ((r 6), iB (cs 0) 8 (cl8 K 6)), ((r 7), iB (cs 0) 8 (cl8 K 7)), (q5, oQ (cs 1) 64 r5), (q6, iB (cs 0) 7 R6), (q7, iB (cs 0) 64 R7), (q13, iB (cs 0) 13 R13)]) (r := r5) (F := F) hx hb hK hP 0 rfl (i := i) (w := 4) (hi64) (by decide) dL_law_1200 ?_
              refine tpi (x' := cpl kp i) ((hF i hi64).2.2.2.2.1) ?_
              refine lv_iconst (v := 4) hx hb dL_law_1201 (by decide) ?_
              refine lv_icmp_lt (tgt := 1209) hx hb dL_law_1202 (by decide) (fun _ => ?_) (fun c => absurd (Int32.not_le.mp hl4) c)
              refine lv_iconst (v := 0) hx hb dL_law_1209 (by decide) ?_
              refine lv_istore (lv' := [(23, .int 0), (22, .int 3), (21, .int (nI i)), (20, .int (csum (lfI kp) i)), (18, .int had), (9, .int (dall kp)), (8, .int (call kp)), (7, .ref q7), (6, .ref q6), (5, .ref q5), (4, .int x4), (3, .int (nI tm)), (0, .ref b), (1, .ref hc), (2, .ref h)]) hx hb dL_law_1210 hl (by decide) rfl (fun ls hl => ?_)
              refine lv_iload hx hb dL_law_1212 (lv_at hl 3 rfl) ?_
              refine lv_iload hx hb dL_law_1214 (lv_at hl 0 rfl) ?_
              refine lv_if_eq (tgt := 1223) hx hb dL_law_1216 (by decide) (fun _ => ?_) (fun c => absurd (rfl) c)
              refine lv_iconst (v := 0) hx hb dL_law_1223 (by decide) ?_
              refine lv_iadd hx hb dL_law_1224 ?_
              refine tpi (x' := csum (lfI kp) (i + 1)) (lfI_0 hlf) ?_
              refine lv_istore (lv' := [(20, .int (csum (lfI kp) (i + 1))), (23, .int 0), (22, .int 3), (21, .int (nI i)), (18, .int had), (9, .int (dall kp)), (8, .int (call kp)), (7, .ref q7), (6, .ref q6), (5, .ref q5), (4, .int x4), (3, .int (nI tm)), (0, .ref b), (1, .ref hc), (2, .ref h)]) hx hb dL_law_1225 hl (by decide) rfl (fun ls hl => ?_)
              refine lv_iload hx hb dL_law_1227 (lv_at hl 2 rfl) ?_
              refine lv_aload hx hb dL_law_1229 (lv_at hl 9 rfl) ?_
              refine lv_iload hx hb dL_law_1231 (lv_at hl 3 rfl) ?_
              refine tpi (x' := nI i) (rfl) ?_
              refine g_ald (r := r5) (n := 64) hx hb hK hP 33 1 rfl rfl (x := i) (hi64) (by decide) dL_law_1233 ?_
              refine lv_iconst (v := 0) hx hb dL_law_1234 (by decide) ?_
              refine tpi (x' := nI 0) (rfl) ?_
              refine l_iald (X := [(hc, oX a t), ((a 0), oC a (cy.mo) (cy.co) (cy.le)), ((a 3), iA (cs 0) (cy.K)), ((a 4), iA (cs 0) (cy.Q)), ((a 5), iA (cs 0) (cy.L)), ((a 6), iA (cs 0) (cy.H)), ((a 7), iA (cs 0) (cy.M)), ((a 8), iA (cs 0) (cy.B)), ((a 9), iA (cs 0) (cy.C)), ((a 10), iA (cs 0) (cy.D)), ((a 11), iA (cs 0) (cy.F)), ((a 12), iA (cs 0) (cy.W)), ((t 0), oC t (dy.mo) (dy.co) (dy.le)), ((t 3), iA (cs 0) (dy.K)), ((t 4), iA (cs 0) (dy.Q)), ((t 5), iA (cs 0) (dy.L)), ((t 6), iA (cs 0) (dy.H)), ((t 7), iA (cs 0) (dy.M)), ((t 8), iA (cs 0) (dy.B)), ((t 9), iA (cs 0) (dy.C)), ((t 10), iA (cs 0) (dy.D)), ((t 11), iA (cs 0) (dy.F)), ((t 12), iA (cs 0) (dy.W)), (h, oS o (cy.mo) (cy.co) (cy.le)), (o, oQ (cs 1) 8 r), ((r 0), iB (cs 0) 8 (cl8 K 0)), ((r 1), iB (cs 0) 8 (cl8 K 1)), ((r 2), iB (cs 0) 8 (cl8 K 2)), ((r 3), iB (cs 0) 8 (cl8 K 3)), ((r 4), iB (cs 0) 8 (cl8 K 4)), ((r 5), iB (cs 0) 8 (cl8 K 5)), ((r 6), iB (cs 0) 8 (cl8 K 6)), ((r 7), iB (cs 0) 8 (cl8 K 7)), (q5, oQ (cs 1) 64 r5), (q6, iB (cs 0) 7 R6), (q7, iB (cs 0) 64 R7), (q13, iB (cs 0) 13 R13)]) (r := r5) (F := F) hx hb hK hP 0 rfl (i := i) (w := 0) (hi64) (by decide) dL_law_1235 ?_
              refine tpi (x' := 3) ((hF i hi64).1.trans hv) ?_
              refine lv_icmp_ne (tgt := 1246) hx hb dL_law_1236 (by decide) (fun c => absurd (by decide) c) (fun _ => ?_)
              refine lv_iload hx hb dL_law_1239 (lv_at hl 1 rfl) ?_
              refine lv_if_eq (tgt := 1283) hx hb dL_law_1241 (by decide) (fun _ => ?_) (fun c => absurd (by decide) c)
              refine lv_iload hx hb dL_law_1283 (lv_at hl 2 rfl) ?_
              refine lv_iconst (v := 2) hx hb dL_law_1285 (by decide) ?_
              refine lv_icmp_eq (tgt := 1313) hx hb dL_law_1286 (by decide) (fun c => absurd c (by decide)) (fun _ => ?_)
              refine lv_iload hx hb dL_law_1289 (lv_at hl 2 rfl) ?_
              refine lv_if_ne (tgt := 1464) hx hb dL_law_1291 (by decide) (fun _ => ?_) (fun c => absurd c (by decide))
              exact jn H locs ls hP hD hS (lv_sub hl [3, 0, 4, 5, 6, 7, 8, 9, 10, 11, 12, 13, 14] rfl)
            · skip
              refine lv_aload_n hx hb dL_law_1177 rfl (lv_at hl 11 rfl) ?_
              refine lv_iload hx hb dL_law_1178 (lv_at hl 0 rfl) ?_
              refine lv_bipush (v := 8) hx hb dL_law_1180 (by decide) ?_
              refine lv_irem hx hb dL_law_1182 (by decide) ?_
              refine tpi (x' := nI (i % 8)) (pk_rem (a := i) (d := 8) (by omega) (by decide) (by decide)) ?_
              refine lv_iload hx hb dL_law_1183 (lv_at hl 0 rfl) ?_
              refine lv_bipush (v := 8) hx hb dL_law_1185 (by decide) ?_
              refine lv_idiv hx hb dL_law_1187 (by decide) ?_
              refine tpi (x' := nI (i / 8)) (pk_div (a := i) (d := 8) (by omega) (by decide) (by decide)) ?_
              refine lv_iconst (v := 0) hx hb dL_law_1188 (by decide) ?_
              refine cr_i (va_runV (As := [.int (nI (i % 8)), .int (nI (i / 8)), .int 0]) (rest := []) FX (c_X1_lot_ok l G (cs 0) hc a t cy.mo cy.co cy.le cy.K cy.Q cy.L cy.H cy.M cy.B cy.C cy.D cy.F cy.W k (nI (i % 8)) (nI (i / 8)) 0 hk hS0 (pl_in (by omega) (by omega)) (by decide)) (cwV 3 hts gL_law_X1_lot rfl rfl rfl (by decide +kernel) ⟨Nat.le_of_ble_eq_true rfl, Nat.le_of_ble_eq_true rfl⟩) (rdV hKI hP hNI [0, 1, 2, 3, 4, 5, 6, 7, 8, 9, 10, 11] rfl (ci := 1) (q0 := 0) rfl rfl) rfl rfl hl.1 rfl (lv_room (Nat.le_of_ble_eq_true rfl)) dL_law_1189 ⟨hzc, hzs⟩) hS hP (fun H locs hP hS => ?_)
              refine tpi (x' := 4) ((by rw [pAt_i hi64, hkm]; exact hm.trans hv)) ?_
              refine lv_istore (lv' := [(22, .int 4), (21, .int (nI i)), (20, .int (csum (lfI kp) i)), (18, .int had), (9, .int (dall kp)), (8, .int (call kp)), (7, .ref q7), (6, .ref q6), (5, .ref q5), (4, .int x4), (3, .int (nI tm)), (0, .ref b), (1, .ref hc), (2, .ref h)]) hx hb dL_law_1192 hl (by decide) rfl (fun ls hl => ?_)
              refine lv_aload hx hb dL_law_1194 (lv_at hl 8 rfl) ?_
              refine lv_iload hx hb dL_law_1196 (lv_at hl 1 rfl) ?_
              refine tpi (x' := nI i) (rfl) ?_
              refine g_ald (r := r5) (n := 64) hx hb hK hP 33 1 rfl rfl (x := i) (hi64) (by decide) dL_law_1198 ?_
              refine lv_iconst (v := 4) hx hb dL_law_1199 (by decide) ?_
              refine tpi (x' := nI 4) (rfl) ?_
              refine l_iald (X := [(hc, oX a t), ((a 0), oC a (cy.mo) (cy.co) (cy.le)), ((a 3), iA (cs 0) (cy.K)), ((a 4), iA (cs 0) (cy.Q)), ((a 5), iA (cs 0) (cy.L)), ((a 6), iA (cs 0) (cy.H)), ((a 7), iA (cs 0) (cy.M)), ((a 8), iA (cs 0) (cy.B)), ((a 9), iA (cs 0) (cy.C)), ((a 10), iA (cs 0) (cy.D)), ((a 11), iA (cs 0) (cy.F)), ((a 12), iA (cs 0) (cy.W)), ((t 0), oC t (dy.mo) (dy.co) (dy.le)), ((t 3), iA (cs 0) (dy.K)), ((t 4), iA (cs 0) (dy.Q)), ((t 5), iA (cs 0) (dy.L)), ((t 6), iA (cs 0) (dy.H)), ((t 7), iA (cs 0) (dy.M)), ((t 8), iA (cs 0) (dy.B)), ((t 9), iA (cs 0) (dy.C)), ((t 10), iA (cs 0) (dy.D)), ((t 11), iA (cs 0) (dy.F)), ((t 12), iA (cs 0) (dy.W)), (h, oS o (cy.mo) (cy.co) (cy.le)), (o, oQ (cs 1) 8 r), ((r 0), iB (cs 0) 8 (cl8 K 0)), ((r 1), iB (cs 0) 8 (cl8 K 1)), ((r 2), iB (cs 0) 8 (cl8 K 2)), ((r 3), iB (cs 0) 8 (cl8 K 3)), ((r 4), iB (cs 0) 8 (cl8 K 4)), ((r 5), iB (cs 0) 8 (cl8 K 5)), ((r 6), iB (cs 0) 8 (cl8 K 6)), ((r 7), iB (cs 0) 8 (cl8 K 7)), (q5, oQ (cs 1) 64 r5), (q6, iB (cs 0) 7 R6), (q7, iB (cs 0) 64 R7), (q13, iB (cs 0) 13 R13)]) (r := r5) (F := F) hx hb hK hP 0 rfl (i := i) (w := 4) (hi64) (by decide) dL_law_1200 ?_
              refine tpi (x' := cpl kp i) ((hF i hi64).2.2.2.2.1) ?_
              refine lv_iconst (v := 4) hx hb dL_law_1201 (by decide) ?_
              refine lv_icmp_lt (tgt := 1209) hx hb dL_law_1202 (by decide) (fun _ => ?_) (fun c => absurd (Int32.not_le.mp hl4) c)
              refine lv_iconst (v := 0) hx hb dL_law_1209 (by decide) ?_
              refine lv_istore (lv' := [(23, .int 0), (22, .int 4), (21, .int (nI i)), (20, .int (csum (lfI kp) i)), (18, .int had), (9, .int (dall kp)), (8, .int (call kp)), (7, .ref q7), (6, .ref q6), (5, .ref q5), (4, .int x4), (3, .int (nI tm)), (0, .ref b), (1, .ref hc), (2, .ref h)]) hx hb dL_law_1210 hl (by decide) rfl (fun ls hl => ?_)
              refine lv_iload hx hb dL_law_1212 (lv_at hl 3 rfl) ?_
              refine lv_iload hx hb dL_law_1214 (lv_at hl 0 rfl) ?_
              refine lv_if_eq (tgt := 1223) hx hb dL_law_1216 (by decide) (fun _ => ?_) (fun c => absurd (rfl) c)
              refine lv_iconst (v := 0) hx hb dL_law_1223 (by decide) ?_
              refine lv_iadd hx hb dL_law_1224 ?_
              refine tpi (x' := csum (lfI kp) (i + 1)) (lfI_0 hlf) ?_
              refine lv_istore (lv' := [(20, .int (csum (lfI kp) (i + 1))), (23, .int 0), (22, .int 4), (21, .int (nI i)), (18, .int had), (9, .int (dall kp)), (8, .int (call kp)), (7, .ref q7), (6, .ref q6), (5, .ref q5), (4, .int x4), (3, .int (nI tm)), (0, .ref b), (1, .ref hc), (2, .ref h)]) hx hb dL_law_1225 hl (by decide) rfl (fun ls hl => ?_)
              refine lv_iload hx hb dL_law_1227 (lv_at hl 2 rfl) ?_
              refine lv_aload hx hb dL_law_1229 (lv_at hl 9 rfl) ?_
              refine lv_iload hx hb dL_law_1231 (lv_at hl 3 rfl) ?_
              refine tpi (x' := nI i) (rfl) ?_
              refine g_ald (r := r5) (n := 64) hx hb hK hP 33 1 rfl rfl (x := i) (hi64) (by decide) dL_law_1233 ?_
              refine lv_iconst (v := 0) hx hb dL_law_1234 (by decide) ?_
              refine tpi (x' := nI 0) (rfl) ?_
              refine l_iald (X := [(hc, oX a t), ((a 0), oC a (cy.mo) (cy.co) (cy.le)), ((a 3), iA (cs 0) (cy.K)), ((a 4), iA (cs 0) (cy.Q)), ((a 5), iA (cs 0) (cy.L)), ((a 6), iA (cs 0) (cy.H)), ((a 7), iA (cs 0) (cy.M)), ((a 8), iA (cs 0) (cy.B)), ((a 9), iA (cs 0) (cy.C)), ((a 10), iA (cs 0) (cy.D)), ((a 11), iA (cs 0) (cy.F)), ((a 12), iA (cs 0) (cy.W)), ((t 0), oC t (dy.mo) (dy.co) (dy.le)), ((t 3), iA (cs 0) (dy.K)), ((t 4), iA (cs 0) (dy.Q)), ((t 5), iA (cs 0) (dy.L)), ((t 6), iA (cs 0) (dy.H)), ((t 7), iA (cs 0) (dy.M)), ((t 8), iA (cs 0) (dy.B)), ((t 9), iA (cs 0) (dy.C)), ((t 10), iA (cs 0) (dy.D)), ((t 11), iA (cs 0) (dy.F)), ((t 12), iA (cs 0) (dy.W)), (h, oS o (cy.mo) (cy.co) (cy.le)), (o, oQ (cs 1) 8 r), ((r 0), iB (cs 0) 8 (cl8 K 0)), ((r 1), iB (cs 0) 8 (cl8 K 1)), ((r 2), iB (cs 0) 8 (cl8 K 2)), ((r 3), iB (cs 0) 8 (cl8 K 3)), ((r 4), iB (cs 0) 8 (cl8 K 4)), ((r 5), iB (cs 0) 8 (cl8 K 5)), ((r 6), iB (cs 0) 8 (cl8 K 6)), ((r 7), iB (cs 0) 8 (cl8 K 7)), (q5, oQ (cs 1) 64 r5), (q6, iB (cs 0) 7 R6), (q7, iB (cs 0) 64 R7), (q13, iB (cs 0) 13 R13)]) (r := r5) (F := F) hx hb hK hP 0 rfl (i := i) (w := 0) (hi64) (by decide) dL_law_1235 ?_
              refine tpi (x' := 4) ((hF i hi64).1.trans hv) ?_
              refine lv_icmp_ne (tgt := 1246) hx hb dL_law_1236 (by decide) (fun c => absurd (by decide) c) (fun _ => ?_)
              refine lv_iload hx hb dL_law_1239 (lv_at hl 1 rfl) ?_
              refine lv_if_eq (tgt := 1283) hx hb dL_law_1241 (by decide) (fun _ => ?_) (fun c => absurd (by decide) c)
              refine lv_iload hx hb dL_law_1283 (lv_at hl 2 rfl) ?_
              refine lv_iconst (v := 2) hx hb dL_law_1285 (by decide) ?_
              refine lv_icmp_eq (tgt := 1313) hx hb dL_law_1286 (by decide) (fun c => absurd c (by decide)) (fun _ => ?_)
              refine lv_iload hx hb dL_law_1289 (lv_at hl 2 rfl) ?_
              refine lv_if_ne (tgt := 1464) hx hb dL_law_1291 (by decide) (fun _ => ?_) (fun c => absurd c (by decide))
              exact jn H locs ls hP hD hS (lv_sub hl [3, 0, 4, 5, 6, 7, 8, 9, 10, 11, 12, 13, 14] rfl)
            · skip
              refine lv_aload_n hx hb dL_law_1177 rfl (lv_at hl 11 rfl) ?_
              refine lv_iload hx hb dL_law_1178 (lv_at hl 0 rfl) ?_
              refine lv_bipush (v := 8) hx hb dL_law_1180 (by decide) ?_
              refine lv_irem hx hb dL_law_1182 (by decide) ?_
              refine tpi (x' := nI (i % 8)) (pk_rem (a := i) (d := 8) (by omega) (by decide) (by decide)) ?_
              refine lv_iload hx hb dL_law_1183 (lv_at hl 0 rfl) ?_
              refine lv_bipush (v := 8) hx hb dL_law_1185 (by decide) ?_
              refine lv_idiv hx hb dL_law_1187 (by decide) ?_
              refine tpi (x' := nI (i / 8)) (pk_div (a := i) (d := 8) (by omega) (by decide) (by decide)) ?_
              refine lv_iconst (v := 0) hx hb dL_law_1188 (by decide) ?_
              refine cr_i (va_runV (As := [.int (nI (i % 8)), .int (nI (i / 8)), .int 0]) (rest := []) FX (c_X1_lot_ok l G (cs 0) hc a t cy.mo cy.co cy.le cy.K cy.Q cy.L cy.H cy.M cy.B cy.C cy.D cy.F cy.W k (nI (i % 8)) (nI (i / 8)) 0 hk hS0 (pl_in (by omega) (by omega)) (by decide)) (cwV 3 hts gL_law_X1_lot rfl rfl rfl (by decide +kernel) ⟨Nat.le_of_ble_eq_true rfl, Nat.le_of_ble_eq_true rfl⟩) (rdV hKI hP hNI [0, 1, 2, 3, 4, 5, 6, 7, 8, 9, 10, 11] rfl (ci := 1) (q0 := 0) rfl rfl) rfl rfl hl.1 rfl (lv_room (Nat.le_of_ble_eq_true rfl)) dL_law_1189 ⟨hzc, hzs⟩) hS hP (fun H locs hP hS => ?_)
              refine tpi (x' := 5) ((by rw [pAt_i hi64, hkm]; exact hm.trans hv)) ?_
              refine lv_istore (lv' := [(22, .int 5), (21, .int (nI i)), (20, .int (csum (lfI kp) i)), (18, .int had), (9, .int (dall kp)), (8, .int (call kp)), (7, .ref q7), (6, .ref q6), (5, .ref q5), (4, .int x4), (3, .int (nI tm)), (0, .ref b), (1, .ref hc), (2, .ref h)]) hx hb dL_law_1192 hl (by decide) rfl (fun ls hl => ?_)
              refine lv_aload hx hb dL_law_1194 (lv_at hl 8 rfl) ?_
              refine lv_iload hx hb dL_law_1196 (lv_at hl 1 rfl) ?_
              refine tpi (x' := nI i) (rfl) ?_
              refine g_ald (r := r5) (n := 64) hx hb hK hP 33 1 rfl rfl (x := i) (hi64) (by decide) dL_law_1198 ?_
              refine lv_iconst (v := 4) hx hb dL_law_1199 (by decide) ?_
              refine tpi (x' := nI 4) (rfl) ?_
              refine l_iald (X := [(hc, oX a t), ((a 0), oC a (cy.mo) (cy.co) (cy.le)), ((a 3), iA (cs 0) (cy.K)), ((a 4), iA (cs 0) (cy.Q)), ((a 5), iA (cs 0) (cy.L)), ((a 6), iA (cs 0) (cy.H)), ((a 7), iA (cs 0) (cy.M)), ((a 8), iA (cs 0) (cy.B)), ((a 9), iA (cs 0) (cy.C)), ((a 10), iA (cs 0) (cy.D)), ((a 11), iA (cs 0) (cy.F)), ((a 12), iA (cs 0) (cy.W)), ((t 0), oC t (dy.mo) (dy.co) (dy.le)), ((t 3), iA (cs 0) (dy.K)), ((t 4), iA (cs 0) (dy.Q)), ((t 5), iA (cs 0) (dy.L)), ((t 6), iA (cs 0) (dy.H)), ((t 7), iA (cs 0) (dy.M)), ((t 8), iA (cs 0) (dy.B)), ((t 9), iA (cs 0) (dy.C)), ((t 10), iA (cs 0) (dy.D)), ((t 11), iA (cs 0) (dy.F)), ((t 12), iA (cs 0) (dy.W)), (h, oS o (cy.mo) (cy.co) (cy.le)), (o, oQ (cs 1) 8 r), ((r 0), iB (cs 0) 8 (cl8 K 0)), ((r 1), iB (cs 0) 8 (cl8 K 1)), ((r 2), iB (cs 0) 8 (cl8 K 2)), ((r 3), iB (cs 0) 8 (cl8 K 3)), ((r 4), iB (cs 0) 8 (cl8 K 4)), ((r 5), iB (cs 0) 8 (cl8 K 5)), ((r 6), iB (cs 0) 8 (cl8 K 6)), ((r 7), iB (cs 0) 8 (cl8 K 7)), (q5, oQ (cs 1) 64 r5), (q6, iB (cs 0) 7 R6), (q7, iB (cs 0) 64 R7), (q13, iB (cs 0) 13 R13)]) (r := r5) (F := F) hx hb hK hP 0 rfl (i := i) (w := 4) (hi64) (by decide) dL_law_1200 ?_
              refine tpi (x' := cpl kp i) ((hF i hi64).2.2.2.2.1) ?_
              refine lv_iconst (v := 4) hx hb dL_law_1201 (by decide) ?_
              refine lv_icmp_lt (tgt := 1209) hx hb dL_law_1202 (by decide) (fun _ => ?_) (fun c => absurd (Int32.not_le.mp hl4) c)
              refine lv_iconst (v := 0) hx hb dL_law_1209 (by decide) ?_
              refine lv_istore (lv' := [(23, .int 0), (22, .int 5), (21, .int (nI i)), (20, .int (csum (lfI kp) i)), (18, .int had), (9, .int (dall kp)), (8, .int (call kp)), (7, .ref q7), (6, .ref q6), (5, .ref q5), (4, .int x4), (3, .int (nI tm)), (0, .ref b), (1, .ref hc), (2, .ref h)]) hx hb dL_law_1210 hl (by decide) rfl (fun ls hl => ?_)
              refine lv_iload hx hb dL_law_1212 (lv_at hl 3 rfl) ?_
              refine lv_iload hx hb dL_law_1214 (lv_at hl 0 rfl) ?_
              refine lv_if_eq (tgt := 1223) hx hb dL_law_1216 (by decide) (fun _ => ?_) (fun c => absurd (rfl) c)
              refine lv_iconst (v := 0) hx hb dL_law_1223 (by decide) ?_
              refine lv_iadd hx hb dL_law_1224 ?_
              refine tpi (x' := csum (lfI kp) (i + 1)) (lfI_0 hlf) ?_
              refine lv_istore (lv' := [(20, .int (csum (lfI kp) (i + 1))), (23, .int 0), (22, .int 5), (21, .int (nI i)), (18, .int had), (9, .int (dall kp)), (8, .int (call kp)), (7, .ref q7), (6, .ref q6), (5, .ref q5), (4, .int x4), (3, .int (nI tm)), (0, .ref b), (1, .ref hc), (2, .ref h)]) hx hb dL_law_1225 hl (by decide) rfl (fun ls hl => ?_)
              refine lv_iload hx hb dL_law_1227 (lv_at hl 2 rfl) ?_
              refine lv_aload hx hb dL_law_1229 (lv_at hl 9 rfl) ?_
              refine lv_iload hx hb dL_law_1231 (lv_at hl 3 rfl) ?_
              refine tpi (x' := nI i) (rfl) ?_
              refine g_ald (r := r5) (n := 64) hx hb hK hP 33 1 rfl rfl (x := i) (hi64) (by decide) dL_law_1233 ?_
              refine lv_iconst (v := 0) hx hb dL_law_1234 (by decide) ?_
              refine tpi (x' := nI 0) (rfl) ?_
              refine l_iald (X := [(hc, oX a t), ((a 0), oC a (cy.mo) (cy.co) (cy.le)), ((a 3), iA (cs 0) (cy.K)), ((a 4), iA (cs 0) (cy.Q)), ((a 5), iA (cs 0) (cy.L)), ((a 6), iA (cs 0) (cy.H)), ((a 7), iA (cs 0) (cy.M)), ((a 8), iA (cs 0) (cy.B)), ((a 9), iA (cs 0) (cy.C)), ((a 10), iA (cs 0) (cy.D)), ((a 11), iA (cs 0) (cy.F)), ((a 12), iA (cs 0) (cy.W)), ((t 0), oC t (dy.mo) (dy.co) (dy.le)), ((t 3), iA (cs 0) (dy.K)), ((t 4), iA (cs 0) (dy.Q)), ((t 5), iA (cs 0) (dy.L)), ((t 6), iA (cs 0) (dy.H)), ((t 7), iA (cs 0) (dy.M)), ((t 8), iA (cs 0) (dy.B)), ((t 9), iA (cs 0) (dy.C)), ((t 10), iA (cs 0) (dy.D)), ((t 11), iA (cs 0) (dy.F)), ((t 12), iA (cs 0) (dy.W)), (h, oS o (cy.mo) (cy.co) (cy.le)), (o, oQ (cs 1) 8 r), ((r 0), iB (cs 0) 8 (cl8 K 0)), ((r 1), iB (cs 0) 8 (cl8 K 1)), ((r 2), iB (cs 0) 8 (cl8 K 2)), ((r 3), iB (cs 0) 8 (cl8 K 3)), ((r 4), iB (cs 0) 8 (cl8 K 4)), ((r 5), iB (cs 0) 8 (cl8 K 5)), ((r 6), iB (cs 0) 8 (cl8 K 6)), ((r 7), iB (cs 0) 8 (cl8 K 7)), (q5, oQ (cs 1) 64 r5), (q6, iB (cs 0) 7 R6), (q7, iB (cs 0) 64 R7), (q13, iB (cs 0) 13 R13)]) (r := r5) (F := F) hx hb hK hP 0 rfl (i := i) (w := 0) (hi64) (by decide) dL_law_1235 ?_
              refine tpi (x' := 5) ((hF i hi64).1.trans hv) ?_
              refine lv_icmp_ne (tgt := 1246) hx hb dL_law_1236 (by decide) (fun c => absurd (by decide) c) (fun _ => ?_)
              refine lv_iload hx hb dL_law_1239 (lv_at hl 1 rfl) ?_
              refine lv_if_eq (tgt := 1283) hx hb dL_law_1241 (by decide) (fun _ => ?_) (fun c => absurd (by decide) c)
              refine lv_iload hx hb dL_law_1283 (lv_at hl 2 rfl) ?_
              refine lv_iconst (v := 2) hx hb dL_law_1285 (by decide) ?_
              refine lv_icmp_eq (tgt := 1313) hx hb dL_law_1286 (by decide) (fun c => absurd c (by decide)) (fun _ => ?_)
              refine lv_iload hx hb dL_law_1289 (lv_at hl 2 rfl) ?_
              refine lv_if_ne (tgt := 1464) hx hb dL_law_1291 (by decide) (fun _ => ?_) (fun c => absurd c (by decide))
              exact jn H locs ls hP hD hS (lv_sub hl [3, 0, 4, 5, 6, 7, 8, 9, 10, 11, 12, 13, 14] rfl)
            · skip
              refine lv_aload_n hx hb dL_law_1177 rfl (lv_at hl 11 rfl) ?_
              refine lv_iload hx hb dL_law_1178 (lv_at hl 0 rfl) ?_
              refine lv_bipush (v := 8) hx hb dL_law_1180 (by decide) ?_
              refine lv_irem hx hb dL_law_1182 (by decide) ?_
              refine tpi (x' := nI (i % 8)) (pk_rem (a := i) (d := 8) (by omega) (by decide) (by decide)) ?_
              refine lv_iload hx hb dL_law_1183 (lv_at hl 0 rfl) ?_
              refine lv_bipush (v := 8) hx hb dL_law_1185 (by decide) ?_
              refine lv_idiv hx hb dL_law_1187 (by decide) ?_
              refine tpi (x' := nI (i / 8)) (pk_div (a := i) (d := 8) (by omega) (by decide) (by decide)) ?_
              refine lv_iconst (v := 0) hx hb dL_law_1188 (by decide) ?_
              refine cr_i (va_runV (As := [.int (nI (i % 8)), .int (nI (i / 8)), .int 0]) (rest := []) FX (c_X1_lot_ok l G (cs 0) hc a t cy.mo cy.co cy.le cy.K cy.Q cy.L cy.H cy.M cy.B cy.C cy.D cy.F cy.W k (nI (i % 8)) (nI (i / 8)) 0 hk hS0 (pl_in (by omega) (by omega)) (by decide)) (cwV 3 hts gL_law_X1_lot rfl rfl rfl (by decide +kernel) ⟨Nat.le_of_ble_eq_true rfl, Nat.le_of_ble_eq_true rfl⟩) (rdV hKI hP hNI [0, 1, 2, 3, 4, 5, 6, 7, 8, 9, 10, 11] rfl (ci := 1) (q0 := 0) rfl rfl) rfl rfl hl.1 rfl (lv_room (Nat.le_of_ble_eq_true rfl)) dL_law_1189 ⟨hzc, hzs⟩) hS hP (fun H locs hP hS => ?_)
              refine tpi (x' := 6) ((by rw [pAt_i hi64, hkm]; exact hm.trans hv)) ?_
              refine lv_istore (lv' := [(22, .int 6), (21, .int (nI i)), (20, .int (csum (lfI kp) i)), (18, .int had), (9, .int (dall kp)), (8, .int (call kp)), (7, .ref q7), (6, .ref q6), (5, .ref q5), (4, .int x4), (3, .int (nI tm)), (0, .ref b), (1, .ref hc), (2, .ref h)]) hx hb dL_law_1192 hl (by decide) rfl (fun ls hl => ?_)
              refine lv_aload hx hb dL_law_1194 (lv_at hl 8 rfl) ?_
              refine lv_iload hx hb dL_law_1196 (lv_at hl 1 rfl) ?_
              refine tpi (x' := nI i) (rfl) ?_
              refine g_ald (r := r5) (n := 64) hx hb hK hP 33 1 rfl rfl (x := i) (hi64) (by decide) dL_law_1198 ?_
              refine lv_iconst (v := 4) hx hb dL_law_1199 (by decide) ?_
              refine tpi (x' := nI 4) (rfl) ?_
              refine l_iald (X := [(hc, oX a t), ((a 0), oC a (cy.mo) (cy.co) (cy.le)), ((a 3), iA (cs 0) (cy.K)), ((a 4), iA (cs 0) (cy.Q)), ((a 5), iA (cs 0) (cy.L)), ((a 6), iA (cs 0) (cy.H)), ((a 7), iA (cs 0) (cy.M)), ((a 8), iA (cs 0) (cy.B)), ((a 9), iA (cs 0) (cy.C)), ((a 10), iA (cs 0) (cy.D)), ((a 11), iA (cs 0) (cy.F)), ((a 12), iA (cs 0) (cy.W)), ((t 0), oC t (dy.mo) (dy.co) (dy.le)), ((t 3), iA (cs 0) (dy.K)), ((t 4), iA (cs 0) (dy.Q)), ((t 5), iA (cs 0) (dy.L)), ((t 6), iA (cs 0) (dy.H)), ((t 7), iA (cs 0) (dy.M)), ((t 8), iA (cs 0) (dy.B)), ((t 9), iA (cs 0) (dy.C)), ((t 10), iA (cs 0) (dy.D)), ((t 11), iA (cs 0) (dy.F)), ((t 12), iA (cs 0) (dy.W)), (h, oS o (cy.mo) (cy.co) (cy.le)), (o, oQ (cs 1) 8 r), ((r 0), iB (cs 0) 8 (cl8 K 0)), ((r 1), iB (cs 0) 8 (cl8 K 1)), ((r 2), iB (cs 0) 8 (cl8 K 2)), ((r 3), iB (cs 0) 8 (cl8 K 3)), ((r 4), iB (cs 0) 8 (cl8 K 4)), ((r 5), iB (cs 0) 8 (cl8 K 5)), ((r 6), iB (cs 0) 8 (cl8 K 6)), ((r 7), iB (cs 0) 8 (cl8 K 7)), (q5, oQ (cs 1) 64 r5), (q6, iB (cs 0) 7 R6), (q7, iB (cs 0) 64 R7), (q13, iB (cs 0) 13 R13)]) (r := r5) (F := F) hx hb hK hP 0 rfl (i := i) (w := 4) (hi64) (by decide) dL_law_1200 ?_
              refine tpi (x' := cpl kp i) ((hF i hi64).2.2.2.2.1) ?_
              refine lv_iconst (v := 4) hx hb dL_law_1201 (by decide) ?_
              refine lv_icmp_lt (tgt := 1209) hx hb dL_law_1202 (by decide) (fun _ => ?_) (fun c => absurd (Int32.not_le.mp hl4) c)
              refine lv_iconst (v := 0) hx hb dL_law_1209 (by decide) ?_
              refine lv_istore (lv' := [(23, .int 0), (22, .int 6), (21, .int (nI i)), (20, .int (csum (lfI kp) i)), (18, .int had), (9, .int (dall kp)), (8, .int (call kp)), (7, .ref q7), (6, .ref q6), (5, .ref q5), (4, .int x4), (3, .int (nI tm)), (0, .ref b), (1, .ref hc), (2, .ref h)]) hx hb dL_law_1210 hl (by decide) rfl (fun ls hl => ?_)
              refine lv_iload hx hb dL_law_1212 (lv_at hl 3 rfl) ?_
              refine lv_iload hx hb dL_law_1214 (lv_at hl 0 rfl) ?_
              refine lv_if_eq (tgt := 1223) hx hb dL_law_1216 (by decide) (fun _ => ?_) (fun c => absurd (rfl) c)
              refine lv_iconst (v := 0) hx hb dL_law_1223 (by decide) ?_
              refine lv_iadd hx hb dL_law_1224 ?_
              refine tpi (x' := csum (lfI kp) (i + 1)) (lfI_0 hlf) ?_
              refine lv_istore (lv' := [(20, .int (csum (lfI kp) (i + 1))), (23, .int 0), (22, .int 6), (21, .int (nI i)), (18, .int had), (9, .int (dall kp)), (8, .int (call kp)), (7, .ref q7), (6, .ref q6), (5, .ref q5), (4, .int x4), (3, .int (nI tm)), (0, .ref b), (1, .ref hc), (2, .ref h)]) hx hb dL_law_1225 hl (by decide) rfl (fun ls hl => ?_)
              refine lv_iload hx hb dL_law_1227 (lv_at hl 2 rfl) ?_
              refine lv_aload hx hb dL_law_1229 (lv_at hl 9 rfl) ?_
              refine lv_iload hx hb dL_law_1231 (lv_at hl 3 rfl) ?_
              refine tpi (x' := nI i) (rfl) ?_
              refine g_ald (r := r5) (n := 64) hx hb hK hP 33 1 rfl rfl (x := i) (hi64) (by decide) dL_law_1233 ?_
              refine lv_iconst (v := 0) hx hb dL_law_1234 (by decide) ?_
              refine tpi (x' := nI 0) (rfl) ?_
              refine l_iald (X := [(hc, oX a t), ((a 0), oC a (cy.mo) (cy.co) (cy.le)), ((a 3), iA (cs 0) (cy.K)), ((a 4), iA (cs 0) (cy.Q)), ((a 5), iA (cs 0) (cy.L)), ((a 6), iA (cs 0) (cy.H)), ((a 7), iA (cs 0) (cy.M)), ((a 8), iA (cs 0) (cy.B)), ((a 9), iA (cs 0) (cy.C)), ((a 10), iA (cs 0) (cy.D)), ((a 11), iA (cs 0) (cy.F)), ((a 12), iA (cs 0) (cy.W)), ((t 0), oC t (dy.mo) (dy.co) (dy.le)), ((t 3), iA (cs 0) (dy.K)), ((t 4), iA (cs 0) (dy.Q)), ((t 5), iA (cs 0) (dy.L)), ((t 6), iA (cs 0) (dy.H)), ((t 7), iA (cs 0) (dy.M)), ((t 8), iA (cs 0) (dy.B)), ((t 9), iA (cs 0) (dy.C)), ((t 10), iA (cs 0) (dy.D)), ((t 11), iA (cs 0) (dy.F)), ((t 12), iA (cs 0) (dy.W)), (h, oS o (cy.mo) (cy.co) (cy.le)), (o, oQ (cs 1) 8 r), ((r 0), iB (cs 0) 8 (cl8 K 0)), ((r 1), iB (cs 0) 8 (cl8 K 1)), ((r 2), iB (cs 0) 8 (cl8 K 2)), ((r 3), iB (cs 0) 8 (cl8 K 3)), ((r 4), iB (cs 0) 8 (cl8 K 4)), ((r 5), iB (cs 0) 8 (cl8 K 5)), ((r 6), iB (cs 0) 8 (cl8 K 6)), ((r 7), iB (cs 0) 8 (cl8 K 7)), (q5, oQ (cs 1) 64 r5), (q6, iB (cs 0) 7 R6), (q7, iB (cs 0) 64 R7), (q13, iB (cs 0) 13 R13)]) (r := r5) (F := F) hx hb hK hP 0 rfl (i := i) (w := 0) (hi64) (by decide) dL_law_1235 ?_
              refine tpi (x' := 6) ((hF i hi64).1.trans hv) ?_
              refine lv_icmp_ne (tgt := 1246) hx hb dL_law_1236 (by decide) (fun c => absurd (by decide) c) (fun _ => ?_)
              refine lv_iload hx hb dL_law_1239 (lv_at hl 1 rfl) ?_
              refine lv_if_eq (tgt := 1283) hx hb dL_law_1241 (by decide) (fun _ => ?_) (fun c => absurd (by decide) c)
              refine lv_iload hx hb dL_law_1283 (lv_at hl 2 rfl) ?_
              refine lv_iconst (v := 2) hx hb dL_law_1285 (by decide) ?_
              refine lv_icmp_eq (tgt := 1313) hx hb dL_law_1286 (by decide) (fun c => absurd c (by decide)) (fun _ => ?_)
              refine lv_iload hx hb dL_law_1289 (lv_at hl 2 rfl) ?_
              refine lv_if_ne (tgt := 1464) hx hb dL_law_1291 (by decide) (fun _ => ?_) (fun c => absurd c (by decide))
              exact jn H locs ls hP hD hS (lv_sub hl [3, 0, 4, 5, 6, 7, 8, 9, 10, 11, 12, 13, 14] rfl)
      · skip
        have e64 : i = 64 := by omega
        subst e64
        refine lv_icmp_ge (tgt := 1470) hx hb dL_law_1174 (by decide) (fun _ => ?_) (fun c => absurd (le_n (n := 64) (i := 64) (by decide) (by decide)) c)
        refine lv_aload_n hx hb dL_law_1470 rfl (lv_at hl 11 rfl) ?_
        refine lv_bipush (v := 12) hx hb dL_law_1471 (by decide) ?_
        refine cr_i (va_runV (As := [.int 12]) (rest := []) FX (c_X1_count_ok l G (cs 0) hc a t cy.mo cy.co cy.le cy.K cy.Q cy.L cy.H cy.M cy.B cy.C cy.D cy.F cy.W k 12 hk hS0 (by decide)) (cwV 1 hts gL_law_X1_count rfl rfl rfl (by decide +kernel) ⟨Nat.le_of_ble_eq_true rfl, Nat.le_of_ble_eq_true rfl⟩) (rdV hKI hP hNI [0, 1, 2, 3, 4, 5, 6, 7, 8, 9, 10, 11] rfl (ci := 1) (q0 := 0) rfl rfl) rfl rfl hl.1 rfl (lv_room (Nat.le_of_ble_eq_true rfl)) dL_law_1473 ⟨hzc, hzs⟩) hS hP (fun H locs hP hS => ?_)
        refine tpi (x' := (had + lvN kp)) (tot_12.trans hle) ?_
        refine lv_iload hx hb dL_law_1476 (lv_at hl 2 rfl) ?_
        refine lv_iload hx hb dL_law_1478 (lv_at hl 1 rfl) ?_
        refine lv_iadd hx hb dL_law_1480 ?_
        refine lv_icmp_eq (tgt := 1486) hx hb dL_law_1481 (by decide) (fun _ => ?_) (fun c => absurd (rfl) c)
        have hP : va_P G vwCl [(hc, oX a t), ((a 0), oC a (cy.mo) (cy.co) (cy.le)), ((a 3), iA (cs 0) (cy.K)), ((a 4), iA (cs 0) (cy.Q)), ((a 5), iA (cs 0) (cy.L)), ((a 6), iA (cs 0) (cy.H)), ((a 7), iA (cs 0) (cy.M)), ((a 8), iA (cs 0) (cy.B)), ((a 9), iA (cs 0) (cy.C)), ((a 10), iA (cs 0) (cy.D)), ((a 11), iA (cs 0) (cy.F)), ((a 12), iA (cs 0) (cy.W)), ((t 0), oC t (dy.mo) (dy.co) (dy.le)), ((t 3), iA (cs 0) (dy.K)), ((t 4), iA (cs 0) (dy.Q)), ((t 5), iA (cs 0) (dy.L)), ((t 6), iA (cs 0) (dy.H)), ((t 7), iA (cs 0) (dy.M)), ((t 8), iA (cs 0) (dy.B)), ((t 9), iA (cs 0) (dy.C)), ((t 10), iA (cs 0) (dy.D)), ((t 11), iA (cs 0) (dy.F)), ((t 12), iA (cs 0) (dy.W)), (h, oS o (cy.mo) (cy.co) (cy.le)), (o, oQ (cs 1) 8 r), ((r 0), iB (cs 0) 8 (cl8 K 0)), ((r 1), iB (cs 0) 8 (cl8 K 1)), ((r 2), iB (cs 0) 8 (cl8 K 2)), ((r 3), iB (cs 0) 8 (cl8 K 3)), ((r 4), iB (cs 0) 8 (cl8 K 4)), ((r 5), iB (cs 0) 8 (cl8 K 5)), ((r 6), iB (cs 0) 8 (cl8 K 6)), ((r 7), iB (cs 0) 8 (cl8 K 7))] H := hP.sub [0, 1, 2, 3, 4, 5, 6, 7, 8, 9, 10, 11, 12, 13, 14, 15, 16, 17, 18, 19, 20, 21, 22, 23, 24, 25, 26, 27, 28, 29, 30, 31, 32] rfl
        have hD : va_D A [(hc, oX a t), ((a 0), oC a (cy.mo) (cy.co) (cy.le)), ((a 3), iA (cs 0) (cy.K)), ((a 4), iA (cs 0) (cy.Q)), ((a 5), iA (cs 0) (cy.L)), ((a 6), iA (cs 0) (cy.H)), ((a 7), iA (cs 0) (cy.M)), ((a 8), iA (cs 0) (cy.B)), ((a 9), iA (cs 0) (cy.C)), ((a 10), iA (cs 0) (cy.D)), ((a 11), iA (cs 0) (cy.F)), ((a 12), iA (cs 0) (cy.W)), ((t 0), oC t (dy.mo) (dy.co) (dy.le)), ((t 3), iA (cs 0) (dy.K)), ((t 4), iA (cs 0) (dy.Q)), ((t 5), iA (cs 0) (dy.L)), ((t 6), iA (cs 0) (dy.H)), ((t 7), iA (cs 0) (dy.M)), ((t 8), iA (cs 0) (dy.B)), ((t 9), iA (cs 0) (dy.C)), ((t 10), iA (cs 0) (dy.D)), ((t 11), iA (cs 0) (dy.F)), ((t 12), iA (cs 0) (dy.W)), (h, oS o (cy.mo) (cy.co) (cy.le)), (o, oQ (cs 1) 8 r), ((r 0), iB (cs 0) 8 (cl8 K 0)), ((r 1), iB (cs 0) 8 (cl8 K 1)), ((r 2), iB (cs 0) 8 (cl8 K 2)), ((r 3), iB (cs 0) 8 (cl8 K 3)), ((r 4), iB (cs 0) 8 (cl8 K 4)), ((r 5), iB (cs 0) 8 (cl8 K 5)), ((r 6), iB (cs 0) 8 (cl8 K 6)), ((r 7), iB (cs 0) 8 (cl8 K 7))] := hD.sub [0, 1, 2, 3, 4, 5, 6, 7, 8, 9, 10, 11, 12, 13, 14, 15, 16, 17, 18, 19, 20, 21, 22, 23, 24, 25, 26, 27, 28, 29, 30, 31, 32] (by decide) rfl
        exact kk () _ _ _  hP hD hS (lv_sub hl [9, 10, 11, 12] rfl)
  exact lo (_ + 1) 0 (by decide) (Nat.lt_succ_self _) _ _ _ hP hD hS (lv_sub hl [0, 1, 2, 3, 4, 5, 6, 7, 8, 9, 10, 11, 12] rfl)

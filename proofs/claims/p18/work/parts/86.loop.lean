set_option maxHeartbeats 4000000 in
set_option maxRecDepth 100000 in
theorem law_loop {p : Program} {l : Launch} {e : Env} {s : State} {m : MethodId} {below : List Frame} {meth : Method} {c : Code} {b Ln : Nat} {xs : Nat → Int32} {A : Nat → Prop} {G : va_G} {cs : Nat → ClassId} {hc h o : Nat} {a t r : Nat → Nat} (E0 : LwE p l s m c b Ln xs G cs A) (hAz : ∀ q, A q → s.heap.size ≤ q) (hr : meth.sig.returnType = ret) (hlocks : meth.locks = false) (hLn : Ln ≤ 260) :
    ∀ (n tm : Nat) (cy dy : Cy) (K k : Nat → Int32) (H : Heap) (locs : List Loc) (ls : Array Slot), 27 - tm < n → tm ≤ 26 → Sd cy k → eqK K k → va_P G vwCl [(hc, oX a t), ((a 0), oC a (cy.mo) (cy.co) (cy.le)), ((a 3), iA (cs 0) (cy.K)), ((a 4), iA (cs 0) (cy.Q)), ((a 5), iA (cs 0) (cy.L)), ((a 6), iA (cs 0) (cy.H)), ((a 7), iA (cs 0) (cy.M)), ((a 8), iA (cs 0) (cy.B)), ((a 9), iA (cs 0) (cy.C)), ((a 10), iA (cs 0) (cy.D)), ((a 11), iA (cs 0) (cy.F)), ((a 12), iA (cs 0) (cy.W)), ((t 0), oC t (dy.mo) (dy.co) (dy.le)), ((t 3), iA (cs 0) (dy.K)), ((t 4), iA (cs 0) (dy.Q)), ((t 5), iA (cs 0) (dy.L)), ((t 6), iA (cs 0) (dy.H)), ((t 7), iA (cs 0) (dy.M)), ((t 8), iA (cs 0) (dy.B)), ((t 9), iA (cs 0) (dy.C)), ((t 10), iA (cs 0) (dy.D)), ((t 11), iA (cs 0) (dy.F)), ((t 12), iA (cs 0) (dy.W)), (h, oS o (cy.mo) (cy.co) (cy.le)), (o, oQ (cs 1) 8 r), ((r 0), iB (cs 0) 8 (cl8 K 0)), ((r 1), iB (cs 0) 8 (cl8 K 1)), ((r 2), iB (cs 0) 8 (cl8 K 2)), ((r 3), iB (cs 0) 8 (cl8 K 3)), ((r 4), iB (cs 0) 8 (cl8 K 4)), ((r 5), iB (cs 0) 8 (cl8 K 5)), ((r 6), iB (cs 0) 8 (cl8 K 6)), ((r 7), iB (cs 0) 8 (cl8 K 7))] H → va_D A [(hc, oX a t), ((a 0), oC a (cy.mo) (cy.co) (cy.le)), ((a 3), iA (cs 0) (cy.K)), ((a 4), iA (cs 0) (cy.Q)), ((a 5), iA (cs 0) (cy.L)), ((a 6), iA (cs 0) (cy.H)), ((a 7), iA (cs 0) (cy.M)), ((a 8), iA (cs 0) (cy.B)), ((a 9), iA (cs 0) (cy.C)), ((a 10), iA (cs 0) (cy.D)), ((a 11), iA (cs 0) (cy.F)), ((a 12), iA (cs 0) (cy.W)), ((t 0), oC t (dy.mo) (dy.co) (dy.le)), ((t 3), iA (cs 0) (dy.K)), ((t 4), iA (cs 0) (dy.Q)), ((t 5), iA (cs 0) (dy.L)), ((t 6), iA (cs 0) (dy.H)), ((t 7), iA (cs 0) (dy.M)), ((t 8), iA (cs 0) (dy.B)), ((t 9), iA (cs 0) (dy.C)), ((t 10), iA (cs 0) (dy.D)), ((t 11), iA (cs 0) (dy.F)), ((t 12), iA (cs 0) (dy.W)), (h, oS o (cy.mo) (cy.co) (cy.le)), (o, oQ (cs 1) 8 r), ((r 0), iB (cs 0) 8 (cl8 K 0)), ((r 1), iB (cs 0) 8 (cl8 K 1)), ((r 2), iB (cs 0) 8 (cl8 K 2)), ((r 3), iB (cs 0) 8 (cl8 K 3)), ((r 4), iB (cs 0) 8 (cl8 K 4)), ((r 5), iB (cs 0) 8 (cl8 K 5)), ((r 6), iB (cs 0) 8 (cl8 K 6)), ((r 7), iB (cs 0) 8 (cl8 K 7))] → va_S A s.heap H locs → lv_has ls 25 [(3, .int (nI tm)), (0, .ref b), (1, .ref hc), (2, .ref h)] →
      W p l e room_1 s m #[Value.ref b] below meth c H locs (2497 + 134 * tm) (20748 + 1050 * tm) (lw_Z below #[Value.ref b] s) (F0 m 22 ls []) := by
  intro n
  induction n with
  | zero => intro tm cy dy K k H locs ls hn; exact absurd hn (Nat.not_lt_zero _)
  | succ n ih =>
    intro tm cy dy K k H locs ls hn htm hg hk9 hP hD hS hl
    have E9 := E0
    obtain ⟨hx, hb, hml, hown, hts, hst, hK, hN, hE, hX, hZ, hBL, hA, hXs, hbl, hbA⟩ := E9
    refine lv_iload_n hx hb dL_law_22 rfl (lv_at hl 0 rfl) ?_
    refine lv_bipush (v := 26) hx hb dL_law_23 (by decide) ?_
    rcases Nat.lt_or_ge tm 26 with h26 | h26
    · skip
      refine lv_icmp_ge (tgt := 1492) hx hb dL_law_25 (by decide) (fun c => absurd c (lt_n (n := 26) h26 (by decide))) (fun _ => ?_)
      refine law_acts (tm := tm) E0 hg hk9 h26 hLn hP hD hS hl (by show 2497 + 134 * tm + 200 ≤ 762491; omega) (by show 20748 + 1050 * tm + 2000 ≤ 6813994; omega) (fun x4 cy dy K k H locs ls hg hk9 hP hD hS hl => ?_)
      refine law_fill (tm := tm) (x4 := x4) E0 hg hk9 hP hD hS hl (by show 2497 + 134 * tm + 20 + 200 ≤ 762491; omega) (by show 20748 + 1050 * tm + 156 + 2000 ≤ 6813994; omega) (fun q5 q6 q7 r5 F R6 R7 H locs ls hF h6 h7 hP hD hS hl => ?_)
      refine law_quart (tm := tm) (x4 := x4) E0 hg hk9 hF h7 hP hD hS hl (by show 2497 + 134 * tm + 20 + 67 + 0 ≤ 762491; omega) (by show 20748 + 1050 * tm + 156 + 519 + 0 ≤ 6813994; omega) (fun cy H locs ls hg hP hD hS hl => ?_)
      refine law_count (tm := tm) (x4 := x4) E0 hg hk9 hF h6 hP hD hS hl (by show 2497 + 134 * tm + 20 + 67 + 0 ≤ 762491; omega) (by show 20748 + 1050 * tm + 156 + 519 + 0 ≤ 6813994; omega) (fun u9 H locs ls hP hD hS hl => ?_)
      refine law_best (tm := tm) (x4 := x4) E0 hg hk9 hF hP hD hS hl (by show 2497 + 134 * tm + 20 + 67 + 1 ≤ 762491; omega) (by show 20748 + 1050 * tm + 156 + 519 + 13 ≤ 6813994; omega) (fun dy q13 R13 H locs ls hR hP hD hS hl => ?_)
      refine law_month (tm := tm) (x4 := x4) E0 hg hk9 hF hR hP hD hS hl (by show 2497 + 134 * tm + 20 + 67 + 1 + 46 ≤ 762491; omega) (by show 20748 + 1050 * tm + 156 + 519 + 13 + 362 ≤ 6813994; omega) (fun cy3 K3 H locs ls hg3 hk3 hle hP hD hS hl => ?_)
      refine law_then (tm := tm) (x4 := x4) (kp := k) (had := cy.le) E0 hg3 hk3 rfl hF hg.2.2.2 hle hP hD hS hl (by show 2497 + 134 * tm + 20 + 67 + 1 + 46 + 0 ≤ 762491; omega) (by show 20748 + 1050 * tm + 156 + 519 + 13 + 362 + 0 ≤ 6813994; omega) (fun u9 H locs ls hP hD hS hl => ?_)
      refine lv_iinc (v := nI (tm + 1)) (lv' := [(3, .int (nI (tm + 1))), (0, .ref b), (1, .ref hc), (2, .ref h)]) hx hb dL_law_1486 hl (k := 0) rfl (nI_inc tm) (by decide) rfl (fun ls hl => ?_)
      refine lv_goto (tgt := 22) hx hb dL_law_1489 (by decide) ?_
      refine W.widen (k := 2497 + 134 * (tm + 1)) (n := 20748 + 1050 * (tm + 1)) (by omega) (by omega) ?_
      exact ih (tm + 1) cy3 dy K3 (mon k) H locs ls (by omega) (by omega) hg3 hk3 hP hD hS (lv_sub hl [0, 1, 2, 3] rfl)
    · skip
      have e26 : tm = 26 := by omega
      subst e26
      refine lv_icmp_ge (tgt := 1492) hx hb dL_law_25 (by decide) (fun _ => ?_) (fun c => absurd (le_n (n := 26) (i := 26) (by decide) (by decide)) c)
      refine W.base ?_
      have hKd : va_K G vwCl (TYX cs) (s.setDrawn s.drawn) := hK
      have hNd : NA (s.setDrawn s.drawn) := hN
      have htsd : ∀ w ∈ wsL_law, w.before #[Value.ref b] (s.setDrawn s.drawn) = true := hts
      have FX : CallFix p m c cL_law 25 (s.setDrawn s.drawn) #[Value.ref b] wsL_law RL := ⟨hx, hb, hml, hown, htsd⟩
      refine lv_aload_n hx hb dL_law_1492 rfl (lv_at hl 3 rfl) ?_
      refine lv_aload_n hx hb dL_law_1493 rfl (lv_at hl 2 rfl) ?_
      refine cw_iD (wr := [((t 0), oC t (dy.mo) (dy.co) (dy.le)), ((t 3), iA (cs 0) (dy.K)), ((t 4), iA (cs 0) (dy.Q)), ((t 5), iA (cs 0) (dy.L)), ((t 6), iA (cs 0) (dy.H)), ((t 7), iA (cs 0) (dy.M)), ((t 8), iA (cs 0) (dy.B)), ((t 9), iA (cs 0) (dy.C)), ((t 10), iA (cs 0) (dy.D)), ((t 11), iA (cs 0) (dy.F)), ((t 12), iA (cs 0) (dy.W))]) (Drawn.sameBut.refl s.drawn lw_cs) (va_runV_D (As := [.ref hc]) (rest := []) FX (c_X2_isSame l G cs hc h o a t r cy K k hg hk9 _) (cwV 1 htsd gL_law_X2_isSame rfl rfl rfl (by decide +kernel) ⟨Nat.le_of_ble_eq_true rfl, Nat.le_of_ble_eq_true rfl⟩) (wsrV hKd hP hD hNd [0, 1, 2, 3, 4, 5, 6, 7, 8, 9, 10, 11, 23, 24, 25, 26, 27, 28, 29, 30, 31, 32] (by decide) rfl rfl (ci := 2) (q0 := 23) rfl rfl) rfl rfl hl.1 rfl (lv_room (Nat.le_of_ble_eq_true rfl)) dL_law_1494 ⟨Nat.le_of_ble_eq_true rfl, Nat.le_of_ble_eq_true rfl⟩) hS hP hD hA [0, 1, 2, 3, 4, 5, 6, 7, 8, 9, 10, 11, 23, 24, 25, 26, 27, 28, 29, 30, 31, 32] [12, 13, 14, 15, 16, 17, 18, 19, 20, 21, 22] rfl rfl (by decide) (by decide) (fun r9 u H locs hr9 hP hD hS d9 hd9 => ?_)
      have hr9 : r9 = 1 := hr9
      subst hr9
      refine W.widen (k := 762491) (n := 6813994) (by decide) (by decide) ?_
      refine va_forget (fun q hq => hAz _ (hS.2.2 q hq)) ?_
      exact lw_ret hd9 hx hb hr hlocks dL_law_1497

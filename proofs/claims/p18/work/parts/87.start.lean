set_option maxHeartbeats 4000000 in
set_option maxRecDepth 100000 in
/-- YOUR PART: from the entry, for every script of at most 260 ints, the law comes to its end with true ('hflags': the launch's flags, for a law that throws: no stack traces) -/
theorem whole_start {p : Program} {e : Env} {s : State} {m : MethodId} {below : List Frame} {meth : Method} {c : Code} (l : Launch) (hflags : l.flags = flags0) {b L : Nat} {xs : Nat → Int32} (hL : L ≤ 260) (C0 : lw_At p s m meth c b L xs) : W p l e room_1 s m #[Value.ref b] below meth c s.heap [] 0 0 (lw_Z below #[Value.ref b] s) (entryFrame m ([Value.ref b] : List Value).toArray 25) := by
  obtain ⟨G, cs, E0⟩ := law_env hflags C0
  obtain ⟨-, -, hr, -, -, -, -, -, hlocks, -⟩ := C0
  obtain ⟨A, hAe⟩ : ∃ A : Nat → Prop, A = (fun q => s.heap.size ≤ q) := ⟨_, rfl⟩
  rw [← hAe] at E0
  have E9 := E0
  obtain ⟨hx, hb, hml, hown, hts, hst, hK, hN, hE, hX, hZ, hBL, hA, hXs, hbl, hbA⟩ := E0
  have FX : CallFix p m c cL_law 25 s #[Value.ref b] wsL_law RL := ⟨hx, hb, hml, hown, hts⟩
  have hKI : va_K G vwCl (TY (cs 0)) s := hK.sub [0] rfl
  have hNI := hN.1
  have hAz : ∀ q, A q → s.heap.size ≤ q := fun q h => by rw [hAe] at h; exact h
  have hS : va_S A s.heap s.heap [] := va_S.rf
  have hP : va_P G vwCl [] s.heap := fun k x hx9 => absurd hx9 (by rw [List.getElem?_nil]; exact nofun)
  have hD : va_D A [] := ⟨fun i j x y hx9 _ _ => absurd hx9 (by rw [List.getElem?_nil]; exact nofun), fun k x hx9 => absurd hx9 (by rw [List.getElem?_nil]; exact nofun)⟩
  have hl := lv_entry ([.ref b]) (n := 25) (Nat.le_of_ble_eq_true rfl)
  rw [lg_entry_eq]
  generalize (lg_sl ([.ref b]) ++ List.replicate (25 - (lg_sl ([.ref b])).length) Slot.unset).toArray = ls at hl ⊢
  have hl : lv_has ls 25 [(0, .ref b)] := hl
  refine va_new (D := G) (ci := 1) (fs := [.null, .null]) (C := RX1) (T := TX1) (N := 2) hx hb hts inlX1 tyX1 tyX1_ok hown (hts (.classLink RL 26 RX1) (by decide +kernel)) (hts (.instantiable RX1 2) (by decide +kernel)) (hts (.initialized RX1) (by decide +kernel)) hK hP hD hS hA rfl (fun j hj => by rcases (show j = 0 ∨ j = 1 by omega) with rfl | rfl <;> rfl) (Nat.le_of_ble_eq_true rfl) (Nat.le_of_ble_eq_true rfl) dL_law_0 (fun hc H hP hD hS => ?_)
  have hP : va_P G vwCl [(hc, .inr (1, [.null, .null]))] H := hP
  have hD : va_D A [(hc, .inr (1, [.null, .null]))] := hD
  refine lv_dup hx hb dL_law_3 rfl ?_
  refine cw_v (wr := []) (va_runI (As := []) (rest := [.ref hc]) FX (c_X1_init l G (cs 0) hc _) (cwI 0 hts gL_law_X1_init rfl rfl rfl (hts (.initialized RX1) (by decide +kernel)) (hts (.methodLink RL 74 yX1_init) (by decide +kernel)) (hts (.instanceMethod yX1_init) (by decide +kernel)) rfl (by decide +kernel) ⟨Nat.le_of_ble_eq_true rfl, Nat.le_of_ble_eq_true rfl⟩) (wrS hKI hP hD hNI [0] (by decide) rfl rfl) rfl rfl hl.1 rfl (lv_room (Nat.le_of_ble_eq_true rfl)) dL_law_4 ⟨Nat.le_of_ble_eq_true rfl, Nat.le_of_ble_eq_true rfl⟩) hS hP hD hA [0] [] rfl rfl (by decide) (by decide) (fun u H locs hw hP hD hS => ?_)
  obtain ⟨⟨a, K1, Q1, L1, H1, M1, B1, C1, D1, W1⟩, ⟨t, K2, Q2, L2, H2, M2, B2, C2, D2, W2⟩⟩ := u
  obtain ⟨hk1, hs1⟩ := hw
  have hP : va_P G vwCl [(hc, oX a t), ((a 0), oC a 0 60 0), ((a 3), iA (cs 0) K1), ((a 4), iA (cs 0) Q1), ((a 5), iA (cs 0) L1), ((a 6), iA (cs 0) H1), ((a 7), iA (cs 0) M1), ((a 8), iA (cs 0) B1), ((a 9), iA (cs 0) C1), ((a 10), iA (cs 0) D1), ((a 11), iA (cs 0) (fun _ => 0)), ((a 12), iA (cs 0) W1), ((t 0), oC t 0 60 0), ((t 3), iA (cs 0) K2), ((t 4), iA (cs 0) Q2), ((t 5), iA (cs 0) L2), ((t 6), iA (cs 0) H2), ((t 7), iA (cs 0) M2), ((t 8), iA (cs 0) B2), ((t 9), iA (cs 0) C2), ((t 10), iA (cs 0) D2), ((t 11), iA (cs 0) (fun _ => 0)), ((t 12), iA (cs 0) W2)] H := hP
  have hD : va_D A [(hc, oX a t), ((a 0), oC a 0 60 0), ((a 3), iA (cs 0) K1), ((a 4), iA (cs 0) Q1), ((a 5), iA (cs 0) L1), ((a 6), iA (cs 0) H1), ((a 7), iA (cs 0) M1), ((a 8), iA (cs 0) B1), ((a 9), iA (cs 0) C1), ((a 10), iA (cs 0) D1), ((a 11), iA (cs 0) (fun _ => 0)), ((a 12), iA (cs 0) W1), ((t 0), oC t 0 60 0), ((t 3), iA (cs 0) K2), ((t 4), iA (cs 0) Q2), ((t 5), iA (cs 0) L2), ((t 6), iA (cs 0) H2), ((t 7), iA (cs 0) M2), ((t 8), iA (cs 0) B2), ((t 9), iA (cs 0) C2), ((t 10), iA (cs 0) D2), ((t 11), iA (cs 0) (fun _ => 0)), ((t 12), iA (cs 0) W2)] := hD
  obtain ⟨cy, hcy⟩ : ∃ z : Cy, z = (0, 60, 0, K1, Q1, L1, H1, M1, B1, C1, D1, (fun _ => 0), W1) := ⟨_, rfl⟩
  obtain ⟨dy, hdy⟩ : ∃ z : Cy, z = (0, 60, 0, K2, Q2, L2, H2, M2, B2, C2, D2, (fun _ => 0), W2) := ⟨_, rfl⟩
  have hP : va_P G vwCl [(hc, oX a t), ((a 0), oC a (cy.mo) (cy.co) (cy.le)), ((a 3), iA (cs 0) (cy.K)), ((a 4), iA (cs 0) (cy.Q)), ((a 5), iA (cs 0) (cy.L)), ((a 6), iA (cs 0) (cy.H)), ((a 7), iA (cs 0) (cy.M)), ((a 8), iA (cs 0) (cy.B)), ((a 9), iA (cs 0) (cy.C)), ((a 10), iA (cs 0) (cy.D)), ((a 11), iA (cs 0) (cy.F)), ((a 12), iA (cs 0) (cy.W)), ((t 0), oC t (dy.mo) (dy.co) (dy.le)), ((t 3), iA (cs 0) (dy.K)), ((t 4), iA (cs 0) (dy.Q)), ((t 5), iA (cs 0) (dy.L)), ((t 6), iA (cs 0) (dy.H)), ((t 7), iA (cs 0) (dy.M)), ((t 8), iA (cs 0) (dy.B)), ((t 9), iA (cs 0) (dy.C)), ((t 10), iA (cs 0) (dy.D)), ((t 11), iA (cs 0) (dy.F)), ((t 12), iA (cs 0) (dy.W))] H := by rw [hcy, hdy]; exact hP
  have hD : va_D A [(hc, oX a t), ((a 0), oC a (cy.mo) (cy.co) (cy.le)), ((a 3), iA (cs 0) (cy.K)), ((a 4), iA (cs 0) (cy.Q)), ((a 5), iA (cs 0) (cy.L)), ((a 6), iA (cs 0) (cy.H)), ((a 7), iA (cs 0) (cy.M)), ((a 8), iA (cs 0) (cy.B)), ((a 9), iA (cs 0) (cy.C)), ((a 10), iA (cs 0) (cy.D)), ((a 11), iA (cs 0) (cy.F)), ((a 12), iA (cs 0) (cy.W)), ((t 0), oC t (dy.mo) (dy.co) (dy.le)), ((t 3), iA (cs 0) (dy.K)), ((t 4), iA (cs 0) (dy.Q)), ((t 5), iA (cs 0) (dy.L)), ((t 6), iA (cs 0) (dy.H)), ((t 7), iA (cs 0) (dy.M)), ((t 8), iA (cs 0) (dy.B)), ((t 9), iA (cs 0) (dy.C)), ((t 10), iA (cs 0) (dy.D)), ((t 11), iA (cs 0) (dy.F)), ((t 12), iA (cs 0) (dy.W))] := by rw [hcy, hdy]; exact hD
  have hg : Sd cy k0 := by rw [hcy]; exact ⟨hk1, hs1, by decide, k0_kd⟩
  refine lv_astore_n (lv' := [(1, .ref hc), (0, .ref b)]) hx hb dL_law_7 rfl hl (by decide) rfl (fun ls hl => ?_)
  refine lv_aload_n hx hb dL_law_8 rfl (lv_at hl 0 rfl) ?_
  refine lv_aload_n hx hb dL_law_9 rfl (lv_at hl 1 rfl) ?_
  refine cw_r (wr := []) (va_runS (As := [.ref hc, .ref b]) (rest := []) FX (c_L_build l G cs hst hc b L xs a t cy dy hg (by rw [hcy]) (by rw [hcy]) (by rw [hcy]) hL _) (va_cwS 2 hts gL_law_L_build rfl rfl rfl (by decide +kernel) ⟨Nat.le_of_ble_eq_true rfl, Nat.le_of_ble_eq_true rfl⟩) (wsbS hXs hbl hbA hK hP hD hN hE hX hZ hBL hS hA [0, 1, 2, 3, 4, 5, 6, 7, 8, 9, 10, 11, 12, 13, 14, 15, 16, 17, 18, 19, 20, 21, 22] (by decide) rfl rfl) rfl rfl hl.1 rfl (lv_room (Nat.le_of_ble_eq_true rfl)) dL_law_10 ⟨Nat.le_of_ble_eq_true rfl, Nat.le_of_ble_eq_true rfl⟩) hS hP hD hA [0, 1, 2, 3, 4, 5, 6, 7, 8, 9, 10, 11, 12, 13, 14, 15, 16, 17, 18, 19, 20, 21, 22] [] rfl rfl (by decide) (by decide) (fun u h H locs hw hP hD hS => ?_)
  obtain ⟨⟨cy2, dy2, K2, k2⟩, o, r⟩ := u
  obtain ⟨hg2, hk92⟩ := hw
  have hg2 : Sd cy2 k2 := hg2
  have hk92 : eqK K2 k2 := hk92
  have hP : va_P G vwCl [(hc, oX a t), ((a 0), oC a (cy2.mo) (cy2.co) (cy2.le)), ((a 3), iA (cs 0) (cy2.K)), ((a 4), iA (cs 0) (cy2.Q)), ((a 5), iA (cs 0) (cy2.L)), ((a 6), iA (cs 0) (cy2.H)), ((a 7), iA (cs 0) (cy2.M)), ((a 8), iA (cs 0) (cy2.B)), ((a 9), iA (cs 0) (cy2.C)), ((a 10), iA (cs 0) (cy2.D)), ((a 11), iA (cs 0) (cy2.F)), ((a 12), iA (cs 0) (cy2.W)), ((t 0), oC t (dy2.mo) (dy2.co) (dy2.le)), ((t 3), iA (cs 0) (dy2.K)), ((t 4), iA (cs 0) (dy2.Q)), ((t 5), iA (cs 0) (dy2.L)), ((t 6), iA (cs 0) (dy2.H)), ((t 7), iA (cs 0) (dy2.M)), ((t 8), iA (cs 0) (dy2.B)), ((t 9), iA (cs 0) (dy2.C)), ((t 10), iA (cs 0) (dy2.D)), ((t 11), iA (cs 0) (dy2.F)), ((t 12), iA (cs 0) (dy2.W)), (h, oS o (cy2.mo) (cy2.co) (cy2.le)), (o, oQ (cs 1) 8 r), ((r 0), iB (cs 0) 8 (cl8 K2 0)), ((r 1), iB (cs 0) 8 (cl8 K2 1)), ((r 2), iB (cs 0) 8 (cl8 K2 2)), ((r 3), iB (cs 0) 8 (cl8 K2 3)), ((r 4), iB (cs 0) 8 (cl8 K2 4)), ((r 5), iB (cs 0) 8 (cl8 K2 5)), ((r 6), iB (cs 0) 8 (cl8 K2 6)), ((r 7), iB (cs 0) 8 (cl8 K2 7))] H := hP
  have hD : va_D A [(hc, oX a t), ((a 0), oC a (cy2.mo) (cy2.co) (cy2.le)), ((a 3), iA (cs 0) (cy2.K)), ((a 4), iA (cs 0) (cy2.Q)), ((a 5), iA (cs 0) (cy2.L)), ((a 6), iA (cs 0) (cy2.H)), ((a 7), iA (cs 0) (cy2.M)), ((a 8), iA (cs 0) (cy2.B)), ((a 9), iA (cs 0) (cy2.C)), ((a 10), iA (cs 0) (cy2.D)), ((a 11), iA (cs 0) (cy2.F)), ((a 12), iA (cs 0) (cy2.W)), ((t 0), oC t (dy2.mo) (dy2.co) (dy2.le)), ((t 3), iA (cs 0) (dy2.K)), ((t 4), iA (cs 0) (dy2.Q)), ((t 5), iA (cs 0) (dy2.L)), ((t 6), iA (cs 0) (dy2.H)), ((t 7), iA (cs 0) (dy2.M)), ((t 8), iA (cs 0) (dy2.B)), ((t 9), iA (cs 0) (dy2.C)), ((t 10), iA (cs 0) (dy2.D)), ((t 11), iA (cs 0) (dy2.F)), ((t 12), iA (cs 0) (dy2.W)), (h, oS o (cy2.mo) (cy2.co) (cy2.le)), (o, oQ (cs 1) 8 r), ((r 0), iB (cs 0) 8 (cl8 K2 0)), ((r 1), iB (cs 0) 8 (cl8 K2 1)), ((r 2), iB (cs 0) 8 (cl8 K2 2)), ((r 3), iB (cs 0) 8 (cl8 K2 3)), ((r 4), iB (cs 0) 8 (cl8 K2 4)), ((r 5), iB (cs 0) 8 (cl8 K2 5)), ((r 6), iB (cs 0) 8 (cl8 K2 6)), ((r 7), iB (cs 0) 8 (cl8 K2 7))] := hD
  refine lv_astore_n (lv' := [(2, .ref h), (1, .ref hc), (0, .ref b)]) hx hb dL_law_13 rfl hl (by decide) rfl (fun ls hl => ?_)
  refine lv_aload_n hx hb dL_law_14 rfl (lv_at hl 0 rfl) ?_
  refine lv_ifnonnull (tgt := 20) hx hb dL_law_15 (by decide) ?_
  refine lv_iconst (v := 0) hx hb dL_law_20 (by decide) ?_
  refine lv_istore_n (lv' := [(3, .int 0), (2, .ref h), (1, .ref hc), (0, .ref b)]) hx hb dL_law_21 rfl hl (by decide) rfl (fun ls hl => ?_)
  have hl : lv_has ls 25 [(3, .int (nI 0)), (2, .ref h), (1, .ref hc), (0, .ref b)] := hl
  refine W.widen (k := 2497 + 134 * 0) (n := 20748 + 1050 * 0) (by decide) (by decide) ?_
  exact law_loop E9 hAz hr hlocks hL 28 0 cy2 dy2 K2 k2 H locs ls (by omega) (by omega) hg2 hk92 hP hD hS (lv_sub hl [0, 3, 2, 1] rfl)

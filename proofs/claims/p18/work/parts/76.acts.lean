set_option maxHeartbeats 16000000 in
set_option maxRecDepth 100000 in
theorem law_acts {p : Program} {l : Launch} {e : Env} {s : State} {m : MethodId} {below : List Frame} {meth : Method} {c : Code} {b Ln : Nat} {xs : Nat → Int32} {A : Nat → Prop} {cells slots : Nat} {Q : State → Prop} {G : va_G} {cs : Nat → ClassId} {hc h o : Nat} {a t r : Nat → Nat} {cy dy : Cy} {K k : Nat → Int32} {H : Heap} {locs : List Loc} {ls : Array Slot} {tm : Nat} (E0 : LwE p l s m c b Ln xs G cs A) (hg : Sd cy k) (hk9 : eqK K k) (htm : tm < 26) (hLn : Ln ≤ 260) (hP : va_P G vwCl [(hc, oX a t), ((a 0), oC a (cy.mo) (cy.co) (cy.le)), ((a 3), iA (cs 0) (cy.K)), ((a 4), iA (cs 0) (cy.Q)), ((a 5), iA (cs 0) (cy.L)), ((a 6), iA (cs 0) (cy.H)), ((a 7), iA (cs 0) (cy.M)), ((a 8), iA (cs 0) (cy.B)), ((a 9), iA (cs 0) (cy.C)), ((a 10), iA (cs 0) (cy.D)), ((a 11), iA (cs 0) (cy.F)), ((a 12), iA (cs 0) (cy.W)), ((t 0), oC t (dy.mo) (dy.co) (dy.le)), ((t 3), iA (cs 0) (dy.K)), ((t 4), iA (cs 0) (dy.Q)), ((t 5), iA (cs 0) (dy.L)), ((t 6), iA (cs 0) (dy.H)), ((t 7), iA (cs 0) (dy.M)), ((t 8), iA (cs 0) (dy.B)), ((t 9), iA (cs 0) (dy.C)), ((t 10), iA (cs 0) (dy.D)), ((t 11), iA (cs 0) (dy.F)), ((t 12), iA (cs 0) (dy.W)), (h, oS o (cy.mo) (cy.co) (cy.le)), (o, oQ (cs 1) 8 r), ((r 0), iB (cs 0) 8 (cl8 K 0)), ((r 1), iB (cs 0) 8 (cl8 K 1)), ((r 2), iB (cs 0) 8 (cl8 K 2)), ((r 3), iB (cs 0) 8 (cl8 K 3)), ((r 4), iB (cs 0) 8 (cl8 K 4)), ((r 5), iB (cs 0) 8 (cl8 K 5)), ((r 6), iB (cs 0) 8 (cl8 K 6)), ((r 7), iB (cs 0) 8 (cl8 K 7))] H) (hD : va_D A [(hc, oX a t), ((a 0), oC a (cy.mo) (cy.co) (cy.le)), ((a 3), iA (cs 0) (cy.K)), ((a 4), iA (cs 0) (cy.Q)), ((a 5), iA (cs 0) (cy.L)), ((a 6), iA (cs 0) (cy.H)), ((a 7), iA (cs 0) (cy.M)), ((a 8), iA (cs 0) (cy.B)), ((a 9), iA (cs 0) (cy.C)), ((a 10), iA (cs 0) (cy.D)), ((a 11), iA (cs 0) (cy.F)), ((a 12), iA (cs 0) (cy.W)), ((t 0), oC t (dy.mo) (dy.co) (dy.le)), ((t 3), iA (cs 0) (dy.K)), ((t 4), iA (cs 0) (dy.Q)), ((t 5), iA (cs 0) (dy.L)), ((t 6), iA (cs 0) (dy.H)), ((t 7), iA (cs 0) (dy.M)), ((t 8), iA (cs 0) (dy.B)), ((t 9), iA (cs 0) (dy.C)), ((t 10), iA (cs 0) (dy.D)), ((t 11), iA (cs 0) (dy.F)), ((t 12), iA (cs 0) (dy.W)), (h, oS o (cy.mo) (cy.co) (cy.le)), (o, oQ (cs 1) 8 r), ((r 0), iB (cs 0) 8 (cl8 K 0)), ((r 1), iB (cs 0) 8 (cl8 K 1)), ((r 2), iB (cs 0) 8 (cl8 K 2)), ((r 3), iB (cs 0) 8 (cl8 K 3)), ((r 4), iB (cs 0) 8 (cl8 K 4)), ((r 5), iB (cs 0) 8 (cl8 K 5)), ((r 6), iB (cs 0) 8 (cl8 K 6)), ((r 7), iB (cs 0) 8 (cl8 K 7))]) (hS : va_S A s.heap H locs) (hl : lv_has ls 25 [(3, .int (nI tm)), (0, .ref b), (1, .ref hc), (2, .ref h)]) (hzc0 : cells + 200 ≤ room_1.cells) (hzs0 : slots + 2000 ≤ room_1.slots)
    (kk : ∀ (x4 : Int32) (cy2 dy2 : Cy) (K2 k2 : Nat → Int32) (H2 : Heap) (locs2 : List Loc) (ls2 : Array Slot), Sd cy2 k2 → eqK K2 k2 → va_P G vwCl [(hc, oX a t), ((a 0), oC a (cy2.mo) (cy2.co) (cy2.le)), ((a 3), iA (cs 0) (cy2.K)), ((a 4), iA (cs 0) (cy2.Q)), ((a 5), iA (cs 0) (cy2.L)), ((a 6), iA (cs 0) (cy2.H)), ((a 7), iA (cs 0) (cy2.M)), ((a 8), iA (cs 0) (cy2.B)), ((a 9), iA (cs 0) (cy2.C)), ((a 10), iA (cs 0) (cy2.D)), ((a 11), iA (cs 0) (cy2.F)), ((a 12), iA (cs 0) (cy2.W)), ((t 0), oC t (dy2.mo) (dy2.co) (dy2.le)), ((t 3), iA (cs 0) (dy2.K)), ((t 4), iA (cs 0) (dy2.Q)), ((t 5), iA (cs 0) (dy2.L)), ((t 6), iA (cs 0) (dy2.H)), ((t 7), iA (cs 0) (dy2.M)), ((t 8), iA (cs 0) (dy2.B)), ((t 9), iA (cs 0) (dy2.C)), ((t 10), iA (cs 0) (dy2.D)), ((t 11), iA (cs 0) (dy2.F)), ((t 12), iA (cs 0) (dy2.W)), (h, oS o (cy2.mo) (cy2.co) (cy2.le)), (o, oQ (cs 1) 8 r), ((r 0), iB (cs 0) 8 (cl8 K2 0)), ((r 1), iB (cs 0) 8 (cl8 K2 1)), ((r 2), iB (cs 0) 8 (cl8 K2 2)), ((r 3), iB (cs 0) 8 (cl8 K2 3)), ((r 4), iB (cs 0) 8 (cl8 K2 4)), ((r 5), iB (cs 0) 8 (cl8 K2 5)), ((r 6), iB (cs 0) 8 (cl8 K2 6)), ((r 7), iB (cs 0) 8 (cl8 K2 7))] H2 → va_D A [(hc, oX a t), ((a 0), oC a (cy2.mo) (cy2.co) (cy2.le)), ((a 3), iA (cs 0) (cy2.K)), ((a 4), iA (cs 0) (cy2.Q)), ((a 5), iA (cs 0) (cy2.L)), ((a 6), iA (cs 0) (cy2.H)), ((a 7), iA (cs 0) (cy2.M)), ((a 8), iA (cs 0) (cy2.B)), ((a 9), iA (cs 0) (cy2.C)), ((a 10), iA (cs 0) (cy2.D)), ((a 11), iA (cs 0) (cy2.F)), ((a 12), iA (cs 0) (cy2.W)), ((t 0), oC t (dy2.mo) (dy2.co) (dy2.le)), ((t 3), iA (cs 0) (dy2.K)), ((t 4), iA (cs 0) (dy2.Q)), ((t 5), iA (cs 0) (dy2.L)), ((t 6), iA (cs 0) (dy2.H)), ((t 7), iA (cs 0) (dy2.M)), ((t 8), iA (cs 0) (dy2.B)), ((t 9), iA (cs 0) (dy2.C)), ((t 10), iA (cs 0) (dy2.D)), ((t 11), iA (cs 0) (dy2.F)), ((t 12), iA (cs 0) (dy2.W)), (h, oS o (cy2.mo) (cy2.co) (cy2.le)), (o, oQ (cs 1) 8 r), ((r 0), iB (cs 0) 8 (cl8 K2 0)), ((r 1), iB (cs 0) 8 (cl8 K2 1)), ((r 2), iB (cs 0) 8 (cl8 K2 2)), ((r 3), iB (cs 0) 8 (cl8 K2 3)), ((r 4), iB (cs 0) 8 (cl8 K2 4)), ((r 5), iB (cs 0) 8 (cl8 K2 5)), ((r 6), iB (cs 0) 8 (cl8 K2 6)), ((r 7), iB (cs 0) 8 (cl8 K2 7))] → va_S A s.heap H2 locs2 → lv_has ls2 25 [(4, .int x4), (3, .int (nI tm)), (0, .ref b), (1, .ref hc), (2, .ref h)] → W p l e room_1 s m #[Value.ref b] below meth c H2 locs2 (cells + 20) (slots + 156) Q (F0 m 88 ls2 [])) : W p l e room_1 s m #[Value.ref b] below meth c H locs (cells) (slots) Q (F0 m 28 ls []) := by
  obtain ⟨hx, hb, hml, hown, hts, hst, hK, hN, hE, hX, hZ, hBL, hA, hXs, hbl, hbA⟩ := E0
  have hk := hg.1
  have hS0 := hg.2.1
  have hgt := hg.2.2.1
  have hkd := hg.2.2.2
  have hKI : va_K G vwCl (TY (cs 0)) s := hK.sub [0] rfl
  have hNI := hN.1
  have hzc : cells + 0 ≤ room_1.cells := by omega
  have hzs : slots + 0 ≤ room_1.slots := by omega
  have FX : CallFix p m c cL_law 25 s #[Value.ref b] wsL_law RL := ⟨hx, hb, hml, hown, hts⟩
  have hP : va_P G vwCl [(hc, oX a t), ((a 0), oC a (cy.mo) (cy.co) (cy.le)), ((a 3), iA (cs 0) (cy.K)), ((a 4), iA (cs 0) (cy.Q)), ((a 5), iA (cs 0) (cy.L)), ((a 6), iA (cs 0) (cy.H)), ((a 7), iA (cs 0) (cy.M)), ((a 8), iA (cs 0) (cy.B)), ((a 9), iA (cs 0) (cy.C)), ((a 10), iA (cs 0) (cy.D)), ((a 11), iA (cs 0) (cy.F)), ((a 12), iA (cs 0) (cy.W)), ((t 0), oC t (dy.mo) (dy.co) (dy.le)), ((t 3), iA (cs 0) (dy.K)), ((t 4), iA (cs 0) (dy.Q)), ((t 5), iA (cs 0) (dy.L)), ((t 6), iA (cs 0) (dy.H)), ((t 7), iA (cs 0) (dy.M)), ((t 8), iA (cs 0) (dy.B)), ((t 9), iA (cs 0) (dy.C)), ((t 10), iA (cs 0) (dy.D)), ((t 11), iA (cs 0) (dy.F)), ((t 12), iA (cs 0) (dy.W)), (h, oS o (cy.mo) (cy.co) (cy.le)), (o, oQ (cs 1) 8 r), ((r 0), iB (cs 0) 8 (cl8 K 0)), ((r 1), iB (cs 0) 8 (cl8 K 1)), ((r 2), iB (cs 0) 8 (cl8 K 2)), ((r 3), iB (cs 0) 8 (cl8 K 3)), ((r 4), iB (cs 0) 8 (cl8 K 4)), ((r 5), iB (cs 0) 8 (cl8 K 5)), ((r 6), iB (cs 0) 8 (cl8 K 6)), ((r 7), iB (cs 0) 8 (cl8 K 7))] H := hP
  have hD : va_D A [(hc, oX a t), ((a 0), oC a (cy.mo) (cy.co) (cy.le)), ((a 3), iA (cs 0) (cy.K)), ((a 4), iA (cs 0) (cy.Q)), ((a 5), iA (cs 0) (cy.L)), ((a 6), iA (cs 0) (cy.H)), ((a 7), iA (cs 0) (cy.M)), ((a 8), iA (cs 0) (cy.B)), ((a 9), iA (cs 0) (cy.C)), ((a 10), iA (cs 0) (cy.D)), ((a 11), iA (cs 0) (cy.F)), ((a 12), iA (cs 0) (cy.W)), ((t 0), oC t (dy.mo) (dy.co) (dy.le)), ((t 3), iA (cs 0) (dy.K)), ((t 4), iA (cs 0) (dy.Q)), ((t 5), iA (cs 0) (dy.L)), ((t 6), iA (cs 0) (dy.H)), ((t 7), iA (cs 0) (dy.M)), ((t 8), iA (cs 0) (dy.B)), ((t 9), iA (cs 0) (dy.C)), ((t 10), iA (cs 0) (dy.D)), ((t 11), iA (cs 0) (dy.F)), ((t 12), iA (cs 0) (dy.W)), (h, oS o (cy.mo) (cy.co) (cy.le)), (o, oQ (cs 1) 8 r), ((r 0), iB (cs 0) 8 (cl8 K 0)), ((r 1), iB (cs 0) 8 (cl8 K 1)), ((r 2), iB (cs 0) 8 (cl8 K 2)), ((r 3), iB (cs 0) 8 (cl8 K 3)), ((r 4), iB (cs 0) 8 (cl8 K 4)), ((r 5), iB (cs 0) 8 (cl8 K 5)), ((r 6), iB (cs 0) 8 (cl8 K 6)), ((r 7), iB (cs 0) 8 (cl8 K 7))] := hD
  refine lv_aload_n hx hb dL_law_28 rfl (lv_at hl 1 rfl) ?_
  refine lv_iload_n hx hb dL_law_29 rfl (lv_at hl 0 rfl) ?_
  refine lv_bipush (v := 16) hx hb dL_law_30 (by decide) ?_
  refine lv_irem hx hb dL_law_32 (by decide) ?_
  refine tpi (x' := nI (tm % 16)) (pk_rem (a := tm) (d := 16) (by omega) (by decide) (by decide)) ?_
  refine ca_i (va_runS (As := [.ref b, .int (nI (tm % 16))]) (rest := []) FX (c_L_cell l b Ln xs (tm % 16) hLn (by omega)) (va_cwS 2 hts gL_law_L_cell rfl rfl rfl (by decide +kernel) ⟨Nat.le_of_ble_eq_true rfl, Nat.le_of_ble_eq_true rfl⟩) (scS hXs hbl hbA hS) rfl rfl hl.1 rfl (lv_room (Nat.le_of_ble_eq_true rfl)) dL_law_33 ⟨hzc, hzs⟩) hS hP (fun v1 H locs hP hS => ?_)
  refine lv_iload_n hx hb dL_law_36 rfl (lv_at hl 0 rfl) ?_
  refine lv_bipush (v := 16) hx hb dL_law_37 (by decide) ?_
  refine lv_idiv hx hb dL_law_39 (by decide) ?_
  refine lv_iconst (v := 5) hx hb dL_law_40 (by decide) ?_
  refine lv_imul hx hb dL_law_41 ?_
  refine lv_ishr hx hb dL_law_42 ?_
  refine lv_bipush (v := 53) hx hb dL_law_43 (by decide) ?_
  refine lv_iload_n hx hb dL_law_45 rfl (lv_at hl 0 rfl) ?_
  refine lv_imul hx hb dL_law_46 ?_
  refine lv_iadd hx hb dL_law_47 ?_
  obtain ⟨x4, hx4⟩ : ∃ z, z = ((v1 >>> ((((nI tm) / 16) * 5) &&& 31)) + (53 * (nI tm))) := ⟨_, rfl⟩
  refine tpi (x' := x4) (hx4.symm) ?_
  refine lv_istore (lv' := [(4, .int x4), (3, .int (nI tm)), (0, .ref b), (1, .ref hc), (2, .ref h)]) hx hb dL_law_48 hl (by decide) rfl (fun ls hl => ?_)
  refine lv_iconst (v := 0) hx hb dL_law_50 (by decide) ?_
  refine lv_istore (lv' := [(5, .int 0), (4, .int x4), (3, .int (nI tm)), (0, .ref b), (1, .ref hc), (2, .ref h)]) hx hb dL_law_51 hl (by decide) rfl (fun ls hl => ?_)
  refine lv_iload hx hb dL_law_53 (lv_at hl 0 rfl) ?_
  refine lv_iconst (v := 2) hx hb dL_law_55 (by decide) ?_
  refine lv_icmp_ge (tgt := 88) hx hb dL_law_56 (by decide) (fun c => absurd c (by decide)) (fun _ => ?_)
  refine lv_aload_n hx hb dL_law_59 rfl (lv_at hl 4 rfl) ?_
  refine lv_aload_n hx hb dL_law_60 rfl (lv_at hl 5 rfl) ?_
  refine lv_iload hx hb dL_law_61 (lv_at hl 1 rfl) ?_
  refine lv_iconst (v := 2) hx hb dL_law_63 (by decide) ?_
  refine lv_iload hx hb dL_law_64 (lv_at hl 0 rfl) ?_
  refine lv_imul hx hb dL_law_66 ?_
  refine lv_ishr hx hb dL_law_67 ?_
  refine lv_bipush (v := 17) hx hb dL_law_68 (by decide) ?_
  refine lv_iload hx hb dL_law_70 (lv_at hl 0 rfl) ?_
  refine lv_imul hx hb dL_law_72 ?_
  refine lv_iadd hx hb dL_law_73 ?_
  obtain ⟨x9, hx9⟩ : ∃ z, z = ((x4 >>> ((2 * 0) &&& 31)) + (17 * 0)) := ⟨_, rfl⟩
  refine tpi (x' := x9) (hx9.symm) ?_
  refine cw_i (wr := []) (vx_runSW (As := [.ref hc, .ref h, .int x9]) (rest := []) FX (c_L_act l G cs hst hc h o a t r cy dy K k x9 hg hk9 _) (vx_cwSW 3 hts gL_law_L_act rfl rfl rfl (by decide +kernel) ⟨Nat.le_of_ble_eq_true rfl, Nat.le_of_ble_eq_true rfl⟩) (wsxS hK hP hD hN hE hX hZ hBL hS hA [0, 1, 2, 3, 4, 5, 6, 7, 8, 9, 10, 11, 12, 13, 14, 15, 16, 17, 18, 19, 20, 21, 22, 23, 24, 25, 26, 27, 28, 29, 30, 31, 32] (by decide) rfl rfl) rfl rfl hl.1 rfl (lv_room (Nat.le_of_ble_eq_true rfl)) dL_law_74 ⟨by omega, by omega⟩) hS hP hD hA [0, 1, 2, 3, 4, 5, 6, 7, 8, 9, 10, 11, 12, 13, 14, 15, 16, 17, 18, 19, 20, 21, 22, 23, 24, 25, 26, 27, 28, 29, 30, 31, 32] [] rfl rfl (by decide) (by decide) (fun r9 u H locs hw hP hD hS => ?_)
  obtain ⟨cy2, dy2, K2, k2⟩ := u
  obtain ⟨hr9, hg2, hk92⟩ := hw
  have hP : va_P G vwCl [(hc, oX a t), ((a 0), oC a (cy2.mo) (cy2.co) (cy2.le)), ((a 3), iA (cs 0) (cy2.K)), ((a 4), iA (cs 0) (cy2.Q)), ((a 5), iA (cs 0) (cy2.L)), ((a 6), iA (cs 0) (cy2.H)), ((a 7), iA (cs 0) (cy2.M)), ((a 8), iA (cs 0) (cy2.B)), ((a 9), iA (cs 0) (cy2.C)), ((a 10), iA (cs 0) (cy2.D)), ((a 11), iA (cs 0) (cy2.F)), ((a 12), iA (cs 0) (cy2.W)), ((t 0), oC t (dy2.mo) (dy2.co) (dy2.le)), ((t 3), iA (cs 0) (dy2.K)), ((t 4), iA (cs 0) (dy2.Q)), ((t 5), iA (cs 0) (dy2.L)), ((t 6), iA (cs 0) (dy2.H)), ((t 7), iA (cs 0) (dy2.M)), ((t 8), iA (cs 0) (dy2.B)), ((t 9), iA (cs 0) (dy2.C)), ((t 10), iA (cs 0) (dy2.D)), ((t 11), iA (cs 0) (dy2.F)), ((t 12), iA (cs 0) (dy2.W)), (h, oS o (cy2.mo) (cy2.co) (cy2.le)), (o, oQ (cs 1) 8 r), ((r 0), iB (cs 0) 8 (cl8 K2 0)), ((r 1), iB (cs 0) 8 (cl8 K2 1)), ((r 2), iB (cs 0) 8 (cl8 K2 2)), ((r 3), iB (cs 0) 8 (cl8 K2 3)), ((r 4), iB (cs 0) 8 (cl8 K2 4)), ((r 5), iB (cs 0) 8 (cl8 K2 5)), ((r 6), iB (cs 0) 8 (cl8 K2 6)), ((r 7), iB (cs 0) 8 (cl8 K2 7))] H := hP
  have hD : va_D A [(hc, oX a t), ((a 0), oC a (cy2.mo) (cy2.co) (cy2.le)), ((a 3), iA (cs 0) (cy2.K)), ((a 4), iA (cs 0) (cy2.Q)), ((a 5), iA (cs 0) (cy2.L)), ((a 6), iA (cs 0) (cy2.H)), ((a 7), iA (cs 0) (cy2.M)), ((a 8), iA (cs 0) (cy2.B)), ((a 9), iA (cs 0) (cy2.C)), ((a 10), iA (cs 0) (cy2.D)), ((a 11), iA (cs 0) (cy2.F)), ((a 12), iA (cs 0) (cy2.W)), ((t 0), oC t (dy2.mo) (dy2.co) (dy2.le)), ((t 3), iA (cs 0) (dy2.K)), ((t 4), iA (cs 0) (dy2.Q)), ((t 5), iA (cs 0) (dy2.L)), ((t 6), iA (cs 0) (dy2.H)), ((t 7), iA (cs 0) (dy2.M)), ((t 8), iA (cs 0) (dy2.B)), ((t 9), iA (cs 0) (dy2.C)), ((t 10), iA (cs 0) (dy2.D)), ((t 11), iA (cs 0) (dy2.F)), ((t 12), iA (cs 0) (dy2.W)), (h, oS o (cy2.mo) (cy2.co) (cy2.le)), (o, oQ (cs 1) 8 r), ((r 0), iB (cs 0) 8 (cl8 K2 0)), ((r 1), iB (cs 0) 8 (cl8 K2 1)), ((r 2), iB (cs 0) 8 (cl8 K2 2)), ((r 3), iB (cs 0) 8 (cl8 K2 3)), ((r 4), iB (cs 0) 8 (cl8 K2 4)), ((r 5), iB (cs 0) 8 (cl8 K2 5)), ((r 6), iB (cs 0) 8 (cl8 K2 6)), ((r 7), iB (cs 0) 8 (cl8 K2 7))] := hD
  refine tpi (x' := 1) (hr9) ?_
  have hg2 : Sd cy2 k2 := hg2
  have hk92 : eqK K2 k2 := hk92
  refine lv_if_ne (tgt := 82) hx hb dL_law_77 (by decide) (fun _ => ?_) (fun c => absurd c (by decide))
  refine lv_iinc (v := 1) (lv' := [(5, .int 1), (4, .int x4), (3, .int (nI tm)), (0, .ref b), (1, .ref hc), (2, .ref h)]) hx hb dL_law_82 hl (k := 0) rfl (rfl) (by decide) rfl (fun ls hl => ?_)
  refine lv_goto (tgt := 53) hx hb dL_law_85 (by decide) ?_
  refine lv_iload hx hb dL_law_53 (lv_at hl 0 rfl) ?_
  refine lv_iconst (v := 2) hx hb dL_law_55 (by decide) ?_
  refine lv_icmp_ge (tgt := 88) hx hb dL_law_56 (by decide) (fun c => absurd c (by decide)) (fun _ => ?_)
  refine lv_aload_n hx hb dL_law_59 rfl (lv_at hl 4 rfl) ?_
  refine lv_aload_n hx hb dL_law_60 rfl (lv_at hl 5 rfl) ?_
  refine lv_iload hx hb dL_law_61 (lv_at hl 1 rfl) ?_
  refine lv_iconst (v := 2) hx hb dL_law_63 (by decide) ?_
  refine lv_iload hx hb dL_law_64 (lv_at hl 0 rfl) ?_
  refine lv_imul hx hb dL_law_66 ?_
  refine lv_ishr hx hb dL_law_67 ?_
  refine lv_bipush (v := 17) hx hb dL_law_68 (by decide) ?_
  refine lv_iload hx hb dL_law_70 (lv_at hl 0 rfl) ?_
  refine lv_imul hx hb dL_law_72 ?_
  refine lv_iadd hx hb dL_law_73 ?_
  obtain ⟨x9, hx9⟩ : ∃ z, z = ((x4 >>> ((2 * 1) &&& 31)) + (17 * 1)) := ⟨_, rfl⟩
  refine tpi (x' := x9) (hx9.symm) ?_
  refine cw_i (wr := []) (vx_runSW (As := [.ref hc, .ref h, .int x9]) (rest := []) FX (c_L_act l G cs hst hc h o a t r cy2 dy2 K2 k2 x9 hg2 hk92 _) (vx_cwSW 3 hts gL_law_L_act rfl rfl rfl (by decide +kernel) ⟨Nat.le_of_ble_eq_true rfl, Nat.le_of_ble_eq_true rfl⟩) (wsxS hK hP hD hN hE hX hZ hBL hS hA [0, 1, 2, 3, 4, 5, 6, 7, 8, 9, 10, 11, 12, 13, 14, 15, 16, 17, 18, 19, 20, 21, 22, 23, 24, 25, 26, 27, 28, 29, 30, 31, 32] (by decide) rfl rfl) rfl rfl hl.1 rfl (lv_room (Nat.le_of_ble_eq_true rfl)) dL_law_74 ⟨by omega, by omega⟩) hS hP hD hA [0, 1, 2, 3, 4, 5, 6, 7, 8, 9, 10, 11, 12, 13, 14, 15, 16, 17, 18, 19, 20, 21, 22, 23, 24, 25, 26, 27, 28, 29, 30, 31, 32] [] rfl rfl (by decide) (by decide) (fun r9 u H locs hw hP hD hS => ?_)
  obtain ⟨cy3, dy3, K3, k3⟩ := u
  obtain ⟨hr9, hg3, hk93⟩ := hw
  have hP : va_P G vwCl [(hc, oX a t), ((a 0), oC a (cy3.mo) (cy3.co) (cy3.le)), ((a 3), iA (cs 0) (cy3.K)), ((a 4), iA (cs 0) (cy3.Q)), ((a 5), iA (cs 0) (cy3.L)), ((a 6), iA (cs 0) (cy3.H)), ((a 7), iA (cs 0) (cy3.M)), ((a 8), iA (cs 0) (cy3.B)), ((a 9), iA (cs 0) (cy3.C)), ((a 10), iA (cs 0) (cy3.D)), ((a 11), iA (cs 0) (cy3.F)), ((a 12), iA (cs 0) (cy3.W)), ((t 0), oC t (dy3.mo) (dy3.co) (dy3.le)), ((t 3), iA (cs 0) (dy3.K)), ((t 4), iA (cs 0) (dy3.Q)), ((t 5), iA (cs 0) (dy3.L)), ((t 6), iA (cs 0) (dy3.H)), ((t 7), iA (cs 0) (dy3.M)), ((t 8), iA (cs 0) (dy3.B)), ((t 9), iA (cs 0) (dy3.C)), ((t 10), iA (cs 0) (dy3.D)), ((t 11), iA (cs 0) (dy3.F)), ((t 12), iA (cs 0) (dy3.W)), (h, oS o (cy3.mo) (cy3.co) (cy3.le)), (o, oQ (cs 1) 8 r), ((r 0), iB (cs 0) 8 (cl8 K3 0)), ((r 1), iB (cs 0) 8 (cl8 K3 1)), ((r 2), iB (cs 0) 8 (cl8 K3 2)), ((r 3), iB (cs 0) 8 (cl8 K3 3)), ((r 4), iB (cs 0) 8 (cl8 K3 4)), ((r 5), iB (cs 0) 8 (cl8 K3 5)), ((r 6), iB (cs 0) 8 (cl8 K3 6)), ((r 7), iB (cs 0) 8 (cl8 K3 7))] H := hP
  have hD : va_D A [(hc, oX a t), ((a 0), oC a (cy3.mo) (cy3.co) (cy3.le)), ((a 3), iA (cs 0) (cy3.K)), ((a 4), iA (cs 0) (cy3.Q)), ((a 5), iA (cs 0) (cy3.L)), ((a 6), iA (cs 0) (cy3.H)), ((a 7), iA (cs 0) (cy3.M)), ((a 8), iA (cs 0) (cy3.B)), ((a 9), iA (cs 0) (cy3.C)), ((a 10), iA (cs 0) (cy3.D)), ((a 11), iA (cs 0) (cy3.F)), ((a 12), iA (cs 0) (cy3.W)), ((t 0), oC t (dy3.mo) (dy3.co) (dy3.le)), ((t 3), iA (cs 0) (dy3.K)), ((t 4), iA (cs 0) (dy3.Q)), ((t 5), iA (cs 0) (dy3.L)), ((t 6), iA (cs 0) (dy3.H)), ((t 7), iA (cs 0) (dy3.M)), ((t 8), iA (cs 0) (dy3.B)), ((t 9), iA (cs 0) (dy3.C)), ((t 10), iA (cs 0) (dy3.D)), ((t 11), iA (cs 0) (dy3.F)), ((t 12), iA (cs 0) (dy3.W)), (h, oS o (cy3.mo) (cy3.co) (cy3.le)), (o, oQ (cs 1) 8 r), ((r 0), iB (cs 0) 8 (cl8 K3 0)), ((r 1), iB (cs 0) 8 (cl8 K3 1)), ((r 2), iB (cs 0) 8 (cl8 K3 2)), ((r 3), iB (cs 0) 8 (cl8 K3 3)), ((r 4), iB (cs 0) 8 (cl8 K3 4)), ((r 5), iB (cs 0) 8 (cl8 K3 5)), ((r 6), iB (cs 0) 8 (cl8 K3 6)), ((r 7), iB (cs 0) 8 (cl8 K3 7))] := hD
  refine tpi (x' := 1) (hr9) ?_
  have hg3 : Sd cy3 k3 := hg3
  have hk93 : eqK K3 k3 := hk93
  refine lv_if_ne (tgt := 82) hx hb dL_law_77 (by decide) (fun _ => ?_) (fun c => absurd c (by decide))
  refine lv_iinc (v := 2) (lv' := [(5, .int 2), (4, .int x4), (3, .int (nI tm)), (0, .ref b), (1, .ref hc), (2, .ref h)]) hx hb dL_law_82 hl (k := 0) rfl (rfl) (by decide) rfl (fun ls hl => ?_)
  refine lv_goto (tgt := 53) hx hb dL_law_85 (by decide) ?_
  refine lv_iload hx hb dL_law_53 (lv_at hl 0 rfl) ?_
  refine lv_iconst (v := 2) hx hb dL_law_55 (by decide) ?_
  refine lv_icmp_ge (tgt := 88) hx hb dL_law_56 (by decide) (fun _ => ?_) (fun c => absurd (by decide) c)
  exact kk x4 cy3 dy3 K3 k3 _ _ _ (hg3) (hk93) hP hD hS (lv_sub hl [1, 2, 3, 4, 5] rfl)

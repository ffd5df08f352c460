set_option maxHeartbeats 4000000 in
set_option maxRecDepth 100000 in
theorem law_drain {p : Program} {l : Launch} {e : Env} {s : State} {m : MethodId} {below : List Frame} {meth : Method} {c : Code} {b Ln : Nat} {xs : Nat → Int32} {A : Nat → Prop} {cells slots : Nat} {Q : State → Prop} {G : va_G} {cI cL : ClassId} {h q9 : Nat} {a t g : Nat → Nat} {cy dy : Cy} {my : My} {o : Nat → Int64} {k : Nat → Int32} {H : Heap} {locs : List Loc} {ls : Array Slot} {i : Nat} (E0 : LwE p l s m c b Ln xs G cI cL A) (hgd : Sd cy k) (hmk : eqK my.K k) (hP : va_P G vwCl (LAW cI cL h q9 a t g cy dy my o) H) (hD : va_D A (LAW cI cL h q9 a t g cy dy my o)) (hS : va_S A s.heap H locs) (hl : lv_has ls 9 [(4, .int (nI i)), (0, .ref b), (1, .ref h), (2, .ref (g 0)), (3, .ref q9)]) (hi : i + 4 ≤ Ln) (hLn : Ln ≤ 2048) (hzc0 : cells + 1 ≤ room_1.cells) (hzs0 : slots + 6 ≤ room_1.slots)
    (kk : ∀ (cy2 dy2 : Cy) (my2 : My) (o2 : Nat → Int64) (k2 : Nat → Int32) (H2 : Heap) (locs2 : List Loc) (ls2 : Array Slot), Sd cy2 k2 → eqK my2.K k2 → va_P G vwCl (LAW cI cL h q9 a t g cy2 dy2 my2 o2) H2 → va_D A (LAW cI cL h q9 a t g cy2 dy2 my2 o2) → va_S A s.heap H2 locs2 → lv_has ls2 9 [(4, .int (nI i)), (0, .ref b), (1, .ref h), (2, .ref (g 0)), (3, .ref q9)] → W p l e room_1 s m #[Value.ref b] below meth c H2 locs2 (cells + 1) (slots + 6) Q (F0 m 1039 ls2 [])) : W p l e room_1 s m #[Value.ref b] below meth c H locs cells slots Q (F0 m 112 ls []) := by
  obtain ⟨hx, hb, hml, hown, hts, hst, hK, hKL, hN, hE, hX, hNC, hZ, hBL, hA, hXs, hbl, hbA⟩ := E0
  have hk := hgd.1
  have hS0 := hgd.2.1
  have hgt := hgd.2.2.1
  have hkd := hgd.2.2.2
  have FX : CallFix p m c cL_law 9 s #[Value.ref b] wsL_law RL := ⟨hx, hb, hml, hown, hts⟩
  have hP : va_P G vwCl [(h, oX a t), ((a 0), oC a (cy.mo) (cy.co) (cy.le)), ((a 3), iA cI (cy.K)), ((a 4), iA cI (cy.Q)), ((a 5), iA cI (cy.L)), ((a 6), iA cI (cy.H)), ((a 7), iA cI (cy.M)), ((a 8), iA cI (cy.B)), ((a 9), iA cI (cy.C)), ((a 10), iA cI (cy.D)), ((a 11), iA cI (cy.F)), ((a 12), iA cI (cy.W)), ((t 0), oC t (dy.mo) (dy.co) (dy.le)), ((t 3), iA cI (dy.K)), ((t 4), iA cI (dy.Q)), ((t 5), iA cI (dy.L)), ((t 6), iA cI (dy.H)), ((t 7), iA cI (dy.M)), ((t 8), iA cI (dy.B)), ((t 9), iA cI (dy.C)), ((t 10), iA cI (dy.D)), ((t 11), iA cI (dy.F)), ((t 12), iA cI (dy.W)), (q9, lA cL o), ((g 0), oM g my.th cy.mo cy.co cy.le), ((g 4), iA cI (my.K)), ((g 5), iA cI (my.Ah)), ((g 6), iA cI (my.Ot)), ((g 7), iA cI (my.Qm)), ((g 8), iA cI (my.Op)), ((g 9), iA cI (my.Lm)), ((g 10), iA cI (my.Hm)), ((g 11), iA cI (my.Mm)), ((g 12), iA cI (my.Rw)), ((g 13), iA cI (my.St))] H := hP
  have hD : va_D A [(h, oX a t), ((a 0), oC a (cy.mo) (cy.co) (cy.le)), ((a 3), iA cI (cy.K)), ((a 4), iA cI (cy.Q)), ((a 5), iA cI (cy.L)), ((a 6), iA cI (cy.H)), ((a 7), iA cI (cy.M)), ((a 8), iA cI (cy.B)), ((a 9), iA cI (cy.C)), ((a 10), iA cI (cy.D)), ((a 11), iA cI (cy.F)), ((a 12), iA cI (cy.W)), ((t 0), oC t (dy.mo) (dy.co) (dy.le)), ((t 3), iA cI (dy.K)), ((t 4), iA cI (dy.Q)), ((t 5), iA cI (dy.L)), ((t 6), iA cI (dy.H)), ((t 7), iA cI (dy.M)), ((t 8), iA cI (dy.B)), ((t 9), iA cI (dy.C)), ((t 10), iA cI (dy.D)), ((t 11), iA cI (dy.F)), ((t 12), iA cI (dy.W)), (q9, lA cL o), ((g 0), oM g my.th cy.mo cy.co cy.le), ((g 4), iA cI (my.K)), ((g 5), iA cI (my.Ah)), ((g 6), iA cI (my.Ot)), ((g 7), iA cI (my.Qm)), ((g 8), iA cI (my.Op)), ((g 9), iA cI (my.Lm)), ((g 10), iA cI (my.Hm)), ((g 11), iA cI (my.Mm)), ((g 12), iA cI (my.Rw)), ((g 13), iA cI (my.St))] := hD
  refine lv_aload_n hx hb dL_law_112 rfl (lv_at hl 2 rfl) ?_
  refine lv_aload_n hx hb dL_law_113 rfl (lv_at hl 1 rfl) ?_
  refine lv_iload hx hb dL_law_114 (lv_at hl 0 rfl) ?_
  refine lv_iconst (v := 1) hx hb dL_law_116 (by decide) ?_
  refine lv_iadd hx hb dL_law_117 ?_
  refine tpi (x' := nI (i + 1)) (by rw [show (1 : Int32) = nI 1 from rfl, nI_add]) ?_
  refine va_sld hx hb hXs hbl hbA hS (vp_in_nI (n := i + 1) (N := Ln) (by omega) (by omega)) dL_law_118 ?_
  refine tpi (x' := xs (i + 1)) (congrArg xs (nI_clamp (by omega))) ?_
  refine lv_aload_n hx hb dL_law_119 rfl (lv_at hl 1 rfl) ?_
  refine lv_iload hx hb dL_law_120 (lv_at hl 0 rfl) ?_
  refine lv_iconst (v := 2) hx hb dL_law_122 (by decide) ?_
  refine lv_iadd hx hb dL_law_123 ?_
  refine tpi (x' := nI (i + 2)) (by rw [show (2 : Int32) = nI 2 from rfl, nI_add]) ?_
  refine va_sld hx hb hXs hbl hbA hS (vp_in_nI (n := i + 2) (N := Ln) (by omega) (by omega)) dL_law_124 ?_
  refine tpi (x' := xs (i + 2)) (congrArg xs (nI_clamp (by omega))) ?_
  refine lv_aload_n hx hb dL_law_125 rfl (lv_at hl 4 rfl) ?_
  refine cw_i (wr := [((g 0), oM g my.th cy.mo cy.co cy.le), ((g 4), iA cI (my.K)), ((g 5), iA cI (my.Ah)), ((g 6), iA cI (my.Ot)), ((g 7), iA cI (my.Qm)), ((g 8), iA cI (my.Op)), ((g 9), iA cI (my.Lm)), ((g 10), iA cI (my.Hm)), ((g 11), iA cI (my.Mm)), ((g 12), iA cI (my.Rw)), ((g 13), iA cI (my.St))]) (vx_runSW (As := [.ref h, .int (xs (i + 1)), .int (xs (i + 2)), .ref q9]) (rest := []) FX (c_L_drain l G cI cL hst h q9 a t cy dy o k (xs (i + 1)) (xs (i + 2)) hgd _) (vx_cwSW 4 hts gL_law_L_drain rfl rfl rfl (by decide +kernel) ⟨Nat.le_of_ble_eq_true rfl, Nat.le_of_ble_eq_true rfl⟩) (wrSX hK hKL hP hD hN hE hX hNC hZ hS hA [0, 1, 2, 3, 4, 5, 6, 7, 8, 9, 10, 11, 12, 13, 14, 15, 16, 17, 18, 19, 20, 21, 22, 23] (by decide) rfl rfl) rfl rfl hl.1 rfl (lv_room (Nat.le_of_ble_eq_true rfl)) dL_law_126 ⟨hzc0, hzs0⟩) hS hP hD hA [0, 1, 2, 3, 4, 5, 6, 7, 8, 9, 10, 11, 12, 13, 14, 15, 16, 17, 18, 19, 20, 21, 22, 23] [24, 25, 26, 27, 28, 29, 30, 31, 32, 33, 34] rfl rfl (by decide) (by decide) (fun r9 u H locs hw hP hD hS => ?_)
  obtain ⟨cy2, dy2, o2⟩ := u
  obtain ⟨hr9, hgd2, ⟨hmo, hco, hle⟩, hv⟩ := hw
  have hP := hP.sub (ws' := [(h, oX a t), ((a 0), oC a (cy2.mo) (cy2.co) (cy2.le)), ((a 3), iA cI (cy2.K)), ((a 4), iA cI (cy2.Q)), ((a 5), iA cI (cy2.L)), ((a 6), iA cI (cy2.H)), ((a 7), iA cI (cy2.M)), ((a 8), iA cI (cy2.B)), ((a 9), iA cI (cy2.C)), ((a 10), iA cI (cy2.D)), ((a 11), iA cI (cy2.F)), ((a 12), iA cI (cy2.W)), ((t 0), oC t (dy2.mo) (dy2.co) (dy2.le)), ((t 3), iA cI (dy2.K)), ((t 4), iA cI (dy2.Q)), ((t 5), iA cI (dy2.L)), ((t 6), iA cI (dy2.H)), ((t 7), iA cI (dy2.M)), ((t 8), iA cI (dy2.B)), ((t 9), iA cI (dy2.C)), ((t 10), iA cI (dy2.D)), ((t 11), iA cI (dy2.F)), ((t 12), iA cI (dy2.W)), (q9, lA cL o2), ((g 0), oM g my.th cy.mo cy.co cy.le), ((g 4), iA cI (my.K)), ((g 5), iA cI (my.Ah)), ((g 6), iA cI (my.Ot)), ((g 7), iA cI (my.Qm)), ((g 8), iA cI (my.Op)), ((g 9), iA cI (my.Lm)), ((g 10), iA cI (my.Hm)), ((g 11), iA cI (my.Mm)), ((g 12), iA cI (my.Rw)), ((g 13), iA cI (my.St))]) [11, 12, 13, 14, 15, 16, 17, 18, 19, 20, 21, 22, 23, 24, 25, 26, 27, 28, 29, 30, 31, 32, 33, 34, 0, 1, 2, 3, 4, 5, 6, 7, 8, 9, 10] rfl
  have hD := hD.sub (ws' := [(h, oX a t), ((a 0), oC a (cy2.mo) (cy2.co) (cy2.le)), ((a 3), iA cI (cy2.K)), ((a 4), iA cI (cy2.Q)), ((a 5), iA cI (cy2.L)), ((a 6), iA cI (cy2.H)), ((a 7), iA cI (cy2.M)), ((a 8), iA cI (cy2.B)), ((a 9), iA cI (cy2.C)), ((a 10), iA cI (cy2.D)), ((a 11), iA cI (cy2.F)), ((a 12), iA cI (cy2.W)), ((t 0), oC t (dy2.mo) (dy2.co) (dy2.le)), ((t 3), iA cI (dy2.K)), ((t 4), iA cI (dy2.Q)), ((t 5), iA cI (dy2.L)), ((t 6), iA cI (dy2.H)), ((t 7), iA cI (dy2.M)), ((t 8), iA cI (dy2.B)), ((t 9), iA cI (dy2.C)), ((t 10), iA cI (dy2.D)), ((t 11), iA cI (dy2.F)), ((t 12), iA cI (dy2.W)), (q9, lA cL o2), ((g 0), oM g my.th cy.mo cy.co cy.le), ((g 4), iA cI (my.K)), ((g 5), iA cI (my.Ah)), ((g 6), iA cI (my.Ot)), ((g 7), iA cI (my.Qm)), ((g 8), iA cI (my.Op)), ((g 9), iA cI (my.Lm)), ((g 10), iA cI (my.Hm)), ((g 11), iA cI (my.Mm)), ((g 12), iA cI (my.Rw)), ((g 13), iA cI (my.St))]) [11, 12, 13, 14, 15, 16, 17, 18, 19, 20, 21, 22, 23, 24, 25, 26, 27, 28, 29, 30, 31, 32, 33, 34, 0, 1, 2, 3, 4, 5, 6, 7, 8, 9, 10] (by decide) rfl
  have hmo : cy2.mo = cy.mo := hmo
  have hco : cy2.co = (ncO (cdDrain k cy.co (xs (i + 1)) (xs (i + 2))) cy.co 2) := hco
  have hle : cy2.le = cy.le := hle
  have hv : (cdDrain k cy.co (xs (i + 1)) (xs (i + 2))) = 0 → o2 (0 : Int32).toNatClampNeg = _ := hv
  refine lv_istore (lv' := [(5, .int r9), (4, .int (nI i)), (0, .ref b), (1, .ref h), (2, .ref (g 0)), (3, .ref q9)]) hx hb dL_law_129 hl (by decide) rfl (fun ls hl => ?_)
  refine lv_aload_n hx hb dL_law_131 rfl (lv_at hl 4 rfl) ?_
  refine lv_aload_n hx hb dL_law_132 rfl (lv_at hl 2 rfl) ?_
  refine lv_iload hx hb dL_law_133 (lv_at hl 1 rfl) ?_
  refine lv_iconst (v := 1) hx hb dL_law_135 (by decide) ?_
  refine lv_iadd hx hb dL_law_136 ?_
  refine tpi (x' := nI (i + 1)) (by rw [show (1 : Int32) = nI 1 from rfl, nI_add]) ?_
  refine va_sld hx hb hXs hbl hbA hS (vp_in_nI (n := i + 1) (N := Ln) (by omega) (by omega)) dL_law_137 ?_
  refine tpi (x' := xs (i + 1)) (congrArg xs (nI_clamp (by omega))) ?_
  refine lv_aload_n hx hb dL_law_138 rfl (lv_at hl 2 rfl) ?_
  refine lv_iload hx hb dL_law_139 (lv_at hl 1 rfl) ?_
  refine lv_iconst (v := 2) hx hb dL_law_141 (by decide) ?_
  refine lv_iadd hx hb dL_law_142 ?_
  refine tpi (x' := nI (i + 2)) (by rw [show (2 : Int32) = nI 2 from rfl, nI_add]) ?_
  refine va_sld hx hb hXs hbl hbA hS (vp_in_nI (n := i + 2) (N := Ln) (by omega) (by omega)) dL_law_143 ?_
  refine tpi (x' := xs (i + 2)) (congrArg xs (nI_clamp (by omega))) ?_
  have hzc : cells + 1 + 0 ≤ room_1.cells := hzc0
  have hzs : slots + 6 + 0 ≤ room_1.slots := hzs0
  refine cw_i (wr := [(h, oX a t), ((a 0), oC a (cy2.mo) (cy2.co) (cy2.le)), ((a 3), iA cI (cy2.K)), ((a 4), iA cI (cy2.Q)), ((a 5), iA cI (cy2.L)), ((a 6), iA cI (cy2.H)), ((a 7), iA cI (cy2.M)), ((a 8), iA cI (cy2.B)), ((a 9), iA cI (cy2.C)), ((a 10), iA cI (cy2.D)), ((a 11), iA cI (cy2.F)), ((a 12), iA cI (cy2.W)), ((t 0), oC t (dy2.mo) (dy2.co) (dy2.le)), ((t 3), iA cI (dy2.K)), ((t 4), iA cI (dy2.Q)), ((t 5), iA cI (dy2.L)), ((t 6), iA cI (dy2.H)), ((t 7), iA cI (dy2.M)), ((t 8), iA cI (dy2.B)), ((t 9), iA cI (dy2.C)), ((t 10), iA cI (dy2.D)), ((t 11), iA cI (dy2.F)), ((t 12), iA cI (dy2.W)), (q9, lA cL o2)]) (va_runV (As := [.int (xs (i + 1)), .int (xs (i + 2))]) (rest := []) FX (c_X2_drain l G cI g my.th cy.mo cy.co cy.le my.K my.Ah my.Ot my.Qm my.Op my.Lm my.Hm my.Mm my.Rw my.St k (xs (i + 1)) (xs (i + 2)) hmk _) (cwV 2 hts gL_law_X2_drain rfl rfl rfl (by decide +kernel) ⟨Nat.le_of_ble_eq_true rfl, Nat.le_of_ble_eq_true rfl⟩) (wrV hK hP hD hN [24, 25, 26, 27, 28, 29, 30, 31, 32, 33, 34] (by decide) rfl rfl (ci := 2) (q0 := 24) rfl rfl) rfl rfl hl.1 rfl (lv_room (Nat.le_of_ble_eq_true rfl)) dL_law_144 ⟨hzc, hzs⟩) hS hP hD hA [24, 25, 26, 27, 28, 29, 30, 31, 32, 33, 34] [0, 1, 2, 3, 4, 5, 6, 7, 8, 9, 10, 11, 12, 13, 14, 15, 16, 17, 18, 19, 20, 21, 22, 23] rfl rfl (by decide) (by decide) (fun r8 u H locs hw hP hD hS => ?_)
  obtain ⟨K1, hu9⟩ : ∃ z, z = u := ⟨_, rfl⟩
  subst hu9
  have hP := hP.sub (ws' := [(h, oX a t), ((a 0), oC a (cy2.mo) (cy2.co) (cy2.le)), ((a 3), iA cI (cy2.K)), ((a 4), iA cI (cy2.Q)), ((a 5), iA cI (cy2.L)), ((a 6), iA cI (cy2.H)), ((a 7), iA cI (cy2.M)), ((a 8), iA cI (cy2.B)), ((a 9), iA cI (cy2.C)), ((a 10), iA cI (cy2.D)), ((a 11), iA cI (cy2.F)), ((a 12), iA cI (cy2.W)), ((t 0), oC t (dy2.mo) (dy2.co) (dy2.le)), ((t 3), iA cI (dy2.K)), ((t 4), iA cI (dy2.Q)), ((t 5), iA cI (dy2.L)), ((t 6), iA cI (dy2.H)), ((t 7), iA cI (dy2.M)), ((t 8), iA cI (dy2.B)), ((t 9), iA cI (dy2.C)), ((t 10), iA cI (dy2.D)), ((t 11), iA cI (dy2.F)), ((t 12), iA cI (dy2.W)), (q9, lA cL o2), ((g 0), oM g (cdDrain k cy.co (xs (i + 1)) (xs (i + 2))) cy.mo (ncO (cdDrain k cy.co (xs (i + 1)) (xs (i + 2))) cy.co 2) cy.le), ((g 4), iA cI K1), ((g 5), iA cI (my.Ah)), ((g 6), iA cI (my.Ot)), ((g 7), iA cI (my.Qm)), ((g 8), iA cI (my.Op)), ((g 9), iA cI (my.Lm)), ((g 10), iA cI (my.Hm)), ((g 11), iA cI (my.Mm)), ((g 12), iA cI (my.Rw)), ((g 13), iA cI (my.St))]) [0, 1, 2, 3, 4, 5, 6, 7, 8, 9, 10, 11, 12, 13, 14, 15, 16, 17, 18, 19, 20, 21, 22, 23, 24, 25, 26, 27, 28, 29, 30, 31, 32, 33, 34] rfl
  have hD := hD.sub (ws' := [(h, oX a t), ((a 0), oC a (cy2.mo) (cy2.co) (cy2.le)), ((a 3), iA cI (cy2.K)), ((a 4), iA cI (cy2.Q)), ((a 5), iA cI (cy2.L)), ((a 6), iA cI (cy2.H)), ((a 7), iA cI (cy2.M)), ((a 8), iA cI (cy2.B)), ((a 9), iA cI (cy2.C)), ((a 10), iA cI (cy2.D)), ((a 11), iA cI (cy2.F)), ((a 12), iA cI (cy2.W)), ((t 0), oC t (dy2.mo) (dy2.co) (dy2.le)), ((t 3), iA cI (dy2.K)), ((t 4), iA cI (dy2.Q)), ((t 5), iA cI (dy2.L)), ((t 6), iA cI (dy2.H)), ((t 7), iA cI (dy2.M)), ((t 8), iA cI (dy2.B)), ((t 9), iA cI (dy2.C)), ((t 10), iA cI (dy2.D)), ((t 11), iA cI (dy2.F)), ((t 12), iA cI (dy2.W)), (q9, lA cL o2), ((g 0), oM g (cdDrain k cy.co (xs (i + 1)) (xs (i + 2))) cy.mo (ncO (cdDrain k cy.co (xs (i + 1)) (xs (i + 2))) cy.co 2) cy.le), ((g 4), iA cI K1), ((g 5), iA cI (my.Ah)), ((g 6), iA cI (my.Ot)), ((g 7), iA cI (my.Qm)), ((g 8), iA cI (my.Op)), ((g 9), iA cI (my.Lm)), ((g 10), iA cI (my.Hm)), ((g 11), iA cI (my.Mm)), ((g 12), iA cI (my.Rw)), ((g 13), iA cI (my.St))]) [0, 1, 2, 3, 4, 5, 6, 7, 8, 9, 10, 11, 12, 13, 14, 15, 16, 17, 18, 19, 20, 21, 22, 23, 24, 25, 26, 27, 28, 29, 30, 31, 32, 33, 34] (by decide) rfl
  rw [← hmo] at hP hD
  rw [← hco] at hP hD
  rw [← hle] at hP hD
  have hP : va_P G vwCl [(h, oX a t), ((a 0), oC a (cy2.mo) (cy2.co) (cy2.le)), ((a 3), iA cI (cy2.K)), ((a 4), iA cI (cy2.Q)), ((a 5), iA cI (cy2.L)), ((a 6), iA cI (cy2.H)), ((a 7), iA cI (cy2.M)), ((a 8), iA cI (cy2.B)), ((a 9), iA cI (cy2.C)), ((a 10), iA cI (cy2.D)), ((a 11), iA cI (cy2.F)), ((a 12), iA cI (cy2.W)), ((t 0), oC t (dy2.mo) (dy2.co) (dy2.le)), ((t 3), iA cI (dy2.K)), ((t 4), iA cI (dy2.Q)), ((t 5), iA cI (dy2.L)), ((t 6), iA cI (dy2.H)), ((t 7), iA cI (dy2.M)), ((t 8), iA cI (dy2.B)), ((t 9), iA cI (dy2.C)), ((t 10), iA cI (dy2.D)), ((t 11), iA cI (dy2.F)), ((t 12), iA cI (dy2.W)), (q9, lA cL o2), ((g 0), oM g (cdDrain k cy.co (xs (i + 1)) (xs (i + 2))) cy2.mo cy2.co cy2.le), ((g 4), iA cI K1), ((g 5), iA cI (my.Ah)), ((g 6), iA cI (my.Ot)), ((g 7), iA cI (my.Qm)), ((g 8), iA cI (my.Op)), ((g 9), iA cI (my.Lm)), ((g 10), iA cI (my.Hm)), ((g 11), iA cI (my.Mm)), ((g 12), iA cI (my.Rw)), ((g 13), iA cI (my.St))] H := hP
  have hD : va_D A [(h, oX a t), ((a 0), oC a (cy2.mo) (cy2.co) (cy2.le)), ((a 3), iA cI (cy2.K)), ((a 4), iA cI (cy2.Q)), ((a 5), iA cI (cy2.L)), ((a 6), iA cI (cy2.H)), ((a 7), iA cI (cy2.M)), ((a 8), iA cI (cy2.B)), ((a 9), iA cI (cy2.C)), ((a 10), iA cI (cy2.D)), ((a 11), iA cI (cy2.F)), ((a 12), iA cI (cy2.W)), ((t 0), oC t (dy2.mo) (dy2.co) (dy2.le)), ((t 3), iA cI (dy2.K)), ((t 4), iA cI (dy2.Q)), ((t 5), iA cI (dy2.L)), ((t 6), iA cI (dy2.H)), ((t 7), iA cI (dy2.M)), ((t 8), iA cI (dy2.B)), ((t 9), iA cI (dy2.C)), ((t 10), iA cI (dy2.D)), ((t 11), iA cI (dy2.F)), ((t 12), iA cI (dy2.W)), (q9, lA cL o2), ((g 0), oM g (cdDrain k cy.co (xs (i + 1)) (xs (i + 2))) cy2.mo cy2.co cy2.le), ((g 4), iA cI K1), ((g 5), iA cI (my.Ah)), ((g 6), iA cI (my.Ot)), ((g 7), iA cI (my.Qm)), ((g 8), iA cI (my.Op)), ((g 9), iA cI (my.Lm)), ((g 10), iA cI (my.Hm)), ((g 11), iA cI (my.Mm)), ((g 12), iA cI (my.Rw)), ((g 13), iA cI (my.St))] := hD
  refine lv_istore (lv' := [(6, .int r8), (5, .int r9), (4, .int (nI i)), (0, .ref b), (1, .ref h), (2, .ref (g 0)), (3, .ref q9)]) hx hb dL_law_147 hl (by decide) rfl (fun ls hl => ?_)
  refine lv_aload_n hx hb dL_law_149 rfl (lv_at hl 5 rfl) ?_
  refine cr_i (va_runV (As := []) (rest := []) FX (c_X2_thrown l G cI g (cdDrain k cy.co (xs (i + 1)) (xs (i + 2))) cy2.mo cy2.co cy2.le) (cwV 0 hts gL_law_X2_thrown rfl rfl rfl (by decide +kernel) ⟨Nat.le_of_ble_eq_true rfl, Nat.le_of_ble_eq_true rfl⟩) (rdV hK hP hN [24] rfl (ci := 2) (q0 := 24) rfl rfl) rfl rfl hl.1 rfl (lv_room (Nat.le_of_ble_eq_true rfl)) dL_law_150 ⟨hzc, hzs⟩) hS hP (fun H locs hP hS => ?_)
  refine lv_iload hx hb dL_law_153 (lv_at hl 1 rfl) ?_
  refine lv_icmp_eq (tgt := 160) hx hb dL_law_155 (by decide) (fun _ => ?_) (fun c => absurd (hr9.symm) c)
  refine lv_iload hx hb dL_law_160 (lv_at hl 1 rfl) ?_
  refine lv_if_ne (tgt := 177) hx hb dL_law_162 (by decide) (fun cz => ?_) (fun cz => ?_)
  · skip
    refine lv_goto (tgt := 1039) hx hb dL_law_177 (by decide) ?_
    exact kk cy2 dy2 ((cdDrain k cy.co (xs (i + 1)) (xs (i + 2))), K1, my.Ah, my.Ot, my.Qm, my.Op, my.Lm, my.Hm, my.Mm, my.Rw, my.St) o2 (nkO (cdDrain k cy.co (xs (i + 1)) (xs (i + 2))) k (pAt (xs (i + 1)) (xs (i + 2))) 2) _ _ _ hgd2 (hw.2) hP hD hS (lv_sub hl [2, 3, 4, 5, 6] rfl)
  · skip
    have h0 : (cdDrain k cy.co (xs (i + 1)) (xs (i + 2))) = 0 := hr9.symm.trans cz
    refine lv_aload_n hx hb dL_law_165 rfl (lv_at hl 6 rfl) ?_
    refine lv_iconst (v := 0) hx hb dL_law_166 (by decide) ?_
    refine va_lald hx hb hKL hP 23 0 rfl rfl vp_in01 dL_law_167 ?_
    refine lv_iload hx hb dL_law_168 (lv_at hl 0 rfl) ?_
    refine lv_i2l (v := r8.toInt64) hx hb dL_law_170 rfl ?_
    refine W.lcmp hx hb dL_law_171 ?_
    refine tpi (x' := 0) ((lg_cmp_eq _ _).mpr ((hv h0).trans (congrArg Int32.toInt64 (hw.1 h0).symm))) ?_
    refine lv_if_eq (tgt := 177) hx hb dL_law_172 (by decide) (fun _ => ?_) (fun c => absurd (rfl) c)
    refine lv_goto (tgt := 1039) hx hb dL_law_177 (by decide) ?_
    exact kk cy2 dy2 ((cdDrain k cy.co (xs (i + 1)) (xs (i + 2))), K1, my.Ah, my.Ot, my.Qm, my.Op, my.Lm, my.Hm, my.Mm, my.Rw, my.St) o2 (nkO (cdDrain k cy.co (xs (i + 1)) (xs (i + 2))) k (pAt (xs (i + 1)) (xs (i + 2))) 2) _ _ _ hgd2 (hw.2) hP hD hS (lv_sub hl [2, 3, 4, 5, 6] rfl)

set_option maxHeartbeats 4000000 in
set_option maxRecDepth 100000 in
theorem law_dig {p : Program} {l : Launch} {e : Env} {s : State} {m : MethodId} {below : List Frame} {meth : Method} {c : Code} {b Ln : Nat} {xs : Nat → Int32} {A : Nat → Prop} {cells slots : Nat} {Q : State → Prop} {G : va_G} {cI cL : ClassId} {h q9 : Nat} {a t g : Nat → Nat} {cy dy : Cy} {my : My} {o : Nat → Int64} {k : Nat → Int32} {H : Heap} {locs : List Loc} {ls : Array Slot} {i : Nat} (E0 : LwE p l s m c b Ln xs G cI cL A) (hgd : Sd cy k) (hmk : eqK my.K k) (hP : va_P G vwCl (LAW cI cL h q9 a t g cy dy my o) H) (hD : va_D A (LAW cI cL h q9 a t g cy dy my o)) (hS : va_S A s.heap H locs) (hl : lv_has ls 9 [(4, .int (nI i)), (0, .ref b), (1, .ref h), (2, .ref (g 0)), (3, .ref q9)]) (hi : i + 4 ≤ Ln) (hLn : Ln ≤ 2048) (hzc0 : cells + 1 ≤ room_1.cells) (hzs0 : slots + 6 ≤ room_1.slots)
    (kk : ∀ (cy2 dy2 : Cy) (my2 : My) (o2 : Nat → Int64) (k2 : Nat → Int32) (H2 : Heap) (locs2 : List Loc) (ls2 : Array Slot), Sd cy2 k2 → eqK my2.K k2 → va_P G vwCl (LAW cI cL h q9 a t g cy2 dy2 my2 o2) H2 → va_D A (LAW cI cL h q9 a t g cy2 dy2 my2 o2) → va_S A s.heap H2 locs2 → lv_has ls2 9 [(4, .int (nI i)), (0, .ref b), (1, .ref h), (2, .ref (g 0)), (3, .ref q9)] → W p l e room_1 s m #[Value.ref b] below meth c H2 locs2 (cells + 1) (slots + 6) Q (F0 m 1039 ls2 [])) : W p l e room_1 s m #[Value.ref b] below meth c H locs cells slots Q (F0 m 180 ls []) := by
  obtain ⟨hx, hb, hml, hown, hts, hst, hK, hKL, hN, hE, hX, hNC, hZ, hBL, hA, hXs, hbl, hbA⟩ := E0
  have hk := hgd.1
  have hS0 := hgd.2.1
  have hgt := hgd.2.2.1
  have hkd := hgd.2.2.2
  have FX : CallFix p m c cL_law 9 s #[Value.ref b] wsL_law RL := ⟨hx, hb, hml, hown, hts⟩
  have hP : va_P G vwCl [(h, oX a t), ((a 0), oC a (cy.mo) (cy.co) (cy.le)), ((a 3), iA cI (cy.K)), ((a 4), iA cI (cy.Q)), ((a 5), iA cI (cy.L)), ((a 6), iA cI (cy.H)), ((a 7), iA cI (cy.M)), ((a 8), iA cI (cy.B)), ((a 9), iA cI (cy.C)), ((a 10), iA cI (cy.D)), ((a 11), iA cI (cy.F)), ((a 12), iA cI (cy.W)), ((t 0), oC t (dy.mo) (dy.co) (dy.le)), ((t 3), iA cI (dy.K)), ((t 4), iA cI (dy.Q)), ((t 5), iA cI (dy.L)), ((t 6), iA cI (dy.H)), ((t 7), iA cI (dy.M)), ((t 8), iA cI (dy.B)), ((t 9), iA cI (dy.C)), ((t 10), iA cI (dy.D)), ((t 11), iA cI (dy.F)), ((t 12), iA cI (dy.W)), (q9, lA cL o), ((g 0), oM g my.th cy.mo cy.co cy.le), ((g 4), iA cI (my.K)), ((g 5), iA cI (my.Ah)), ((g 6), iA cI (my.Ot)), ((g 7), iA cI (my.Qm)), ((g 8), iA cI (my.Op)), ((g 9), iA cI (my.Lm)), ((g 10), iA cI (my.Hm)), ((g 11), iA cI (my.Mm)), ((g 12), iA cI (my.Rw)), ((g 13), iA cI (my.St))] H := hP
  have hD : va_D A [(h, oX a t), ((a 0), oC a (cy.mo) (cy.co) (cy.le)), ((a 3), iA cI (cy.K)), ((a 4), iA cI (cy.Q)), ((a 5), iA cI (cy.L)), ((a 6), iA cI (cy.H)), ((a 7), iA cI (cy.M)), ((a 8), iA cI (cy.B)), ((a 9), iA cI (cy.C)), ((a 10), iA cI (cy.D)), ((a 11), iA cI (cy.F)), ((a 12), iA cI (cy.W)), ((t 0), oC t (dy.mo) (dy.co) (dy.le)), ((t 3), iA cI (dy.K)), ((t 4), iA cI (dy.Q)), ((t 5), iA cI (dy.L)), ((t 6), iA cI (dy.H)), ((t 7), iA cI (dy.M)), ((t 8), iA cI (dy.B)), ((t 9), iA cI (dy.C)), ((t 10), iA cI (dy.D)), ((t 11), iA cI (dy.F)), ((t 12), iA cI (dy.W)), (q9, lA cL o), ((g 0), oM g my.th cy.mo cy.co cy.le), ((g 4), iA cI (my.K)), ((g 5), iA cI (my.Ah)), ((g 6), iA cI (my.Ot)), ((g 7), iA cI (my.Qm)), ((g 8), iA cI (my.Op)), ((g 9), iA cI (my.Lm)), ((g 10), iA cI (my.Hm)), ((g 11), iA cI (my.Mm)), ((g 12), iA cI (my.Rw)), ((g 13), iA cI (my.St))] := hD
  refine lv_aload_n hx hb dL_law_180 rfl (lv_at hl 2 rfl) ?_
  refine lv_aload_n hx hb dL_law_181 rfl (lv_at hl 1 rfl) ?_
  refine lv_iload hx hb dL_law_182 (lv_at hl 0 rfl) ?_
  refine lv_iconst (v := 1) hx hb dL_law_184 (by decide) ?_
  refine lv_iadd hx hb dL_law_185 ?_
  refine tpi (x' := nI (i + 1)) (by rw [show (1 : Int32) = nI 1 from rfl, nI_add]) ?_
  refine va_sld hx hb hXs hbl hbA hS (vp_in_nI (n := i + 1) (N := Ln) (by omega) (by omega)) dL_law_186 ?_
  refine tpi (x' := xs (i + 1)) (congrArg xs (nI_clamp (by omega))) ?_
  refine lv_aload_n hx hb dL_law_187 rfl (lv_at hl 1 rfl) ?_
  refine lv_iload hx hb dL_law_188 (lv_at hl 0 rfl) ?_
  refine lv_iconst (v := 2) hx hb dL_law_190 (by decide) ?_
  refine lv_iadd hx hb dL_law_191 ?_
  refine tpi (x' := nI (i + 2)) (by rw [show (2 : Int32) = nI 2 from rfl, nI_add]) ?_
  refine va_sld hx hb hXs hbl hbA hS (vp_in_nI (n := i + 2) (N := Ln) (by omega) (by omega)) dL_law_192 ?_
  refine tpi (x' := xs (i + 2)) (congrArg xs (nI_clamp (by omega))) ?_
  refine lv_aload_n hx hb dL_law_193 rfl (lv_at hl 4 rfl) ?_
  refine cw_i (wr := [((g 0), oM g my.th cy.mo cy.co cy.le), ((g 4), iA cI (my.K)), ((g 5), iA cI (my.Ah)), ((g 6), iA cI (my.Ot)), ((g 7), iA cI (my.Qm)), ((g 8), iA cI (my.Op)), ((g 9), iA cI (my.Lm)), ((g 10), iA cI (my.Hm)), ((g 11), iA cI (my.Mm)), ((g 12), iA cI (my.Rw)), ((g 13), iA cI (my.St))]) (vx_runSW (As := [.ref h, .int (xs (i + 1)), .int (xs (i + 2)), .ref q9]) (rest := []) FX (c_L_dig l G cI cL hst h q9 a t cy dy o k (xs (i + 1)) (xs (i + 2)) hgd _) (vx_cwSW 4 hts gL_law_L_dig rfl rfl rfl (by decide +kernel) ⟨Nat.le_of_ble_eq_true rfl, Nat.le_of_ble_eq_true rfl⟩) (wrSX hK hKL hP hD hN hE hX hNC hZ hS hA [0, 1, 2, 3, 4, 5, 6, 7, 8, 9, 10, 11, 12, 13, 14, 15, 16, 17, 18, 19, 20, 21, 22, 23] (by decide) rfl rfl) rfl rfl hl.1 rfl (lv_room (Nat.le_of_ble_eq_true rfl)) dL_law_194 ⟨hzc0, hzs0⟩) hS hP hD hA [0, 1, 2, 3, 4, 5, 6, 7, 8, 9, 10, 11, 12, 13, 14, 15, 16, 17, 18, 19, 20, 21, 22, 23] [24, 25, 26, 27, 28, 29, 30, 31, 32, 33, 34] rfl rfl (by decide) (by decide) (fun r9 u H locs hw hP hD hS => ?_)
  obtain ⟨cy2, dy2, o2⟩ := u
  obtain ⟨hr9, hgd2, ⟨hmo, hco, hle⟩, hv⟩ := hw
  have hP := hP.sub (ws' := [(h, oX a t), ((a 0), oC a (cy2.mo) (cy2.co) (cy2.le)), ((a 3), iA cI (cy2.K)), ((a 4), iA cI (cy2.Q)), ((a 5), iA cI (cy2.L)), ((a 6), iA cI (cy2.H)), ((a 7), iA cI (cy2.M)), ((a 8), iA cI (cy2.B)), ((a 9), iA cI (cy2.C)), ((a 10), iA cI (cy2.D)), ((a 11), iA cI (cy2.F)), ((a 12), iA cI (cy2.W)), ((t 0), oC t (dy2.mo) (dy2.co) (dy2.le)), ((t 3), iA cI (dy2.K)), ((t 4), iA cI (dy2.Q)), ((t 5), iA cI (dy2.L)), ((t 6), iA cI (dy2.H)), ((t 7), iA cI (dy2.M)), ((t 8), iA cI (dy2.B)), ((t 9), iA cI (dy2.C)), ((t 10), iA cI (dy2.D)), ((t 11), iA cI (dy2.F)), ((t 12), iA cI (dy2.W)), (q9, lA cL o2), ((g 0), oM g my.th cy.mo cy.co cy.le), ((g 4), iA cI (my.K)), ((g 5), iA cI (my.Ah)), ((g 6), iA cI (my.Ot)), ((g 7), iA cI (my.Qm)), ((g 8), iA cI (my.Op)), ((g 9), iA cI (my.Lm)), ((g 10), iA cI (my.Hm)), ((g 11), iA cI (my.Mm)), ((g 12), iA cI (my.Rw)), ((g 13), iA cI (my.St))]) [11, 12, 13, 14, 15, 16, 17, 18, 19, 20, 21, 22, 23, 24, 25, 26, 27, 28, 29, 30, 31, 32, 33, 34, 0, 1, 2, 3, 4, 5, 6, 7, 8, 9, 10] rfl
  have hD := hD.sub (ws' := [(h, oX a t), ((a 0), oC a (cy2.mo) (cy2.co) (cy2.le)), ((a 3), iA cI (cy2.K)), ((a 4), iA cI (cy2.Q)), ((a 5), iA cI (cy2.L)), ((a 6), iA cI (cy2.H)), ((a 7), iA cI (cy2.M)), ((a 8), iA cI (cy2.B)), ((a 9), iA cI (cy2.C)), ((a 10), iA cI (cy2.D)), ((a 11), iA cI (cy2.F)), ((a 12), iA cI (cy2.W)), ((t 0), oC t (dy2.mo) (dy2.co) (dy2.le)), ((t 3), iA cI (dy2.K)), ((t 4), iA cI (dy2.Q)), ((t 5), iA cI (dy2.L)), ((t 6), iA cI (dy2.H)), ((t 7), iA cI (dy2.M)), ((t 8), iA cI (dy2.B)), ((t 9), iA cI (dy2.C)), ((t 10), iA cI (dy2.D)), ((t 11), iA cI (dy2.F)), ((t 12), iA cI (dy2.W)), (q9, lA cL o2), ((g 0), oM g my.th cy.mo cy.co cy.le), ((g 4), iA cI (my.K)), ((g 5), iA cI (my.Ah)), ((g 6), iA cI (my.Ot)), ((g 7), iA cI (my.Qm)), ((g 8), iA cI (my.Op)), ((g 9), iA cI (my.Lm)), ((g 10), iA cI (my.Hm)), ((g 11), iA cI (my.Mm)), ((g 12), iA cI (my.Rw)), ((g 13), iA cI (my.St))]) [11, 12, 13, 14, 15, 16, 17, 18, 19, 20, 21, 22, 23, 24, 25, 26, 27, 28, 29, 30, 31, 32, 33, 34, 0, 1, 2, 3, 4, 5, 6, 7, 8, 9, 10] (by decide) rfl
  have hmo : cy2.mo = cy.mo := hmo
  have hco : cy2.co = (ncO (cdDig k cy.co (xs (i + 1)) (xs (i + 2))) cy.co 3) := hco
  have hle : cy2.le = cy.le := hle
  have hv : (cdDig k cy.co (xs (i + 1)) (xs (i + 2))) = 0 → o2 (0 : Int32).toNatClampNeg = _ := hv
  refine lv_istore (lv' := [(5, .int r9), (4, .int (nI i)), (0, .ref b), (1, .ref h), (2, .ref (g 0)), (3, .ref q9)]) hx hb dL_law_197 hl (by decide) rfl (fun ls hl => ?_)
  refine lv_aload_n hx hb dL_law_199 rfl (lv_at hl 4 rfl) ?_
  refine lv_aload_n hx hb dL_law_200 rfl (lv_at hl 2 rfl) ?_
  refine lv_iload hx hb dL_law_201 (lv_at hl 1 rfl) ?_
  refine lv_iconst (v := 1) hx hb dL_law_203 (by decide) ?_
  refine lv_iadd hx hb dL_law_204 ?_
  refine tpi (x' := nI (i + 1)) (by rw [show (1 : Int32) = nI 1 from rfl, nI_add]) ?_
  refine va_sld hx hb hXs hbl hbA hS (vp_in_nI (n := i + 1) (N := Ln) (by omega) (by omega)) dL_law_205 ?_
  refine tpi (x' := xs (i + 1)) (congrArg xs (nI_clamp (by omega))) ?_
  refine lv_aload_n hx hb dL_law_206 rfl (lv_at hl 2 rfl) ?_
  refine lv_iload hx hb dL_law_207 (lv_at hl 1 rfl) ?_
  refine lv_iconst (v := 2) hx hb dL_law_209 (by decide) ?_
  refine lv_iadd hx hb dL_law_210 ?_
  refine tpi (x' := nI (i + 2)) (by rw [show (2 : Int32) = nI 2 from rfl, nI_add]) ?_
  refine va_sld hx hb hXs hbl hbA hS (vp_in_nI (n := i + 2) (N := Ln) (by omega) (by omega)) dL_law_211 ?_
  refine tpi (x' := xs (i + 2)) (congrArg xs (nI_clamp (by omega))) ?_
  have hzc : cells + 1 + 0 ≤ room_1.cells := hzc0
  have hzs : slots + 6 + 0 ≤ room_1.slots := hzs0
  refine cw_i (wr := [(h, oX a t), ((a 0), oC a (cy2.mo) (cy2.co) (cy2.le)), ((a 3), iA cI (cy2.K)), ((a 4), iA cI (cy2.Q)), ((a 5), iA cI (cy2.L)), ((a 6), iA cI (cy2.H)), ((a 7), iA cI (cy2.M)), ((a 8), iA cI (cy2.B)), ((a 9), iA cI (cy2.C)), ((a 10), iA cI (cy2.D)), ((a 11), iA cI (cy2.F)), ((a 12), iA cI (cy2.W)), ((t 0), oC t (dy2.mo) (dy2.co) (dy2.le)), ((t 3), iA cI (dy2.K)), ((t 4), iA cI (dy2.Q)), ((t 5), iA cI (dy2.L)), ((t 6), iA cI (dy2.H)), ((t 7), iA cI (dy2.M)), ((t 8), iA cI (dy2.B)), ((t 9), iA cI (dy2.C)), ((t 10), iA cI (dy2.D)), ((t 11), iA cI (dy2.F)), ((t 12), iA cI (dy2.W)), (q9, lA cL o2)]) (va_runV (As := [.int (xs (i + 1)), .int (xs (i + 2))]) (rest := []) FX (c_X2_dig l G cI g my.th cy.mo cy.co cy.le my.K my.Ah my.Ot my.Qm my.Op my.Lm my.Hm my.Mm my.Rw my.St k (xs (i + 1)) (xs (i + 2)) hmk _) (cwV 2 hts gL_law_X2_dig rfl rfl rfl (by decide +kernel) ⟨Nat.le_of_ble_eq_true rfl, Nat.le_of_ble_eq_true rfl⟩) (wrV hK hP hD hN [24, 25, 26, 27, 28, 29, 30, 31, 32, 33, 34] (by decide) rfl rfl (ci := 2) (q0 := 24) rfl rfl) rfl rfl hl.1 rfl (lv_room (Nat.le_of_ble_eq_true rfl)) dL_law_212 ⟨hzc, hzs⟩) hS hP hD hA [24, 25, 26, 27, 28, 29, 30, 31, 32, 33, 34] [0, 1, 2, 3, 4, 5, 6, 7, 8, 9, 10, 11, 12, 13, 14, 15, 16, 17, 18, 19, 20, 21, 22, 23] rfl rfl (by decide) (by decide) (fun r8 u H locs hw hP hD hS => ?_)
  obtain ⟨K1, hu9⟩ : ∃ z, z = u := ⟨_, rfl⟩
  subst hu9
  have hP := hP.sub (ws' := [(h, oX a t), ((a 0), oC a (cy2.mo) (cy2.co) (cy2.le)), ((a 3), iA cI (cy2.K)), ((a 4), iA cI (cy2.Q)), ((a 5), iA cI (cy2.L)), ((a 6), iA cI (cy2.H)), ((a 7), iA cI (cy2.M)), ((a 8), iA cI (cy2.B)), ((a 9), iA cI (cy2.C)), ((a 10), iA cI (cy2.D)), ((a 11), iA cI (cy2.F)), ((a 12), iA cI (cy2.W)), ((t 0), oC t (dy2.mo) (dy2.co) (dy2.le)), ((t 3), iA cI (dy2.K)), ((t 4), iA cI (dy2.Q)), ((t 5), iA cI (dy2.L)), ((t 6), iA cI (dy2.H)), ((t 7), iA cI (dy2.M)), ((t 8), iA cI (dy2.B)), ((t 9), iA cI (dy2.C)), ((t 10), iA cI (dy2.D)), ((t 11), iA cI (dy2.F)), ((t 12), iA cI (dy2.W)), (q9, lA cL o2), ((g 0), oM g (cdDig k cy.co (xs (i + 1)) (xs (i + 2))) cy.mo (ncO (cdDig k cy.co (xs (i + 1)) (xs (i + 2))) cy.co 3) cy.le), ((g 4), iA cI K1), ((g 5), iA cI (my.Ah)), ((g 6), iA cI (my.Ot)), ((g 7), iA cI (my.Qm)), ((g 8), iA cI (my.Op)), ((g 9), iA cI (my.Lm)), ((g 10), iA cI (my.Hm)), ((g 11), iA cI (my.Mm)), ((g 12), iA cI (my.Rw)), ((g 13), iA cI (my.St))]) [0, 1, 2, 3, 4, 5, 6, 7, 8, 9, 10, 11, 12, 13, 14, 15, 16, 17, 18, 19, 20, 21, 22, 23, 24, 25, 26, 27, 28, 29, 30, 31, 32, 33, 34] rfl
  have hD := hD.sub (ws' := [(h, oX a t), ((a 0), oC a (cy2.mo) (cy2.co) (cy2.le)), ((a 3), iA cI (cy2.K)), ((a 4), iA cI (cy2.Q)), ((a 5), iA cI (cy2.L)), ((a 6), iA cI (cy2.H)), ((a 7), iA cI (cy2.M)), ((a 8), iA cI (cy2.B)), ((a 9), iA cI (cy2.C)), ((a 10), iA cI (cy2.D)), ((a 11), iA cI (cy2.F)), ((a 12), iA cI (cy2.W)), ((t 0), oC t (dy2.mo) (dy2.co) (dy2.le)), ((t 3), iA cI (dy2.K)), ((t 4), iA cI (dy2.Q)), ((t 5), iA cI (dy2.L)), ((t 6), iA cI (dy2.H)), ((t 7), iA cI (dy2.M)), ((t 8), iA cI (dy2.B)), ((t 9), iA cI (dy2.C)), ((t 10), iA cI (dy2.D)), ((t 11), iA cI (dy2.F)), ((t 12), iA cI (dy2.W)), (q9, lA cL o2), ((g 0), oM g (cdDig k cy.co (xs (i + 1)) (xs (i + 2))) cy.mo (ncO (cdDig k cy.co (xs (i + 1)) (xs (i + 2))) cy.co 3) cy.le), ((g 4), iA cI K1), ((g 5), iA cI (my.Ah)), ((g 6), iA cI (my.Ot)), ((g 7), iA cI (my.Qm)), ((g 8), iA cI (my.Op)), ((g 9), iA cI (my.Lm)), ((g 10), iA cI (my.Hm)), ((g 11), iA cI (my.Mm)), ((g 12), iA cI (my.Rw)), ((g 13), iA cI (my.St))]) [0, 1, 2, 3, 4, 5, 6, 7, 8, 9, 10, 11, 12, 13, 14, 15, 16, 17, 18, 19, 20, 21, 22, 23, 24, 25, 26, 27, 28, 29, 30, 31, 32, 33, 34] (by decide) rfl
  rw [← hmo] at hP hD
  rw [← hco] at hP hD
  rw [← hle] at hP hD
  have hP : va_P G vwCl [(h, oX a t), ((a 0), oC a (cy2.mo) (cy2.co) (cy2.le)), ((a 3), iA cI (cy2.K)), ((a 4), iA cI (cy2.Q)), ((a 5), iA cI (cy2.L)), ((a 6), iA cI (cy2.H)), ((a 7), iA cI (cy2.M)), ((a 8), iA cI (cy2.B)), ((a 9), iA cI (cy2.C)), ((a 10), iA cI (cy2.D)), ((a 11), iA cI (cy2.F)), ((a 12), iA cI (cy2.W)), ((t 0), oC t (dy2.mo) (dy2.co) (dy2.le)), ((t 3), iA cI (dy2.K)), ((t 4), iA cI (dy2.Q)), ((t 5), iA cI (dy2.L)), ((t 6), iA cI (dy2.H)), ((t 7), iA cI (dy2.M)), ((t 8), iA cI (dy2.B)), ((t 9), iA cI (dy2.C)), ((t 10), iA cI (dy2.D)), ((t 11), iA cI (dy2.F)), ((t 12), iA cI (dy2.W)), (q9, lA cL o2), ((g 0), oM g (cdDig k cy.co (xs (i + 1)) (xs (i + 2))) cy2.mo cy2.co cy2.le), ((g 4), iA cI K1), ((g 5), iA cI (my.Ah)), ((g 6), iA cI (my.Ot)), ((g 7), iA cI (my.Qm)), ((g 8), iA cI (my.Op)), ((g 9), iA cI (my.Lm)), ((g 10), iA cI (my.Hm)), ((g 11), iA cI (my.Mm)), ((g 12), iA cI (my.Rw)), ((g 13), iA cI (my.St))] H := hP
  have hD : va_D A [(h, oX a t), ((a 0), oC a (cy2.mo) (cy2.co) (cy2.le)), ((a 3), iA cI (cy2.K)), ((a 4), iA cI (cy2.Q)), ((a 5), iA cI (cy2.L)), ((a 6), iA cI (cy2.H)), ((a 7), iA cI (cy2.M)), ((a 8), iA cI (cy2.B)), ((a 9), iA cI (cy2.C)), ((a 10), iA cI (cy2.D)), ((a 11), iA cI (cy2.F)), ((a 12), iA cI (cy2.W)), ((t 0), oC t (dy2.mo) (dy2.co) (dy2.le)), ((t 3), iA cI (dy2.K)), ((t 4), iA cI (dy2.Q)), ((t 5), iA cI (dy2.L)), ((t 6), iA cI (dy2.H)), ((t 7), iA cI (dy2.M)), ((t 8), iA cI (dy2.B)), ((t 9), iA cI (dy2.C)), ((t 10), iA cI (dy2.D)), ((t 11), iA cI (dy2.F)), ((t 12), iA cI (dy2.W)), (q9, lA cL o2), ((g 0), oM g (cdDig k cy.co (xs (i + 1)) (xs (i + 2))) cy2.mo cy2.co cy2.le), ((g 4), iA cI K1), ((g 5), iA cI (my.Ah)), ((g 6), iA cI (my.Ot)), ((g 7), iA cI (my.Qm)), ((g 8), iA cI (my.Op)), ((g 9), iA cI (my.Lm)), ((g 10), iA cI (my.Hm)), ((g 11), iA cI (my.Mm)), ((g 12), iA cI (my.Rw)), ((g 13), iA cI (my.St))] := hD
  refine lv_istore (lv' := [(6, .int r8), (5, .int r9), (4, .int (nI i)), (0, .ref b), (1, .ref h), (2, .ref (g 0)), (3, .ref q9)]) hx hb dL_law_215 hl (by decide) rfl (fun ls hl => ?_)
  refine lv_aload_n hx hb dL_law_217 rfl (lv_at hl 5 rfl) ?_
  refine cr_i (va_runV (As := []) (rest := []) FX (c_X2_thrown l G cI g (cdDig k cy.co (xs (i + 1)) (xs (i + 2))) cy2.mo cy2.co cy2.le) (cwV 0 hts gL_law_X2_thrown rfl rfl rfl (by decide +kernel) ⟨Nat.le_of_ble_eq_true rfl, Nat.le_of_ble_eq_true rfl⟩) (rdV hK hP hN [24] rfl (ci := 2) (q0 := 24) rfl rfl) rfl rfl hl.1 rfl (lv_room (Nat.le_of_ble_eq_true rfl)) dL_law_218 ⟨hzc, hzs⟩) hS hP (fun H locs hP hS => ?_)
  refine lv_iload hx hb dL_law_221 (lv_at hl 1 rfl) ?_
  refine lv_icmp_eq (tgt := 228) hx hb dL_law_223 (by decide) (fun _ => ?_) (fun c => absurd (hr9.symm) c)
  refine lv_iload hx hb dL_law_228 (lv_at hl 1 rfl) ?_
  refine lv_if_ne (tgt := 245) hx hb dL_law_230 (by decide) (fun cz => ?_) (fun cz => ?_)
  · skip
    refine lv_goto (tgt := 1039) hx hb dL_law_245 (by decide) ?_
    exact kk cy2 dy2 ((cdDig k cy.co (xs (i + 1)) (xs (i + 2))), K1, my.Ah, my.Ot, my.Qm, my.Op, my.Lm, my.Hm, my.Mm, my.Rw, my.St) o2 (nkO (cdDig k cy.co (xs (i + 1)) (xs (i + 2))) k (pAt (xs (i + 1)) (xs (i + 2))) 1) _ _ _ hgd2 (hw.2) hP hD hS (lv_sub hl [2, 3, 4, 5, 6] rfl)
  · skip
    have h0 : (cdDig k cy.co (xs (i + 1)) (xs (i + 2))) = 0 := hr9.symm.trans cz
    refine lv_aload_n hx hb dL_law_233 rfl (lv_at hl 6 rfl) ?_
    refine lv_iconst (v := 0) hx hb dL_law_234 (by decide) ?_
    refine va_lald hx hb hKL hP 23 0 rfl rfl vp_in01 dL_law_235 ?_
    refine lv_iload hx hb dL_law_236 (lv_at hl 0 rfl) ?_
    refine lv_i2l (v := r8.toInt64) hx hb dL_law_238 rfl ?_
    refine W.lcmp hx hb dL_law_239 ?_
    refine tpi (x' := 0) ((lg_cmp_eq _ _).mpr ((hv h0).trans (congrArg Int32.toInt64 (hw.1 h0).symm))) ?_
    refine lv_if_eq (tgt := 245) hx hb dL_law_240 (by decide) (fun _ => ?_) (fun c => absurd (rfl) c)
    refine lv_goto (tgt := 1039) hx hb dL_law_245 (by decide) ?_
    exact kk cy2 dy2 ((cdDig k cy.co (xs (i + 1)) (xs (i + 2))), K1, my.Ah, my.Ot, my.Qm, my.Op, my.Lm, my.Hm, my.Mm, my.Rw, my.St) o2 (nkO (cdDig k cy.co (xs (i + 1)) (xs (i + 2))) k (pAt (xs (i + 1)) (xs (i + 2))) 1) _ _ _ hgd2 (hw.2) hP hD hS (lv_sub hl [2, 3, 4, 5, 6] rfl)

set_option maxHeartbeats 4000000 in
set_option maxRecDepth 100000 in
theorem law_build {p : Program} {l : Launch} {e : Env} {s : State} {m : MethodId} {below : List Frame} {meth : Method} {c : Code} {b Ln : Nat} {xs : Nat → Int32} {A : Nat → Prop} {cells slots : Nat} {Q : State → Prop} {G : va_G} {cI cL : ClassId} {h q9 : Nat} {a t g : Nat → Nat} {cy dy : Cy} {my : My} {o : Nat → Int64} {k : Nat → Int32} {H : Heap} {locs : List Loc} {ls : Array Slot} {i : Nat} (E0 : LwE p l s m c b Ln xs G cI cL A) (hgd : Sd cy k) (hmk : eqK my.K k) (hP : va_P G vwCl (LAW cI cL h q9 a t g cy dy my o) H) (hD : va_D A (LAW cI cL h q9 a t g cy dy my o)) (hS : va_S A s.heap H locs) (hl : lv_has ls 9 [(4, .int (nI i)), (0, .ref b), (1, .ref h), (2, .ref (g 0)), (3, .ref q9)]) (hi : i + 4 ≤ Ln) (hLn : Ln ≤ 2048) (hzc0 : cells + 1 ≤ room_1.cells) (hzs0 : slots + 6 ≤ room_1.slots)
    (kk : ∀ (cy2 dy2 : Cy) (my2 : My) (o2 : Nat → Int64) (k2 : Nat → Int32) (H2 : Heap) (locs2 : List Loc) (ls2 : Array Slot), Sd cy2 k2 → eqK my2.K k2 → va_P G vwCl (LAW cI cL h q9 a t g cy2 dy2 my2 o2) H2 → va_D A (LAW cI cL h q9 a t g cy2 dy2 my2 o2) → va_S A s.heap H2 locs2 → lv_has ls2 9 [(4, .int (nI i)), (0, .ref b), (1, .ref h), (2, .ref (g 0)), (3, .ref q9)] → W p l e room_1 s m #[Value.ref b] below meth c H2 locs2 (cells + 1) (slots + 6) Q (F0 m 1039 ls2 [])) : W p l e room_1 s m #[Value.ref b] below meth c H locs cells slots Q (F0 m 248 ls []) := by
  obtain ⟨hx, hb, hml, hown, hts, hst, hK, hKL, hN, hE, hX, hNC, hZ, hBL, hA, hXs, hbl, hbA⟩ := E0
  have hk := hgd.1
  have hS0 := hgd.2.1
  have hgt := hgd.2.2.1
  have hkd := hgd.2.2.2
  have FX : CallFix p m c cL_law 9 s #[Value.ref b] wsL_law RL := ⟨hx, hb, hml, hown, hts⟩
  have hP : va_P G vwCl [(h, oX a t), ((a 0), oC a (cy.mo) (cy.co) (cy.le)), ((a 3), iA cI (cy.K)), ((a 4), iA cI (cy.Q)), ((a 5), iA cI (cy.L)), ((a 6), iA cI (cy.H)), ((a 7), iA cI (cy.M)), ((a 8), iA cI (cy.B)), ((a 9), iA cI (cy.C)), ((a 10), iA cI (cy.D)), ((a 11), iA cI (cy.F)), ((a 12), iA cI (cy.W)), ((t 0), oC t (dy.mo) (dy.co) (dy.le)), ((t 3), iA cI (dy.K)), ((t 4), iA cI (dy.Q)), ((t 5), iA cI (dy.L)), ((t 6), iA cI (dy.H)), ((t 7), iA cI (dy.M)), ((t 8), iA cI (dy.B)), ((t 9), iA cI (dy.C)), ((t 10), iA cI (dy.D)), ((t 11), iA cI (dy.F)), ((t 12), iA cI (dy.W)), (q9, lA cL o), ((g 0), oM g my.th cy.mo cy.co cy.le), ((g 4), iA cI (my.K)), ((g 5), iA cI (my.Ah)), ((g 6), iA cI (my.Ot)), ((g 7), iA cI (my.Qm)), ((g 8), iA cI (my.Op)), ((g 9), iA cI (my.Lm)), ((g 10), iA cI (my.Hm)), ((g 11), iA cI (my.Mm)), ((g 12), iA cI (my.Rw)), ((g 13), iA cI (my.St))] H := hP
  have hD : va_D A [(h, oX a t), ((a 0), oC a (cy.mo) (cy.co) (cy.le)), ((a 3), iA cI (cy.K)), ((a 4), iA cI (cy.Q)), ((a 5), iA cI (cy.L)), ((a 6), iA cI (cy.H)), ((a 7), iA cI (cy.M)), ((a 8), iA cI (cy.B)), ((a 9), iA cI (cy.C)), ((a 10), iA cI (cy.D)), ((a 11), iA cI (cy.F)), ((a 12), iA cI (cy.W)), ((t 0), oC t (dy.mo) (dy.co) (dy.le)), ((t 3), iA cI (dy.K)), ((t 4), iA cI (dy.Q)), ((t 5), iA cI (dy.L)), ((t 6), iA cI (dy.H)), ((t 7), iA cI (dy.M)), ((t 8), iA cI (dy.B)), ((t 9), iA cI (dy.C)), ((t 10), iA cI (dy.D)), ((t 11), iA cI (dy.F)), ((t 12), iA cI (dy.W)), (q9, lA cL o), ((g 0), oM g my.th cy.mo cy.co cy.le), ((g 4), iA cI (my.K)), ((g 5), iA cI (my.Ah)), ((g 6), iA cI (my.Ot)), ((g 7), iA cI (my.Qm)), ((g 8), iA cI (my.Op)), ((g 9), iA cI (my.Lm)), ((g 10), iA cI (my.Hm)), ((g 11), iA cI (my.Mm)), ((g 12), iA cI (my.Rw)), ((g 13), iA cI (my.St))] := hD
  refine lv_aload_n hx hb dL_law_248 rfl (lv_at hl 2 rfl) ?_
  refine lv_aload_n hx hb dL_law_249 rfl (lv_at hl 1 rfl) ?_
  refine lv_iload hx hb dL_law_250 (lv_at hl 0 rfl) ?_
  refine lv_iconst (v := 1) hx hb dL_law_252 (by decide) ?_
  refine lv_iadd hx hb dL_law_253 ?_
  refine tpi (x' := nI (i + 1)) (by rw [show (1 : Int32) = nI 1 from rfl, nI_add]) ?_
  refine va_sld hx hb hXs hbl hbA hS (vp_in_nI (n := i + 1) (N := Ln) (by omega) (by omega)) dL_law_254 ?_
  refine tpi (x' := xs (i + 1)) (congrArg xs (nI_clamp (by omega))) ?_
  refine lv_aload_n hx hb dL_law_255 rfl (lv_at hl 1 rfl) ?_
  refine lv_iload hx hb dL_law_256 (lv_at hl 0 rfl) ?_
  refine lv_iconst (v := 2) hx hb dL_law_258 (by decide) ?_
  refine lv_iadd hx hb dL_law_259 ?_
  refine tpi (x' := nI (i + 2)) (by rw [show (2 : Int32) = nI 2 from rfl, nI_add]) ?_
  refine va_sld hx hb hXs hbl hbA hS (vp_in_nI (n := i + 2) (N := Ln) (by omega) (by omega)) dL_law_260 ?_
  refine tpi (x' := xs (i + 2)) (congrArg xs (nI_clamp (by omega))) ?_
  refine lv_aload_n hx hb dL_law_261 rfl (lv_at hl 1 rfl) ?_
  refine lv_iload hx hb dL_law_262 (lv_at hl 0 rfl) ?_
  refine lv_iconst (v := 3) hx hb dL_law_264 (by decide) ?_
  refine lv_iadd hx hb dL_law_265 ?_
  refine tpi (x' := nI (i + 3)) (by rw [show (3 : Int32) = nI 3 from rfl, nI_add]) ?_
  refine va_sld hx hb hXs hbl hbA hS (vp_in_nI (n := i + 3) (N := Ln) (by omega) (by omega)) dL_law_266 ?_
  refine tpi (x' := xs (i + 3)) (congrArg xs (nI_clamp (by omega))) ?_
  refine lv_aload_n hx hb dL_law_267 rfl (lv_at hl 4 rfl) ?_
  refine cw_i (wr := [((g 0), oM g my.th cy.mo cy.co cy.le), ((g 4), iA cI (my.K)), ((g 5), iA cI (my.Ah)), ((g 6), iA cI (my.Ot)), ((g 7), iA cI (my.Qm)), ((g 8), iA cI (my.Op)), ((g 9), iA cI (my.Lm)), ((g 10), iA cI (my.Hm)), ((g 11), iA cI (my.Mm)), ((g 12), iA cI (my.Rw)), ((g 13), iA cI (my.St))]) (vx_runSW (As := [.ref h, .int (xs (i + 1)), .int (xs (i + 2)), .int (xs (i + 3)), .ref q9]) (rest := []) FX (c_L_build l G cI cL hst h q9 a t cy dy o k (xs (i + 1)) (xs (i + 2)) (xs (i + 3)) hgd _) (vx_cwSW 5 hts gL_law_L_build rfl rfl rfl (by decide +kernel) ⟨Nat.le_of_ble_eq_true rfl, Nat.le_of_ble_eq_true rfl⟩) (wrSX hK hKL hP hD hN hE hX hNC hZ hS hA [0, 1, 2, 3, 4, 5, 6, 7, 8, 9, 10, 11, 12, 13, 14, 15, 16, 17, 18, 19, 20, 21, 22, 23] (by decide) rfl rfl) rfl rfl hl.1 rfl (lv_room (Nat.le_of_ble_eq_true rfl)) dL_law_268 ⟨hzc0, hzs0⟩) hS hP hD hA [0, 1, 2, 3, 4, 5, 6, 7, 8, 9, 10, 11, 12, 13, 14, 15, 16, 17, 18, 19, 20, 21, 22, 23] [24, 25, 26, 27, 28, 29, 30, 31, 32, 33, 34] rfl rfl (by decide) (by decide) (fun r9 u H locs hw hP hD hS => ?_)
  obtain ⟨cy2, dy2, o2⟩ := u
  obtain ⟨hr9, hgd2, ⟨hmo, hco, hle⟩, hv⟩ := hw
  have hP := hP.sub (ws' := [(h, oX a t), ((a 0), oC a (cy2.mo) (cy2.co) (cy2.le)), ((a 3), iA cI (cy2.K)), ((a 4), iA cI (cy2.Q)), ((a 5), iA cI (cy2.L)), ((a 6), iA cI (cy2.H)), ((a 7), iA cI (cy2.M)), ((a 8), iA cI (cy2.B)), ((a 9), iA cI (cy2.C)), ((a 10), iA cI (cy2.D)), ((a 11), iA cI (cy2.F)), ((a 12), iA cI (cy2.W)), ((t 0), oC t (dy2.mo) (dy2.co) (dy2.le)), ((t 3), iA cI (dy2.K)), ((t 4), iA cI (dy2.Q)), ((t 5), iA cI (dy2.L)), ((t 6), iA cI (dy2.H)), ((t 7), iA cI (dy2.M)), ((t 8), iA cI (dy2.B)), ((t 9), iA cI (dy2.C)), ((t 10), iA cI (dy2.D)), ((t 11), iA cI (dy2.F)), ((t 12), iA cI (dy2.W)), (q9, lA cL o2), ((g 0), oM g my.th cy.mo cy.co cy.le), ((g 4), iA cI (my.K)), ((g 5), iA cI (my.Ah)), ((g 6), iA cI (my.Ot)), ((g 7), iA cI (my.Qm)), ((g 8), iA cI (my.Op)), ((g 9), iA cI (my.Lm)), ((g 10), iA cI (my.Hm)), ((g 11), iA cI (my.Mm)), ((g 12), iA cI (my.Rw)), ((g 13), iA cI (my.St))]) [11, 12, 13, 14, 15, 16, 17, 18, 19, 20, 21, 22, 23, 24, 25, 26, 27, 28, 29, 30, 31, 32, 33, 34, 0, 1, 2, 3, 4, 5, 6, 7, 8, 9, 10] rfl
  have hD := hD.sub (ws' := [(h, oX a t), ((a 0), oC a (cy2.mo) (cy2.co) (cy2.le)), ((a 3), iA cI (cy2.K)), ((a 4), iA cI (cy2.Q)), ((a 5), iA cI (cy2.L)), ((a 6), iA cI (cy2.H)), ((a 7), iA cI (cy2.M)), ((a 8), iA cI (cy2.B)), ((a 9), iA cI (cy2.C)), ((a 10), iA cI (cy2.D)), ((a 11), iA cI (cy2.F)), ((a 12), iA cI (cy2.W)), ((t 0), oC t (dy2.mo) (dy2.co) (dy2.le)), ((t 3), iA cI (dy2.K)), ((t 4), iA cI (dy2.Q)), ((t 5), iA cI (dy2.L)), ((t 6), iA cI (dy2.H)), ((t 7), iA cI (dy2.M)), ((t 8), iA cI (dy2.B)), ((t 9), iA cI (dy2.C)), ((t 10), iA cI (dy2.D)), ((t 11), iA cI (dy2.F)), ((t 12), iA cI (dy2.W)), (q9, lA cL o2), ((g 0), oM g my.th cy.mo cy.co cy.le), ((g 4), iA cI (my.K)), ((g 5), iA cI (my.Ah)), ((g 6), iA cI (my.Ot)), ((g 7), iA cI (my.Qm)), ((g 8), iA cI (my.Op)), ((g 9), iA cI (my.Lm)), ((g 10), iA cI (my.Hm)), ((g 11), iA cI (my.Mm)), ((g 12), iA cI (my.Rw)), ((g 13), iA cI (my.St))]) [11, 12, 13, 14, 15, 16, 17, 18, 19, 20, 21, 22, 23, 24, 25, 26, 27, 28, 29, 30, 31, 32, 33, 34, 0, 1, 2, 3, 4, 5, 6, 7, 8, 9, 10] (by decide) rfl
  have hmo : cy2.mo = cy.mo := hmo
  have hco : cy2.co = (ncO (cdBuild k cy.co (xs (i + 1)) (xs (i + 2)) (xs (i + 3))) cy.co (cst (xs (i + 3)))) := hco
  have hle : cy2.le = cy.le := hle
  have hv : (cdBuild k cy.co (xs (i + 1)) (xs (i + 2)) (xs (i + 3))) = 0 → o2 (0 : Int32).toNatClampNeg = _ := hv
  refine lv_istore (lv' := [(5, .int r9), (4, .int (nI i)), (0, .ref b), (1, .ref h), (2, .ref (g 0)), (3, .ref q9)]) hx hb dL_law_271 hl (by decide) rfl (fun ls hl => ?_)
  refine lv_aload_n hx hb dL_law_273 rfl (lv_at hl 4 rfl) ?_
  refine lv_aload_n hx hb dL_law_274 rfl (lv_at hl 2 rfl) ?_
  refine lv_iload hx hb dL_law_275 (lv_at hl 1 rfl) ?_
  refine lv_iconst (v := 1) hx hb dL_law_277 (by decide) ?_
  refine lv_iadd hx hb dL_law_278 ?_
  refine tpi (x' := nI (i + 1)) (by rw [show (1 : Int32) = nI 1 from rfl, nI_add]) ?_
  refine va_sld hx hb hXs hbl hbA hS (vp_in_nI (n := i + 1) (N := Ln) (by omega) (by omega)) dL_law_279 ?_
  refine tpi (x' := xs (i + 1)) (congrArg xs (nI_clamp (by omega))) ?_
  refine lv_aload_n hx hb dL_law_280 rfl (lv_at hl 2 rfl) ?_
  refine lv_iload hx hb dL_law_281 (lv_at hl 1 rfl) ?_
  refine lv_iconst (v := 2) hx hb dL_law_283 (by decide) ?_
  refine lv_iadd hx hb dL_law_284 ?_
  refine tpi (x' := nI (i + 2)) (by rw [show (2 : Int32) = nI 2 from rfl, nI_add]) ?_
  refine va_sld hx hb hXs hbl hbA hS (vp_in_nI (n := i + 2) (N := Ln) (by omega) (by omega)) dL_law_285 ?_
  refine tpi (x' := xs (i + 2)) (congrArg xs (nI_clamp (by omega))) ?_
  refine lv_aload_n hx hb dL_law_286 rfl (lv_at hl 2 rfl) ?_
  refine lv_iload hx hb dL_law_287 (lv_at hl 1 rfl) ?_
  refine lv_iconst (v := 3) hx hb dL_law_289 (by decide) ?_
  refine lv_iadd hx hb dL_law_290 ?_
  refine tpi (x' := nI (i + 3)) (by rw [show (3 : Int32) = nI 3 from rfl, nI_add]) ?_
  refine va_sld hx hb hXs hbl hbA hS (vp_in_nI (n := i + 3) (N := Ln) (by omega) (by omega)) dL_law_291 ?_
  refine tpi (x' := xs (i + 3)) (congrArg xs (nI_clamp (by omega))) ?_
  have hzc : cells + 1 + 0 ≤ room_1.cells := hzc0
  have hzs : slots + 6 + 0 ≤ room_1.slots := hzs0
  refine cw_i (wr := [(h, oX a t), ((a 0), oC a (cy2.mo) (cy2.co) (cy2.le)), ((a 3), iA cI (cy2.K)), ((a 4), iA cI (cy2.Q)), ((a 5), iA cI (cy2.L)), ((a 6), iA cI (cy2.H)), ((a 7), iA cI (cy2.M)), ((a 8), iA cI (cy2.B)), ((a 9), iA cI (cy2.C)), ((a 10), iA cI (cy2.D)), ((a 11), iA cI (cy2.F)), ((a 12), iA cI (cy2.W)), ((t 0), oC t (dy2.mo) (dy2.co) (dy2.le)), ((t 3), iA cI (dy2.K)), ((t 4), iA cI (dy2.Q)), ((t 5), iA cI (dy2.L)), ((t 6), iA cI (dy2.H)), ((t 7), iA cI (dy2.M)), ((t 8), iA cI (dy2.B)), ((t 9), iA cI (dy2.C)), ((t 10), iA cI (dy2.D)), ((t 11), iA cI (dy2.F)), ((t 12), iA cI (dy2.W)), (q9, lA cL o2)]) (va_runV (As := [.int (xs (i + 1)), .int (xs (i + 2)), .int (xs (i + 3))]) (rest := []) FX (c_X2_build l G cI g my.th cy.mo cy.co cy.le my.K my.Ah my.Ot my.Qm my.Op my.Lm my.Hm my.Mm my.Rw my.St k (xs (i + 1)) (xs (i + 2)) (xs (i + 3)) hmk _) (cwV 3 hts gL_law_X2_build rfl rfl rfl (by decide +kernel) ⟨Nat.le_of_ble_eq_true rfl, Nat.le_of_ble_eq_true rfl⟩) (wrVB hBL hS hA hK hP hD hN [24, 25, 26, 27, 28, 29, 30, 31, 32, 33, 34] (by decide) rfl rfl (ci := 2) (q0 := 24) rfl rfl) rfl rfl hl.1 rfl (lv_room (Nat.le_of_ble_eq_true rfl)) dL_law_292 ⟨hzc, hzs⟩) hS hP hD hA [24, 25, 26, 27, 28, 29, 30, 31, 32, 33, 34] [0, 1, 2, 3, 4, 5, 6, 7, 8, 9, 10, 11, 12, 13, 14, 15, 16, 17, 18, 19, 20, 21, 22, 23] rfl rfl (by decide) (by decide) (fun r8 u H locs hw hP hD hS => ?_)
  obtain ⟨K1, hu9⟩ : ∃ z, z = u := ⟨_, rfl⟩
  subst hu9
  have hP := hP.sub (ws' := [(h, oX a t), ((a 0), oC a (cy2.mo) (cy2.co) (cy2.le)), ((a 3), iA cI (cy2.K)), ((a 4), iA cI (cy2.Q)), ((a 5), iA cI (cy2.L)), ((a 6), iA cI (cy2.H)), ((a 7), iA cI (cy2.M)), ((a 8), iA cI (cy2.B)), ((a 9), iA cI (cy2.C)), ((a 10), iA cI (cy2.D)), ((a 11), iA cI (cy2.F)), ((a 12), iA cI (cy2.W)), ((t 0), oC t (dy2.mo) (dy2.co) (dy2.le)), ((t 3), iA cI (dy2.K)), ((t 4), iA cI (dy2.Q)), ((t 5), iA cI (dy2.L)), ((t 6), iA cI (dy2.H)), ((t 7), iA cI (dy2.M)), ((t 8), iA cI (dy2.B)), ((t 9), iA cI (dy2.C)), ((t 10), iA cI (dy2.D)), ((t 11), iA cI (dy2.F)), ((t 12), iA cI (dy2.W)), (q9, lA cL o2), ((g 0), oM g (cdBuild k cy.co (xs (i + 1)) (xs (i + 2)) (xs (i + 3))) cy.mo (ncO (cdBuild k cy.co (xs (i + 1)) (xs (i + 2)) (xs (i + 3))) cy.co (cst (xs (i + 3)))) cy.le), ((g 4), iA cI K1), ((g 5), iA cI (my.Ah)), ((g 6), iA cI (my.Ot)), ((g 7), iA cI (my.Qm)), ((g 8), iA cI (my.Op)), ((g 9), iA cI (my.Lm)), ((g 10), iA cI (my.Hm)), ((g 11), iA cI (my.Mm)), ((g 12), iA cI (my.Rw)), ((g 13), iA cI (my.St))]) [0, 1, 2, 3, 4, 5, 6, 7, 8, 9, 10, 11, 12, 13, 14, 15, 16, 17, 18, 19, 20, 21, 22, 23, 24, 25, 26, 27, 28, 29, 30, 31, 32, 33, 34] rfl
  have hD := hD.sub (ws' := [(h, oX a t), ((a 0), oC a (cy2.mo) (cy2.co) (cy2.le)), ((a 3), iA cI (cy2.K)), ((a 4), iA cI (cy2.Q)), ((a 5), iA cI (cy2.L)), ((a 6), iA cI (cy2.H)), ((a 7), iA cI (cy2.M)), ((a 8), iA cI (cy2.B)), ((a 9), iA cI (cy2.C)), ((a 10), iA cI (cy2.D)), ((a 11), iA cI (cy2.F)), ((a 12), iA cI (cy2.W)), ((t 0), oC t (dy2.mo) (dy2.co) (dy2.le)), ((t 3), iA cI (dy2.K)), ((t 4), iA cI (dy2.Q)), ((t 5), iA cI (dy2.L)), ((t 6), iA cI (dy2.H)), ((t 7), iA cI (dy2.M)), ((t 8), iA cI (dy2.B)), ((t 9), iA cI (dy2.C)), ((t 10), iA cI (dy2.D)), ((t 11), iA cI (dy2.F)), ((t 12), iA cI (dy2.W)), (q9, lA cL o2), ((g 0), oM g (cdBuild k cy.co (xs (i + 1)) (xs (i + 2)) (xs (i + 3))) cy.mo (ncO (cdBuild k cy.co (xs (i + 1)) (xs (i + 2)) (xs (i + 3))) cy.co (cst (xs (i + 3)))) cy.le), ((g 4), iA cI K1), ((g 5), iA cI (my.Ah)), ((g 6), iA cI (my.Ot)), ((g 7), iA cI (my.Qm)), ((g 8), iA cI (my.Op)), ((g 9), iA cI (my.Lm)), ((g 10), iA cI (my.Hm)), ((g 11), iA cI (my.Mm)), ((g 12), iA cI (my.Rw)), ((g 13), iA cI (my.St))]) [0, 1, 2, 3, 4, 5, 6, 7, 8, 9, 10, 11, 12, 13, 14, 15, 16, 17, 18, 19, 20, 21, 22, 23, 24, 25, 26, 27, 28, 29, 30, 31, 32, 33, 34] (by decide) rfl
  rw [← hmo] at hP hD
  rw [← hco] at hP hD
  rw [← hle] at hP hD
  have hP : va_P G vwCl [(h, oX a t), ((a 0), oC a (cy2.mo) (cy2.co) (cy2.le)), ((a 3), iA cI (cy2.K)), ((a 4), iA cI (cy2.Q)), ((a 5), iA cI (cy2.L)), ((a 6), iA cI (cy2.H)), ((a 7), iA cI (cy2.M)), ((a 8), iA cI (cy2.B)), ((a 9), iA cI (cy2.C)), ((a 10), iA cI (cy2.D)), ((a 11), iA cI (cy2.F)), ((a 12), iA cI (cy2.W)), ((t 0), oC t (dy2.mo) (dy2.co) (dy2.le)), ((t 3), iA cI (dy2.K)), ((t 4), iA cI (dy2.Q)), ((t 5), iA cI (dy2.L)), ((t 6), iA cI (dy2.H)), ((t 7), iA cI (dy2.M)), ((t 8), iA cI (dy2.B)), ((t 9), iA cI (dy2.C)), ((t 10), iA cI (dy2.D)), ((t 11), iA cI (dy2.F)), ((t 12), iA cI (dy2.W)), (q9, lA cL o2), ((g 0), oM g (cdBuild k cy.co (xs (i + 1)) (xs (i + 2)) (xs (i + 3))) cy2.mo cy2.co cy2.le), ((g 4), iA cI K1), ((g 5), iA cI (my.Ah)), ((g 6), iA cI (my.Ot)), ((g 7), iA cI (my.Qm)), ((g 8), iA cI (my.Op)), ((g 9), iA cI (my.Lm)), ((g 10), iA cI (my.Hm)), ((g 11), iA cI (my.Mm)), ((g 12), iA cI (my.Rw)), ((g 13), iA cI (my.St))] H := hP
  have hD : va_D A [(h, oX a t), ((a 0), oC a (cy2.mo) (cy2.co) (cy2.le)), ((a 3), iA cI (cy2.K)), ((a 4), iA cI (cy2.Q)), ((a 5), iA cI (cy2.L)), ((a 6), iA cI (cy2.H)), ((a 7), iA cI (cy2.M)), ((a 8), iA cI (cy2.B)), ((a 9), iA cI (cy2.C)), ((a 10), iA cI (cy2.D)), ((a 11), iA cI (cy2.F)), ((a 12), iA cI (cy2.W)), ((t 0), oC t (dy2.mo) (dy2.co) (dy2.le)), ((t 3), iA cI (dy2.K)), ((t 4), iA cI (dy2.Q)), ((t 5), iA cI (dy2.L)), ((t 6), iA cI (dy2.H)), ((t 7), iA cI (dy2.M)), ((t 8), iA cI (dy2.B)), ((t 9), iA cI (dy2.C)), ((t 10), iA cI (dy2.D)), ((t 11), iA cI (dy2.F)), ((t 12), iA cI (dy2.W)), (q9, lA cL o2), ((g 0), oM g (cdBuild k cy.co (xs (i + 1)) (xs (i + 2)) (xs (i + 3))) cy2.mo cy2.co cy2.le), ((g 4), iA cI K1), ((g 5), iA cI (my.Ah)), ((g 6), iA cI (my.Ot)), ((g 7), iA cI (my.Qm)), ((g 8), iA cI (my.Op)), ((g 9), iA cI (my.Lm)), ((g 10), iA cI (my.Hm)), ((g 11), iA cI (my.Mm)), ((g 12), iA cI (my.Rw)), ((g 13), iA cI (my.St))] := hD
  refine lv_istore (lv' := [(6, .int r8), (5, .int r9), (4, .int (nI i)), (0, .ref b), (1, .ref h), (2, .ref (g 0)), (3, .ref q9)]) hx hb dL_law_295 hl (by decide) rfl (fun ls hl => ?_)
  refine lv_aload_n hx hb dL_law_297 rfl (lv_at hl 5 rfl) ?_
  refine cr_i (va_runV (As := []) (rest := []) FX (c_X2_thrown l G cI g (cdBuild k cy.co (xs (i + 1)) (xs (i + 2)) (xs (i + 3))) cy2.mo cy2.co cy2.le) (cwV 0 hts gL_law_X2_thrown rfl rfl rfl (by decide +kernel) ⟨Nat.le_of_ble_eq_true rfl, Nat.le_of_ble_eq_true rfl⟩) (rdV hK hP hN [24] rfl (ci := 2) (q0 := 24) rfl rfl) rfl rfl hl.1 rfl (lv_room (Nat.le_of_ble_eq_true rfl)) dL_law_298 ⟨hzc, hzs⟩) hS hP (fun H locs hP hS => ?_)
  refine lv_iload hx hb dL_law_301 (lv_at hl 1 rfl) ?_
  refine lv_icmp_eq (tgt := 308) hx hb dL_law_303 (by decide) (fun _ => ?_) (fun c => absurd (hr9.symm) c)
  refine lv_iload hx hb dL_law_308 (lv_at hl 1 rfl) ?_
  refine lv_if_ne (tgt := 325) hx hb dL_law_310 (by decide) (fun cz => ?_) (fun cz => ?_)
  · skip
    refine lv_goto (tgt := 1039) hx hb dL_law_325 (by decide) ?_
    exact kk cy2 dy2 ((cdBuild k cy.co (xs (i + 1)) (xs (i + 2)) (xs (i + 3))), K1, my.Ah, my.Ot, my.Qm, my.Op, my.Lm, my.Hm, my.Mm, my.Rw, my.St) o2 (nkO (cdBuild k cy.co (xs (i + 1)) (xs (i + 2)) (xs (i + 3))) k (pAt (xs (i + 1)) (xs (i + 2))) (xs (i + 3))) _ _ _ hgd2 (hw.2) hP hD hS (lv_sub hl [2, 3, 4, 5, 6] rfl)
  · skip
    have h0 : (cdBuild k cy.co (xs (i + 1)) (xs (i + 2)) (xs (i + 3))) = 0 := hr9.symm.trans cz
    refine lv_aload_n hx hb dL_law_313 rfl (lv_at hl 6 rfl) ?_
    refine lv_iconst (v := 0) hx hb dL_law_314 (by decide) ?_
    refine va_lald hx hb hKL hP 23 0 rfl rfl vp_in01 dL_law_315 ?_
    refine lv_iload hx hb dL_law_316 (lv_at hl 0 rfl) ?_
    refine lv_i2l (v := r8.toInt64) hx hb dL_law_318 rfl ?_
    refine W.lcmp hx hb dL_law_319 ?_
    refine tpi (x' := 0) ((lg_cmp_eq _ _).mpr ((hv h0).trans (congrArg Int32.toInt64 (hw.1 h0).symm))) ?_
    refine lv_if_eq (tgt := 325) hx hb dL_law_320 (by decide) (fun _ => ?_) (fun c => absurd (rfl) c)
    refine lv_goto (tgt := 1039) hx hb dL_law_325 (by decide) ?_
    exact kk cy2 dy2 ((cdBuild k cy.co (xs (i + 1)) (xs (i + 2)) (xs (i + 3))), K1, my.Ah, my.Ot, my.Qm, my.Op, my.Lm, my.Hm, my.Mm, my.Rw, my.St) o2 (nkO (cdBuild k cy.co (xs (i + 1)) (xs (i + 2)) (xs (i + 3))) k (pAt (xs (i + 1)) (xs (i + 2))) (xs (i + 3))) _ _ _ hgd2 (hw.2) hP hD hS (lv_sub hl [2, 3, 4, 5, 6] rfl)

set_option maxHeartbeats 4000000 in
set_option maxRecDepth 100000 in
theorem law_bridge {p : Program} {l : Launch} {e : Env} {s : State} {m : MethodId} {below : List Frame} {meth : Method} {c : Code} {b Ln : Nat} {xs : Nat → Int32} {A : Nat → Prop} {cells slots : Nat} {Q : State → Prop} {G : va_G} {cI cL : ClassId} {h q9 : Nat} {a t g : Nat → Nat} {cy dy : Cy} {my : My} {o : Nat → Int64} {k : Nat → Int32} {H : Heap} {locs : List Loc} {ls : Array Slot} {i : Nat} (E0 : LwE p l s m c b Ln xs G cI cL A) (hgd : Sd cy k) (hmk : eqK my.K k) (hP : va_P G vwCl (LAW cI cL h q9 a t g cy dy my o) H) (hD : va_D A (LAW cI cL h q9 a t g cy dy my o)) (hS : va_S A s.heap H locs) (hl : lv_has ls 9 [(4, .int (nI i)), (0, .ref b), (1, .ref h), (2, .ref (g 0)), (3, .ref q9)]) (hi : i + 4 ≤ Ln) (hLn : Ln ≤ 2048) (hzc0 : cells + 1 ≤ room_1.cells) (hzs0 : slots + 6 ≤ room_1.slots)
    (kk : ∀ (cy2 dy2 : Cy) (my2 : My) (o2 : Nat → Int64) (k2 : Nat → Int32) (H2 : Heap) (locs2 : List Loc) (ls2 : Array Slot), Sd cy2 k2 → eqK my2.K k2 → va_P G vwCl (LAW cI cL h q9 a t g cy2 dy2 my2 o2) H2 → va_D A (LAW cI cL h q9 a t g cy2 dy2 my2 o2) → va_S A s.heap H2 locs2 → lv_has ls2 9 [(4, .int (nI i)), (0, .ref b), (1, .ref h), (2, .ref (g 0)), (3, .ref q9)] → W p l e room_1 s m #[Value.ref b] below meth c H2 locs2 (cells + 1) (slots + 6) Q (F0 m 1039 ls2 [])) : W p l e room_1 s m #[Value.ref b] below meth c H locs cells slots Q (F0 m 328 ls []) := by
  obtain ⟨hx, hb, hml, hown, hts, hst, hK, hKL, hN, hE, hX, hNC, hZ, hBL, hA, hXs, hbl, hbA⟩ := E0
  have hk := hgd.1
  have hS0 := hgd.2.1
  have hgt := hgd.2.2.1
  have hkd := hgd.2.2.2
  have FX : CallFix p m c cL_law 9 s #[Value.ref b] wsL_law RL := ⟨hx, hb, hml, hown, hts⟩
  have hP : va_P G vwCl [(h, oX a t), ((a 0), oC a (cy.mo) (cy.co) (cy.le)), ((a 3), iA cI (cy.K)), ((a 4), iA cI (cy.Q)), ((a 5), iA cI (cy.L)), ((a 6), iA cI (cy.H)), ((a 7), iA cI (cy.M)), ((a 8), iA cI (cy.B)), ((a 9), iA cI (cy.C)), ((a 10), iA cI (cy.D)), ((a 11), iA cI (cy.F)), ((a 12), iA cI (cy.W)), ((t 0), oC t (dy.mo) (dy.co) (dy.le)), ((t 3), iA cI (dy.K)), ((t 4), iA cI (dy.Q)), ((t 5), iA cI (dy.L)), ((t 6), iA cI (dy.H)), ((t 7), iA cI (dy.M)), ((t 8), iA cI (dy.B)), ((t 9), iA cI (dy.C)), ((t 10), iA cI (dy.D)), ((t 11), iA cI (dy.F)), ((t 12), iA cI (dy.W)), (q9, lA cL o), ((g 0), oM g my.th cy.mo cy.co cy.le), ((g 4), iA cI (my.K)), ((g 5), iA cI (my.Ah)), ((g 6), iA cI (my.Ot)), ((g 7), iA cI (my.Qm)), ((g 8), iA cI (my.Op)), ((g 9), iA cI (my.Lm)), ((g 10), iA cI (my.Hm)), ((g 11), iA cI (my.Mm)), ((g 12), iA cI (my.Rw)), ((g 13), iA cI (my.St))] H := hP
  have hD : va_D A [(h, oX a t), ((a 0), oC a (cy.mo) (cy.co) (cy.le)), ((a 3), iA cI (cy.K)), ((a 4), iA cI (cy.Q)), ((a 5), iA cI (cy.L)), ((a 6), iA cI (cy.H)), ((a 7), iA cI (cy.M)), ((a 8), iA cI (cy.B)), ((a 9), iA cI (cy.C)), ((a 10), iA cI (cy.D)), ((a 11), iA cI (cy.F)), ((a 12), iA cI (cy.W)), ((t 0), oC t (dy.mo) (dy.co) (dy.le)), ((t 3), iA cI (dy.K)), ((t 4), iA cI (dy.Q)), ((t 5), iA cI (dy.L)), ((t 6), iA cI (dy.H)), ((t 7), iA cI (dy.M)), ((t 8), iA cI (dy.B)), ((t 9), iA cI (dy.C)), ((t 10), iA cI (dy.D)), ((t 11), iA cI (dy.F)), ((t 12), iA cI (dy.W)), (q9, lA cL o), ((g 0), oM g my.th cy.mo cy.co cy.le), ((g 4), iA cI (my.K)), ((g 5), iA cI (my.Ah)), ((g 6), iA cI (my.Ot)), ((g 7), iA cI (my.Qm)), ((g 8), iA cI (my.Op)), ((g 9), iA cI (my.Lm)), ((g 10), iA cI (my.Hm)), ((g 11), iA cI (my.Mm)), ((g 12), iA cI (my.Rw)), ((g 13), iA cI (my.St))] := hD
  refine lv_aload_n hx hb dL_law_328 rfl (lv_at hl 2 rfl) ?_
  refine lv_aload_n hx hb dL_law_329 rfl (lv_at hl 1 rfl) ?_
  refine lv_iload hx hb dL_law_330 (lv_at hl 0 rfl) ?_
  refine lv_iconst (v := 1) hx hb dL_law_332 (by decide) ?_
  refine lv_iadd hx hb dL_law_333 ?_
  refine tpi (x' := nI (i + 1)) (by rw [show (1 : Int32) = nI 1 from rfl, nI_add]) ?_
  refine va_sld hx hb hXs hbl hbA hS (vp_in_nI (n := i + 1) (N := Ln) (by omega) (by omega)) dL_law_334 ?_
  refine tpi (x' := xs (i + 1)) (congrArg xs (nI_clamp (by omega))) ?_
  refine lv_aload_n hx hb dL_law_335 rfl (lv_at hl 1 rfl) ?_
  refine lv_iload hx hb dL_law_336 (lv_at hl 0 rfl) ?_
  refine lv_iconst (v := 2) hx hb dL_law_338 (by decide) ?_
  refine lv_iadd hx hb dL_law_339 ?_
  refine tpi (x' := nI (i + 2)) (by rw [show (2 : Int32) = nI 2 from rfl, nI_add]) ?_
  refine va_sld hx hb hXs hbl hbA hS (vp_in_nI (n := i + 2) (N := Ln) (by omega) (by omega)) dL_law_340 ?_
  refine tpi (x' := xs (i + 2)) (congrArg xs (nI_clamp (by omega))) ?_
  refine lv_aload_n hx hb dL_law_341 rfl (lv_at hl 4 rfl) ?_
  refine cw_i (wr := [((g 0), oM g my.th cy.mo cy.co cy.le), ((g 4), iA cI (my.K)), ((g 5), iA cI (my.Ah)), ((g 6), iA cI (my.Ot)), ((g 7), iA cI (my.Qm)), ((g 8), iA cI (my.Op)), ((g 9), iA cI (my.Lm)), ((g 10), iA cI (my.Hm)), ((g 11), iA cI (my.Mm)), ((g 12), iA cI (my.Rw)), ((g 13), iA cI (my.St))]) (vx_runSW (As := [.ref h, .int (xs (i + 1)), .int (xs (i + 2)), .ref q9]) (rest := []) FX (c_L_bridge l G cI cL hst h q9 a t cy dy o k (xs (i + 1)) (xs (i + 2)) hgd _) (vx_cwSW 4 hts gL_law_L_bridge rfl rfl rfl (by decide +kernel) ⟨Nat.le_of_ble_eq_true rfl, Nat.le_of_ble_eq_true rfl⟩) (wrSX hK hKL hP hD hN hE hX hNC hZ hS hA [0, 1, 2, 3, 4, 5, 6, 7, 8, 9, 10, 11, 12, 13, 14, 15, 16, 17, 18, 19, 20, 21, 22, 23] (by decide) rfl rfl) rfl rfl hl.1 rfl (lv_room (Nat.le_of_ble_eq_true rfl)) dL_law_342 ⟨hzc0, hzs0⟩) hS hP hD hA [0, 1, 2, 3, 4, 5, 6, 7, 8, 9, 10, 11, 12, 13, 14, 15, 16, 17, 18, 19, 20, 21, 22, 23] [24, 25, 26, 27, 28, 29, 30, 31, 32, 33, 34] rfl rfl (by decide) (by decide) (fun r9 u H locs hw hP hD hS => ?_)
  obtain ⟨cy2, dy2, o2⟩ := u
  obtain ⟨hr9, hgd2, ⟨hmo, hco, hle⟩, hv⟩ := hw
  have hP := hP.sub (ws' := [(h, oX a t), ((a 0), oC a (cy2.mo) (cy2.co) (cy2.le)), ((a 3), iA cI (cy2.K)), ((a 4), iA cI (cy2.Q)), ((a 5), iA cI (cy2.L)), ((a 6), iA cI (cy2.H)), ((a 7), iA cI (cy2.M)), ((a 8), iA cI (cy2.B)), ((a 9), iA cI (cy2.C)), ((a 10), iA cI (cy2.D)), ((a 11), iA cI (cy2.F)), ((a 12), iA cI (cy2.W)), ((t 0), oC t (dy2.mo) (dy2.co) (dy2.le)), ((t 3), iA cI (dy2.K)), ((t 4), iA cI (dy2.Q)), ((t 5), iA cI (dy2.L)), ((t 6), iA cI (dy2.H)), ((t 7), iA cI (dy2.M)), ((t 8), iA cI (dy2.B)), ((t 9), iA cI (dy2.C)), ((t 10), iA cI (dy2.D)), ((t 11), iA cI (dy2.F)), ((t 12), iA cI (dy2.W)), (q9, lA cL o2), ((g 0), oM g my.th cy.mo cy.co cy.le), ((g 4), iA cI (my.K)), ((g 5), iA cI (my.Ah)), ((g 6), iA cI (my.Ot)), ((g 7), iA cI (my.Qm)), ((g 8), iA cI (my.Op)), ((g 9), iA cI (my.Lm)), ((g 10), iA cI (my.Hm)), ((g 11), iA cI (my.Mm)), ((g 12), iA cI (my.Rw)), ((g 13), iA cI (my.St))]) [11, 12, 13, 14, 15, 16, 17, 18, 19, 20, 21, 22, 23, 24, 25, 26, 27, 28, 29, 30, 31, 32, 33, 34, 0, 1, 2, 3, 4, 5, 6, 7, 8, 9, 10] rfl
  have hD := hD.sub (ws' := [(h, oX a t), ((a 0), oC a (cy2.mo) (cy2.co) (cy2.le)), ((a 3), iA cI (cy2.K)), ((a 4), iA cI (cy2.Q)), ((a 5), iA cI (cy2.L)), ((a 6), iA cI (cy2.H)), ((a 7), iA cI (cy2.M)), ((a 8), iA cI (cy2.B)), ((a 9), iA cI (cy2.C)), ((a 10), iA cI (cy2.D)), ((a 11), iA cI (cy2.F)), ((a 12), iA cI (cy2.W)), ((t 0), oC t (dy2.mo) (dy2.co) (dy2.le)), ((t 3), iA cI (dy2.K)), ((t 4), iA cI (dy2.Q)), ((t 5), iA cI (dy2.L)), ((t 6), iA cI (dy2.H)), ((t 7), iA cI (dy2.M)), ((t 8), iA cI (dy2.B)), ((t 9), iA cI (dy2.C)), ((t 10), iA cI (dy2.D)), ((t 11), iA cI (dy2.F)), ((t 12), iA cI (dy2.W)), (q9, lA cL o2), ((g 0), oM g my.th cy.mo cy.co cy.le), ((g 4), iA cI (my.K)), ((g 5), iA cI (my.Ah)), ((g 6), iA cI (my.Ot)), ((g 7), iA cI (my.Qm)), ((g 8), iA cI (my.Op)), ((g 9), iA cI (my.Lm)), ((g 10), iA cI (my.Hm)), ((g 11), iA cI (my.Mm)), ((g 12), iA cI (my.Rw)), ((g 13), iA cI (my.St))]) [11, 12, 13, 14, 15, 16, 17, 18, 19, 20, 21, 22, 23, 24, 25, 26, 27, 28, 29, 30, 31, 32, 33, 34, 0, 1, 2, 3, 4, 5, 6, 7, 8, 9, 10] (by decide) rfl
  have hmo : cy2.mo = cy.mo := hmo
  have hco : cy2.co = (ncO (cdBridge k cy.co (xs (i + 1)) (xs (i + 2))) cy.co 7) := hco
  have hle : cy2.le = cy.le := hle
  have hv : (cdBridge k cy.co (xs (i + 1)) (xs (i + 2))) = 0 → o2 (0 : Int32).toNatClampNeg = _ := hv
  refine lv_istore (lv' := [(5, .int r9), (4, .int (nI i)), (0, .ref b), (1, .ref h), (2, .ref (g 0)), (3, .ref q9)]) hx hb dL_law_345 hl (by decide) rfl (fun ls hl => ?_)
  refine lv_aload_n hx hb dL_law_347 rfl (lv_at hl 4 rfl) ?_
  refine lv_aload_n hx hb dL_law_348 rfl (lv_at hl 2 rfl) ?_
  refine lv_iload hx hb dL_law_349 (lv_at hl 1 rfl) ?_
  refine lv_iconst (v := 1) hx hb dL_law_351 (by decide) ?_
  refine lv_iadd hx hb dL_law_352 ?_
  refine tpi (x' := nI (i + 1)) (by rw [show (1 : Int32) = nI 1 from rfl, nI_add]) ?_
  refine va_sld hx hb hXs hbl hbA hS (vp_in_nI (n := i + 1) (N := Ln) (by omega) (by omega)) dL_law_353 ?_
  refine tpi (x' := xs (i + 1)) (congrArg xs (nI_clamp (by omega))) ?_
  refine lv_aload_n hx hb dL_law_354 rfl (lv_at hl 2 rfl) ?_
  refine lv_iload hx hb dL_law_355 (lv_at hl 1 rfl) ?_
  refine lv_iconst (v := 2) hx hb dL_law_357 (by decide) ?_
  refine lv_iadd hx hb dL_law_358 ?_
  refine tpi (x' := nI (i + 2)) (by rw [show (2 : Int32) = nI 2 from rfl, nI_add]) ?_
  refine va_sld hx hb hXs hbl hbA hS (vp_in_nI (n := i + 2) (N := Ln) (by omega) (by omega)) dL_law_359 ?_
  refine tpi (x' := xs (i + 2)) (congrArg xs (nI_clamp (by omega))) ?_
  have hzc : cells + 1 + 0 ≤ room_1.cells := hzc0
  have hzs : slots + 6 + 0 ≤ room_1.slots := hzs0
  refine cw_i (wr := [(h, oX a t), ((a 0), oC a (cy2.mo) (cy2.co) (cy2.le)), ((a 3), iA cI (cy2.K)), ((a 4), iA cI (cy2.Q)), ((a 5), iA cI (cy2.L)), ((a 6), iA cI (cy2.H)), ((a 7), iA cI (cy2.M)), ((a 8), iA cI (cy2.B)), ((a 9), iA cI (cy2.C)), ((a 10), iA cI (cy2.D)), ((a 11), iA cI (cy2.F)), ((a 12), iA cI (cy2.W)), ((t 0), oC t (dy2.mo) (dy2.co) (dy2.le)), ((t 3), iA cI (dy2.K)), ((t 4), iA cI (dy2.Q)), ((t 5), iA cI (dy2.L)), ((t 6), iA cI (dy2.H)), ((t 7), iA cI (dy2.M)), ((t 8), iA cI (dy2.B)), ((t 9), iA cI (dy2.C)), ((t 10), iA cI (dy2.D)), ((t 11), iA cI (dy2.F)), ((t 12), iA cI (dy2.W)), (q9, lA cL o2)]) (va_runV (As := [.int (xs (i + 1)), .int (xs (i + 2))]) (rest := []) FX (c_X2_bridge l G cI g my.th cy.mo cy.co cy.le my.K my.Ah my.Ot my.Qm my.Op my.Lm my.Hm my.Mm my.Rw my.St k (xs (i + 1)) (xs (i + 2)) hmk hkd _) (cwV 2 hts gL_law_X2_bridge rfl rfl rfl (by decide +kernel) ⟨Nat.le_of_ble_eq_true rfl, Nat.le_of_ble_eq_true rfl⟩) (wrVB hBL hS hA hK hP hD hN [24, 25, 26, 27, 28, 29, 30, 31, 32, 33, 34] (by decide) rfl rfl (ci := 2) (q0 := 24) rfl rfl) rfl rfl hl.1 rfl (lv_room (Nat.le_of_ble_eq_true rfl)) dL_law_360 ⟨hzc, hzs⟩) hS hP hD hA [24, 25, 26, 27, 28, 29, 30, 31, 32, 33, 34] [0, 1, 2, 3, 4, 5, 6, 7, 8, 9, 10, 11, 12, 13, 14, 15, 16, 17, 18, 19, 20, 21, 22, 23] rfl rfl (by decide) (by decide) (fun r8 u H locs hw hP hD hS => ?_)
  obtain ⟨K1, Rw1, St1⟩ := u
  have hP := hP.sub (ws' := [(h, oX a t), ((a 0), oC a (cy2.mo) (cy2.co) (cy2.le)), ((a 3), iA cI (cy2.K)), ((a 4), iA cI (cy2.Q)), ((a 5), iA cI (cy2.L)), ((a 6), iA cI (cy2.H)), ((a 7), iA cI (cy2.M)), ((a 8), iA cI (cy2.B)), ((a 9), iA cI (cy2.C)), ((a 10), iA cI (cy2.D)), ((a 11), iA cI (cy2.F)), ((a 12), iA cI (cy2.W)), ((t 0), oC t (dy2.mo) (dy2.co) (dy2.le)), ((t 3), iA cI (dy2.K)), ((t 4), iA cI (dy2.Q)), ((t 5), iA cI (dy2.L)), ((t 6), iA cI (dy2.H)), ((t 7), iA cI (dy2.M)), ((t 8), iA cI (dy2.B)), ((t 9), iA cI (dy2.C)), ((t 10), iA cI (dy2.D)), ((t 11), iA cI (dy2.F)), ((t 12), iA cI (dy2.W)), (q9, lA cL o2), ((g 0), oM g (cdBridge k cy.co (xs (i + 1)) (xs (i + 2))) cy.mo (ncO (cdBridge k cy.co (xs (i + 1)) (xs (i + 2))) cy.co 7) cy.le), ((g 4), iA cI K1), ((g 5), iA cI (my.Ah)), ((g 6), iA cI (my.Ot)), ((g 7), iA cI (my.Qm)), ((g 8), iA cI (my.Op)), ((g 9), iA cI (my.Lm)), ((g 10), iA cI (my.Hm)), ((g 11), iA cI (my.Mm)), ((g 12), iA cI Rw1), ((g 13), iA cI St1)]) [0, 1, 2, 3, 4, 5, 6, 7, 8, 9, 10, 11, 12, 13, 14, 15, 16, 17, 18, 19, 20, 21, 22, 23, 24, 25, 26, 27, 28, 29, 30, 31, 32, 33, 34] rfl
  have hD := hD.sub (ws' := [(h, oX a t), ((a 0), oC a (cy2.mo) (cy2.co) (cy2.le)), ((a 3), iA cI (cy2.K)), ((a 4), iA cI (cy2.Q)), ((a 5), iA cI (cy2.L)), ((a 6), iA cI (cy2.H)), ((a 7), iA cI (cy2.M)), ((a 8), iA cI (cy2.B)), ((a 9), iA cI (cy2.C)), ((a 10), iA cI (cy2.D)), ((a 11), iA cI (cy2.F)), ((a 12), iA cI (cy2.W)), ((t 0), oC t (dy2.mo) (dy2.co) (dy2.le)), ((t 3), iA cI (dy2.K)), ((t 4), iA cI (dy2.Q)), ((t 5), iA cI (dy2.L)), ((t 6), iA cI (dy2.H)), ((t 7), iA cI (dy2.M)), ((t 8), iA cI (dy2.B)), ((t 9), iA cI (dy2.C)), ((t 10), iA cI (dy2.D)), ((t 11), iA cI (dy2.F)), ((t 12), iA cI (dy2.W)), (q9, lA cL o2), ((g 0), oM g (cdBridge k cy.co (xs (i + 1)) (xs (i + 2))) cy.mo (ncO (cdBridge k cy.co (xs (i + 1)) (xs (i + 2))) cy.co 7) cy.le), ((g 4), iA cI K1), ((g 5), iA cI (my.Ah)), ((g 6), iA cI (my.Ot)), ((g 7), iA cI (my.Qm)), ((g 8), iA cI (my.Op)), ((g 9), iA cI (my.Lm)), ((g 10), iA cI (my.Hm)), ((g 11), iA cI (my.Mm)), ((g 12), iA cI Rw1), ((g 13), iA cI St1)]) [0, 1, 2, 3, 4, 5, 6, 7, 8, 9, 10, 11, 12, 13, 14, 15, 16, 17, 18, 19, 20, 21, 22, 23, 24, 25, 26, 27, 28, 29, 30, 31, 32, 33, 34] (by decide) rfl
  rw [← hmo] at hP hD
  rw [← hco] at hP hD
  rw [← hle] at hP hD
  have hP : va_P G vwCl [(h, oX a t), ((a 0), oC a (cy2.mo) (cy2.co) (cy2.le)), ((a 3), iA cI (cy2.K)), ((a 4), iA cI (cy2.Q)), ((a 5), iA cI (cy2.L)), ((a 6), iA cI (cy2.H)), ((a 7), iA cI (cy2.M)), ((a 8), iA cI (cy2.B)), ((a 9), iA cI (cy2.C)), ((a 10), iA cI (cy2.D)), ((a 11), iA cI (cy2.F)), ((a 12), iA cI (cy2.W)), ((t 0), oC t (dy2.mo) (dy2.co) (dy2.le)), ((t 3), iA cI (dy2.K)), ((t 4), iA cI (dy2.Q)), ((t 5), iA cI (dy2.L)), ((t 6), iA cI (dy2.H)), ((t 7), iA cI (dy2.M)), ((t 8), iA cI (dy2.B)), ((t 9), iA cI (dy2.C)), ((t 10), iA cI (dy2.D)), ((t 11), iA cI (dy2.F)), ((t 12), iA cI (dy2.W)), (q9, lA cL o2), ((g 0), oM g (cdBridge k cy.co (xs (i + 1)) (xs (i + 2))) cy2.mo cy2.co cy2.le), ((g 4), iA cI K1), ((g 5), iA cI (my.Ah)), ((g 6), iA cI (my.Ot)), ((g 7), iA cI (my.Qm)), ((g 8), iA cI (my.Op)), ((g 9), iA cI (my.Lm)), ((g 10), iA cI (my.Hm)), ((g 11), iA cI (my.Mm)), ((g 12), iA cI Rw1), ((g 13), iA cI St1)] H := hP
  have hD : va_D A [(h, oX a t), ((a 0), oC a (cy2.mo) (cy2.co) (cy2.le)), ((a 3), iA cI (cy2.K)), ((a 4), iA cI (cy2.Q)), ((a 5), iA cI (cy2.L)), ((a 6), iA cI (cy2.H)), ((a 7), iA cI (cy2.M)), ((a 8), iA cI (cy2.B)), ((a 9), iA cI (cy2.C)), ((a 10), iA cI (cy2.D)), ((a 11), iA cI (cy2.F)), ((a 12), iA cI (cy2.W)), ((t 0), oC t (dy2.mo) (dy2.co) (dy2.le)), ((t 3), iA cI (dy2.K)), ((t 4), iA cI (dy2.Q)), ((t 5), iA cI (dy2.L)), ((t 6), iA cI (dy2.H)), ((t 7), iA cI (dy2.M)), ((t 8), iA cI (dy2.B)), ((t 9), iA cI (dy2.C)), ((t 10), iA cI (dy2.D)), ((t 11), iA cI (dy2.F)), ((t 12), iA cI (dy2.W)), (q9, lA cL o2), ((g 0), oM g (cdBridge k cy.co (xs (i + 1)) (xs (i + 2))) cy2.mo cy2.co cy2.le), ((g 4), iA cI K1), ((g 5), iA cI (my.Ah)), ((g 6), iA cI (my.Ot)), ((g 7), iA cI (my.Qm)), ((g 8), iA cI (my.Op)), ((g 9), iA cI (my.Lm)), ((g 10), iA cI (my.Hm)), ((g 11), iA cI (my.Mm)), ((g 12), iA cI Rw1), ((g 13), iA cI St1)] := hD
  refine lv_istore (lv' := [(6, .int r8), (5, .int r9), (4, .int (nI i)), (0, .ref b), (1, .ref h), (2, .ref (g 0)), (3, .ref q9)]) hx hb dL_law_363 hl (by decide) rfl (fun ls hl => ?_)
  refine lv_aload_n hx hb dL_law_365 rfl (lv_at hl 5 rfl) ?_
  refine cr_i (va_runV (As := []) (rest := []) FX (c_X2_thrown l G cI g (cdBridge k cy.co (xs (i + 1)) (xs (i + 2))) cy2.mo cy2.co cy2.le) (cwV 0 hts gL_law_X2_thrown rfl rfl rfl (by decide +kernel) ⟨Nat.le_of_ble_eq_true rfl, Nat.le_of_ble_eq_true rfl⟩) (rdV hK hP hN [24] rfl (ci := 2) (q0 := 24) rfl rfl) rfl rfl hl.1 rfl (lv_room (Nat.le_of_ble_eq_true rfl)) dL_law_366 ⟨hzc, hzs⟩) hS hP (fun H locs hP hS => ?_)
  refine lv_iload hx hb dL_law_369 (lv_at hl 1 rfl) ?_
  refine lv_icmp_eq (tgt := 376) hx hb dL_law_371 (by decide) (fun _ => ?_) (fun c => absurd (hr9.symm) c)
  refine lv_iload hx hb dL_law_376 (lv_at hl 1 rfl) ?_
  refine lv_if_ne (tgt := 393) hx hb dL_law_378 (by decide) (fun cz => ?_) (fun cz => ?_)
  · skip
    refine lv_goto (tgt := 1039) hx hb dL_law_393 (by decide) ?_
    exact kk cy2 dy2 ((cdBridge k cy.co (xs (i + 1)) (xs (i + 2))), K1, my.Ah, my.Ot, my.Qm, my.Op, my.Lm, my.Hm, my.Mm, Rw1, St1) o2 (nkO (cdBridge k cy.co (xs (i + 1)) (xs (i + 2))) k (pAt (xs (i + 1)) (xs (i + 2))) 6) _ _ _ hgd2 (hw.2) hP hD hS (lv_sub hl [2, 3, 4, 5, 6] rfl)
  · skip
    have h0 : (cdBridge k cy.co (xs (i + 1)) (xs (i + 2))) = 0 := hr9.symm.trans cz
    refine lv_aload_n hx hb dL_law_381 rfl (lv_at hl 6 rfl) ?_
    refine lv_iconst (v := 0) hx hb dL_law_382 (by decide) ?_
    refine va_lald hx hb hKL hP 23 0 rfl rfl vp_in01 dL_law_383 ?_
    refine lv_iload hx hb dL_law_384 (lv_at hl 0 rfl) ?_
    refine lv_i2l (v := r8.toInt64) hx hb dL_law_386 rfl ?_
    refine W.lcmp hx hb dL_law_387 ?_
    refine tpi (x' := 0) ((lg_cmp_eq _ _).mpr ((hv h0).trans (congrArg Int32.toInt64 (hw.1 h0).symm))) ?_
    refine lv_if_eq (tgt := 393) hx hb dL_law_388 (by decide) (fun _ => ?_) (fun c => absurd (rfl) c)
    refine lv_goto (tgt := 1039) hx hb dL_law_393 (by decide) ?_
    exact kk cy2 dy2 ((cdBridge k cy.co (xs (i + 1)) (xs (i + 2))), K1, my.Ah, my.Ot, my.Qm, my.Op, my.Lm, my.Hm, my.Mm, Rw1, St1) o2 (nkO (cdBridge k cy.co (xs (i + 1)) (xs (i + 2))) k (pAt (xs (i + 1)) (xs (i + 2))) 6) _ _ _ hgd2 (hw.2) hP hD hS (lv_sub hl [2, 3, 4, 5, 6] rfl)

set_option maxHeartbeats 4000000 in
set_option maxRecDepth 100000 in
theorem law_raze {p : Program} {l : Launch} {e : Env} {s : State} {m : MethodId} {below : List Frame} {meth : Method} {c : Code} {b Ln : Nat} {xs : Nat → Int32} {A : Nat → Prop} {cells slots : Nat} {Q : State → Prop} {G : va_G} {cI cL : ClassId} {h q9 : Nat} {a t g : Nat → Nat} {cy dy : Cy} {my : My} {o : Nat → Int64} {k : Nat → Int32} {H : Heap} {locs : List Loc} {ls : Array Slot} {i : Nat} (E0 : LwE p l s m c b Ln xs G cI cL A) (hgd : Sd cy k) (hmk : eqK my.K k) (hP : va_P G vwCl (LAW cI cL h q9 a t g cy dy my o) H) (hD : va_D A (LAW cI cL h q9 a t g cy dy my o)) (hS : va_S A s.heap H locs) (hl : lv_has ls 9 [(4, .int (nI i)), (0, .ref b), (1, .ref h), (2, .ref (g 0)), (3, .ref q9)]) (hi : i + 4 ≤ Ln) (hLn : Ln ≤ 2048) (hzc0 : cells + 1 ≤ room_1.cells) (hzs0 : slots + 6 ≤ room_1.slots)
    (kk : ∀ (cy2 dy2 : Cy) (my2 : My) (o2 : Nat → Int64) (k2 : Nat → Int32) (H2 : Heap) (locs2 : List Loc) (ls2 : Array Slot), Sd cy2 k2 → eqK my2.K k2 → va_P G vwCl (LAW cI cL h q9 a t g cy2 dy2 my2 o2) H2 → va_D A (LAW cI cL h q9 a t g cy2 dy2 my2 o2) → va_S A s.heap H2 locs2 → lv_has ls2 9 [(4, .int (nI i)), (0, .ref b), (1, .ref h), (2, .ref (g 0)), (3, .ref q9)] → W p l e room_1 s m #[Value.ref b] below meth c H2 locs2 (cells + 1) (slots + 6) Q (F0 m 1039 ls2 [])) : W p l e room_1 s m #[Value.ref b] below meth c H locs cells slots Q (F0 m 396 ls []) := by
  obtain ⟨hx, hb, hml, hown, hts, hst, hK, hKL, hN, hE, hX, hNC, hZ, hBL, hA, hXs, hbl, hbA⟩ := E0
  have hk := hgd.1
  have hS0 := hgd.2.1
  have hgt := hgd.2.2.1
  have hkd := hgd.2.2.2
  have FX : CallFix p m c cL_law 9 s #[Value.ref b] wsL_law RL := ⟨hx, hb, hml, hown, hts⟩
  have hP : va_P G vwCl [(h, oX a t), ((a 0), oC a (cy.mo) (cy.co) (cy.le)), ((a 3), iA cI (cy.K)), ((a 4), iA cI (cy.Q)), ((a 5), iA cI (cy.L)), ((a 6), iA cI (cy.H)), ((a 7), iA cI (cy.M)), ((a 8), iA cI (cy.B)), ((a 9), iA cI (cy.C)), ((a 10), iA cI (cy.D)), ((a 11), iA cI (cy.F)), ((a 12), iA cI (cy.W)), ((t 0), oC t (dy.mo) (dy.co) (dy.le)), ((t 3), iA cI (dy.K)), ((t 4), iA cI (dy.Q)), ((t 5), iA cI (dy.L)), ((t 6), iA cI (dy.H)), ((t 7), iA cI (dy.M)), ((t 8), iA cI (dy.B)), ((t 9), iA cI (dy.C)), ((t 10), iA cI (dy.D)), ((t 11), iA cI (dy.F)), ((t 12), iA cI (dy.W)), (q9, lA cL o), ((g 0), oM g my.th cy.mo cy.co cy.le), ((g 4), iA cI (my.K)), ((g 5), iA cI (my.Ah)), ((g 6), iA cI (my.Ot)), ((g 7), iA cI (my.Qm)), ((g 8), iA cI (my.Op)), ((g 9), iA cI (my.Lm)), ((g 10), iA cI (my.Hm)), ((g 11), iA cI (my.Mm)), ((g 12), iA cI (my.Rw)), ((g 13), iA cI (my.St))] H := hP
  have hD : va_D A [(h, oX a t), ((a 0), oC a (cy.mo) (cy.co) (cy.le)), ((a 3), iA cI (cy.K)), ((a 4), iA cI (cy.Q)), ((a 5), iA cI (cy.L)), ((a 6), iA cI (cy.H)), ((a 7), iA cI (cy.M)), ((a 8), iA cI (cy.B)), ((a 9), iA cI (cy.C)), ((a 10), iA cI (cy.D)), ((a 11), iA cI (cy.F)), ((a 12), iA cI (cy.W)), ((t 0), oC t (dy.mo) (dy.co) (dy.le)), ((t 3), iA cI (dy.K)), ((t 4), iA cI (dy.Q)), ((t 5), iA cI (dy.L)), ((t 6), iA cI (dy.H)), ((t 7), iA cI (dy.M)), ((t 8), iA cI (dy.B)), ((t 9), iA cI (dy.C)), ((t 10), iA cI (dy.D)), ((t 11), iA cI (dy.F)), ((t 12), iA cI (dy.W)), (q9, lA cL o), ((g 0), oM g my.th cy.mo cy.co cy.le), ((g 4), iA cI (my.K)), ((g 5), iA cI (my.Ah)), ((g 6), iA cI (my.Ot)), ((g 7), iA cI (my.Qm)), ((g 8), iA cI (my.Op)), ((g 9), iA cI (my.Lm)), ((g 10), iA cI (my.Hm)), ((g 11), iA cI (my.Mm)), ((g 12), iA cI (my.Rw)), ((g 13), iA cI (my.St))] := hD
  refine lv_aload_n hx hb dL_law_396 rfl (lv_at hl 2 rfl) ?_
  refine lv_aload_n hx hb dL_law_397 rfl (lv_at hl 1 rfl) ?_
  refine lv_iload hx hb dL_law_398 (lv_at hl 0 rfl) ?_
  refine lv_iconst (v := 1) hx hb dL_law_400 (by decide) ?_
  refine lv_iadd hx hb dL_law_401 ?_
  refine tpi (x' := nI (i + 1)) (by rw [show (1 : Int32) = nI 1 from rfl, nI_add]) ?_
  refine va_sld hx hb hXs hbl hbA hS (vp_in_nI (n := i + 1) (N := Ln) (by omega) (by omega)) dL_law_402 ?_
  refine tpi (x' := xs (i + 1)) (congrArg xs (nI_clamp (by omega))) ?_
  refine lv_aload_n hx hb dL_law_403 rfl (lv_at hl 1 rfl) ?_
  refine lv_iload hx hb dL_law_404 (lv_at hl 0 rfl) ?_
  refine lv_iconst (v := 2) hx hb dL_law_406 (by decide) ?_
  refine lv_iadd hx hb dL_law_407 ?_
  refine tpi (x' := nI (i + 2)) (by rw [show (2 : Int32) = nI 2 from rfl, nI_add]) ?_
  refine va_sld hx hb hXs hbl hbA hS (vp_in_nI (n := i + 2) (N := Ln) (by omega) (by omega)) dL_law_408 ?_
  refine tpi (x' := xs (i + 2)) (congrArg xs (nI_clamp (by omega))) ?_
  refine lv_aload_n hx hb dL_law_409 rfl (lv_at hl 4 rfl) ?_
  refine cw_i (wr := [((g 0), oM g my.th cy.mo cy.co cy.le), ((g 4), iA cI (my.K)), ((g 5), iA cI (my.Ah)), ((g 6), iA cI (my.Ot)), ((g 7), iA cI (my.Qm)), ((g 8), iA cI (my.Op)), ((g 9), iA cI (my.Lm)), ((g 10), iA cI (my.Hm)), ((g 11), iA cI (my.Mm)), ((g 12), iA cI (my.Rw)), ((g 13), iA cI (my.St))]) (vx_runSW (As := [.ref h, .int (xs (i + 1)), .int (xs (i + 2)), .ref q9]) (rest := []) FX (c_L_raze l G cI cL hst h q9 a t cy dy o k (xs (i + 1)) (xs (i + 2)) hgd _) (vx_cwSW 4 hts gL_law_L_raze rfl rfl rfl (by decide +kernel) ⟨Nat.le_of_ble_eq_true rfl, Nat.le_of_ble_eq_true rfl⟩) (wrSX hK hKL hP hD hN hE hX hNC hZ hS hA [0, 1, 2, 3, 4, 5, 6, 7, 8, 9, 10, 11, 12, 13, 14, 15, 16, 17, 18, 19, 20, 21, 22, 23] (by decide) rfl rfl) rfl rfl hl.1 rfl (lv_room (Nat.le_of_ble_eq_true rfl)) dL_law_410 ⟨hzc0, hzs0⟩) hS hP hD hA [0, 1, 2, 3, 4, 5, 6, 7, 8, 9, 10, 11, 12, 13, 14, 15, 16, 17, 18, 19, 20, 21, 22, 23] [24, 25, 26, 27, 28, 29, 30, 31, 32, 33, 34] rfl rfl (by decide) (by decide) (fun r9 u H locs hw hP hD hS => ?_)
  obtain ⟨cy2, dy2, o2⟩ := u
  obtain ⟨hr9, hgd2, ⟨hmo, hco, hle⟩, hv⟩ := hw
  have hP := hP.sub (ws' := [(h, oX a t), ((a 0), oC a (cy2.mo) (cy2.co) (cy2.le)), ((a 3), iA cI (cy2.K)), ((a 4), iA cI (cy2.Q)), ((a 5), iA cI (cy2.L)), ((a 6), iA cI (cy2.H)), ((a 7), iA cI (cy2.M)), ((a 8), iA cI (cy2.B)), ((a 9), iA cI (cy2.C)), ((a 10), iA cI (cy2.D)), ((a 11), iA cI (cy2.F)), ((a 12), iA cI (cy2.W)), ((t 0), oC t (dy2.mo) (dy2.co) (dy2.le)), ((t 3), iA cI (dy2.K)), ((t 4), iA cI (dy2.Q)), ((t 5), iA cI (dy2.L)), ((t 6), iA cI (dy2.H)), ((t 7), iA cI (dy2.M)), ((t 8), iA cI (dy2.B)), ((t 9), iA cI (dy2.C)), ((t 10), iA cI (dy2.D)), ((t 11), iA cI (dy2.F)), ((t 12), iA cI (dy2.W)), (q9, lA cL o2), ((g 0), oM g my.th cy.mo cy.co cy.le), ((g 4), iA cI (my.K)), ((g 5), iA cI (my.Ah)), ((g 6), iA cI (my.Ot)), ((g 7), iA cI (my.Qm)), ((g 8), iA cI (my.Op)), ((g 9), iA cI (my.Lm)), ((g 10), iA cI (my.Hm)), ((g 11), iA cI (my.Mm)), ((g 12), iA cI (my.Rw)), ((g 13), iA cI (my.St))]) [11, 12, 13, 14, 15, 16, 17, 18, 19, 20, 21, 22, 23, 24, 25, 26, 27, 28, 29, 30, 31, 32, 33, 34, 0, 1, 2, 3, 4, 5, 6, 7, 8, 9, 10] rfl
  have hD := hD.sub (ws' := [(h, oX a t), ((a 0), oC a (cy2.mo) (cy2.co) (cy2.le)), ((a 3), iA cI (cy2.K)), ((a 4), iA cI (cy2.Q)), ((a 5), iA cI (cy2.L)), ((a 6), iA cI (cy2.H)), ((a 7), iA cI (cy2.M)), ((a 8), iA cI (cy2.B)), ((a 9), iA cI (cy2.C)), ((a 10), iA cI (cy2.D)), ((a 11), iA cI (cy2.F)), ((a 12), iA cI (cy2.W)), ((t 0), oC t (dy2.mo) (dy2.co) (dy2.le)), ((t 3), iA cI (dy2.K)), ((t 4), iA cI (dy2.Q)), ((t 5), iA cI (dy2.L)), ((t 6), iA cI (dy2.H)), ((t 7), iA cI (dy2.M)), ((t 8), iA cI (dy2.B)), ((t 9), iA cI (dy2.C)), ((t 10), iA cI (dy2.D)), ((t 11), iA cI (dy2.F)), ((t 12), iA cI (dy2.W)), (q9, lA cL o2), ((g 0), oM g my.th cy.mo cy.co cy.le), ((g 4), iA cI (my.K)), ((g 5), iA cI (my.Ah)), ((g 6), iA cI (my.Ot)), ((g 7), iA cI (my.Qm)), ((g 8), iA cI (my.Op)), ((g 9), iA cI (my.Lm)), ((g 10), iA cI (my.Hm)), ((g 11), iA cI (my.Mm)), ((g 12), iA cI (my.Rw)), ((g 13), iA cI (my.St))]) [11, 12, 13, 14, 15, 16, 17, 18, 19, 20, 21, 22, 23, 24, 25, 26, 27, 28, 29, 30, 31, 32, 33, 34, 0, 1, 2, 3, 4, 5, 6, 7, 8, 9, 10] (by decide) rfl
  have hmo : cy2.mo = cy.mo := hmo
  have hco : cy2.co = cy.co := hco
  have hle : cy2.le = cy.le := hle
  have hv : (cdRaze k (xs (i + 1)) (xs (i + 2))) = 0 → o2 (0 : Int32).toNatClampNeg = _ := hv
  refine lv_istore (lv' := [(5, .int r9), (4, .int (nI i)), (0, .ref b), (1, .ref h), (2, .ref (g 0)), (3, .ref q9)]) hx hb dL_law_413 hl (by decide) rfl (fun ls hl => ?_)
  refine lv_aload_n hx hb dL_law_415 rfl (lv_at hl 4 rfl) ?_
  refine lv_aload_n hx hb dL_law_416 rfl (lv_at hl 2 rfl) ?_
  refine lv_iload hx hb dL_law_417 (lv_at hl 1 rfl) ?_
  refine lv_iconst (v := 1) hx hb dL_law_419 (by decide) ?_
  refine lv_iadd hx hb dL_law_420 ?_
  refine tpi (x' := nI (i + 1)) (by rw [show (1 : Int32) = nI 1 from rfl, nI_add]) ?_
  refine va_sld hx hb hXs hbl hbA hS (vp_in_nI (n := i + 1) (N := Ln) (by omega) (by omega)) dL_law_421 ?_
  refine tpi (x' := xs (i + 1)) (congrArg xs (nI_clamp (by omega))) ?_
  refine lv_aload_n hx hb dL_law_422 rfl (lv_at hl 2 rfl) ?_
  refine lv_iload hx hb dL_law_423 (lv_at hl 1 rfl) ?_
  refine lv_iconst (v := 2) hx hb dL_law_425 (by decide) ?_
  refine lv_iadd hx hb dL_law_426 ?_
  refine tpi (x' := nI (i + 2)) (by rw [show (2 : Int32) = nI 2 from rfl, nI_add]) ?_
  refine va_sld hx hb hXs hbl hbA hS (vp_in_nI (n := i + 2) (N := Ln) (by omega) (by omega)) dL_law_427 ?_
  refine tpi (x' := xs (i + 2)) (congrArg xs (nI_clamp (by omega))) ?_
  have hzc : cells + 1 + 0 ≤ room_1.cells := hzc0
  have hzs : slots + 6 + 0 ≤ room_1.slots := hzs0
  refine cw_i (wr := [(h, oX a t), ((a 0), oC a (cy2.mo) (cy2.co) (cy2.le)), ((a 3), iA cI (cy2.K)), ((a 4), iA cI (cy2.Q)), ((a 5), iA cI (cy2.L)), ((a 6), iA cI (cy2.H)), ((a 7), iA cI (cy2.M)), ((a 8), iA cI (cy2.B)), ((a 9), iA cI (cy2.C)), ((a 10), iA cI (cy2.D)), ((a 11), iA cI (cy2.F)), ((a 12), iA cI (cy2.W)), ((t 0), oC t (dy2.mo) (dy2.co) (dy2.le)), ((t 3), iA cI (dy2.K)), ((t 4), iA cI (dy2.Q)), ((t 5), iA cI (dy2.L)), ((t 6), iA cI (dy2.H)), ((t 7), iA cI (dy2.M)), ((t 8), iA cI (dy2.B)), ((t 9), iA cI (dy2.C)), ((t 10), iA cI (dy2.D)), ((t 11), iA cI (dy2.F)), ((t 12), iA cI (dy2.W)), (q9, lA cL o2)]) (va_runV (As := [.int (xs (i + 1)), .int (xs (i + 2))]) (rest := []) FX (c_X2_raze l G cI g my.th cy.mo cy.co cy.le my.K my.Ah my.Ot my.Qm my.Op my.Lm my.Hm my.Mm my.Rw my.St k (xs (i + 1)) (xs (i + 2)) hmk _) (cwV 2 hts gL_law_X2_raze rfl rfl rfl (by decide +kernel) ⟨Nat.le_of_ble_eq_true rfl, Nat.le_of_ble_eq_true rfl⟩) (wrV hK hP hD hN [24, 25, 26, 27, 28, 29, 30, 31, 32, 33, 34] (by decide) rfl rfl (ci := 2) (q0 := 24) rfl rfl) rfl rfl hl.1 rfl (lv_room (Nat.le_of_ble_eq_true rfl)) dL_law_428 ⟨hzc, hzs⟩) hS hP hD hA [24, 25, 26, 27, 28, 29, 30, 31, 32, 33, 34] [0, 1, 2, 3, 4, 5, 6, 7, 8, 9, 10, 11, 12, 13, 14, 15, 16, 17, 18, 19, 20, 21, 22, 23] rfl rfl (by decide) (by decide) (fun r8 u H locs hw hP hD hS => ?_)
  obtain ⟨K1, hu9⟩ : ∃ z, z = u := ⟨_, rfl⟩
  subst hu9
  have hP := hP.sub (ws' := [(h, oX a t), ((a 0), oC a (cy2.mo) (cy2.co) (cy2.le)), ((a 3), iA cI (cy2.K)), ((a 4), iA cI (cy2.Q)), ((a 5), iA cI (cy2.L)), ((a 6), iA cI (cy2.H)), ((a 7), iA cI (cy2.M)), ((a 8), iA cI (cy2.B)), ((a 9), iA cI (cy2.C)), ((a 10), iA cI (cy2.D)), ((a 11), iA cI (cy2.F)), ((a 12), iA cI (cy2.W)), ((t 0), oC t (dy2.mo) (dy2.co) (dy2.le)), ((t 3), iA cI (dy2.K)), ((t 4), iA cI (dy2.Q)), ((t 5), iA cI (dy2.L)), ((t 6), iA cI (dy2.H)), ((t 7), iA cI (dy2.M)), ((t 8), iA cI (dy2.B)), ((t 9), iA cI (dy2.C)), ((t 10), iA cI (dy2.D)), ((t 11), iA cI (dy2.F)), ((t 12), iA cI (dy2.W)), (q9, lA cL o2), ((g 0), oM g (cdRaze k (xs (i + 1)) (xs (i + 2))) cy.mo cy.co cy.le), ((g 4), iA cI K1), ((g 5), iA cI (my.Ah)), ((g 6), iA cI (my.Ot)), ((g 7), iA cI (my.Qm)), ((g 8), iA cI (my.Op)), ((g 9), iA cI (my.Lm)), ((g 10), iA cI (my.Hm)), ((g 11), iA cI (my.Mm)), ((g 12), iA cI (my.Rw)), ((g 13), iA cI (my.St))]) [0, 1, 2, 3, 4, 5, 6, 7, 8, 9, 10, 11, 12, 13, 14, 15, 16, 17, 18, 19, 20, 21, 22, 23, 24, 25, 26, 27, 28, 29, 30, 31, 32, 33, 34] rfl
  have hD := hD.sub (ws' := [(h, oX a t), ((a 0), oC a (cy2.mo) (cy2.co) (cy2.le)), ((a 3), iA cI (cy2.K)), ((a 4), iA cI (cy2.Q)), ((a 5), iA cI (cy2.L)), ((a 6), iA cI (cy2.H)), ((a 7), iA cI (cy2.M)), ((a 8), iA cI (cy2.B)), ((a 9), iA cI (cy2.C)), ((a 10), iA cI (cy2.D)), ((a 11), iA cI (cy2.F)), ((a 12), iA cI (cy2.W)), ((t 0), oC t (dy2.mo) (dy2.co) (dy2.le)), ((t 3), iA cI (dy2.K)), ((t 4), iA cI (dy2.Q)), ((t 5), iA cI (dy2.L)), ((t 6), iA cI (dy2.H)), ((t 7), iA cI (dy2.M)), ((t 8), iA cI (dy2.B)), ((t 9), iA cI (dy2.C)), ((t 10), iA cI (dy2.D)), ((t 11), iA cI (dy2.F)), ((t 12), iA cI (dy2.W)), (q9, lA cL o2), ((g 0), oM g (cdRaze k (xs (i + 1)) (xs (i + 2))) cy.mo cy.co cy.le), ((g 4), iA cI K1), ((g 5), iA cI (my.Ah)), ((g 6), iA cI (my.Ot)), ((g 7), iA cI (my.Qm)), ((g 8), iA cI (my.Op)), ((g 9), iA cI (my.Lm)), ((g 10), iA cI (my.Hm)), ((g 11), iA cI (my.Mm)), ((g 12), iA cI (my.Rw)), ((g 13), iA cI (my.St))]) [0, 1, 2, 3, 4, 5, 6, 7, 8, 9, 10, 11, 12, 13, 14, 15, 16, 17, 18, 19, 20, 21, 22, 23, 24, 25, 26, 27, 28, 29, 30, 31, 32, 33, 34] (by decide) rfl
  rw [← hmo] at hP hD
  rw [← hco] at hP hD
  rw [← hle] at hP hD
  have hP : va_P G vwCl [(h, oX a t), ((a 0), oC a (cy2.mo) (cy2.co) (cy2.le)), ((a 3), iA cI (cy2.K)), ((a 4), iA cI (cy2.Q)), ((a 5), iA cI (cy2.L)), ((a 6), iA cI (cy2.H)), ((a 7), iA cI (cy2.M)), ((a 8), iA cI (cy2.B)), ((a 9), iA cI (cy2.C)), ((a 10), iA cI (cy2.D)), ((a 11), iA cI (cy2.F)), ((a 12), iA cI (cy2.W)), ((t 0), oC t (dy2.mo) (dy2.co) (dy2.le)), ((t 3), iA cI (dy2.K)), ((t 4), iA cI (dy2.Q)), ((t 5), iA cI (dy2.L)), ((t 6), iA cI (dy2.H)), ((t 7), iA cI (dy2.M)), ((t 8), iA cI (dy2.B)), ((t 9), iA cI (dy2.C)), ((t 10), iA cI (dy2.D)), ((t 11), iA cI (dy2.F)), ((t 12), iA cI (dy2.W)), (q9, lA cL o2), ((g 0), oM g (cdRaze k (xs (i + 1)) (xs (i + 2))) cy2.mo cy2.co cy2.le), ((g 4), iA cI K1), ((g 5), iA cI (my.Ah)), ((g 6), iA cI (my.Ot)), ((g 7), iA cI (my.Qm)), ((g 8), iA cI (my.Op)), ((g 9), iA cI (my.Lm)), ((g 10), iA cI (my.Hm)), ((g 11), iA cI (my.Mm)), ((g 12), iA cI (my.Rw)), ((g 13), iA cI (my.St))] H := hP
  have hD : va_D A [(h, oX a t), ((a 0), oC a (cy2.mo) (cy2.co) (cy2.le)), ((a 3), iA cI (cy2.K)), ((a 4), iA cI (cy2.Q)), ((a 5), iA cI (cy2.L)), ((a 6), iA cI (cy2.H)), ((a 7), iA cI (cy2.M)), ((a 8), iA cI (cy2.B)), ((a 9), iA cI (cy2.C)), ((a 10), iA cI (cy2.D)), ((a 11), iA cI (cy2.F)), ((a 12), iA cI (cy2.W)), ((t 0), oC t (dy2.mo) (dy2.co) (dy2.le)), ((t 3), iA cI (dy2.K)), ((t 4), iA cI (dy2.Q)), ((t 5), iA cI (dy2.L)), ((t 6), iA cI (dy2.H)), ((t 7), iA cI (dy2.M)), ((t 8), iA cI (dy2.B)), ((t 9), iA cI (dy2.C)), ((t 10), iA cI (dy2.D)), ((t 11), iA cI (dy2.F)), ((t 12), iA cI (dy2.W)), (q9, lA cL o2), ((g 0), oM g (cdRaze k (xs (i + 1)) (xs (i + 2))) cy2.mo cy2.co cy2.le), ((g 4), iA cI K1), ((g 5), iA cI (my.Ah)), ((g 6), iA cI (my.Ot)), ((g 7), iA cI (my.Qm)), ((g 8), iA cI (my.Op)), ((g 9), iA cI (my.Lm)), ((g 10), iA cI (my.Hm)), ((g 11), iA cI (my.Mm)), ((g 12), iA cI (my.Rw)), ((g 13), iA cI (my.St))] := hD
  refine lv_istore (lv' := [(6, .int r8), (5, .int r9), (4, .int (nI i)), (0, .ref b), (1, .ref h), (2, .ref (g 0)), (3, .ref q9)]) hx hb dL_law_431 hl (by decide) rfl (fun ls hl => ?_)
  refine lv_aload_n hx hb dL_law_433 rfl (lv_at hl 5 rfl) ?_
  refine cr_i (va_runV (As := []) (rest := []) FX (c_X2_thrown l G cI g (cdRaze k (xs (i + 1)) (xs (i + 2))) cy2.mo cy2.co cy2.le) (cwV 0 hts gL_law_X2_thrown rfl rfl rfl (by decide +kernel) ⟨Nat.le_of_ble_eq_true rfl, Nat.le_of_ble_eq_true rfl⟩) (rdV hK hP hN [24] rfl (ci := 2) (q0 := 24) rfl rfl) rfl rfl hl.1 rfl (lv_room (Nat.le_of_ble_eq_true rfl)) dL_law_434 ⟨hzc, hzs⟩) hS hP (fun H locs hP hS => ?_)
  refine lv_iload hx hb dL_law_437 (lv_at hl 1 rfl) ?_
  refine lv_icmp_eq (tgt := 444) hx hb dL_law_439 (by decide) (fun _ => ?_) (fun c => absurd (hr9.symm) c)
  refine lv_iload hx hb dL_law_444 (lv_at hl 1 rfl) ?_
  refine lv_if_ne (tgt := 461) hx hb dL_law_446 (by decide) (fun cz => ?_) (fun cz => ?_)
  · skip
    refine lv_goto (tgt := 1039) hx hb dL_law_461 (by decide) ?_
    exact kk cy2 dy2 ((cdRaze k (xs (i + 1)) (xs (i + 2))), K1, my.Ah, my.Ot, my.Qm, my.Op, my.Lm, my.Hm, my.Mm, my.Rw, my.St) o2 (nkO (cdRaze k (xs (i + 1)) (xs (i + 2))) k (pAt (xs (i + 1)) (xs (i + 2))) (rzV k (xs (i + 1)) (xs (i + 2)))) _ _ _ hgd2 (hw.2) hP hD hS (lv_sub hl [2, 3, 4, 5, 6] rfl)
  · skip
    have h0 : (cdRaze k (xs (i + 1)) (xs (i + 2))) = 0 := hr9.symm.trans cz
    refine lv_aload_n hx hb dL_law_449 rfl (lv_at hl 6 rfl) ?_
    refine lv_iconst (v := 0) hx hb dL_law_450 (by decide) ?_
    refine va_lald hx hb hKL hP 23 0 rfl rfl vp_in01 dL_law_451 ?_
    refine lv_iload hx hb dL_law_452 (lv_at hl 0 rfl) ?_
    refine lv_i2l (v := r8.toInt64) hx hb dL_law_454 rfl ?_
    refine W.lcmp hx hb dL_law_455 ?_
    refine tpi (x' := 0) ((lg_cmp_eq _ _).mpr ((hv h0).trans (congrArg Int32.toInt64 (hw.1 h0).symm))) ?_
    refine lv_if_eq (tgt := 461) hx hb dL_law_456 (by decide) (fun _ => ?_) (fun c => absurd (rfl) c)
    refine lv_goto (tgt := 1039) hx hb dL_law_461 (by decide) ?_
    exact kk cy2 dy2 ((cdRaze k (xs (i + 1)) (xs (i + 2))), K1, my.Ah, my.Ot, my.Qm, my.Op, my.Lm, my.Hm, my.Mm, my.Rw, my.St) o2 (nkO (cdRaze k (xs (i + 1)) (xs (i + 2))) k (pAt (xs (i + 1)) (xs (i + 2))) (rzV k (xs (i + 1)) (xs (i + 2)))) _ _ _ hgd2 (hw.2) hP hD hS (lv_sub hl [2, 3, 4, 5, 6] rfl)

set_option maxHeartbeats 4000000 in
set_option maxRecDepth 100000 in
theorem law_lot {p : Program} {l : Launch} {e : Env} {s : State} {m : MethodId} {below : List Frame} {meth : Method} {c : Code} {b Ln : Nat} {xs : Nat → Int32} {A : Nat → Prop} {cells slots : Nat} {Q : State → Prop} {G : va_G} {cI cL : ClassId} {h q9 : Nat} {a t g : Nat → Nat} {cy dy : Cy} {my : My} {o : Nat → Int64} {k : Nat → Int32} {H : Heap} {locs : List Loc} {ls : Array Slot} {i : Nat} (E0 : LwE p l s m c b Ln xs G cI cL A) (hgd : Sd cy k) (hmk : eqK my.K k) (hP : va_P G vwCl (LAW cI cL h q9 a t g cy dy my o) H) (hD : va_D A (LAW cI cL h q9 a t g cy dy my o)) (hS : va_S A s.heap H locs) (hl : lv_has ls 9 [(4, .int (nI i)), (0, .ref b), (1, .ref h), (2, .ref (g 0)), (3, .ref q9)]) (hi : i + 4 ≤ Ln) (hLn : Ln ≤ 2048) (hzc0 : cells + 1 ≤ room_1.cells) (hzs0 : slots + 6 ≤ room_1.slots)
    (kk : ∀ (cy2 dy2 : Cy) (my2 : My) (o2 : Nat → Int64) (k2 : Nat → Int32) (H2 : Heap) (locs2 : List Loc) (ls2 : Array Slot), Sd cy2 k2 → eqK my2.K k2 → va_P G vwCl (LAW cI cL h q9 a t g cy2 dy2 my2 o2) H2 → va_D A (LAW cI cL h q9 a t g cy2 dy2 my2 o2) → va_S A s.heap H2 locs2 → lv_has ls2 9 [(4, .int (nI i)), (0, .ref b), (1, .ref h), (2, .ref (g 0)), (3, .ref q9)] → W p l e room_1 s m #[Value.ref b] below meth c H2 locs2 (cells + 1) (slots + 6) Q (F0 m 1039 ls2 [])) : W p l e room_1 s m #[Value.ref b] below meth c H locs cells slots Q (F0 m 464 ls []) := by
  obtain ⟨hx, hb, hml, hown, hts, hst, hK, hKL, hN, hE, hX, hNC, hZ, hBL, hA, hXs, hbl, hbA⟩ := E0
  have hk := hgd.1
  have hS0 := hgd.2.1
  have hgt := hgd.2.2.1
  have hkd := hgd.2.2.2
  have FX : CallFix p m c cL_law 9 s #[Value.ref b] wsL_law RL := ⟨hx, hb, hml, hown, hts⟩
  have hP : va_P G vwCl [(h, oX a t), ((a 0), oC a (cy.mo) (cy.co) (cy.le)), ((a 3), iA cI (cy.K)), ((a 4), iA cI (cy.Q)), ((a 5), iA cI (cy.L)), ((a 6), iA cI (cy.H)), ((a 7), iA cI (cy.M)), ((a 8), iA cI (cy.B)), ((a 9), iA cI (cy.C)), ((a 10), iA cI (cy.D)), ((a 11), iA cI (cy.F)), ((a 12), iA cI (cy.W)), ((t 0), oC t (dy.mo) (dy.co) (dy.le)), ((t 3), iA cI (dy.K)), ((t 4), iA cI (dy.Q)), ((t 5), iA cI (dy.L)), ((t 6), iA cI (dy.H)), ((t 7), iA cI (dy.M)), ((t 8), iA cI (dy.B)), ((t 9), iA cI (dy.C)), ((t 10), iA cI (dy.D)), ((t 11), iA cI (dy.F)), ((t 12), iA cI (dy.W)), (q9, lA cL o), ((g 0), oM g my.th cy.mo cy.co cy.le), ((g 4), iA cI (my.K)), ((g 5), iA cI (my.Ah)), ((g 6), iA cI (my.Ot)), ((g 7), iA cI (my.Qm)), ((g 8), iA cI (my.Op)), ((g 9), iA cI (my.Lm)), ((g 10), iA cI (my.Hm)), ((g 11), iA cI (my.Mm)), ((g 12), iA cI (my.Rw)), ((g 13), iA cI (my.St))] H := hP
  have hD : va_D A [(h, oX a t), ((a 0), oC a (cy.mo) (cy.co) (cy.le)), ((a 3), iA cI (cy.K)), ((a 4), iA cI (cy.Q)), ((a 5), iA cI (cy.L)), ((a 6), iA cI (cy.H)), ((a 7), iA cI (cy.M)), ((a 8), iA cI (cy.B)), ((a 9), iA cI (cy.C)), ((a 10), iA cI (cy.D)), ((a 11), iA cI (cy.F)), ((a 12), iA cI (cy.W)), ((t 0), oC t (dy.mo) (dy.co) (dy.le)), ((t 3), iA cI (dy.K)), ((t 4), iA cI (dy.Q)), ((t 5), iA cI (dy.L)), ((t 6), iA cI (dy.H)), ((t 7), iA cI (dy.M)), ((t 8), iA cI (dy.B)), ((t 9), iA cI (dy.C)), ((t 10), iA cI (dy.D)), ((t 11), iA cI (dy.F)), ((t 12), iA cI (dy.W)), (q9, lA cL o), ((g 0), oM g my.th cy.mo cy.co cy.le), ((g 4), iA cI (my.K)), ((g 5), iA cI (my.Ah)), ((g 6), iA cI (my.Ot)), ((g 7), iA cI (my.Qm)), ((g 8), iA cI (my.Op)), ((g 9), iA cI (my.Lm)), ((g 10), iA cI (my.Hm)), ((g 11), iA cI (my.Mm)), ((g 12), iA cI (my.Rw)), ((g 13), iA cI (my.St))] := hD
  refine lv_aload_n hx hb dL_law_464 rfl (lv_at hl 2 rfl) ?_
  refine lv_aload_n hx hb dL_law_465 rfl (lv_at hl 1 rfl) ?_
  refine lv_iload hx hb dL_law_466 (lv_at hl 0 rfl) ?_
  refine lv_iconst (v := 1) hx hb dL_law_468 (by decide) ?_
  refine lv_iadd hx hb dL_law_469 ?_
  refine tpi (x' := nI (i + 1)) (by rw [show (1 : Int32) = nI 1 from rfl, nI_add]) ?_
  refine va_sld hx hb hXs hbl hbA hS (vp_in_nI (n := i + 1) (N := Ln) (by omega) (by omega)) dL_law_470 ?_
  refine tpi (x' := xs (i + 1)) (congrArg xs (nI_clamp (by omega))) ?_
  refine lv_aload_n hx hb dL_law_471 rfl (lv_at hl 1 rfl) ?_
  refine lv_iload hx hb dL_law_472 (lv_at hl 0 rfl) ?_
  refine lv_iconst (v := 2) hx hb dL_law_474 (by decide) ?_
  refine lv_iadd hx hb dL_law_475 ?_
  refine tpi (x' := nI (i + 2)) (by rw [show (2 : Int32) = nI 2 from rfl, nI_add]) ?_
  refine va_sld hx hb hXs hbl hbA hS (vp_in_nI (n := i + 2) (N := Ln) (by omega) (by omega)) dL_law_476 ?_
  refine tpi (x' := xs (i + 2)) (congrArg xs (nI_clamp (by omega))) ?_
  refine lv_aload_n hx hb dL_law_477 rfl (lv_at hl 1 rfl) ?_
  refine lv_iload hx hb dL_law_478 (lv_at hl 0 rfl) ?_
  refine lv_iconst (v := 3) hx hb dL_law_480 (by decide) ?_
  refine lv_iadd hx hb dL_law_481 ?_
  refine tpi (x' := nI (i + 3)) (by rw [show (3 : Int32) = nI 3 from rfl, nI_add]) ?_
  refine va_sld hx hb hXs hbl hbA hS (vp_in_nI (n := i + 3) (N := Ln) (by omega) (by omega)) dL_law_482 ?_
  refine tpi (x' := xs (i + 3)) (congrArg xs (nI_clamp (by omega))) ?_
  refine lv_aload_n hx hb dL_law_483 rfl (lv_at hl 4 rfl) ?_
  refine cw_i (wr := [((g 0), oM g my.th cy.mo cy.co cy.le), ((g 4), iA cI (my.K)), ((g 5), iA cI (my.Ah)), ((g 6), iA cI (my.Ot)), ((g 7), iA cI (my.Qm)), ((g 8), iA cI (my.Op)), ((g 9), iA cI (my.Lm)), ((g 10), iA cI (my.Hm)), ((g 11), iA cI (my.Mm)), ((g 12), iA cI (my.Rw)), ((g 13), iA cI (my.St))]) (vx_runSW (As := [.ref h, .int (xs (i + 1)), .int (xs (i + 2)), .int (xs (i + 3)), .ref q9]) (rest := []) FX (c_L_lot l G cI cL hst h q9 a t cy dy o k (xs (i + 1)) (xs (i + 2)) (xs (i + 3)) hgd _) (vx_cwSW 5 hts gL_law_L_lot rfl rfl rfl (by decide +kernel) ⟨Nat.le_of_ble_eq_true rfl, Nat.le_of_ble_eq_true rfl⟩) (wrSX hK hKL hP hD hN hE hX hNC hZ hS hA [0, 1, 2, 3, 4, 5, 6, 7, 8, 9, 10, 11, 12, 13, 14, 15, 16, 17, 18, 19, 20, 21, 22, 23] (by decide) rfl rfl) rfl rfl hl.1 rfl (lv_room (Nat.le_of_ble_eq_true rfl)) dL_law_484 ⟨hzc0, hzs0⟩) hS hP hD hA [0, 1, 2, 3, 4, 5, 6, 7, 8, 9, 10, 11, 12, 13, 14, 15, 16, 17, 18, 19, 20, 21, 22, 23] [24, 25, 26, 27, 28, 29, 30, 31, 32, 33, 34] rfl rfl (by decide) (by decide) (fun r9 u H locs hw hP hD hS => ?_)
  obtain ⟨cy2, dy2, o2⟩ := u
  obtain ⟨hr9, hgd2, ⟨hmo, hco, hle⟩, hv⟩ := hw
  have hP := hP.sub (ws' := [(h, oX a t), ((a 0), oC a (cy2.mo) (cy2.co) (cy2.le)), ((a 3), iA cI (cy2.K)), ((a 4), iA cI (cy2.Q)), ((a 5), iA cI (cy2.L)), ((a 6), iA cI (cy2.H)), ((a 7), iA cI (cy2.M)), ((a 8), iA cI (cy2.B)), ((a 9), iA cI (cy2.C)), ((a 10), iA cI (cy2.D)), ((a 11), iA cI (cy2.F)), ((a 12), iA cI (cy2.W)), ((t 0), oC t (dy2.mo) (dy2.co) (dy2.le)), ((t 3), iA cI (dy2.K)), ((t 4), iA cI (dy2.Q)), ((t 5), iA cI (dy2.L)), ((t 6), iA cI (dy2.H)), ((t 7), iA cI (dy2.M)), ((t 8), iA cI (dy2.B)), ((t 9), iA cI (dy2.C)), ((t 10), iA cI (dy2.D)), ((t 11), iA cI (dy2.F)), ((t 12), iA cI (dy2.W)), (q9, lA cL o2), ((g 0), oM g my.th cy.mo cy.co cy.le), ((g 4), iA cI (my.K)), ((g 5), iA cI (my.Ah)), ((g 6), iA cI (my.Ot)), ((g 7), iA cI (my.Qm)), ((g 8), iA cI (my.Op)), ((g 9), iA cI (my.Lm)), ((g 10), iA cI (my.Hm)), ((g 11), iA cI (my.Mm)), ((g 12), iA cI (my.Rw)), ((g 13), iA cI (my.St))]) [11, 12, 13, 14, 15, 16, 17, 18, 19, 20, 21, 22, 23, 24, 25, 26, 27, 28, 29, 30, 31, 32, 33, 34, 0, 1, 2, 3, 4, 5, 6, 7, 8, 9, 10] rfl
  have hD := hD.sub (ws' := [(h, oX a t), ((a 0), oC a (cy2.mo) (cy2.co) (cy2.le)), ((a 3), iA cI (cy2.K)), ((a 4), iA cI (cy2.Q)), ((a 5), iA cI (cy2.L)), ((a 6), iA cI (cy2.H)), ((a 7), iA cI (cy2.M)), ((a 8), iA cI (cy2.B)), ((a 9), iA cI (cy2.C)), ((a 10), iA cI (cy2.D)), ((a 11), iA cI (cy2.F)), ((a 12), iA cI (cy2.W)), ((t 0), oC t (dy2.mo) (dy2.co) (dy2.le)), ((t 3), iA cI (dy2.K)), ((t 4), iA cI (dy2.Q)), ((t 5), iA cI (dy2.L)), ((t 6), iA cI (dy2.H)), ((t 7), iA cI (dy2.M)), ((t 8), iA cI (dy2.B)), ((t 9), iA cI (dy2.C)), ((t 10), iA cI (dy2.D)), ((t 11), iA cI (dy2.F)), ((t 12), iA cI (dy2.W)), (q9, lA cL o2), ((g 0), oM g my.th cy.mo cy.co cy.le), ((g 4), iA cI (my.K)), ((g 5), iA cI (my.Ah)), ((g 6), iA cI (my.Ot)), ((g 7), iA cI (my.Qm)), ((g 8), iA cI (my.Op)), ((g 9), iA cI (my.Lm)), ((g 10), iA cI (my.Hm)), ((g 11), iA cI (my.Mm)), ((g 12), iA cI (my.Rw)), ((g 13), iA cI (my.St))]) [11, 12, 13, 14, 15, 16, 17, 18, 19, 20, 21, 22, 23, 24, 25, 26, 27, 28, 29, 30, 31, 32, 33, 34, 0, 1, 2, 3, 4, 5, 6, 7, 8, 9, 10] (by decide) rfl
  have hmo : cy2.mo = cy.mo := hmo
  have hco : cy2.co = cy.co := hco
  have hle : cy2.le = cy.le := hle
  have hv : (cdLot (xs (i + 1)) (xs (i + 2)) (xs (i + 3))) = 0 → o2 (0 : Int32).toNatClampNeg = _ := hv
  refine lv_istore (lv' := [(5, .int r9), (4, .int (nI i)), (0, .ref b), (1, .ref h), (2, .ref (g 0)), (3, .ref q9)]) hx hb dL_law_487 hl (by decide) rfl (fun ls hl => ?_)
  refine lv_aload_n hx hb dL_law_489 rfl (lv_at hl 4 rfl) ?_
  refine lv_aload_n hx hb dL_law_490 rfl (lv_at hl 2 rfl) ?_
  refine lv_iload hx hb dL_law_491 (lv_at hl 1 rfl) ?_
  refine lv_iconst (v := 1) hx hb dL_law_493 (by decide) ?_
  refine lv_iadd hx hb dL_law_494 ?_
  refine tpi (x' := nI (i + 1)) (by rw [show (1 : Int32) = nI 1 from rfl, nI_add]) ?_
  refine va_sld hx hb hXs hbl hbA hS (vp_in_nI (n := i + 1) (N := Ln) (by omega) (by omega)) dL_law_495 ?_
  refine tpi (x' := xs (i + 1)) (congrArg xs (nI_clamp (by omega))) ?_
  refine lv_aload_n hx hb dL_law_496 rfl (lv_at hl 2 rfl) ?_
  refine lv_iload hx hb dL_law_497 (lv_at hl 1 rfl) ?_
  refine lv_iconst (v := 2) hx hb dL_law_499 (by decide) ?_
  refine lv_iadd hx hb dL_law_500 ?_
  refine tpi (x' := nI (i + 2)) (by rw [show (2 : Int32) = nI 2 from rfl, nI_add]) ?_
  refine va_sld hx hb hXs hbl hbA hS (vp_in_nI (n := i + 2) (N := Ln) (by omega) (by omega)) dL_law_501 ?_
  refine tpi (x' := xs (i + 2)) (congrArg xs (nI_clamp (by omega))) ?_
  refine lv_aload_n hx hb dL_law_502 rfl (lv_at hl 2 rfl) ?_
  refine lv_iload hx hb dL_law_503 (lv_at hl 1 rfl) ?_
  refine lv_iconst (v := 3) hx hb dL_law_505 (by decide) ?_
  refine lv_iadd hx hb dL_law_506 ?_
  refine tpi (x' := nI (i + 3)) (by rw [show (3 : Int32) = nI 3 from rfl, nI_add]) ?_
  refine va_sld hx hb hXs hbl hbA hS (vp_in_nI (n := i + 3) (N := Ln) (by omega) (by omega)) dL_law_507 ?_
  refine tpi (x' := xs (i + 3)) (congrArg xs (nI_clamp (by omega))) ?_
  have hzc : cells + 1 + 0 ≤ room_1.cells := hzc0
  have hzs : slots + 6 + 0 ≤ room_1.slots := hzs0
  refine cw_i (wr := [(h, oX a t), ((a 0), oC a (cy2.mo) (cy2.co) (cy2.le)), ((a 3), iA cI (cy2.K)), ((a 4), iA cI (cy2.Q)), ((a 5), iA cI (cy2.L)), ((a 6), iA cI (cy2.H)), ((a 7), iA cI (cy2.M)), ((a 8), iA cI (cy2.B)), ((a 9), iA cI (cy2.C)), ((a 10), iA cI (cy2.D)), ((a 11), iA cI (cy2.F)), ((a 12), iA cI (cy2.W)), ((t 0), oC t (dy2.mo) (dy2.co) (dy2.le)), ((t 3), iA cI (dy2.K)), ((t 4), iA cI (dy2.Q)), ((t 5), iA cI (dy2.L)), ((t 6), iA cI (dy2.H)), ((t 7), iA cI (dy2.M)), ((t 8), iA cI (dy2.B)), ((t 9), iA cI (dy2.C)), ((t 10), iA cI (dy2.D)), ((t 11), iA cI (dy2.F)), ((t 12), iA cI (dy2.W)), (q9, lA cL o2)]) (va_runV (As := [.int (xs (i + 1)), .int (xs (i + 2)), .int (xs (i + 3))]) (rest := []) FX (c_X2_lot l G cI g my.th cy.mo cy.co cy.le my.K my.Ah my.Ot my.Qm my.Op my.Lm my.Hm my.Mm my.Rw my.St k (xs (i + 1)) (xs (i + 2)) (xs (i + 3)) hmk hkd _) (cwV 3 hts gL_law_X2_lot rfl rfl rfl (by decide +kernel) ⟨Nat.le_of_ble_eq_true rfl, Nat.le_of_ble_eq_true rfl⟩) (wrV hK hP hD hN [24, 25, 26, 27, 28, 29, 30, 31, 32, 33, 34] (by decide) rfl rfl (ci := 2) (q0 := 24) rfl rfl) rfl rfl hl.1 rfl (lv_room (Nat.le_of_ble_eq_true rfl)) dL_law_508 ⟨hzc, hzs⟩) hS hP hD hA [24, 25, 26, 27, 28, 29, 30, 31, 32, 33, 34] [0, 1, 2, 3, 4, 5, 6, 7, 8, 9, 10, 11, 12, 13, 14, 15, 16, 17, 18, 19, 20, 21, 22, 23] rfl rfl (by decide) (by decide) (fun r8 u H locs hw hP hD hS => ?_)
  obtain ⟨Qm1, Op1, Lm1, Hm1, Mm1, Rw1, St1⟩ := u
  have hP := hP.sub (ws' := [(h, oX a t), ((a 0), oC a (cy2.mo) (cy2.co) (cy2.le)), ((a 3), iA cI (cy2.K)), ((a 4), iA cI (cy2.Q)), ((a 5), iA cI (cy2.L)), ((a 6), iA cI (cy2.H)), ((a 7), iA cI (cy2.M)), ((a 8), iA cI (cy2.B)), ((a 9), iA cI (cy2.C)), ((a 10), iA cI (cy2.D)), ((a 11), iA cI (cy2.F)), ((a 12), iA cI (cy2.W)), ((t 0), oC t (dy2.mo) (dy2.co) (dy2.le)), ((t 3), iA cI (dy2.K)), ((t 4), iA cI (dy2.Q)), ((t 5), iA cI (dy2.L)), ((t 6), iA cI (dy2.H)), ((t 7), iA cI (dy2.M)), ((t 8), iA cI (dy2.B)), ((t 9), iA cI (dy2.C)), ((t 10), iA cI (dy2.D)), ((t 11), iA cI (dy2.F)), ((t 12), iA cI (dy2.W)), (q9, lA cL o2), ((g 0), oM g (cdLot (xs (i + 1)) (xs (i + 2)) (xs (i + 3))) cy.mo cy.co cy.le), ((g 4), iA cI (my.K)), ((g 5), iA cI (my.Ah)), ((g 6), iA cI (my.Ot)), ((g 7), iA cI Qm1), ((g 8), iA cI Op1), ((g 9), iA cI Lm1), ((g 10), iA cI Hm1), ((g 11), iA cI Mm1), ((g 12), iA cI Rw1), ((g 13), iA cI St1)]) [0, 1, 2, 3, 4, 5, 6, 7, 8, 9, 10, 11, 12, 13, 14, 15, 16, 17, 18, 19, 20, 21, 22, 23, 24, 25, 26, 27, 28, 29, 30, 31, 32, 33, 34] rfl
  have hD := hD.sub (ws' := [(h, oX a t), ((a 0), oC a (cy2.mo) (cy2.co) (cy2.le)), ((a 3), iA cI (cy2.K)), ((a 4), iA cI (cy2.Q)), ((a 5), iA cI (cy2.L)), ((a 6), iA cI (cy2.H)), ((a 7), iA cI (cy2.M)), ((a 8), iA cI (cy2.B)), ((a 9), iA cI (cy2.C)), ((a 10), iA cI (cy2.D)), ((a 11), iA cI (cy2.F)), ((a 12), iA cI (cy2.W)), ((t 0), oC t (dy2.mo) (dy2.co) (dy2.le)), ((t 3), iA cI (dy2.K)), ((t 4), iA cI (dy2.Q)), ((t 5), iA cI (dy2.L)), ((t 6), iA cI (dy2.H)), ((t 7), iA cI (dy2.M)), ((t 8), iA cI (dy2.B)), ((t 9), iA cI (dy2.C)), ((t 10), iA cI (dy2.D)), ((t 11), iA cI (dy2.F)), ((t 12), iA cI (dy2.W)), (q9, lA cL o2), ((g 0), oM g (cdLot (xs (i + 1)) (xs (i + 2)) (xs (i + 3))) cy.mo cy.co cy.le), ((g 4), iA cI (my.K)), ((g 5), iA cI (my.Ah)), ((g 6), iA cI (my.Ot)), ((g 7), iA cI Qm1), ((g 8), iA cI Op1), ((g 9), iA cI Lm1), ((g 10), iA cI Hm1), ((g 11), iA cI Mm1), ((g 12), iA cI Rw1), ((g 13), iA cI St1)]) [0, 1, 2, 3, 4, 5, 6, 7, 8, 9, 10, 11, 12, 13, 14, 15, 16, 17, 18, 19, 20, 21, 22, 23, 24, 25, 26, 27, 28, 29, 30, 31, 32, 33, 34] (by decide) rfl
  rw [← hmo] at hP hD
  rw [← hco] at hP hD
  rw [← hle] at hP hD
  have hP : va_P G vwCl [(h, oX a t), ((a 0), oC a (cy2.mo) (cy2.co) (cy2.le)), ((a 3), iA cI (cy2.K)), ((a 4), iA cI (cy2.Q)), ((a 5), iA cI (cy2.L)), ((a 6), iA cI (cy2.H)), ((a 7), iA cI (cy2.M)), ((a 8), iA cI (cy2.B)), ((a 9), iA cI (cy2.C)), ((a 10), iA cI (cy2.D)), ((a 11), iA cI (cy2.F)), ((a 12), iA cI (cy2.W)), ((t 0), oC t (dy2.mo) (dy2.co) (dy2.le)), ((t 3), iA cI (dy2.K)), ((t 4), iA cI (dy2.Q)), ((t 5), iA cI (dy2.L)), ((t 6), iA cI (dy2.H)), ((t 7), iA cI (dy2.M)), ((t 8), iA cI (dy2.B)), ((t 9), iA cI (dy2.C)), ((t 10), iA cI (dy2.D)), ((t 11), iA cI (dy2.F)), ((t 12), iA cI (dy2.W)), (q9, lA cL o2), ((g 0), oM g (cdLot (xs (i + 1)) (xs (i + 2)) (xs (i + 3))) cy2.mo cy2.co cy2.le), ((g 4), iA cI (my.K)), ((g 5), iA cI (my.Ah)), ((g 6), iA cI (my.Ot)), ((g 7), iA cI Qm1), ((g 8), iA cI Op1), ((g 9), iA cI Lm1), ((g 10), iA cI Hm1), ((g 11), iA cI Mm1), ((g 12), iA cI Rw1), ((g 13), iA cI St1)] H := hP
  have hD : va_D A [(h, oX a t), ((a 0), oC a (cy2.mo) (cy2.co) (cy2.le)), ((a 3), iA cI (cy2.K)), ((a 4), iA cI (cy2.Q)), ((a 5), iA cI (cy2.L)), ((a 6), iA cI (cy2.H)), ((a 7), iA cI (cy2.M)), ((a 8), iA cI (cy2.B)), ((a 9), iA cI (cy2.C)), ((a 10), iA cI (cy2.D)), ((a 11), iA cI (cy2.F)), ((a 12), iA cI (cy2.W)), ((t 0), oC t (dy2.mo) (dy2.co) (dy2.le)), ((t 3), iA cI (dy2.K)), ((t 4), iA cI (dy2.Q)), ((t 5), iA cI (dy2.L)), ((t 6), iA cI (dy2.H)), ((t 7), iA cI (dy2.M)), ((t 8), iA cI (dy2.B)), ((t 9), iA cI (dy2.C)), ((t 10), iA cI (dy2.D)), ((t 11), iA cI (dy2.F)), ((t 12), iA cI (dy2.W)), (q9, lA cL o2), ((g 0), oM g (cdLot (xs (i + 1)) (xs (i + 2)) (xs (i + 3))) cy2.mo cy2.co cy2.le), ((g 4), iA cI (my.K)), ((g 5), iA cI (my.Ah)), ((g 6), iA cI (my.Ot)), ((g 7), iA cI Qm1), ((g 8), iA cI Op1), ((g 9), iA cI Lm1), ((g 10), iA cI Hm1), ((g 11), iA cI Mm1), ((g 12), iA cI Rw1), ((g 13), iA cI St1)] := hD
  refine lv_istore (lv' := [(6, .int r8), (5, .int r9), (4, .int (nI i)), (0, .ref b), (1, .ref h), (2, .ref (g 0)), (3, .ref q9)]) hx hb dL_law_511 hl (by decide) rfl (fun ls hl => ?_)
  refine lv_aload_n hx hb dL_law_513 rfl (lv_at hl 5 rfl) ?_
  refine cr_i (va_runV (As := []) (rest := []) FX (c_X2_thrown l G cI g (cdLot (xs (i + 1)) (xs (i + 2)) (xs (i + 3))) cy2.mo cy2.co cy2.le) (cwV 0 hts gL_law_X2_thrown rfl rfl rfl (by decide +kernel) ⟨Nat.le_of_ble_eq_true rfl, Nat.le_of_ble_eq_true rfl⟩) (rdV hK hP hN [24] rfl (ci := 2) (q0 := 24) rfl rfl) rfl rfl hl.1 rfl (lv_room (Nat.le_of_ble_eq_true rfl)) dL_law_514 ⟨hzc, hzs⟩) hS hP (fun H locs hP hS => ?_)
  refine lv_iload hx hb dL_law_517 (lv_at hl 1 rfl) ?_
  refine lv_icmp_eq (tgt := 524) hx hb dL_law_519 (by decide) (fun _ => ?_) (fun c => absurd (hr9.symm) c)
  refine lv_iload hx hb dL_law_524 (lv_at hl 1 rfl) ?_
  refine lv_if_ne (tgt := 541) hx hb dL_law_526 (by decide) (fun cz => ?_) (fun cz => ?_)
  · skip
    refine lv_goto (tgt := 1039) hx hb dL_law_541 (by decide) ?_
    exact kk cy2 dy2 ((cdLot (xs (i + 1)) (xs (i + 2)) (xs (i + 3))), my.K, my.Ah, my.Ot, Qm1, Op1, Lm1, Hm1, Mm1, Rw1, St1) o2 k _ _ _ hgd2 (hmk) hP hD hS (lv_sub hl [2, 3, 4, 5, 6] rfl)
  · skip
    have h0 : (cdLot (xs (i + 1)) (xs (i + 2)) (xs (i + 3))) = 0 := hr9.symm.trans cz
    refine lv_aload_n hx hb dL_law_529 rfl (lv_at hl 6 rfl) ?_
    refine lv_iconst (v := 0) hx hb dL_law_530 (by decide) ?_
    refine va_lald hx hb hKL hP 23 0 rfl rfl vp_in01 dL_law_531 ?_
    refine lv_iload hx hb dL_law_532 (lv_at hl 0 rfl) ?_
    refine lv_i2l (v := r8.toInt64) hx hb dL_law_534 rfl ?_
    refine W.lcmp hx hb dL_law_535 ?_
    refine tpi (x' := 0) ((lg_cmp_eq _ _).mpr ((hv h0).trans (congrArg Int32.toInt64 (hw h0).symm))) ?_
    refine lv_if_eq (tgt := 541) hx hb dL_law_536 (by decide) (fun _ => ?_) (fun c => absurd (rfl) c)
    refine lv_goto (tgt := 1039) hx hb dL_law_541 (by decide) ?_
    exact kk cy2 dy2 ((cdLot (xs (i + 1)) (xs (i + 2)) (xs (i + 3))), my.K, my.Ah, my.Ot, Qm1, Op1, Lm1, Hm1, Mm1, Rw1, St1) o2 k _ _ _ hgd2 (hmk) hP hD hS (lv_sub hl [2, 3, 4, 5, 6] rfl)

set_option maxHeartbeats 4000000 in
set_option maxRecDepth 100000 in
theorem law_count {p : Program} {l : Launch} {e : Env} {s : State} {m : MethodId} {below : List Frame} {meth : Method} {c : Code} {b Ln : Nat} {xs : Nat → Int32} {A : Nat → Prop} {cells slots : Nat} {Q : State → Prop} {G : va_G} {cI cL : ClassId} {h q9 : Nat} {a t g : Nat → Nat} {cy dy : Cy} {my : My} {o : Nat → Int64} {k : Nat → Int32} {H : Heap} {locs : List Loc} {ls : Array Slot} {i : Nat} (E0 : LwE p l s m c b Ln xs G cI cL A) (hgd : Sd cy k) (hmk : eqK my.K k) (hP : va_P G vwCl (LAW cI cL h q9 a t g cy dy my o) H) (hD : va_D A (LAW cI cL h q9 a t g cy dy my o)) (hS : va_S A s.heap H locs) (hl : lv_has ls 9 [(4, .int (nI i)), (0, .ref b), (1, .ref h), (2, .ref (g 0)), (3, .ref q9)]) (hi : i + 4 ≤ Ln) (hLn : Ln ≤ 2048) (hzc0 : cells + 1 ≤ room_1.cells) (hzs0 : slots + 6 ≤ room_1.slots)
    (kk : ∀ (cy2 dy2 : Cy) (my2 : My) (o2 : Nat → Int64) (k2 : Nat → Int32) (H2 : Heap) (locs2 : List Loc) (ls2 : Array Slot), Sd cy2 k2 → eqK my2.K k2 → va_P G vwCl (LAW cI cL h q9 a t g cy2 dy2 my2 o2) H2 → va_D A (LAW cI cL h q9 a t g cy2 dy2 my2 o2) → va_S A s.heap H2 locs2 → lv_has ls2 9 [(4, .int (nI i)), (0, .ref b), (1, .ref h), (2, .ref (g 0)), (3, .ref q9)] → W p l e room_1 s m #[Value.ref b] below meth c H2 locs2 (cells + 1) (slots + 6) Q (F0 m 1039 ls2 [])) : W p l e room_1 s m #[Value.ref b] below meth c H locs cells slots Q (F0 m 544 ls []) := by
  obtain ⟨hx, hb, hml, hown, hts, hst, hK, hKL, hN, hE, hX, hNC, hZ, hBL, hA, hXs, hbl, hbA⟩ := E0
  have hk := hgd.1
  have hS0 := hgd.2.1
  have hgt := hgd.2.2.1
  have hkd := hgd.2.2.2
  have FX : CallFix p m c cL_law 9 s #[Value.ref b] wsL_law RL := ⟨hx, hb, hml, hown, hts⟩
  have hP : va_P G vwCl [(h, oX a t), ((a 0), oC a (cy.mo) (cy.co) (cy.le)), ((a 3), iA cI (cy.K)), ((a 4), iA cI (cy.Q)), ((a 5), iA cI (cy.L)), ((a 6), iA cI (cy.H)), ((a 7), iA cI (cy.M)), ((a 8), iA cI (cy.B)), ((a 9), iA cI (cy.C)), ((a 10), iA cI (cy.D)), ((a 11), iA cI (cy.F)), ((a 12), iA cI (cy.W)), ((t 0), oC t (dy.mo) (dy.co) (dy.le)), ((t 3), iA cI (dy.K)), ((t 4), iA cI (dy.Q)), ((t 5), iA cI (dy.L)), ((t 6), iA cI (dy.H)), ((t 7), iA cI (dy.M)), ((t 8), iA cI (dy.B)), ((t 9), iA cI (dy.C)), ((t 10), iA cI (dy.D)), ((t 11), iA cI (dy.F)), ((t 12), iA cI (dy.W)), (q9, lA cL o), ((g 0), oM g my.th cy.mo cy.co cy.le), ((g 4), iA cI (my.K)), ((g 5), iA cI (my.Ah)), ((g 6), iA cI (my.Ot)), ((g 7), iA cI (my.Qm)), ((g 8), iA cI (my.Op)), ((g 9), iA cI (my.Lm)), ((g 10), iA cI (my.Hm)), ((g 11), iA cI (my.Mm)), ((g 12), iA cI (my.Rw)), ((g 13), iA cI (my.St))] H := hP
  have hD : va_D A [(h, oX a t), ((a 0), oC a (cy.mo) (cy.co) (cy.le)), ((a 3), iA cI (cy.K)), ((a 4), iA cI (cy.Q)), ((a 5), iA cI (cy.L)), ((a 6), iA cI (cy.H)), ((a 7), iA cI (cy.M)), ((a 8), iA cI (cy.B)), ((a 9), iA cI (cy.C)), ((a 10), iA cI (cy.D)), ((a 11), iA cI (cy.F)), ((a 12), iA cI (cy.W)), ((t 0), oC t (dy.mo) (dy.co) (dy.le)), ((t 3), iA cI (dy.K)), ((t 4), iA cI (dy.Q)), ((t 5), iA cI (dy.L)), ((t 6), iA cI (dy.H)), ((t 7), iA cI (dy.M)), ((t 8), iA cI (dy.B)), ((t 9), iA cI (dy.C)), ((t 10), iA cI (dy.D)), ((t 11), iA cI (dy.F)), ((t 12), iA cI (dy.W)), (q9, lA cL o), ((g 0), oM g my.th cy.mo cy.co cy.le), ((g 4), iA cI (my.K)), ((g 5), iA cI (my.Ah)), ((g 6), iA cI (my.Ot)), ((g 7), iA cI (my.Qm)), ((g 8), iA cI (my.Op)), ((g 9), iA cI (my.Lm)), ((g 10), iA cI (my.Hm)), ((g 11), iA cI (my.Mm)), ((g 12), iA cI (my.Rw)), ((g 13), iA cI (my.St))] := hD
  refine lv_aload_n hx hb dL_law_544 rfl (lv_at hl 2 rfl) ?_
  refine lv_aload_n hx hb dL_law_545 rfl (lv_at hl 1 rfl) ?_
  refine lv_iload hx hb dL_law_546 (lv_at hl 0 rfl) ?_
  refine lv_iconst (v := 1) hx hb dL_law_548 (by decide) ?_
  refine lv_iadd hx hb dL_law_549 ?_
  refine tpi (x' := nI (i + 1)) (by rw [show (1 : Int32) = nI 1 from rfl, nI_add]) ?_
  refine va_sld hx hb hXs hbl hbA hS (vp_in_nI (n := i + 1) (N := Ln) (by omega) (by omega)) dL_law_550 ?_
  refine tpi (x' := xs (i + 1)) (congrArg xs (nI_clamp (by omega))) ?_
  refine lv_aload_n hx hb dL_law_551 rfl (lv_at hl 4 rfl) ?_
  refine cw_i (wr := [((g 0), oM g my.th cy.mo cy.co cy.le), ((g 4), iA cI (my.K)), ((g 5), iA cI (my.Ah)), ((g 6), iA cI (my.Ot)), ((g 7), iA cI (my.Qm)), ((g 8), iA cI (my.Op)), ((g 9), iA cI (my.Lm)), ((g 10), iA cI (my.Hm)), ((g 11), iA cI (my.Mm)), ((g 12), iA cI (my.Rw)), ((g 13), iA cI (my.St))]) (vx_runSW (As := [.ref h, .int (xs (i + 1)), .ref q9]) (rest := []) FX (c_L_count l G cI cL hst h q9 a t cy dy o k (xs (i + 1)) hgd _) (vx_cwSW 3 hts gL_law_L_count rfl rfl rfl (by decide +kernel) ⟨Nat.le_of_ble_eq_true rfl, Nat.le_of_ble_eq_true rfl⟩) (wrSX hK hKL hP hD hN hE hX hNC hZ hS hA [0, 1, 2, 3, 4, 5, 6, 7, 8, 9, 10, 11, 12, 13, 14, 15, 16, 17, 18, 19, 20, 21, 22, 23] (by decide) rfl rfl) rfl rfl hl.1 rfl (lv_room (Nat.le_of_ble_eq_true rfl)) dL_law_552 ⟨hzc0, hzs0⟩) hS hP hD hA [0, 1, 2, 3, 4, 5, 6, 7, 8, 9, 10, 11, 12, 13, 14, 15, 16, 17, 18, 19, 20, 21, 22, 23] [24, 25, 26, 27, 28, 29, 30, 31, 32, 33, 34] rfl rfl (by decide) (by decide) (fun r9 u H locs hw hP hD hS => ?_)
  obtain ⟨cy2, dy2, o2⟩ := u
  obtain ⟨hr9, hgd2, ⟨hmo, hco, hle⟩, hv⟩ := hw
  have hP := hP.sub (ws' := [(h, oX a t), ((a 0), oC a (cy2.mo) (cy2.co) (cy2.le)), ((a 3), iA cI (cy2.K)), ((a 4), iA cI (cy2.Q)), ((a 5), iA cI (cy2.L)), ((a 6), iA cI (cy2.H)), ((a 7), iA cI (cy2.M)), ((a 8), iA cI (cy2.B)), ((a 9), iA cI (cy2.C)), ((a 10), iA cI (cy2.D)), ((a 11), iA cI (cy2.F)), ((a 12), iA cI (cy2.W)), ((t 0), oC t (dy2.mo) (dy2.co) (dy2.le)), ((t 3), iA cI (dy2.K)), ((t 4), iA cI (dy2.Q)), ((t 5), iA cI (dy2.L)), ((t 6), iA cI (dy2.H)), ((t 7), iA cI (dy2.M)), ((t 8), iA cI (dy2.B)), ((t 9), iA cI (dy2.C)), ((t 10), iA cI (dy2.D)), ((t 11), iA cI (dy2.F)), ((t 12), iA cI (dy2.W)), (q9, lA cL o2), ((g 0), oM g my.th cy.mo cy.co cy.le), ((g 4), iA cI (my.K)), ((g 5), iA cI (my.Ah)), ((g 6), iA cI (my.Ot)), ((g 7), iA cI (my.Qm)), ((g 8), iA cI (my.Op)), ((g 9), iA cI (my.Lm)), ((g 10), iA cI (my.Hm)), ((g 11), iA cI (my.Mm)), ((g 12), iA cI (my.Rw)), ((g 13), iA cI (my.St))]) [11, 12, 13, 14, 15, 16, 17, 18, 19, 20, 21, 22, 23, 24, 25, 26, 27, 28, 29, 30, 31, 32, 33, 34, 0, 1, 2, 3, 4, 5, 6, 7, 8, 9, 10] rfl
  have hD := hD.sub (ws' := [(h, oX a t), ((a 0), oC a (cy2.mo) (cy2.co) (cy2.le)), ((a 3), iA cI (cy2.K)), ((a 4), iA cI (cy2.Q)), ((a 5), iA cI (cy2.L)), ((a 6), iA cI (cy2.H)), ((a 7), iA cI (cy2.M)), ((a 8), iA cI (cy2.B)), ((a 9), iA cI (cy2.C)), ((a 10), iA cI (cy2.D)), ((a 11), iA cI (cy2.F)), ((a 12), iA cI (cy2.W)), ((t 0), oC t (dy2.mo) (dy2.co) (dy2.le)), ((t 3), iA cI (dy2.K)), ((t 4), iA cI (dy2.Q)), ((t 5), iA cI (dy2.L)), ((t 6), iA cI (dy2.H)), ((t 7), iA cI (dy2.M)), ((t 8), iA cI (dy2.B)), ((t 9), iA cI (dy2.C)), ((t 10), iA cI (dy2.D)), ((t 11), iA cI (dy2.F)), ((t 12), iA cI (dy2.W)), (q9, lA cL o2), ((g 0), oM g my.th cy.mo cy.co cy.le), ((g 4), iA cI (my.K)), ((g 5), iA cI (my.Ah)), ((g 6), iA cI (my.Ot)), ((g 7), iA cI (my.Qm)), ((g 8), iA cI (my.Op)), ((g 9), iA cI (my.Lm)), ((g 10), iA cI (my.Hm)), ((g 11), iA cI (my.Mm)), ((g 12), iA cI (my.Rw)), ((g 13), iA cI (my.St))]) [11, 12, 13, 14, 15, 16, 17, 18, 19, 20, 21, 22, 23, 24, 25, 26, 27, 28, 29, 30, 31, 32, 33, 34, 0, 1, 2, 3, 4, 5, 6, 7, 8, 9, 10] (by decide) rfl
  have hmo : cy2.mo = cy.mo := hmo
  have hco : cy2.co = cy.co := hco
  have hle : cy2.le = cy.le := hle
  have hv : (cdCount (xs (i + 1))) = 0 → o2 (0 : Int32).toNatClampNeg = _ := hv
  refine lv_istore (lv' := [(5, .int r9), (4, .int (nI i)), (0, .ref b), (1, .ref h), (2, .ref (g 0)), (3, .ref q9)]) hx hb dL_law_555 hl (by decide) rfl (fun ls hl => ?_)
  refine lv_aload_n hx hb dL_law_557 rfl (lv_at hl 4 rfl) ?_
  refine lv_aload_n hx hb dL_law_558 rfl (lv_at hl 2 rfl) ?_
  refine lv_iload hx hb dL_law_559 (lv_at hl 1 rfl) ?_
  refine lv_iconst (v := 1) hx hb dL_law_561 (by decide) ?_
  refine lv_iadd hx hb dL_law_562 ?_
  refine tpi (x' := nI (i + 1)) (by rw [show (1 : Int32) = nI 1 from rfl, nI_add]) ?_
  refine va_sld hx hb hXs hbl hbA hS (vp_in_nI (n := i + 1) (N := Ln) (by omega) (by omega)) dL_law_563 ?_
  refine tpi (x' := xs (i + 1)) (congrArg xs (nI_clamp (by omega))) ?_
  have hzc : cells + 1 + 0 ≤ room_1.cells := hzc0
  have hzs : slots + 6 + 0 ≤ room_1.slots := hzs0
  refine cw_i (wr := [(h, oX a t), ((a 0), oC a (cy2.mo) (cy2.co) (cy2.le)), ((a 3), iA cI (cy2.K)), ((a 4), iA cI (cy2.Q)), ((a 5), iA cI (cy2.L)), ((a 6), iA cI (cy2.H)), ((a 7), iA cI (cy2.M)), ((a 8), iA cI (cy2.B)), ((a 9), iA cI (cy2.C)), ((a 10), iA cI (cy2.D)), ((a 11), iA cI (cy2.F)), ((a 12), iA cI (cy2.W)), ((t 0), oC t (dy2.mo) (dy2.co) (dy2.le)), ((t 3), iA cI (dy2.K)), ((t 4), iA cI (dy2.Q)), ((t 5), iA cI (dy2.L)), ((t 6), iA cI (dy2.H)), ((t 7), iA cI (dy2.M)), ((t 8), iA cI (dy2.B)), ((t 9), iA cI (dy2.C)), ((t 10), iA cI (dy2.D)), ((t 11), iA cI (dy2.F)), ((t 12), iA cI (dy2.W)), (q9, lA cL o2)]) (va_runV (As := [.int (xs (i + 1))]) (rest := []) FX (c_X2_count l G cI g my.th cy.mo cy.co cy.le my.K my.Ah my.Ot my.Qm my.Op my.Lm my.Hm my.Mm my.Rw my.St k (xs (i + 1)) hmk hkd _) (cwV 1 hts gL_law_X2_count rfl rfl rfl (by decide +kernel) ⟨Nat.le_of_ble_eq_true rfl, Nat.le_of_ble_eq_true rfl⟩) (wrV hK hP hD hN [24, 25, 26, 27, 28, 29, 30, 31, 32, 33, 34] (by decide) rfl rfl (ci := 2) (q0 := 24) rfl rfl) rfl rfl hl.1 rfl (lv_room (Nat.le_of_ble_eq_true rfl)) dL_law_564 ⟨hzc, hzs⟩) hS hP hD hA [24, 25, 26, 27, 28, 29, 30, 31, 32, 33, 34] [0, 1, 2, 3, 4, 5, 6, 7, 8, 9, 10, 11, 12, 13, 14, 15, 16, 17, 18, 19, 20, 21, 22, 23] rfl rfl (by decide) (by decide) (fun r8 u H locs hw hP hD hS => ?_)
  obtain ⟨Qm1, Op1, Lm1, Hm1, Mm1, Rw1, St1⟩ := u
  have hP := hP.sub (ws' := [(h, oX a t), ((a 0), oC a (cy2.mo) (cy2.co) (cy2.le)), ((a 3), iA cI (cy2.K)), ((a 4), iA cI (cy2.Q)), ((a 5), iA cI (cy2.L)), ((a 6), iA cI (cy2.H)), ((a 7), iA cI (cy2.M)), ((a 8), iA cI (cy2.B)), ((a 9), iA cI (cy2.C)), ((a 10), iA cI (cy2.D)), ((a 11), iA cI (cy2.F)), ((a 12), iA cI (cy2.W)), ((t 0), oC t (dy2.mo) (dy2.co) (dy2.le)), ((t 3), iA cI (dy2.K)), ((t 4), iA cI (dy2.Q)), ((t 5), iA cI (dy2.L)), ((t 6), iA cI (dy2.H)), ((t 7), iA cI (dy2.M)), ((t 8), iA cI (dy2.B)), ((t 9), iA cI (dy2.C)), ((t 10), iA cI (dy2.D)), ((t 11), iA cI (dy2.F)), ((t 12), iA cI (dy2.W)), (q9, lA cL o2), ((g 0), oM g (cdCount (xs (i + 1))) cy.mo cy.co cy.le), ((g 4), iA cI (my.K)), ((g 5), iA cI (my.Ah)), ((g 6), iA cI (my.Ot)), ((g 7), iA cI Qm1), ((g 8), iA cI Op1), ((g 9), iA cI Lm1), ((g 10), iA cI Hm1), ((g 11), iA cI Mm1), ((g 12), iA cI Rw1), ((g 13), iA cI St1)]) [0, 1, 2, 3, 4, 5, 6, 7, 8, 9, 10, 11, 12, 13, 14, 15, 16, 17, 18, 19, 20, 21, 22, 23, 24, 25, 26, 27, 28, 29, 30, 31, 32, 33, 34] rfl
  have hD := hD.sub (ws' := [(h, oX a t), ((a 0), oC a (cy2.mo) (cy2.co) (cy2.le)), ((a 3), iA cI (cy2.K)), ((a 4), iA cI (cy2.Q)), ((a 5), iA cI (cy2.L)), ((a 6), iA cI (cy2.H)), ((a 7), iA cI (cy2.M)), ((a 8), iA cI (cy2.B)), ((a 9), iA cI (cy2.C)), ((a 10), iA cI (cy2.D)), ((a 11), iA cI (cy2.F)), ((a 12), iA cI (cy2.W)), ((t 0), oC t (dy2.mo) (dy2.co) (dy2.le)), ((t 3), iA cI (dy2.K)), ((t 4), iA cI (dy2.Q)), ((t 5), iA cI (dy2.L)), ((t 6), iA cI (dy2.H)), ((t 7), iA cI (dy2.M)), ((t 8), iA cI (dy2.B)), ((t 9), iA cI (dy2.C)), ((t 10), iA cI (dy2.D)), ((t 11), iA cI (dy2.F)), ((t 12), iA cI (dy2.W)), (q9, lA cL o2), ((g 0), oM g (cdCount (xs (i + 1))) cy.mo cy.co cy.le), ((g 4), iA cI (my.K)), ((g 5), iA cI (my.Ah)), ((g 6), iA cI (my.Ot)), ((g 7), iA cI Qm1), ((g 8), iA cI Op1), ((g 9), iA cI Lm1), ((g 10), iA cI Hm1), ((g 11), iA cI Mm1), ((g 12), iA cI Rw1), ((g 13), iA cI St1)]) [0, 1, 2, 3, 4, 5, 6, 7, 8, 9, 10, 11, 12, 13, 14, 15, 16, 17, 18, 19, 20, 21, 22, 23, 24, 25, 26, 27, 28, 29, 30, 31, 32, 33, 34] (by decide) rfl
  rw [← hmo] at hP hD
  rw [← hco] at hP hD
  rw [← hle] at hP hD
  have hP : va_P G vwCl [(h, oX a t), ((a 0), oC a (cy2.mo) (cy2.co) (cy2.le)), ((a 3), iA cI (cy2.K)), ((a 4), iA cI (cy2.Q)), ((a 5), iA cI (cy2.L)), ((a 6), iA cI (cy2.H)), ((a 7), iA cI (cy2.M)), ((a 8), iA cI (cy2.B)), ((a 9), iA cI (cy2.C)), ((a 10), iA cI (cy2.D)), ((a 11), iA cI (cy2.F)), ((a 12), iA cI (cy2.W)), ((t 0), oC t (dy2.mo) (dy2.co) (dy2.le)), ((t 3), iA cI (dy2.K)), ((t 4), iA cI (dy2.Q)), ((t 5), iA cI (dy2.L)), ((t 6), iA cI (dy2.H)), ((t 7), iA cI (dy2.M)), ((t 8), iA cI (dy2.B)), ((t 9), iA cI (dy2.C)), ((t 10), iA cI (dy2.D)), ((t 11), iA cI (dy2.F)), ((t 12), iA cI (dy2.W)), (q9, lA cL o2), ((g 0), oM g (cdCount (xs (i + 1))) cy2.mo cy2.co cy2.le), ((g 4), iA cI (my.K)), ((g 5), iA cI (my.Ah)), ((g 6), iA cI (my.Ot)), ((g 7), iA cI Qm1), ((g 8), iA cI Op1), ((g 9), iA cI Lm1), ((g 10), iA cI Hm1), ((g 11), iA cI Mm1), ((g 12), iA cI Rw1), ((g 13), iA cI St1)] H := hP
  have hD : va_D A [(h, oX a t), ((a 0), oC a (cy2.mo) (cy2.co) (cy2.le)), ((a 3), iA cI (cy2.K)), ((a 4), iA cI (cy2.Q)), ((a 5), iA cI (cy2.L)), ((a 6), iA cI (cy2.H)), ((a 7), iA cI (cy2.M)), ((a 8), iA cI (cy2.B)), ((a 9), iA cI (cy2.C)), ((a 10), iA cI (cy2.D)), ((a 11), iA cI (cy2.F)), ((a 12), iA cI (cy2.W)), ((t 0), oC t (dy2.mo) (dy2.co) (dy2.le)), ((t 3), iA cI (dy2.K)), ((t 4), iA cI (dy2.Q)), ((t 5), iA cI (dy2.L)), ((t 6), iA cI (dy2.H)), ((t 7), iA cI (dy2.M)), ((t 8), iA cI (dy2.B)), ((t 9), iA cI (dy2.C)), ((t 10), iA cI (dy2.D)), ((t 11), iA cI (dy2.F)), ((t 12), iA cI (dy2.W)), (q9, lA cL o2), ((g 0), oM g (cdCount (xs (i + 1))) cy2.mo cy2.co cy2.le), ((g 4), iA cI (my.K)), ((g 5), iA cI (my.Ah)), ((g 6), iA cI (my.Ot)), ((g 7), iA cI Qm1), ((g 8), iA cI Op1), ((g 9), iA cI Lm1), ((g 10), iA cI Hm1), ((g 11), iA cI Mm1), ((g 12), iA cI Rw1), ((g 13), iA cI St1)] := hD
  refine lv_istore (lv' := [(6, .int r8), (5, .int r9), (4, .int (nI i)), (0, .ref b), (1, .ref h), (2, .ref (g 0)), (3, .ref q9)]) hx hb dL_law_567 hl (by decide) rfl (fun ls hl => ?_)
  refine lv_aload_n hx hb dL_law_569 rfl (lv_at hl 5 rfl) ?_
  refine cr_i (va_runV (As := []) (rest := []) FX (c_X2_thrown l G cI g (cdCount (xs (i + 1))) cy2.mo cy2.co cy2.le) (cwV 0 hts gL_law_X2_thrown rfl rfl rfl (by decide +kernel) ⟨Nat.le_of_ble_eq_true rfl, Nat.le_of_ble_eq_true rfl⟩) (rdV hK hP hN [24] rfl (ci := 2) (q0 := 24) rfl rfl) rfl rfl hl.1 rfl (lv_room (Nat.le_of_ble_eq_true rfl)) dL_law_570 ⟨hzc, hzs⟩) hS hP (fun H locs hP hS => ?_)
  refine lv_iload hx hb dL_law_573 (lv_at hl 1 rfl) ?_
  refine lv_icmp_eq (tgt := 580) hx hb dL_law_575 (by decide) (fun _ => ?_) (fun c => absurd (hr9.symm) c)
  refine lv_iload hx hb dL_law_580 (lv_at hl 1 rfl) ?_
  refine lv_if_ne (tgt := 597) hx hb dL_law_582 (by decide) (fun cz => ?_) (fun cz => ?_)
  · skip
    refine lv_goto (tgt := 1039) hx hb dL_law_597 (by decide) ?_
    exact kk cy2 dy2 ((cdCount (xs (i + 1))), my.K, my.Ah, my.Ot, Qm1, Op1, Lm1, Hm1, Mm1, Rw1, St1) o2 k _ _ _ hgd2 (hmk) hP hD hS (lv_sub hl [2, 3, 4, 5, 6] rfl)
  · skip
    have h0 : (cdCount (xs (i + 1))) = 0 := hr9.symm.trans cz
    refine lv_aload_n hx hb dL_law_585 rfl (lv_at hl 6 rfl) ?_
    refine lv_iconst (v := 0) hx hb dL_law_586 (by decide) ?_
    refine va_lald hx hb hKL hP 23 0 rfl rfl vp_in01 dL_law_587 ?_
    refine lv_iload hx hb dL_law_588 (lv_at hl 0 rfl) ?_
    refine lv_i2l (v := r8.toInt64) hx hb dL_law_590 rfl ?_
    refine W.lcmp hx hb dL_law_591 ?_
    refine tpi (x' := 0) ((lg_cmp_eq _ _).mpr ((hv h0).trans (congrArg Int32.toInt64 (hw h0).symm))) ?_
    refine lv_if_eq (tgt := 597) hx hb dL_law_592 (by decide) (fun _ => ?_) (fun c => absurd (rfl) c)
    refine lv_goto (tgt := 1039) hx hb dL_law_597 (by decide) ?_
    exact kk cy2 dy2 ((cdCount (xs (i + 1))), my.K, my.Ah, my.Ot, Qm1, Op1, Lm1, Hm1, Mm1, Rw1, St1) o2 k _ _ _ hgd2 (hmk) hP hD hS (lv_sub hl [2, 3, 4, 5, 6] rfl)

set_option maxHeartbeats 4000000 in
set_option maxRecDepth 100000 in
theorem law_walk {p : Program} {l : Launch} {e : Env} {s : State} {m : MethodId} {below : List Frame} {meth : Method} {c : Code} {b Ln : Nat} {xs : Nat → Int32} {A : Nat → Prop} {cells slots : Nat} {Q : State → Prop} {G : va_G} {cI cL : ClassId} {h q9 : Nat} {a t g : Nat → Nat} {cy dy : Cy} {my : My} {o : Nat → Int64} {k : Nat → Int32} {H : Heap} {locs : List Loc} {ls : Array Slot} {i : Nat} (E0 : LwE p l s m c b Ln xs G cI cL A) (hgd : Sd cy k) (hmk : eqK my.K k) (hP : va_P G vwCl (LAW cI cL h q9 a t g cy dy my o) H) (hD : va_D A (LAW cI cL h q9 a t g cy dy my o)) (hS : va_S A s.heap H locs) (hl : lv_has ls 9 [(4, .int (nI i)), (0, .ref b), (1, .ref h), (2, .ref (g 0)), (3, .ref q9)]) (hi : i + 4 ≤ Ln) (hLn : Ln ≤ 2048) (hzc0 : cells + 1 ≤ room_1.cells) (hzs0 : slots + 6 ≤ room_1.slots)
    (kk : ∀ (cy2 dy2 : Cy) (my2 : My) (o2 : Nat → Int64) (k2 : Nat → Int32) (H2 : Heap) (locs2 : List Loc) (ls2 : Array Slot), Sd cy2 k2 → eqK my2.K k2 → va_P G vwCl (LAW cI cL h q9 a t g cy2 dy2 my2 o2) H2 → va_D A (LAW cI cL h q9 a t g cy2 dy2 my2 o2) → va_S A s.heap H2 locs2 → lv_has ls2 9 [(4, .int (nI i)), (0, .ref b), (1, .ref h), (2, .ref (g 0)), (3, .ref q9)] → W p l e room_1 s m #[Value.ref b] below meth c H2 locs2 (cells + 1) (slots + 6) Q (F0 m 1039 ls2 [])) : W p l e room_1 s m #[Value.ref b] below meth c H locs cells slots Q (F0 m 600 ls []) := by
  obtain ⟨hx, hb, hml, hown, hts, hst, hK, hKL, hN, hE, hX, hNC, hZ, hBL, hA, hXs, hbl, hbA⟩ := E0
  have hk := hgd.1
  have hS0 := hgd.2.1
  have hgt := hgd.2.2.1
  have hkd := hgd.2.2.2
  have FX : CallFix p m c cL_law 9 s #[Value.ref b] wsL_law RL := ⟨hx, hb, hml, hown, hts⟩
  have hP : va_P G vwCl [(h, oX a t), ((a 0), oC a (cy.mo) (cy.co) (cy.le)), ((a 3), iA cI (cy.K)), ((a 4), iA cI (cy.Q)), ((a 5), iA cI (cy.L)), ((a 6), iA cI (cy.H)), ((a 7), iA cI (cy.M)), ((a 8), iA cI (cy.B)), ((a 9), iA cI (cy.C)), ((a 10), iA cI (cy.D)), ((a 11), iA cI (cy.F)), ((a 12), iA cI (cy.W)), ((t 0), oC t (dy.mo) (dy.co) (dy.le)), ((t 3), iA cI (dy.K)), ((t 4), iA cI (dy.Q)), ((t 5), iA cI (dy.L)), ((t 6), iA cI (dy.H)), ((t 7), iA cI (dy.M)), ((t 8), iA cI (dy.B)), ((t 9), iA cI (dy.C)), ((t 10), iA cI (dy.D)), ((t 11), iA cI (dy.F)), ((t 12), iA cI (dy.W)), (q9, lA cL o), ((g 0), oM g my.th cy.mo cy.co cy.le), ((g 4), iA cI (my.K)), ((g 5), iA cI (my.Ah)), ((g 6), iA cI (my.Ot)), ((g 7), iA cI (my.Qm)), ((g 8), iA cI (my.Op)), ((g 9), iA cI (my.Lm)), ((g 10), iA cI (my.Hm)), ((g 11), iA cI (my.Mm)), ((g 12), iA cI (my.Rw)), ((g 13), iA cI (my.St))] H := hP
  have hD : va_D A [(h, oX a t), ((a 0), oC a (cy.mo) (cy.co) (cy.le)), ((a 3), iA cI (cy.K)), ((a 4), iA cI (cy.Q)), ((a 5), iA cI (cy.L)), ((a 6), iA cI (cy.H)), ((a 7), iA cI (cy.M)), ((a 8), iA cI (cy.B)), ((a 9), iA cI (cy.C)), ((a 10), iA cI (cy.D)), ((a 11), iA cI (cy.F)), ((a 12), iA cI (cy.W)), ((t 0), oC t (dy.mo) (dy.co) (dy.le)), ((t 3), iA cI (dy.K)), ((t 4), iA cI (dy.Q)), ((t 5), iA cI (dy.L)), ((t 6), iA cI (dy.H)), ((t 7), iA cI (dy.M)), ((t 8), iA cI (dy.B)), ((t 9), iA cI (dy.C)), ((t 10), iA cI (dy.D)), ((t 11), iA cI (dy.F)), ((t 12), iA cI (dy.W)), (q9, lA cL o), ((g 0), oM g my.th cy.mo cy.co cy.le), ((g 4), iA cI (my.K)), ((g 5), iA cI (my.Ah)), ((g 6), iA cI (my.Ot)), ((g 7), iA cI (my.Qm)), ((g 8), iA cI (my.Op)), ((g 9), iA cI (my.Lm)), ((g 10), iA cI (my.Hm)), ((g 11), iA cI (my.Mm)), ((g 12), iA cI (my.Rw)), ((g 13), iA cI (my.St))] := hD
  refine lv_aload_n hx hb dL_law_600 rfl (lv_at hl 2 rfl) ?_
  refine lv_aload_n hx hb dL_law_601 rfl (lv_at hl 1 rfl) ?_
  refine lv_iload hx hb dL_law_602 (lv_at hl 0 rfl) ?_
  refine lv_iconst (v := 1) hx hb dL_law_604 (by decide) ?_
  refine lv_iadd hx hb dL_law_605 ?_
  refine tpi (x' := nI (i + 1)) (by rw [show (1 : Int32) = nI 1 from rfl, nI_add]) ?_
  refine va_sld hx hb hXs hbl hbA hS (vp_in_nI (n := i + 1) (N := Ln) (by omega) (by omega)) dL_law_606 ?_
  refine tpi (x' := xs (i + 1)) (congrArg xs (nI_clamp (by omega))) ?_
  refine lv_aload_n hx hb dL_law_607 rfl (lv_at hl 1 rfl) ?_
  refine lv_iload hx hb dL_law_608 (lv_at hl 0 rfl) ?_
  refine lv_iconst (v := 2) hx hb dL_law_610 (by decide) ?_
  refine lv_iadd hx hb dL_law_611 ?_
  refine tpi (x' := nI (i + 2)) (by rw [show (2 : Int32) = nI 2 from rfl, nI_add]) ?_
  refine va_sld hx hb hXs hbl hbA hS (vp_in_nI (n := i + 2) (N := Ln) (by omega) (by omega)) dL_law_612 ?_
  refine tpi (x' := xs (i + 2)) (congrArg xs (nI_clamp (by omega))) ?_
  refine lv_aload_n hx hb dL_law_613 rfl (lv_at hl 4 rfl) ?_
  refine cw_i (wr := [((g 0), oM g my.th cy.mo cy.co cy.le), ((g 4), iA cI (my.K)), ((g 5), iA cI (my.Ah)), ((g 6), iA cI (my.Ot)), ((g 7), iA cI (my.Qm)), ((g 8), iA cI (my.Op)), ((g 9), iA cI (my.Lm)), ((g 10), iA cI (my.Hm)), ((g 11), iA cI (my.Mm)), ((g 12), iA cI (my.Rw)), ((g 13), iA cI (my.St))]) (vx_runSW (As := [.ref h, .int (xs (i + 1)), .int (xs (i + 2)), .ref q9]) (rest := []) FX (c_L_walk l G cI cL hst h q9 a t cy dy o k (xs (i + 1)) (xs (i + 2)) hgd _) (vx_cwSW 4 hts gL_law_L_walk rfl rfl rfl (by decide +kernel) ⟨Nat.le_of_ble_eq_true rfl, Nat.le_of_ble_eq_true rfl⟩) (wrSX hK hKL hP hD hN hE hX hNC hZ hS hA [0, 1, 2, 3, 4, 5, 6, 7, 8, 9, 10, 11, 12, 13, 14, 15, 16, 17, 18, 19, 20, 21, 22, 23] (by decide) rfl rfl) rfl rfl hl.1 rfl (lv_room (Nat.le_of_ble_eq_true rfl)) dL_law_614 ⟨hzc0, hzs0⟩) hS hP hD hA [0, 1, 2, 3, 4, 5, 6, 7, 8, 9, 10, 11, 12, 13, 14, 15, 16, 17, 18, 19, 20, 21, 22, 23] [24, 25, 26, 27, 28, 29, 30, 31, 32, 33, 34] rfl rfl (by decide) (by decide) (fun r9 u H locs hw hP hD hS => ?_)
  obtain ⟨cy2, dy2, o2⟩ := u
  obtain ⟨hr9, hgd2, ⟨hmo, hco, hle⟩, hv⟩ := hw
  have hP := hP.sub (ws' := [(h, oX a t), ((a 0), oC a (cy2.mo) (cy2.co) (cy2.le)), ((a 3), iA cI (cy2.K)), ((a 4), iA cI (cy2.Q)), ((a 5), iA cI (cy2.L)), ((a 6), iA cI (cy2.H)), ((a 7), iA cI (cy2.M)), ((a 8), iA cI (cy2.B)), ((a 9), iA cI (cy2.C)), ((a 10), iA cI (cy2.D)), ((a 11), iA cI (cy2.F)), ((a 12), iA cI (cy2.W)), ((t 0), oC t (dy2.mo) (dy2.co) (dy2.le)), ((t 3), iA cI (dy2.K)), ((t 4), iA cI (dy2.Q)), ((t 5), iA cI (dy2.L)), ((t 6), iA cI (dy2.H)), ((t 7), iA cI (dy2.M)), ((t 8), iA cI (dy2.B)), ((t 9), iA cI (dy2.C)), ((t 10), iA cI (dy2.D)), ((t 11), iA cI (dy2.F)), ((t 12), iA cI (dy2.W)), (q9, lA cL o2), ((g 0), oM g my.th cy.mo cy.co cy.le), ((g 4), iA cI (my.K)), ((g 5), iA cI (my.Ah)), ((g 6), iA cI (my.Ot)), ((g 7), iA cI (my.Qm)), ((g 8), iA cI (my.Op)), ((g 9), iA cI (my.Lm)), ((g 10), iA cI (my.Hm)), ((g 11), iA cI (my.Mm)), ((g 12), iA cI (my.Rw)), ((g 13), iA cI (my.St))]) [11, 12, 13, 14, 15, 16, 17, 18, 19, 20, 21, 22, 23, 24, 25, 26, 27, 28, 29, 30, 31, 32, 33, 34, 0, 1, 2, 3, 4, 5, 6, 7, 8, 9, 10] rfl
  have hD := hD.sub (ws' := [(h, oX a t), ((a 0), oC a (cy2.mo) (cy2.co) (cy2.le)), ((a 3), iA cI (cy2.K)), ((a 4), iA cI (cy2.Q)), ((a 5), iA cI (cy2.L)), ((a 6), iA cI (cy2.H)), ((a 7), iA cI (cy2.M)), ((a 8), iA cI (cy2.B)), ((a 9), iA cI (cy2.C)), ((a 10), iA cI (cy2.D)), ((a 11), iA cI (cy2.F)), ((a 12), iA cI (cy2.W)), ((t 0), oC t (dy2.mo) (dy2.co) (dy2.le)), ((t 3), iA cI (dy2.K)), ((t 4), iA cI (dy2.Q)), ((t 5), iA cI (dy2.L)), ((t 6), iA cI (dy2.H)), ((t 7), iA cI (dy2.M)), ((t 8), iA cI (dy2.B)), ((t 9), iA cI (dy2.C)), ((t 10), iA cI (dy2.D)), ((t 11), iA cI (dy2.F)), ((t 12), iA cI (dy2.W)), (q9, lA cL o2), ((g 0), oM g my.th cy.mo cy.co cy.le), ((g 4), iA cI (my.K)), ((g 5), iA cI (my.Ah)), ((g 6), iA cI (my.Ot)), ((g 7), iA cI (my.Qm)), ((g 8), iA cI (my.Op)), ((g 9), iA cI (my.Lm)), ((g 10), iA cI (my.Hm)), ((g 11), iA cI (my.Mm)), ((g 12), iA cI (my.Rw)), ((g 13), iA cI (my.St))]) [11, 12, 13, 14, 15, 16, 17, 18, 19, 20, 21, 22, 23, 24, 25, 26, 27, 28, 29, 30, 31, 32, 33, 34, 0, 1, 2, 3, 4, 5, 6, 7, 8, 9, 10] (by decide) rfl
  have hmo : cy2.mo = cy.mo := hmo
  have hco : cy2.co = cy.co := hco
  have hle : cy2.le = cy.le := hle
  have hv : (cdWalk k (xs (i + 1)) (xs (i + 2))) = 0 → o2 (0 : Int32).toNatClampNeg = _ := hv
  refine lv_istore (lv' := [(5, .int r9), (4, .int (nI i)), (0, .ref b), (1, .ref h), (2, .ref (g 0)), (3, .ref q9)]) hx hb dL_law_617 hl (by decide) rfl (fun ls hl => ?_)
  refine lv_aload_n hx hb dL_law_619 rfl (lv_at hl 4 rfl) ?_
  refine lv_aload_n hx hb dL_law_620 rfl (lv_at hl 2 rfl) ?_
  refine lv_iload hx hb dL_law_621 (lv_at hl 1 rfl) ?_
  refine lv_iconst (v := 1) hx hb dL_law_623 (by decide) ?_
  refine lv_iadd hx hb dL_law_624 ?_
  refine tpi (x' := nI (i + 1)) (by rw [show (1 : Int32) = nI 1 from rfl, nI_add]) ?_
  refine va_sld hx hb hXs hbl hbA hS (vp_in_nI (n := i + 1) (N := Ln) (by omega) (by omega)) dL_law_625 ?_
  refine tpi (x' := xs (i + 1)) (congrArg xs (nI_clamp (by omega))) ?_
  refine lv_aload_n hx hb dL_law_626 rfl (lv_at hl 2 rfl) ?_
  refine lv_iload hx hb dL_law_627 (lv_at hl 1 rfl) ?_
  refine lv_iconst (v := 2) hx hb dL_law_629 (by decide) ?_
  refine lv_iadd hx hb dL_law_630 ?_
  refine tpi (x' := nI (i + 2)) (by rw [show (2 : Int32) = nI 2 from rfl, nI_add]) ?_
  refine va_sld hx hb hXs hbl hbA hS (vp_in_nI (n := i + 2) (N := Ln) (by omega) (by omega)) dL_law_631 ?_
  refine tpi (x' := xs (i + 2)) (congrArg xs (nI_clamp (by omega))) ?_
  have hzc : cells + 1 + 0 ≤ room_1.cells := hzc0
  have hzs : slots + 6 + 0 ≤ room_1.slots := hzs0
  refine cw_i (wr := [(h, oX a t), ((a 0), oC a (cy2.mo) (cy2.co) (cy2.le)), ((a 3), iA cI (cy2.K)), ((a 4), iA cI (cy2.Q)), ((a 5), iA cI (cy2.L)), ((a 6), iA cI (cy2.H)), ((a 7), iA cI (cy2.M)), ((a 8), iA cI (cy2.B)), ((a 9), iA cI (cy2.C)), ((a 10), iA cI (cy2.D)), ((a 11), iA cI (cy2.F)), ((a 12), iA cI (cy2.W)), ((t 0), oC t (dy2.mo) (dy2.co) (dy2.le)), ((t 3), iA cI (dy2.K)), ((t 4), iA cI (dy2.Q)), ((t 5), iA cI (dy2.L)), ((t 6), iA cI (dy2.H)), ((t 7), iA cI (dy2.M)), ((t 8), iA cI (dy2.B)), ((t 9), iA cI (dy2.C)), ((t 10), iA cI (dy2.D)), ((t 11), iA cI (dy2.F)), ((t 12), iA cI (dy2.W)), (q9, lA cL o2)]) (va_runV (As := [.int (xs (i + 1)), .int (xs (i + 2))]) (rest := []) FX (c_X2_walk l G cI g my.th cy.mo cy.co cy.le my.K my.Ah my.Ot my.Qm my.Op my.Lm my.Hm my.Mm my.Rw my.St k (xs (i + 1)) (xs (i + 2)) hmk hkd _) (cwV 2 hts gL_law_X2_walk rfl rfl rfl (by decide +kernel) ⟨Nat.le_of_ble_eq_true rfl, Nat.le_of_ble_eq_true rfl⟩) (wrV hK hP hD hN [24, 25, 26, 27, 28, 29, 30, 31, 32, 33, 34] (by decide) rfl rfl (ci := 2) (q0 := 24) rfl rfl) rfl rfl hl.1 rfl (lv_room (Nat.le_of_ble_eq_true rfl)) dL_law_632 ⟨hzc, hzs⟩) hS hP hD hA [24, 25, 26, 27, 28, 29, 30, 31, 32, 33, 34] [0, 1, 2, 3, 4, 5, 6, 7, 8, 9, 10, 11, 12, 13, 14, 15, 16, 17, 18, 19, 20, 21, 22, 23] rfl rfl (by decide) (by decide) (fun r8 u H locs hw hP hD hS => ?_)
  obtain ⟨Rw1, St1⟩ := u
  have hP := hP.sub (ws' := [(h, oX a t), ((a 0), oC a (cy2.mo) (cy2.co) (cy2.le)), ((a 3), iA cI (cy2.K)), ((a 4), iA cI (cy2.Q)), ((a 5), iA cI (cy2.L)), ((a 6), iA cI (cy2.H)), ((a 7), iA cI (cy2.M)), ((a 8), iA cI (cy2.B)), ((a 9), iA cI (cy2.C)), ((a 10), iA cI (cy2.D)), ((a 11), iA cI (cy2.F)), ((a 12), iA cI (cy2.W)), ((t 0), oC t (dy2.mo) (dy2.co) (dy2.le)), ((t 3), iA cI (dy2.K)), ((t 4), iA cI (dy2.Q)), ((t 5), iA cI (dy2.L)), ((t 6), iA cI (dy2.H)), ((t 7), iA cI (dy2.M)), ((t 8), iA cI (dy2.B)), ((t 9), iA cI (dy2.C)), ((t 10), iA cI (dy2.D)), ((t 11), iA cI (dy2.F)), ((t 12), iA cI (dy2.W)), (q9, lA cL o2), ((g 0), oM g (cdWalk k (xs (i + 1)) (xs (i + 2))) cy.mo cy.co cy.le), ((g 4), iA cI (my.K)), ((g 5), iA cI (my.Ah)), ((g 6), iA cI (my.Ot)), ((g 7), iA cI (my.Qm)), ((g 8), iA cI (my.Op)), ((g 9), iA cI (my.Lm)), ((g 10), iA cI (my.Hm)), ((g 11), iA cI (my.Mm)), ((g 12), iA cI Rw1), ((g 13), iA cI St1)]) [0, 1, 2, 3, 4, 5, 6, 7, 8, 9, 10, 11, 12, 13, 14, 15, 16, 17, 18, 19, 20, 21, 22, 23, 24, 25, 26, 27, 28, 29, 30, 31, 32, 33, 34] rfl
  have hD := hD.sub (ws' := [(h, oX a t), ((a 0), oC a (cy2.mo) (cy2.co) (cy2.le)), ((a 3), iA cI (cy2.K)), ((a 4), iA cI (cy2.Q)), ((a 5), iA cI (cy2.L)), ((a 6), iA cI (cy2.H)), ((a 7), iA cI (cy2.M)), ((a 8), iA cI (cy2.B)), ((a 9), iA cI (cy2.C)), ((a 10), iA cI (cy2.D)), ((a 11), iA cI (cy2.F)), ((a 12), iA cI (cy2.W)), ((t 0), oC t (dy2.mo) (dy2.co) (dy2.le)), ((t 3), iA cI (dy2.K)), ((t 4), iA cI (dy2.Q)), ((t 5), iA cI (dy2.L)), ((t 6), iA cI (dy2.H)), ((t 7), iA cI (dy2.M)), ((t 8), iA cI (dy2.B)), ((t 9), iA cI (dy2.C)), ((t 10), iA cI (dy2.D)), ((t 11), iA cI (dy2.F)), ((t 12), iA cI (dy2.W)), (q9, lA cL o2), ((g 0), oM g (cdWalk k (xs (i + 1)) (xs (i + 2))) cy.mo cy.co cy.le), ((g 4), iA cI (my.K)), ((g 5), iA cI (my.Ah)), ((g 6), iA cI (my.Ot)), ((g 7), iA cI (my.Qm)), ((g 8), iA cI (my.Op)), ((g 9), iA cI (my.Lm)), ((g 10), iA cI (my.Hm)), ((g 11), iA cI (my.Mm)), ((g 12), iA cI Rw1), ((g 13), iA cI St1)]) [0, 1, 2, 3, 4, 5, 6, 7, 8, 9, 10, 11, 12, 13, 14, 15, 16, 17, 18, 19, 20, 21, 22, 23, 24, 25, 26, 27, 28, 29, 30, 31, 32, 33, 34] (by decide) rfl
  rw [← hmo] at hP hD
  rw [← hco] at hP hD
  rw [← hle] at hP hD
  have hP : va_P G vwCl [(h, oX a t), ((a 0), oC a (cy2.mo) (cy2.co) (cy2.le)), ((a 3), iA cI (cy2.K)), ((a 4), iA cI (cy2.Q)), ((a 5), iA cI (cy2.L)), ((a 6), iA cI (cy2.H)), ((a 7), iA cI (cy2.M)), ((a 8), iA cI (cy2.B)), ((a 9), iA cI (cy2.C)), ((a 10), iA cI (cy2.D)), ((a 11), iA cI (cy2.F)), ((a 12), iA cI (cy2.W)), ((t 0), oC t (dy2.mo) (dy2.co) (dy2.le)), ((t 3), iA cI (dy2.K)), ((t 4), iA cI (dy2.Q)), ((t 5), iA cI (dy2.L)), ((t 6), iA cI (dy2.H)), ((t 7), iA cI (dy2.M)), ((t 8), iA cI (dy2.B)), ((t 9), iA cI (dy2.C)), ((t 10), iA cI (dy2.D)), ((t 11), iA cI (dy2.F)), ((t 12), iA cI (dy2.W)), (q9, lA cL o2), ((g 0), oM g (cdWalk k (xs (i + 1)) (xs (i + 2))) cy2.mo cy2.co cy2.le), ((g 4), iA cI (my.K)), ((g 5), iA cI (my.Ah)), ((g 6), iA cI (my.Ot)), ((g 7), iA cI (my.Qm)), ((g 8), iA cI (my.Op)), ((g 9), iA cI (my.Lm)), ((g 10), iA cI (my.Hm)), ((g 11), iA cI (my.Mm)), ((g 12), iA cI Rw1), ((g 13), iA cI St1)] H := hP
  have hD : va_D A [(h, oX a t), ((a 0), oC a (cy2.mo) (cy2.co) (cy2.le)), ((a 3), iA cI (cy2.K)), ((a 4), iA cI (cy2.Q)), ((a 5), iA cI (cy2.L)), ((a 6), iA cI (cy2.H)), ((a 7), iA cI (cy2.M)), ((a 8), iA cI (cy2.B)), ((a 9), iA cI (cy2.C)), ((a 10), iA cI (cy2.D)), ((a 11), iA cI (cy2.F)), ((a 12), iA cI (cy2.W)), ((t 0), oC t (dy2.mo) (dy2.co) (dy2.le)), ((t 3), iA cI (dy2.K)), ((t 4), iA cI (dy2.Q)), ((t 5), iA cI (dy2.L)), ((t 6), iA cI (dy2.H)), ((t 7), iA cI (dy2.M)), ((t 8), iA cI (dy2.B)), ((t 9), iA cI (dy2.C)), ((t 10), iA cI (dy2.D)), ((t 11), iA cI (dy2.F)), ((t 12), iA cI (dy2.W)), (q9, lA cL o2), ((g 0), oM g (cdWalk k (xs (i + 1)) (xs (i + 2))) cy2.mo cy2.co cy2.le), ((g 4), iA cI (my.K)), ((g 5), iA cI (my.Ah)), ((g 6), iA cI (my.Ot)), ((g 7), iA cI (my.Qm)), ((g 8), iA cI (my.Op)), ((g 9), iA cI (my.Lm)), ((g 10), iA cI (my.Hm)), ((g 11), iA cI (my.Mm)), ((g 12), iA cI Rw1), ((g 13), iA cI St1)] := hD
  refine lv_istore (lv' := [(6, .int r8), (5, .int r9), (4, .int (nI i)), (0, .ref b), (1, .ref h), (2, .ref (g 0)), (3, .ref q9)]) hx hb dL_law_635 hl (by decide) rfl (fun ls hl => ?_)
  refine lv_aload_n hx hb dL_law_637 rfl (lv_at hl 5 rfl) ?_
  refine cr_i (va_runV (As := []) (rest := []) FX (c_X2_thrown l G cI g (cdWalk k (xs (i + 1)) (xs (i + 2))) cy2.mo cy2.co cy2.le) (cwV 0 hts gL_law_X2_thrown rfl rfl rfl (by decide +kernel) ⟨Nat.le_of_ble_eq_true rfl, Nat.le_of_ble_eq_true rfl⟩) (rdV hK hP hN [24] rfl (ci := 2) (q0 := 24) rfl rfl) rfl rfl hl.1 rfl (lv_room (Nat.le_of_ble_eq_true rfl)) dL_law_638 ⟨hzc, hzs⟩) hS hP (fun H locs hP hS => ?_)
  refine lv_iload hx hb dL_law_641 (lv_at hl 1 rfl) ?_
  refine lv_icmp_eq (tgt := 648) hx hb dL_law_643 (by decide) (fun _ => ?_) (fun c => absurd (hr9.symm) c)
  refine lv_iload hx hb dL_law_648 (lv_at hl 1 rfl) ?_
  refine lv_if_ne (tgt := 665) hx hb dL_law_650 (by decide) (fun cz => ?_) (fun cz => ?_)
  · skip
    refine lv_goto (tgt := 1039) hx hb dL_law_665 (by decide) ?_
    exact kk cy2 dy2 ((cdWalk k (xs (i + 1)) (xs (i + 2))), my.K, my.Ah, my.Ot, my.Qm, my.Op, my.Lm, my.Hm, my.Mm, Rw1, St1) o2 k _ _ _ hgd2 (hmk) hP hD hS (lv_sub hl [2, 3, 4, 5, 6] rfl)
  · skip
    have h0 : (cdWalk k (xs (i + 1)) (xs (i + 2))) = 0 := hr9.symm.trans cz
    refine lv_aload_n hx hb dL_law_653 rfl (lv_at hl 6 rfl) ?_
    refine lv_iconst (v := 0) hx hb dL_law_654 (by decide) ?_
    refine va_lald hx hb hKL hP 23 0 rfl rfl vp_in01 dL_law_655 ?_
    refine lv_iload hx hb dL_law_656 (lv_at hl 0 rfl) ?_
    refine lv_i2l (v := r8.toInt64) hx hb dL_law_658 rfl ?_
    refine W.lcmp hx hb dL_law_659 ?_
    refine tpi (x' := 0) ((lg_cmp_eq _ _).mpr ((hv h0).trans (congrArg Int32.toInt64 (hw h0).symm))) ?_
    refine lv_if_eq (tgt := 665) hx hb dL_law_660 (by decide) (fun _ => ?_) (fun c => absurd (rfl) c)
    refine lv_goto (tgt := 1039) hx hb dL_law_665 (by decide) ?_
    exact kk cy2 dy2 ((cdWalk k (xs (i + 1)) (xs (i + 2))), my.K, my.Ah, my.Ot, my.Qm, my.Op, my.Lm, my.Hm, my.Mm, Rw1, St1) o2 k _ _ _ hgd2 (hmk) hP hD hS (lv_sub hl [2, 3, 4, 5, 6] rfl)

set_option maxHeartbeats 4000000 in
set_option maxRecDepth 100000 in
theorem law_sail {p : Program} {l : Launch} {e : Env} {s : State} {m : MethodId} {below : List Frame} {meth : Method} {c : Code} {b Ln : Nat} {xs : Nat → Int32} {A : Nat → Prop} {cells slots : Nat} {Q : State → Prop} {G : va_G} {cI cL : ClassId} {h q9 : Nat} {a t g : Nat → Nat} {cy dy : Cy} {my : My} {o : Nat → Int64} {k : Nat → Int32} {H : Heap} {locs : List Loc} {ls : Array Slot} {i : Nat} (E0 : LwE p l s m c b Ln xs G cI cL A) (hgd : Sd cy k) (hmk : eqK my.K k) (hP : va_P G vwCl (LAW cI cL h q9 a t g cy dy my o) H) (hD : va_D A (LAW cI cL h q9 a t g cy dy my o)) (hS : va_S A s.heap H locs) (hl : lv_has ls 9 [(4, .int (nI i)), (0, .ref b), (1, .ref h), (2, .ref (g 0)), (3, .ref q9)]) (hi : i + 4 ≤ Ln) (hLn : Ln ≤ 2048) (hzc0 : cells + 1 ≤ room_1.cells) (hzs0 : slots + 6 ≤ room_1.slots)
    (kk : ∀ (cy2 dy2 : Cy) (my2 : My) (o2 : Nat → Int64) (k2 : Nat → Int32) (H2 : Heap) (locs2 : List Loc) (ls2 : Array Slot), Sd cy2 k2 → eqK my2.K k2 → va_P G vwCl (LAW cI cL h q9 a t g cy2 dy2 my2 o2) H2 → va_D A (LAW cI cL h q9 a t g cy2 dy2 my2 o2) → va_S A s.heap H2 locs2 → lv_has ls2 9 [(4, .int (nI i)), (0, .ref b), (1, .ref h), (2, .ref (g 0)), (3, .ref q9)] → W p l e room_1 s m #[Value.ref b] below meth c H2 locs2 (cells + 1) (slots + 6) Q (F0 m 1039 ls2 [])) : W p l e room_1 s m #[Value.ref b] below meth c H locs cells slots Q (F0 m 668 ls []) := by
  obtain ⟨hx, hb, hml, hown, hts, hst, hK, hKL, hN, hE, hX, hNC, hZ, hBL, hA, hXs, hbl, hbA⟩ := E0
  have hk := hgd.1
  have hS0 := hgd.2.1
  have hgt := hgd.2.2.1
  have hkd := hgd.2.2.2
  have FX : CallFix p m c cL_law 9 s #[Value.ref b] wsL_law RL := ⟨hx, hb, hml, hown, hts⟩
  have hP : va_P G vwCl [(h, oX a t), ((a 0), oC a (cy.mo) (cy.co) (cy.le)), ((a 3), iA cI (cy.K)), ((a 4), iA cI (cy.Q)), ((a 5), iA cI (cy.L)), ((a 6), iA cI (cy.H)), ((a 7), iA cI (cy.M)), ((a 8), iA cI (cy.B)), ((a 9), iA cI (cy.C)), ((a 10), iA cI (cy.D)), ((a 11), iA cI (cy.F)), ((a 12), iA cI (cy.W)), ((t 0), oC t (dy.mo) (dy.co) (dy.le)), ((t 3), iA cI (dy.K)), ((t 4), iA cI (dy.Q)), ((t 5), iA cI (dy.L)), ((t 6), iA cI (dy.H)), ((t 7), iA cI (dy.M)), ((t 8), iA cI (dy.B)), ((t 9), iA cI (dy.C)), ((t 10), iA cI (dy.D)), ((t 11), iA cI (dy.F)), ((t 12), iA cI (dy.W)), (q9, lA cL o), ((g 0), oM g my.th cy.mo cy.co cy.le), ((g 4), iA cI (my.K)), ((g 5), iA cI (my.Ah)), ((g 6), iA cI (my.Ot)), ((g 7), iA cI (my.Qm)), ((g 8), iA cI (my.Op)), ((g 9), iA cI (my.Lm)), ((g 10), iA cI (my.Hm)), ((g 11), iA cI (my.Mm)), ((g 12), iA cI (my.Rw)), ((g 13), iA cI (my.St))] H := hP
  have hD : va_D A [(h, oX a t), ((a 0), oC a (cy.mo) (cy.co) (cy.le)), ((a 3), iA cI (cy.K)), ((a 4), iA cI (cy.Q)), ((a 5), iA cI (cy.L)), ((a 6), iA cI (cy.H)), ((a 7), iA cI (cy.M)), ((a 8), iA cI (cy.B)), ((a 9), iA cI (cy.C)), ((a 10), iA cI (cy.D)), ((a 11), iA cI (cy.F)), ((a 12), iA cI (cy.W)), ((t 0), oC t (dy.mo) (dy.co) (dy.le)), ((t 3), iA cI (dy.K)), ((t 4), iA cI (dy.Q)), ((t 5), iA cI (dy.L)), ((t 6), iA cI (dy.H)), ((t 7), iA cI (dy.M)), ((t 8), iA cI (dy.B)), ((t 9), iA cI (dy.C)), ((t 10), iA cI (dy.D)), ((t 11), iA cI (dy.F)), ((t 12), iA cI (dy.W)), (q9, lA cL o), ((g 0), oM g my.th cy.mo cy.co cy.le), ((g 4), iA cI (my.K)), ((g 5), iA cI (my.Ah)), ((g 6), iA cI (my.Ot)), ((g 7), iA cI (my.Qm)), ((g 8), iA cI (my.Op)), ((g 9), iA cI (my.Lm)), ((g 10), iA cI (my.Hm)), ((g 11), iA cI (my.Mm)), ((g 12), iA cI (my.Rw)), ((g 13), iA cI (my.St))] := hD
  refine lv_aload_n hx hb dL_law_668 rfl (lv_at hl 2 rfl) ?_
  refine lv_aload_n hx hb dL_law_669 rfl (lv_at hl 1 rfl) ?_
  refine lv_iload hx hb dL_law_670 (lv_at hl 0 rfl) ?_
  refine lv_iconst (v := 1) hx hb dL_law_672 (by decide) ?_
  refine lv_iadd hx hb dL_law_673 ?_
  refine tpi (x' := nI (i + 1)) (by rw [show (1 : Int32) = nI 1 from rfl, nI_add]) ?_
  refine va_sld hx hb hXs hbl hbA hS (vp_in_nI (n := i + 1) (N := Ln) (by omega) (by omega)) dL_law_674 ?_
  refine tpi (x' := xs (i + 1)) (congrArg xs (nI_clamp (by omega))) ?_
  refine lv_aload_n hx hb dL_law_675 rfl (lv_at hl 4 rfl) ?_
  refine cw_i (wr := [((g 0), oM g my.th cy.mo cy.co cy.le), ((g 4), iA cI (my.K)), ((g 5), iA cI (my.Ah)), ((g 6), iA cI (my.Ot)), ((g 7), iA cI (my.Qm)), ((g 8), iA cI (my.Op)), ((g 9), iA cI (my.Lm)), ((g 10), iA cI (my.Hm)), ((g 11), iA cI (my.Mm)), ((g 12), iA cI (my.Rw)), ((g 13), iA cI (my.St))]) (vx_runSW (As := [.ref h, .int (xs (i + 1)), .ref q9]) (rest := []) FX (c_L_sail l G cI cL hst h q9 a t cy dy o k (xs (i + 1)) hgd _) (vx_cwSW 3 hts gL_law_L_sail rfl rfl rfl (by decide +kernel) ⟨Nat.le_of_ble_eq_true rfl, Nat.le_of_ble_eq_true rfl⟩) (wrSX hK hKL hP hD hN hE hX hNC hZ hS hA [0, 1, 2, 3, 4, 5, 6, 7, 8, 9, 10, 11, 12, 13, 14, 15, 16, 17, 18, 19, 20, 21, 22, 23] (by decide) rfl rfl) rfl rfl hl.1 rfl (lv_room (Nat.le_of_ble_eq_true rfl)) dL_law_676 ⟨hzc0, hzs0⟩) hS hP hD hA [0, 1, 2, 3, 4, 5, 6, 7, 8, 9, 10, 11, 12, 13, 14, 15, 16, 17, 18, 19, 20, 21, 22, 23] [24, 25, 26, 27, 28, 29, 30, 31, 32, 33, 34] rfl rfl (by decide) (by decide) (fun r9 u H locs hw hP hD hS => ?_)
  obtain ⟨cy2, dy2, o2⟩ := u
  obtain ⟨hr9, hgd2, ⟨hmo, hco, hle⟩, hv⟩ := hw
  have hP := hP.sub (ws' := [(h, oX a t), ((a 0), oC a (cy2.mo) (cy2.co) (cy2.le)), ((a 3), iA cI (cy2.K)), ((a 4), iA cI (cy2.Q)), ((a 5), iA cI (cy2.L)), ((a 6), iA cI (cy2.H)), ((a 7), iA cI (cy2.M)), ((a 8), iA cI (cy2.B)), ((a 9), iA cI (cy2.C)), ((a 10), iA cI (cy2.D)), ((a 11), iA cI (cy2.F)), ((a 12), iA cI (cy2.W)), ((t 0), oC t (dy2.mo) (dy2.co) (dy2.le)), ((t 3), iA cI (dy2.K)), ((t 4), iA cI (dy2.Q)), ((t 5), iA cI (dy2.L)), ((t 6), iA cI (dy2.H)), ((t 7), iA cI (dy2.M)), ((t 8), iA cI (dy2.B)), ((t 9), iA cI (dy2.C)), ((t 10), iA cI (dy2.D)), ((t 11), iA cI (dy2.F)), ((t 12), iA cI (dy2.W)), (q9, lA cL o2), ((g 0), oM g my.th cy.mo cy.co cy.le), ((g 4), iA cI (my.K)), ((g 5), iA cI (my.Ah)), ((g 6), iA cI (my.Ot)), ((g 7), iA cI (my.Qm)), ((g 8), iA cI (my.Op)), ((g 9), iA cI (my.Lm)), ((g 10), iA cI (my.Hm)), ((g 11), iA cI (my.Mm)), ((g 12), iA cI (my.Rw)), ((g 13), iA cI (my.St))]) [11, 12, 13, 14, 15, 16, 17, 18, 19, 20, 21, 22, 23, 24, 25, 26, 27, 28, 29, 30, 31, 32, 33, 34, 0, 1, 2, 3, 4, 5, 6, 7, 8, 9, 10] rfl
  have hD := hD.sub (ws' := [(h, oX a t), ((a 0), oC a (cy2.mo) (cy2.co) (cy2.le)), ((a 3), iA cI (cy2.K)), ((a 4), iA cI (cy2.Q)), ((a 5), iA cI (cy2.L)), ((a 6), iA cI (cy2.H)), ((a 7), iA cI (cy2.M)), ((a 8), iA cI (cy2.B)), ((a 9), iA cI (cy2.C)), ((a 10), iA cI (cy2.D)), ((a 11), iA cI (cy2.F)), ((a 12), iA cI (cy2.W)), ((t 0), oC t (dy2.mo) (dy2.co) (dy2.le)), ((t 3), iA cI (dy2.K)), ((t 4), iA cI (dy2.Q)), ((t 5), iA cI (dy2.L)), ((t 6), iA cI (dy2.H)), ((t 7), iA cI (dy2.M)), ((t 8), iA cI (dy2.B)), ((t 9), iA cI (dy2.C)), ((t 10), iA cI (dy2.D)), ((t 11), iA cI (dy2.F)), ((t 12), iA cI (dy2.W)), (q9, lA cL o2), ((g 0), oM g my.th cy.mo cy.co cy.le), ((g 4), iA cI (my.K)), ((g 5), iA cI (my.Ah)), ((g 6), iA cI (my.Ot)), ((g 7), iA cI (my.Qm)), ((g 8), iA cI (my.Op)), ((g 9), iA cI (my.Lm)), ((g 10), iA cI (my.Hm)), ((g 11), iA cI (my.Mm)), ((g 12), iA cI (my.Rw)), ((g 13), iA cI (my.St))]) [11, 12, 13, 14, 15, 16, 17, 18, 19, 20, 21, 22, 23, 24, 25, 26, 27, 28, 29, 30, 31, 32, 33, 34, 0, 1, 2, 3, 4, 5, 6, 7, 8, 9, 10] (by decide) rfl
  have hmo : cy2.mo = cy.mo := hmo
  have hco : cy2.co = cy.co := hco
  have hle : cy2.le = cy.le := hle
  have hv : (cdSail k (xs (i + 1))) = 0 → o2 (0 : Int32).toNatClampNeg = _ := hv
  refine lv_istore (lv' := [(5, .int r9), (4, .int (nI i)), (0, .ref b), (1, .ref h), (2, .ref (g 0)), (3, .ref q9)]) hx hb dL_law_679 hl (by decide) rfl (fun ls hl => ?_)
  refine lv_aload_n hx hb dL_law_681 rfl (lv_at hl 4 rfl) ?_
  refine lv_aload_n hx hb dL_law_682 rfl (lv_at hl 2 rfl) ?_
  refine lv_iload hx hb dL_law_683 (lv_at hl 1 rfl) ?_
  refine lv_iconst (v := 1) hx hb dL_law_685 (by decide) ?_
  refine lv_iadd hx hb dL_law_686 ?_
  refine tpi (x' := nI (i + 1)) (by rw [show (1 : Int32) = nI 1 from rfl, nI_add]) ?_
  refine va_sld hx hb hXs hbl hbA hS (vp_in_nI (n := i + 1) (N := Ln) (by omega) (by omega)) dL_law_687 ?_
  refine tpi (x' := xs (i + 1)) (congrArg xs (nI_clamp (by omega))) ?_
  have hzc : cells + 1 + 0 ≤ room_1.cells := hzc0
  have hzs : slots + 6 + 0 ≤ room_1.slots := hzs0
  refine cw_i (wr := [(h, oX a t), ((a 0), oC a (cy2.mo) (cy2.co) (cy2.le)), ((a 3), iA cI (cy2.K)), ((a 4), iA cI (cy2.Q)), ((a 5), iA cI (cy2.L)), ((a 6), iA cI (cy2.H)), ((a 7), iA cI (cy2.M)), ((a 8), iA cI (cy2.B)), ((a 9), iA cI (cy2.C)), ((a 10), iA cI (cy2.D)), ((a 11), iA cI (cy2.F)), ((a 12), iA cI (cy2.W)), ((t 0), oC t (dy2.mo) (dy2.co) (dy2.le)), ((t 3), iA cI (dy2.K)), ((t 4), iA cI (dy2.Q)), ((t 5), iA cI (dy2.L)), ((t 6), iA cI (dy2.H)), ((t 7), iA cI (dy2.M)), ((t 8), iA cI (dy2.B)), ((t 9), iA cI (dy2.C)), ((t 10), iA cI (dy2.D)), ((t 11), iA cI (dy2.F)), ((t 12), iA cI (dy2.W)), (q9, lA cL o2)]) (va_runV (As := [.int (xs (i + 1))]) (rest := []) FX (c_X2_sail l G cI g my.th cy.mo cy.co cy.le my.K my.Ah my.Ot my.Qm my.Op my.Lm my.Hm my.Mm my.Rw my.St k (xs (i + 1)) hmk hkd _) (cwV 1 hts gL_law_X2_sail rfl rfl rfl (by decide +kernel) ⟨Nat.le_of_ble_eq_true rfl, Nat.le_of_ble_eq_true rfl⟩) (wrV hK hP hD hN [24, 25, 26, 27, 28, 29, 30, 31, 32, 33, 34] (by decide) rfl rfl (ci := 2) (q0 := 24) rfl rfl) rfl rfl hl.1 rfl (lv_room (Nat.le_of_ble_eq_true rfl)) dL_law_688 ⟨hzc, hzs⟩) hS hP hD hA [24, 25, 26, 27, 28, 29, 30, 31, 32, 33, 34] [0, 1, 2, 3, 4, 5, 6, 7, 8, 9, 10, 11, 12, 13, 14, 15, 16, 17, 18, 19, 20, 21, 22, 23] rfl rfl (by decide) (by decide) (fun r8 u H locs hw hP hD hS => ?_)
  obtain ⟨Rw1, St1⟩ := u
  have hP := hP.sub (ws' := [(h, oX a t), ((a 0), oC a (cy2.mo) (cy2.co) (cy2.le)), ((a 3), iA cI (cy2.K)), ((a 4), iA cI (cy2.Q)), ((a 5), iA cI (cy2.L)), ((a 6), iA cI (cy2.H)), ((a 7), iA cI (cy2.M)), ((a 8), iA cI (cy2.B)), ((a 9), iA cI (cy2.C)), ((a 10), iA cI (cy2.D)), ((a 11), iA cI (cy2.F)), ((a 12), iA cI (cy2.W)), ((t 0), oC t (dy2.mo) (dy2.co) (dy2.le)), ((t 3), iA cI (dy2.K)), ((t 4), iA cI (dy2.Q)), ((t 5), iA cI (dy2.L)), ((t 6), iA cI (dy2.H)), ((t 7), iA cI (dy2.M)), ((t 8), iA cI (dy2.B)), ((t 9), iA cI (dy2.C)), ((t 10), iA cI (dy2.D)), ((t 11), iA cI (dy2.F)), ((t 12), iA cI (dy2.W)), (q9, lA cL o2), ((g 0), oM g (cdSail k (xs (i + 1))) cy.mo cy.co cy.le), ((g 4), iA cI (my.K)), ((g 5), iA cI (my.Ah)), ((g 6), iA cI (my.Ot)), ((g 7), iA cI (my.Qm)), ((g 8), iA cI (my.Op)), ((g 9), iA cI (my.Lm)), ((g 10), iA cI (my.Hm)), ((g 11), iA cI (my.Mm)), ((g 12), iA cI Rw1), ((g 13), iA cI St1)]) [0, 1, 2, 3, 4, 5, 6, 7, 8, 9, 10, 11, 12, 13, 14, 15, 16, 17, 18, 19, 20, 21, 22, 23, 24, 25, 26, 27, 28, 29, 30, 31, 32, 33, 34] rfl
  have hD := hD.sub (ws' := [(h, oX a t), ((a 0), oC a (cy2.mo) (cy2.co) (cy2.le)), ((a 3), iA cI (cy2.K)), ((a 4), iA cI (cy2.Q)), ((a 5), iA cI (cy2.L)), ((a 6), iA cI (cy2.H)), ((a 7), iA cI (cy2.M)), ((a 8), iA cI (cy2.B)), ((a 9), iA cI (cy2.C)), ((a 10), iA cI (cy2.D)), ((a 11), iA cI (cy2.F)), ((a 12), iA cI (cy2.W)), ((t 0), oC t (dy2.mo) (dy2.co) (dy2.le)), ((t 3), iA cI (dy2.K)), ((t 4), iA cI (dy2.Q)), ((t 5), iA cI (dy2.L)), ((t 6), iA cI (dy2.H)), ((t 7), iA cI (dy2.M)), ((t 8), iA cI (dy2.B)), ((t 9), iA cI (dy2.C)), ((t 10), iA cI (dy2.D)), ((t 11), iA cI (dy2.F)), ((t 12), iA cI (dy2.W)), (q9, lA cL o2), ((g 0), oM g (cdSail k (xs (i + 1))) cy.mo cy.co cy.le), ((g 4), iA cI (my.K)), ((g 5), iA cI (my.Ah)), ((g 6), iA cI (my.Ot)), ((g 7), iA cI (my.Qm)), ((g 8), iA cI (my.Op)), ((g 9), iA cI (my.Lm)), ((g 10), iA cI (my.Hm)), ((g 11), iA cI (my.Mm)), ((g 12), iA cI Rw1), ((g 13), iA cI St1)]) [0, 1, 2, 3, 4, 5, 6, 7, 8, 9, 10, 11, 12, 13, 14, 15, 16, 17, 18, 19, 20, 21, 22, 23, 24, 25, 26, 27, 28, 29, 30, 31, 32, 33, 34] (by decide) rfl
  rw [← hmo] at hP hD
  rw [← hco] at hP hD
  rw [← hle] at hP hD
  have hP : va_P G vwCl [(h, oX a t), ((a 0), oC a (cy2.mo) (cy2.co) (cy2.le)), ((a 3), iA cI (cy2.K)), ((a 4), iA cI (cy2.Q)), ((a 5), iA cI (cy2.L)), ((a 6), iA cI (cy2.H)), ((a 7), iA cI (cy2.M)), ((a 8), iA cI (cy2.B)), ((a 9), iA cI (cy2.C)), ((a 10), iA cI (cy2.D)), ((a 11), iA cI (cy2.F)), ((a 12), iA cI (cy2.W)), ((t 0), oC t (dy2.mo) (dy2.co) (dy2.le)), ((t 3), iA cI (dy2.K)), ((t 4), iA cI (dy2.Q)), ((t 5), iA cI (dy2.L)), ((t 6), iA cI (dy2.H)), ((t 7), iA cI (dy2.M)), ((t 8), iA cI (dy2.B)), ((t 9), iA cI (dy2.C)), ((t 10), iA cI (dy2.D)), ((t 11), iA cI (dy2.F)), ((t 12), iA cI (dy2.W)), (q9, lA cL o2), ((g 0), oM g (cdSail k (xs (i + 1))) cy2.mo cy2.co cy2.le), ((g 4), iA cI (my.K)), ((g 5), iA cI (my.Ah)), ((g 6), iA cI (my.Ot)), ((g 7), iA cI (my.Qm)), ((g 8), iA cI (my.Op)), ((g 9), iA cI (my.Lm)), ((g 10), iA cI (my.Hm)), ((g 11), iA cI (my.Mm)), ((g 12), iA cI Rw1), ((g 13), iA cI St1)] H := hP
  have hD : va_D A [(h, oX a t), ((a 0), oC a (cy2.mo) (cy2.co) (cy2.le)), ((a 3), iA cI (cy2.K)), ((a 4), iA cI (cy2.Q)), ((a 5), iA cI (cy2.L)), ((a 6), iA cI (cy2.H)), ((a 7), iA cI (cy2.M)), ((a 8), iA cI (cy2.B)), ((a 9), iA cI (cy2.C)), ((a 10), iA cI (cy2.D)), ((a 11), iA cI (cy2.F)), ((a 12), iA cI (cy2.W)), ((t 0), oC t (dy2.mo) (dy2.co) (dy2.le)), ((t 3), iA cI (dy2.K)), ((t 4), iA cI (dy2.Q)), ((t 5), iA cI (dy2.L)), ((t 6), iA cI (dy2.H)), ((t 7), iA cI (dy2.M)), ((t 8), iA cI (dy2.B)), ((t 9), iA cI (dy2.C)), ((t 10), iA cI (dy2.D)), ((t 11), iA cI (dy2.F)), ((t 12), iA cI (dy2.W)), (q9, lA cL o2), ((g 0), oM g (cdSail k (xs (i + 1))) cy2.mo cy2.co cy2.le), ((g 4), iA cI (my.K)), ((g 5), iA cI (my.Ah)), ((g 6), iA cI (my.Ot)), ((g 7), iA cI (my.Qm)), ((g 8), iA cI (my.Op)), ((g 9), iA cI (my.Lm)), ((g 10), iA cI (my.Hm)), ((g 11), iA cI (my.Mm)), ((g 12), iA cI Rw1), ((g 13), iA cI St1)] := hD
  refine lv_istore (lv' := [(6, .int r8), (5, .int r9), (4, .int (nI i)), (0, .ref b), (1, .ref h), (2, .ref (g 0)), (3, .ref q9)]) hx hb dL_law_691 hl (by decide) rfl (fun ls hl => ?_)
  refine lv_aload_n hx hb dL_law_693 rfl (lv_at hl 5 rfl) ?_
  refine cr_i (va_runV (As := []) (rest := []) FX (c_X2_thrown l G cI g (cdSail k (xs (i + 1))) cy2.mo cy2.co cy2.le) (cwV 0 hts gL_law_X2_thrown rfl rfl rfl (by decide +kernel) ⟨Nat.le_of_ble_eq_true rfl, Nat.le_of_ble_eq_true rfl⟩) (rdV hK hP hN [24] rfl (ci := 2) (q0 := 24) rfl rfl) rfl rfl hl.1 rfl (lv_room (Nat.le_of_ble_eq_true rfl)) dL_law_694 ⟨hzc, hzs⟩) hS hP (fun H locs hP hS => ?_)
  refine lv_iload hx hb dL_law_697 (lv_at hl 1 rfl) ?_
  refine lv_icmp_eq (tgt := 704) hx hb dL_law_699 (by decide) (fun _ => ?_) (fun c => absurd (hr9.symm) c)
  refine lv_iload hx hb dL_law_704 (lv_at hl 1 rfl) ?_
  refine lv_if_ne (tgt := 721) hx hb dL_law_706 (by decide) (fun cz => ?_) (fun cz => ?_)
  · skip
    refine lv_goto (tgt := 1039) hx hb dL_law_721 (by decide) ?_
    exact kk cy2 dy2 ((cdSail k (xs (i + 1))), my.K, my.Ah, my.Ot, my.Qm, my.Op, my.Lm, my.Hm, my.Mm, Rw1, St1) o2 k _ _ _ hgd2 (hmk) hP hD hS (lv_sub hl [2, 3, 4, 5, 6] rfl)
  · skip
    have h0 : (cdSail k (xs (i + 1))) = 0 := hr9.symm.trans cz
    refine lv_aload_n hx hb dL_law_709 rfl (lv_at hl 6 rfl) ?_
    refine lv_iconst (v := 0) hx hb dL_law_710 (by decide) ?_
    refine va_lald hx hb hKL hP 23 0 rfl rfl vp_in01 dL_law_711 ?_
    refine lv_iload hx hb dL_law_712 (lv_at hl 0 rfl) ?_
    refine lv_i2l (v := r8.toInt64) hx hb dL_law_714 rfl ?_
    refine W.lcmp hx hb dL_law_715 ?_
    refine tpi (x' := 0) ((lg_cmp_eq _ _).mpr ((hv h0).trans (congrArg Int32.toInt64 (hw h0).symm))) ?_
    refine lv_if_eq (tgt := 721) hx hb dL_law_716 (by decide) (fun _ => ?_) (fun c => absurd (rfl) c)
    refine lv_goto (tgt := 1039) hx hb dL_law_721 (by decide) ?_
    exact kk cy2 dy2 ((cdSail k (xs (i + 1))), my.K, my.Ah, my.Ot, my.Qm, my.Op, my.Lm, my.Hm, my.Mm, Rw1, St1) o2 k _ _ _ hgd2 (hmk) hP hD hS (lv_sub hl [2, 3, 4, 5, 6] rfl)

set_option maxHeartbeats 4000000 in
set_option maxRecDepth 100000 in
theorem law_pass {p : Program} {l : Launch} {e : Env} {s : State} {m : MethodId} {below : List Frame} {meth : Method} {c : Code} {b Ln : Nat} {xs : Nat → Int32} {A : Nat → Prop} {cells slots : Nat} {Q : State → Prop} {G : va_G} {cI cL : ClassId} {h q9 : Nat} {a t g : Nat → Nat} {cy dy : Cy} {my : My} {o : Nat → Int64} {k : Nat → Int32} {H : Heap} {locs : List Loc} {ls : Array Slot} {i : Nat} (E0 : LwE p l s m c b Ln xs G cI cL A) (hgd : Sd cy k) (hmk : eqK my.K k) (hP : va_P G vwCl (LAW cI cL h q9 a t g cy dy my o) H) (hD : va_D A (LAW cI cL h q9 a t g cy dy my o)) (hS : va_S A s.heap H locs) (hl : lv_has ls 9 [(4, .int (nI i)), (0, .ref b), (1, .ref h), (2, .ref (g 0)), (3, .ref q9)]) (hi : i + 4 ≤ Ln) (hLn : Ln ≤ 2048) (hzc0 : cells + 1 ≤ room_1.cells) (hzs0 : slots + 6 ≤ room_1.slots)
    (kk : ∀ (cy2 dy2 : Cy) (my2 : My) (o2 : Nat → Int64) (k2 : Nat → Int32) (H2 : Heap) (locs2 : List Loc) (ls2 : Array Slot), Sd cy2 k2 → eqK my2.K k2 → va_P G vwCl (LAW cI cL h q9 a t g cy2 dy2 my2 o2) H2 → va_D A (LAW cI cL h q9 a t g cy2 dy2 my2 o2) → va_S A s.heap H2 locs2 → lv_has ls2 9 [(4, .int (nI i)), (0, .ref b), (1, .ref h), (2, .ref (g 0)), (3, .ref q9)] → W p l e room_1 s m #[Value.ref b] below meth c H2 locs2 (cells + 1) (slots + 6) Q (F0 m 1039 ls2 [])) : W p l e room_1 s m #[Value.ref b] below meth c H locs cells slots Q (F0 m 724 ls []) := by
  obtain ⟨hx, hb, hml, hown, hts, hst, hK, hKL, hN, hE, hX, hNC, hZ, hBL, hA, hXs, hbl, hbA⟩ := E0
  have hk := hgd.1
  have hS0 := hgd.2.1
  have hgt := hgd.2.2.1
  have hkd := hgd.2.2.2
  have FX : CallFix p m c cL_law 9 s #[Value.ref b] wsL_law RL := ⟨hx, hb, hml, hown, hts⟩
  have hP : va_P G vwCl [(h, oX a t), ((a 0), oC a (cy.mo) (cy.co) (cy.le)), ((a 3), iA cI (cy.K)), ((a 4), iA cI (cy.Q)), ((a 5), iA cI (cy.L)), ((a 6), iA cI (cy.H)), ((a 7), iA cI (cy.M)), ((a 8), iA cI (cy.B)), ((a 9), iA cI (cy.C)), ((a 10), iA cI (cy.D)), ((a 11), iA cI (cy.F)), ((a 12), iA cI (cy.W)), ((t 0), oC t (dy.mo) (dy.co) (dy.le)), ((t 3), iA cI (dy.K)), ((t 4), iA cI (dy.Q)), ((t 5), iA cI (dy.L)), ((t 6), iA cI (dy.H)), ((t 7), iA cI (dy.M)), ((t 8), iA cI (dy.B)), ((t 9), iA cI (dy.C)), ((t 10), iA cI (dy.D)), ((t 11), iA cI (dy.F)), ((t 12), iA cI (dy.W)), (q9, lA cL o), ((g 0), oM g my.th cy.mo cy.co cy.le), ((g 4), iA cI (my.K)), ((g 5), iA cI (my.Ah)), ((g 6), iA cI (my.Ot)), ((g 7), iA cI (my.Qm)), ((g 8), iA cI (my.Op)), ((g 9), iA cI (my.Lm)), ((g 10), iA cI (my.Hm)), ((g 11), iA cI (my.Mm)), ((g 12), iA cI (my.Rw)), ((g 13), iA cI (my.St))] H := hP
  have hD : va_D A [(h, oX a t), ((a 0), oC a (cy.mo) (cy.co) (cy.le)), ((a 3), iA cI (cy.K)), ((a 4), iA cI (cy.Q)), ((a 5), iA cI (cy.L)), ((a 6), iA cI (cy.H)), ((a 7), iA cI (cy.M)), ((a 8), iA cI (cy.B)), ((a 9), iA cI (cy.C)), ((a 10), iA cI (cy.D)), ((a 11), iA cI (cy.F)), ((a 12), iA cI (cy.W)), ((t 0), oC t (dy.mo) (dy.co) (dy.le)), ((t 3), iA cI (dy.K)), ((t 4), iA cI (dy.Q)), ((t 5), iA cI (dy.L)), ((t 6), iA cI (dy.H)), ((t 7), iA cI (dy.M)), ((t 8), iA cI (dy.B)), ((t 9), iA cI (dy.C)), ((t 10), iA cI (dy.D)), ((t 11), iA cI (dy.F)), ((t 12), iA cI (dy.W)), (q9, lA cL o), ((g 0), oM g my.th cy.mo cy.co cy.le), ((g 4), iA cI (my.K)), ((g 5), iA cI (my.Ah)), ((g 6), iA cI (my.Ot)), ((g 7), iA cI (my.Qm)), ((g 8), iA cI (my.Op)), ((g 9), iA cI (my.Lm)), ((g 10), iA cI (my.Hm)), ((g 11), iA cI (my.Mm)), ((g 12), iA cI (my.Rw)), ((g 13), iA cI (my.St))] := hD
  refine lv_aload_n hx hb dL_law_724 rfl (lv_at hl 2 rfl) ?_
  refine lv_aload_n hx hb dL_law_725 rfl (lv_at hl 1 rfl) ?_
  refine lv_iload hx hb dL_law_726 (lv_at hl 0 rfl) ?_
  refine lv_iconst (v := 1) hx hb dL_law_728 (by decide) ?_
  refine lv_iadd hx hb dL_law_729 ?_
  refine tpi (x' := nI (i + 1)) (by rw [show (1 : Int32) = nI 1 from rfl, nI_add]) ?_
  refine va_sld hx hb hXs hbl hbA hS (vp_in_nI (n := i + 1) (N := Ln) (by omega) (by omega)) dL_law_730 ?_
  refine tpi (x' := xs (i + 1)) (congrArg xs (nI_clamp (by omega))) ?_
  refine lv_aload_n hx hb dL_law_731 rfl (lv_at hl 4 rfl) ?_
  refine cw_i (wr := [((g 0), oM g my.th cy.mo cy.co cy.le), ((g 4), iA cI (my.K)), ((g 5), iA cI (my.Ah)), ((g 6), iA cI (my.Ot)), ((g 7), iA cI (my.Qm)), ((g 8), iA cI (my.Op)), ((g 9), iA cI (my.Lm)), ((g 10), iA cI (my.Hm)), ((g 11), iA cI (my.Mm)), ((g 12), iA cI (my.Rw)), ((g 13), iA cI (my.St))]) (vx_runSW (As := [.ref h, .int (xs (i + 1)), .ref q9]) (rest := []) FX (c_L_pass l G cI cL hst h q9 a t cy dy o k (xs (i + 1)) hgd _) (vx_cwSW 3 hts gL_law_L_pass rfl rfl rfl (by decide +kernel) ⟨Nat.le_of_ble_eq_true rfl, Nat.le_of_ble_eq_true rfl⟩) (wrSX hK hKL hP hD hN hE hX hNC hZ hS hA [0, 1, 2, 3, 4, 5, 6, 7, 8, 9, 10, 11, 12, 13, 14, 15, 16, 17, 18, 19, 20, 21, 22, 23] (by decide) rfl rfl) rfl rfl hl.1 rfl (lv_room (Nat.le_of_ble_eq_true rfl)) dL_law_732 ⟨hzc0, hzs0⟩) hS hP hD hA [0, 1, 2, 3, 4, 5, 6, 7, 8, 9, 10, 11, 12, 13, 14, 15, 16, 17, 18, 19, 20, 21, 22, 23] [24, 25, 26, 27, 28, 29, 30, 31, 32, 33, 34] rfl rfl (by decide) (by decide) (fun r9 u H locs hw hP hD hS => ?_)
  obtain ⟨cy2, dy2, o2⟩ := u
  obtain ⟨hr9, hgd2, ⟨hmo, hco, hle⟩, hv⟩ := hw
  have hP := hP.sub (ws' := [(h, oX a t), ((a 0), oC a (cy2.mo) (cy2.co) (cy2.le)), ((a 3), iA cI (cy2.K)), ((a 4), iA cI (cy2.Q)), ((a 5), iA cI (cy2.L)), ((a 6), iA cI (cy2.H)), ((a 7), iA cI (cy2.M)), ((a 8), iA cI (cy2.B)), ((a 9), iA cI (cy2.C)), ((a 10), iA cI (cy2.D)), ((a 11), iA cI (cy2.F)), ((a 12), iA cI (cy2.W)), ((t 0), oC t (dy2.mo) (dy2.co) (dy2.le)), ((t 3), iA cI (dy2.K)), ((t 4), iA cI (dy2.Q)), ((t 5), iA cI (dy2.L)), ((t 6), iA cI (dy2.H)), ((t 7), iA cI (dy2.M)), ((t 8), iA cI (dy2.B)), ((t 9), iA cI (dy2.C)), ((t 10), iA cI (dy2.D)), ((t 11), iA cI (dy2.F)), ((t 12), iA cI (dy2.W)), (q9, lA cL o2), ((g 0), oM g my.th cy.mo cy.co cy.le), ((g 4), iA cI (my.K)), ((g 5), iA cI (my.Ah)), ((g 6), iA cI (my.Ot)), ((g 7), iA cI (my.Qm)), ((g 8), iA cI (my.Op)), ((g 9), iA cI (my.Lm)), ((g 10), iA cI (my.Hm)), ((g 11), iA cI (my.Mm)), ((g 12), iA cI (my.Rw)), ((g 13), iA cI (my.St))]) [11, 12, 13, 14, 15, 16, 17, 18, 19, 20, 21, 22, 23, 24, 25, 26, 27, 28, 29, 30, 31, 32, 33, 34, 0, 1, 2, 3, 4, 5, 6, 7, 8, 9, 10] rfl
  have hD := hD.sub (ws' := [(h, oX a t), ((a 0), oC a (cy2.mo) (cy2.co) (cy2.le)), ((a 3), iA cI (cy2.K)), ((a 4), iA cI (cy2.Q)), ((a 5), iA cI (cy2.L)), ((a 6), iA cI (cy2.H)), ((a 7), iA cI (cy2.M)), ((a 8), iA cI (cy2.B)), ((a 9), iA cI (cy2.C)), ((a 10), iA cI (cy2.D)), ((a 11), iA cI (cy2.F)), ((a 12), iA cI (cy2.W)), ((t 0), oC t (dy2.mo) (dy2.co) (dy2.le)), ((t 3), iA cI (dy2.K)), ((t 4), iA cI (dy2.Q)), ((t 5), iA cI (dy2.L)), ((t 6), iA cI (dy2.H)), ((t 7), iA cI (dy2.M)), ((t 8), iA cI (dy2.B)), ((t 9), iA cI (dy2.C)), ((t 10), iA cI (dy2.D)), ((t 11), iA cI (dy2.F)), ((t 12), iA cI (dy2.W)), (q9, lA cL o2), ((g 0), oM g my.th cy.mo cy.co cy.le), ((g 4), iA cI (my.K)), ((g 5), iA cI (my.Ah)), ((g 6), iA cI (my.Ot)), ((g 7), iA cI (my.Qm)), ((g 8), iA cI (my.Op)), ((g 9), iA cI (my.Lm)), ((g 10), iA cI (my.Hm)), ((g 11), iA cI (my.Mm)), ((g 12), iA cI (my.Rw)), ((g 13), iA cI (my.St))]) [11, 12, 13, 14, 15, 16, 17, 18, 19, 20, 21, 22, 23, 24, 25, 26, 27, 28, 29, 30, 31, 32, 33, 34, 0, 1, 2, 3, 4, 5, 6, 7, 8, 9, 10] (by decide) rfl
  have hmo : cy2.mo = (nmM (cdPass (xs (i + 1))) cy.mo (xs (i + 1)).toNatClampNeg) := hmo
  have hco : cy2.co = (nmC (cdPass (xs (i + 1))) k cy.co (xs (i + 1)).toNatClampNeg) := hco
  have hle : cy2.le = (nmL (cdPass (xs (i + 1))) k cy.le (xs (i + 1)).toNatClampNeg) := hle
  have hv : (cdPass (xs (i + 1))) = 0 → o2 (0 : Int32).toNatClampNeg = _ := hv
  refine lv_istore (lv' := [(5, .int r9), (4, .int (nI i)), (0, .ref b), (1, .ref h), (2, .ref (g 0)), (3, .ref q9)]) hx hb dL_law_735 hl (by decide) rfl (fun ls hl => ?_)
  refine lv_aload_n hx hb dL_law_737 rfl (lv_at hl 4 rfl) ?_
  refine lv_aload_n hx hb dL_law_738 rfl (lv_at hl 2 rfl) ?_
  refine lv_iload hx hb dL_law_739 (lv_at hl 1 rfl) ?_
  refine lv_iconst (v := 1) hx hb dL_law_741 (by decide) ?_
  refine lv_iadd hx hb dL_law_742 ?_
  refine tpi (x' := nI (i + 1)) (by rw [show (1 : Int32) = nI 1 from rfl, nI_add]) ?_
  refine va_sld hx hb hXs hbl hbA hS (vp_in_nI (n := i + 1) (N := Ln) (by omega) (by omega)) dL_law_743 ?_
  refine tpi (x' := xs (i + 1)) (congrArg xs (nI_clamp (by omega))) ?_
  have hzc : cells + 1 + 0 ≤ room_1.cells := hzc0
  have hzs : slots + 6 + 0 ≤ room_1.slots := hzs0
  refine cw_i (wr := [(h, oX a t), ((a 0), oC a (cy2.mo) (cy2.co) (cy2.le)), ((a 3), iA cI (cy2.K)), ((a 4), iA cI (cy2.Q)), ((a 5), iA cI (cy2.L)), ((a 6), iA cI (cy2.H)), ((a 7), iA cI (cy2.M)), ((a 8), iA cI (cy2.B)), ((a 9), iA cI (cy2.C)), ((a 10), iA cI (cy2.D)), ((a 11), iA cI (cy2.F)), ((a 12), iA cI (cy2.W)), ((t 0), oC t (dy2.mo) (dy2.co) (dy2.le)), ((t 3), iA cI (dy2.K)), ((t 4), iA cI (dy2.Q)), ((t 5), iA cI (dy2.L)), ((t 6), iA cI (dy2.H)), ((t 7), iA cI (dy2.M)), ((t 8), iA cI (dy2.B)), ((t 9), iA cI (dy2.C)), ((t 10), iA cI (dy2.D)), ((t 11), iA cI (dy2.F)), ((t 12), iA cI (dy2.W)), (q9, lA cL o2)]) (va_runV (As := [.int (xs (i + 1))]) (rest := []) FX (c_X2_pass l G cI g my.th cy.mo cy.co cy.le my.K my.Ah my.Ot my.Qm my.Op my.Lm my.Hm my.Mm my.Rw my.St k (xs (i + 1)) hmk hkd _) (cwV 1 hts gL_law_X2_pass rfl rfl rfl (by decide +kernel) ⟨Nat.le_of_ble_eq_true rfl, Nat.le_of_ble_eq_true rfl⟩) (wrV hK hP hD hN [24, 25, 26, 27, 28, 29, 30, 31, 32, 33, 34] (by decide) rfl rfl (ci := 2) (q0 := 24) rfl rfl) rfl rfl hl.1 rfl (lv_room (Nat.le_of_ble_eq_true rfl)) dL_law_744 ⟨hzc, hzs⟩) hS hP hD hA [24, 25, 26, 27, 28, 29, 30, 31, 32, 33, 34] [0, 1, 2, 3, 4, 5, 6, 7, 8, 9, 10, 11, 12, 13, 14, 15, 16, 17, 18, 19, 20, 21, 22, 23] rfl rfl (by decide) (by decide) (fun r8 u H locs hw hP hD hS => ?_)
  obtain ⟨K1, Ot1, Qm1, Op1, Lm1, Hm1, Mm1, Rw1, St1⟩ := u
  have hP := hP.sub (ws' := [(h, oX a t), ((a 0), oC a (cy2.mo) (cy2.co) (cy2.le)), ((a 3), iA cI (cy2.K)), ((a 4), iA cI (cy2.Q)), ((a 5), iA cI (cy2.L)), ((a 6), iA cI (cy2.H)), ((a 7), iA cI (cy2.M)), ((a 8), iA cI (cy2.B)), ((a 9), iA cI (cy2.C)), ((a 10), iA cI (cy2.D)), ((a 11), iA cI (cy2.F)), ((a 12), iA cI (cy2.W)), ((t 0), oC t (dy2.mo) (dy2.co) (dy2.le)), ((t 3), iA cI (dy2.K)), ((t 4), iA cI (dy2.Q)), ((t 5), iA cI (dy2.L)), ((t 6), iA cI (dy2.H)), ((t 7), iA cI (dy2.M)), ((t 8), iA cI (dy2.B)), ((t 9), iA cI (dy2.C)), ((t 10), iA cI (dy2.D)), ((t 11), iA cI (dy2.F)), ((t 12), iA cI (dy2.W)), (q9, lA cL o2), ((g 0), oM g (cdPass (xs (i + 1))) (nmM (cdPass (xs (i + 1))) cy.mo (xs (i + 1)).toNatClampNeg) (nmC (cdPass (xs (i + 1))) k cy.co (xs (i + 1)).toNatClampNeg) (nmL (cdPass (xs (i + 1))) k cy.le (xs (i + 1)).toNatClampNeg)), ((g 4), iA cI K1), ((g 5), iA cI (my.Ah)), ((g 6), iA cI Ot1), ((g 7), iA cI Qm1), ((g 8), iA cI Op1), ((g 9), iA cI Lm1), ((g 10), iA cI Hm1), ((g 11), iA cI Mm1), ((g 12), iA cI Rw1), ((g 13), iA cI St1)]) [0, 1, 2, 3, 4, 5, 6, 7, 8, 9, 10, 11, 12, 13, 14, 15, 16, 17, 18, 19, 20, 21, 22, 23, 24, 25, 26, 27, 28, 29, 30, 31, 32, 33, 34] rfl
  have hD := hD.sub (ws' := [(h, oX a t), ((a 0), oC a (cy2.mo) (cy2.co) (cy2.le)), ((a 3), iA cI (cy2.K)), ((a 4), iA cI (cy2.Q)), ((a 5), iA cI (cy2.L)), ((a 6), iA cI (cy2.H)), ((a 7), iA cI (cy2.M)), ((a 8), iA cI (cy2.B)), ((a 9), iA cI (cy2.C)), ((a 10), iA cI (cy2.D)), ((a 11), iA cI (cy2.F)), ((a 12), iA cI (cy2.W)), ((t 0), oC t (dy2.mo) (dy2.co) (dy2.le)), ((t 3), iA cI (dy2.K)), ((t 4), iA cI (dy2.Q)), ((t 5), iA cI (dy2.L)), ((t 6), iA cI (dy2.H)), ((t 7), iA cI (dy2.M)), ((t 8), iA cI (dy2.B)), ((t 9), iA cI (dy2.C)), ((t 10), iA cI (dy2.D)), ((t 11), iA cI (dy2.F)), ((t 12), iA cI (dy2.W)), (q9, lA cL o2), ((g 0), oM g (cdPass (xs (i + 1))) (nmM (cdPass (xs (i + 1))) cy.mo (xs (i + 1)).toNatClampNeg) (nmC (cdPass (xs (i + 1))) k cy.co (xs (i + 1)).toNatClampNeg) (nmL (cdPass (xs (i + 1))) k cy.le (xs (i + 1)).toNatClampNeg)), ((g 4), iA cI K1), ((g 5), iA cI (my.Ah)), ((g 6), iA cI Ot1), ((g 7), iA cI Qm1), ((g 8), iA cI Op1), ((g 9), iA cI Lm1), ((g 10), iA cI Hm1), ((g 11), iA cI Mm1), ((g 12), iA cI Rw1), ((g 13), iA cI St1)]) [0, 1, 2, 3, 4, 5, 6, 7, 8, 9, 10, 11, 12, 13, 14, 15, 16, 17, 18, 19, 20, 21, 22, 23, 24, 25, 26, 27, 28, 29, 30, 31, 32, 33, 34] (by decide) rfl
  rw [← hmo] at hP hD
  rw [← hco] at hP hD
  rw [← hle] at hP hD
  have hP : va_P G vwCl [(h, oX a t), ((a 0), oC a (cy2.mo) (cy2.co) (cy2.le)), ((a 3), iA cI (cy2.K)), ((a 4), iA cI (cy2.Q)), ((a 5), iA cI (cy2.L)), ((a 6), iA cI (cy2.H)), ((a 7), iA cI (cy2.M)), ((a 8), iA cI (cy2.B)), ((a 9), iA cI (cy2.C)), ((a 10), iA cI (cy2.D)), ((a 11), iA cI (cy2.F)), ((a 12), iA cI (cy2.W)), ((t 0), oC t (dy2.mo) (dy2.co) (dy2.le)), ((t 3), iA cI (dy2.K)), ((t 4), iA cI (dy2.Q)), ((t 5), iA cI (dy2.L)), ((t 6), iA cI (dy2.H)), ((t 7), iA cI (dy2.M)), ((t 8), iA cI (dy2.B)), ((t 9), iA cI (dy2.C)), ((t 10), iA cI (dy2.D)), ((t 11), iA cI (dy2.F)), ((t 12), iA cI (dy2.W)), (q9, lA cL o2), ((g 0), oM g (cdPass (xs (i + 1))) cy2.mo cy2.co cy2.le), ((g 4), iA cI K1), ((g 5), iA cI (my.Ah)), ((g 6), iA cI Ot1), ((g 7), iA cI Qm1), ((g 8), iA cI Op1), ((g 9), iA cI Lm1), ((g 10), iA cI Hm1), ((g 11), iA cI Mm1), ((g 12), iA cI Rw1), ((g 13), iA cI St1)] H := hP
  have hD : va_D A [(h, oX a t), ((a 0), oC a (cy2.mo) (cy2.co) (cy2.le)), ((a 3), iA cI (cy2.K)), ((a 4), iA cI (cy2.Q)), ((a 5), iA cI (cy2.L)), ((a 6), iA cI (cy2.H)), ((a 7), iA cI (cy2.M)), ((a 8), iA cI (cy2.B)), ((a 9), iA cI (cy2.C)), ((a 10), iA cI (cy2.D)), ((a 11), iA cI (cy2.F)), ((a 12), iA cI (cy2.W)), ((t 0), oC t (dy2.mo) (dy2.co) (dy2.le)), ((t 3), iA cI (dy2.K)), ((t 4), iA cI (dy2.Q)), ((t 5), iA cI (dy2.L)), ((t 6), iA cI (dy2.H)), ((t 7), iA cI (dy2.M)), ((t 8), iA cI (dy2.B)), ((t 9), iA cI (dy2.C)), ((t 10), iA cI (dy2.D)), ((t 11), iA cI (dy2.F)), ((t 12), iA cI (dy2.W)), (q9, lA cL o2), ((g 0), oM g (cdPass (xs (i + 1))) cy2.mo cy2.co cy2.le), ((g 4), iA cI K1), ((g 5), iA cI (my.Ah)), ((g 6), iA cI Ot1), ((g 7), iA cI Qm1), ((g 8), iA cI Op1), ((g 9), iA cI Lm1), ((g 10), iA cI Hm1), ((g 11), iA cI Mm1), ((g 12), iA cI Rw1), ((g 13), iA cI St1)] := hD
  refine lv_istore (lv' := [(6, .int r8), (5, .int r9), (4, .int (nI i)), (0, .ref b), (1, .ref h), (2, .ref (g 0)), (3, .ref q9)]) hx hb dL_law_747 hl (by decide) rfl (fun ls hl => ?_)
  refine lv_aload_n hx hb dL_law_749 rfl (lv_at hl 5 rfl) ?_
  refine cr_i (va_runV (As := []) (rest := []) FX (c_X2_thrown l G cI g (cdPass (xs (i + 1))) cy2.mo cy2.co cy2.le) (cwV 0 hts gL_law_X2_thrown rfl rfl rfl (by decide +kernel) ⟨Nat.le_of_ble_eq_true rfl, Nat.le_of_ble_eq_true rfl⟩) (rdV hK hP hN [24] rfl (ci := 2) (q0 := 24) rfl rfl) rfl rfl hl.1 rfl (lv_room (Nat.le_of_ble_eq_true rfl)) dL_law_750 ⟨hzc, hzs⟩) hS hP (fun H locs hP hS => ?_)
  refine lv_iload hx hb dL_law_753 (lv_at hl 1 rfl) ?_
  refine lv_icmp_eq (tgt := 760) hx hb dL_law_755 (by decide) (fun _ => ?_) (fun c => absurd (hr9.symm) c)
  refine lv_iload hx hb dL_law_760 (lv_at hl 1 rfl) ?_
  refine lv_if_ne (tgt := 777) hx hb dL_law_762 (by decide) (fun cz => ?_) (fun cz => ?_)
  · skip
    refine lv_goto (tgt := 1039) hx hb dL_law_777 (by decide) ?_
    exact kk cy2 dy2 ((cdPass (xs (i + 1))), K1, my.Ah, Ot1, Qm1, Op1, Lm1, Hm1, Mm1, Rw1, St1) o2 (nmK (cdPass (xs (i + 1))) k (xs (i + 1)).toNatClampNeg) _ _ _ hgd2 (hw.2) hP hD hS (lv_sub hl [2, 3, 4, 5, 6] rfl)
  · skip
    have h0 : (cdPass (xs (i + 1))) = 0 := hr9.symm.trans cz
    refine lv_aload_n hx hb dL_law_765 rfl (lv_at hl 6 rfl) ?_
    refine lv_iconst (v := 0) hx hb dL_law_766 (by decide) ?_
    refine va_lald hx hb hKL hP 23 0 rfl rfl vp_in01 dL_law_767 ?_
    refine lv_iload hx hb dL_law_768 (lv_at hl 0 rfl) ?_
    refine lv_i2l (v := r8.toInt64) hx hb dL_law_770 rfl ?_
    refine W.lcmp hx hb dL_law_771 ?_
    refine tpi (x' := 0) ((lg_cmp_eq _ _).mpr ((hv h0).trans (congrArg Int32.toInt64 (hw.1 h0).symm))) ?_
    refine lv_if_eq (tgt := 777) hx hb dL_law_772 (by decide) (fun _ => ?_) (fun c => absurd (rfl) c)
    refine lv_goto (tgt := 1039) hx hb dL_law_777 (by decide) ?_
    exact kk cy2 dy2 ((cdPass (xs (i + 1))), K1, my.Ah, Ot1, Qm1, Op1, Lm1, Hm1, Mm1, Rw1, St1) o2 (nmK (cdPass (xs (i + 1))) k (xs (i + 1)).toNatClampNeg) _ _ _ hgd2 (hw.2) hP hD hS (lv_sub hl [2, 3, 4, 5, 6] rfl)

set_option maxHeartbeats 4000000 in
set_option maxRecDepth 100000 in
theorem law_foresee {p : Program} {l : Launch} {e : Env} {s : State} {m : MethodId} {below : List Frame} {meth : Method} {c : Code} {b Ln : Nat} {xs : Nat → Int32} {A : Nat → Prop} {cells slots : Nat} {Q : State → Prop} {G : va_G} {cI cL : ClassId} {h q9 : Nat} {a t g : Nat → Nat} {cy dy : Cy} {my : My} {o : Nat → Int64} {k : Nat → Int32} {H : Heap} {locs : List Loc} {ls : Array Slot} {i : Nat} (E0 : LwE p l s m c b Ln xs G cI cL A) (hgd : Sd cy k) (hmk : eqK my.K k) (hP : va_P G vwCl (LAW cI cL h q9 a t g cy dy my o) H) (hD : va_D A (LAW cI cL h q9 a t g cy dy my o)) (hS : va_S A s.heap H locs) (hl : lv_has ls 9 [(4, .int (nI i)), (0, .ref b), (1, .ref h), (2, .ref (g 0)), (3, .ref q9)]) (hi : i + 4 ≤ Ln) (hLn : Ln ≤ 2048) (hzc0 : cells + 1 ≤ room_1.cells) (hzs0 : slots + 6 ≤ room_1.slots)
    (kk : ∀ (cy2 dy2 : Cy) (my2 : My) (o2 : Nat → Int64) (k2 : Nat → Int32) (H2 : Heap) (locs2 : List Loc) (ls2 : Array Slot), Sd cy2 k2 → eqK my2.K k2 → va_P G vwCl (LAW cI cL h q9 a t g cy2 dy2 my2 o2) H2 → va_D A (LAW cI cL h q9 a t g cy2 dy2 my2 o2) → va_S A s.heap H2 locs2 → lv_has ls2 9 [(4, .int (nI i)), (0, .ref b), (1, .ref h), (2, .ref (g 0)), (3, .ref q9)] → W p l e room_1 s m #[Value.ref b] below meth c H2 locs2 (cells + 1) (slots + 6) Q (F0 m 1039 ls2 [])) : W p l e room_1 s m #[Value.ref b] below meth c H locs cells slots Q (F0 m 780 ls []) := by
  obtain ⟨hx, hb, hml, hown, hts, hst, hK, hKL, hN, hE, hX, hNC, hZ, hBL, hA, hXs, hbl, hbA⟩ := E0
  have hk := hgd.1
  have hS0 := hgd.2.1
  have hgt := hgd.2.2.1
  have hkd := hgd.2.2.2
  have FX : CallFix p m c cL_law 9 s #[Value.ref b] wsL_law RL := ⟨hx, hb, hml, hown, hts⟩
  have hP : va_P G vwCl [(h, oX a t), ((a 0), oC a (cy.mo) (cy.co) (cy.le)), ((a 3), iA cI (cy.K)), ((a 4), iA cI (cy.Q)), ((a 5), iA cI (cy.L)), ((a 6), iA cI (cy.H)), ((a 7), iA cI (cy.M)), ((a 8), iA cI (cy.B)), ((a 9), iA cI (cy.C)), ((a 10), iA cI (cy.D)), ((a 11), iA cI (cy.F)), ((a 12), iA cI (cy.W)), ((t 0), oC t (dy.mo) (dy.co) (dy.le)), ((t 3), iA cI (dy.K)), ((t 4), iA cI (dy.Q)), ((t 5), iA cI (dy.L)), ((t 6), iA cI (dy.H)), ((t 7), iA cI (dy.M)), ((t 8), iA cI (dy.B)), ((t 9), iA cI (dy.C)), ((t 10), iA cI (dy.D)), ((t 11), iA cI (dy.F)), ((t 12), iA cI (dy.W)), (q9, lA cL o), ((g 0), oM g my.th cy.mo cy.co cy.le), ((g 4), iA cI (my.K)), ((g 5), iA cI (my.Ah)), ((g 6), iA cI (my.Ot)), ((g 7), iA cI (my.Qm)), ((g 8), iA cI (my.Op)), ((g 9), iA cI (my.Lm)), ((g 10), iA cI (my.Hm)), ((g 11), iA cI (my.Mm)), ((g 12), iA cI (my.Rw)), ((g 13), iA cI (my.St))] H := hP
  have hD : va_D A [(h, oX a t), ((a 0), oC a (cy.mo) (cy.co) (cy.le)), ((a 3), iA cI (cy.K)), ((a 4), iA cI (cy.Q)), ((a 5), iA cI (cy.L)), ((a 6), iA cI (cy.H)), ((a 7), iA cI (cy.M)), ((a 8), iA cI (cy.B)), ((a 9), iA cI (cy.C)), ((a 10), iA cI (cy.D)), ((a 11), iA cI (cy.F)), ((a 12), iA cI (cy.W)), ((t 0), oC t (dy.mo) (dy.co) (dy.le)), ((t 3), iA cI (dy.K)), ((t 4), iA cI (dy.Q)), ((t 5), iA cI (dy.L)), ((t 6), iA cI (dy.H)), ((t 7), iA cI (dy.M)), ((t 8), iA cI (dy.B)), ((t 9), iA cI (dy.C)), ((t 10), iA cI (dy.D)), ((t 11), iA cI (dy.F)), ((t 12), iA cI (dy.W)), (q9, lA cL o), ((g 0), oM g my.th cy.mo cy.co cy.le), ((g 4), iA cI (my.K)), ((g 5), iA cI (my.Ah)), ((g 6), iA cI (my.Ot)), ((g 7), iA cI (my.Qm)), ((g 8), iA cI (my.Op)), ((g 9), iA cI (my.Lm)), ((g 10), iA cI (my.Hm)), ((g 11), iA cI (my.Mm)), ((g 12), iA cI (my.Rw)), ((g 13), iA cI (my.St))] := hD
  refine lv_aload_n hx hb dL_law_780 rfl (lv_at hl 2 rfl) ?_
  refine lv_aload_n hx hb dL_law_781 rfl (lv_at hl 1 rfl) ?_
  refine lv_iload hx hb dL_law_782 (lv_at hl 0 rfl) ?_
  refine lv_iconst (v := 1) hx hb dL_law_784 (by decide) ?_
  refine lv_iadd hx hb dL_law_785 ?_
  refine tpi (x' := nI (i + 1)) (by rw [show (1 : Int32) = nI 1 from rfl, nI_add]) ?_
  refine va_sld hx hb hXs hbl hbA hS (vp_in_nI (n := i + 1) (N := Ln) (by omega) (by omega)) dL_law_786 ?_
  refine tpi (x' := xs (i + 1)) (congrArg xs (nI_clamp (by omega))) ?_
  refine lv_aload_n hx hb dL_law_787 rfl (lv_at hl 1 rfl) ?_
  refine lv_iload hx hb dL_law_788 (lv_at hl 0 rfl) ?_
  refine lv_iconst (v := 2) hx hb dL_law_790 (by decide) ?_
  refine lv_iadd hx hb dL_law_791 ?_
  refine tpi (x' := nI (i + 2)) (by rw [show (2 : Int32) = nI 2 from rfl, nI_add]) ?_
  refine va_sld hx hb hXs hbl hbA hS (vp_in_nI (n := i + 2) (N := Ln) (by omega) (by omega)) dL_law_792 ?_
  refine tpi (x' := xs (i + 2)) (congrArg xs (nI_clamp (by omega))) ?_
  refine lv_aload_n hx hb dL_law_793 rfl (lv_at hl 4 rfl) ?_
  refine cw_i (wr := [((g 0), oM g my.th cy.mo cy.co cy.le), ((g 4), iA cI (my.K)), ((g 5), iA cI (my.Ah)), ((g 6), iA cI (my.Ot)), ((g 7), iA cI (my.Qm)), ((g 8), iA cI (my.Op)), ((g 9), iA cI (my.Lm)), ((g 10), iA cI (my.Hm)), ((g 11), iA cI (my.Mm)), ((g 12), iA cI (my.Rw)), ((g 13), iA cI (my.St))]) (vx_runSW (As := [.ref h, .int (xs (i + 1)), .int (xs (i + 2)), .ref q9]) (rest := []) FX (c_L_foresee l G cI cL hst h q9 a t cy dy o k (xs (i + 1)) (xs (i + 2)) hgd _) (vx_cwSW 4 hts gL_law_L_foresee rfl rfl rfl (by decide +kernel) ⟨Nat.le_of_ble_eq_true rfl, Nat.le_of_ble_eq_true rfl⟩) (wrSX hK hKL hP hD hN hE hX hNC hZ hS hA [0, 1, 2, 3, 4, 5, 6, 7, 8, 9, 10, 11, 12, 13, 14, 15, 16, 17, 18, 19, 20, 21, 22, 23] (by decide) rfl rfl) rfl rfl hl.1 rfl (lv_room (Nat.le_of_ble_eq_true rfl)) dL_law_794 ⟨hzc0, hzs0⟩) hS hP hD hA [0, 1, 2, 3, 4, 5, 6, 7, 8, 9, 10, 11, 12, 13, 14, 15, 16, 17, 18, 19, 20, 21, 22, 23] [24, 25, 26, 27, 28, 29, 30, 31, 32, 33, 34] rfl rfl (by decide) (by decide) (fun r9 u H locs hw hP hD hS => ?_)
  obtain ⟨cy2, dy2, o2⟩ := u
  obtain ⟨hr9, hgd2, ⟨hmo, hco, hle⟩, hv⟩ := hw
  have hP := hP.sub (ws' := [(h, oX a t), ((a 0), oC a (cy2.mo) (cy2.co) (cy2.le)), ((a 3), iA cI (cy2.K)), ((a 4), iA cI (cy2.Q)), ((a 5), iA cI (cy2.L)), ((a 6), iA cI (cy2.H)), ((a 7), iA cI (cy2.M)), ((a 8), iA cI (cy2.B)), ((a 9), iA cI (cy2.C)), ((a 10), iA cI (cy2.D)), ((a 11), iA cI (cy2.F)), ((a 12), iA cI (cy2.W)), ((t 0), oC t (dy2.mo) (dy2.co) (dy2.le)), ((t 3), iA cI (dy2.K)), ((t 4), iA cI (dy2.Q)), ((t 5), iA cI (dy2.L)), ((t 6), iA cI (dy2.H)), ((t 7), iA cI (dy2.M)), ((t 8), iA cI (dy2.B)), ((t 9), iA cI (dy2.C)), ((t 10), iA cI (dy2.D)), ((t 11), iA cI (dy2.F)), ((t 12), iA cI (dy2.W)), (q9, lA cL o2), ((g 0), oM g my.th cy.mo cy.co cy.le), ((g 4), iA cI (my.K)), ((g 5), iA cI (my.Ah)), ((g 6), iA cI (my.Ot)), ((g 7), iA cI (my.Qm)), ((g 8), iA cI (my.Op)), ((g 9), iA cI (my.Lm)), ((g 10), iA cI (my.Hm)), ((g 11), iA cI (my.Mm)), ((g 12), iA cI (my.Rw)), ((g 13), iA cI (my.St))]) [11, 12, 13, 14, 15, 16, 17, 18, 19, 20, 21, 22, 23, 24, 25, 26, 27, 28, 29, 30, 31, 32, 33, 34, 0, 1, 2, 3, 4, 5, 6, 7, 8, 9, 10] rfl
  have hD := hD.sub (ws' := [(h, oX a t), ((a 0), oC a (cy2.mo) (cy2.co) (cy2.le)), ((a 3), iA cI (cy2.K)), ((a 4), iA cI (cy2.Q)), ((a 5), iA cI (cy2.L)), ((a 6), iA cI (cy2.H)), ((a 7), iA cI (cy2.M)), ((a 8), iA cI (cy2.B)), ((a 9), iA cI (cy2.C)), ((a 10), iA cI (cy2.D)), ((a 11), iA cI (cy2.F)), ((a 12), iA cI (cy2.W)), ((t 0), oC t (dy2.mo) (dy2.co) (dy2.le)), ((t 3), iA cI (dy2.K)), ((t 4), iA cI (dy2.Q)), ((t 5), iA cI (dy2.L)), ((t 6), iA cI (dy2.H)), ((t 7), iA cI (dy2.M)), ((t 8), iA cI (dy2.B)), ((t 9), iA cI (dy2.C)), ((t 10), iA cI (dy2.D)), ((t 11), iA cI (dy2.F)), ((t 12), iA cI (dy2.W)), (q9, lA cL o2), ((g 0), oM g my.th cy.mo cy.co cy.le), ((g 4), iA cI (my.K)), ((g 5), iA cI (my.Ah)), ((g 6), iA cI (my.Ot)), ((g 7), iA cI (my.Qm)), ((g 8), iA cI (my.Op)), ((g 9), iA cI (my.Lm)), ((g 10), iA cI (my.Hm)), ((g 11), iA cI (my.Mm)), ((g 12), iA cI (my.Rw)), ((g 13), iA cI (my.St))]) [11, 12, 13, 14, 15, 16, 17, 18, 19, 20, 21, 22, 23, 24, 25, 26, 27, 28, 29, 30, 31, 32, 33, 34, 0, 1, 2, 3, 4, 5, 6, 7, 8, 9, 10] (by decide) rfl
  have hmo : cy2.mo = cy.mo := hmo
  have hco : cy2.co = cy.co := hco
  have hle : cy2.le = cy.le := hle
  have hv : (cdFore (xs (i + 1)) (xs (i + 2))) = 0 → o2 (0 : Int32).toNatClampNeg = _ := hv
  refine lv_istore (lv' := [(5, .int r9), (4, .int (nI i)), (0, .ref b), (1, .ref h), (2, .ref (g 0)), (3, .ref q9)]) hx hb dL_law_797 hl (by decide) rfl (fun ls hl => ?_)
  refine lv_aload_n hx hb dL_law_799 rfl (lv_at hl 4 rfl) ?_
  refine lv_aload_n hx hb dL_law_800 rfl (lv_at hl 2 rfl) ?_
  refine lv_iload hx hb dL_law_801 (lv_at hl 1 rfl) ?_
  refine lv_iconst (v := 1) hx hb dL_law_803 (by decide) ?_
  refine lv_iadd hx hb dL_law_804 ?_
  refine tpi (x' := nI (i + 1)) (by rw [show (1 : Int32) = nI 1 from rfl, nI_add]) ?_
  refine va_sld hx hb hXs hbl hbA hS (vp_in_nI (n := i + 1) (N := Ln) (by omega) (by omega)) dL_law_805 ?_
  refine tpi (x' := xs (i + 1)) (congrArg xs (nI_clamp (by omega))) ?_
  refine lv_aload_n hx hb dL_law_806 rfl (lv_at hl 2 rfl) ?_
  refine lv_iload hx hb dL_law_807 (lv_at hl 1 rfl) ?_
  refine lv_iconst (v := 2) hx hb dL_law_809 (by decide) ?_
  refine lv_iadd hx hb dL_law_810 ?_
  refine tpi (x' := nI (i + 2)) (by rw [show (2 : Int32) = nI 2 from rfl, nI_add]) ?_
  refine va_sld hx hb hXs hbl hbA hS (vp_in_nI (n := i + 2) (N := Ln) (by omega) (by omega)) dL_law_811 ?_
  refine tpi (x' := xs (i + 2)) (congrArg xs (nI_clamp (by omega))) ?_
  have hzc : cells + 1 + 0 ≤ room_1.cells := hzc0
  have hzs : slots + 6 + 0 ≤ room_1.slots := hzs0
  refine cw_i (wr := [(h, oX a t), ((a 0), oC a (cy2.mo) (cy2.co) (cy2.le)), ((a 3), iA cI (cy2.K)), ((a 4), iA cI (cy2.Q)), ((a 5), iA cI (cy2.L)), ((a 6), iA cI (cy2.H)), ((a 7), iA cI (cy2.M)), ((a 8), iA cI (cy2.B)), ((a 9), iA cI (cy2.C)), ((a 10), iA cI (cy2.D)), ((a 11), iA cI (cy2.F)), ((a 12), iA cI (cy2.W)), ((t 0), oC t (dy2.mo) (dy2.co) (dy2.le)), ((t 3), iA cI (dy2.K)), ((t 4), iA cI (dy2.Q)), ((t 5), iA cI (dy2.L)), ((t 6), iA cI (dy2.H)), ((t 7), iA cI (dy2.M)), ((t 8), iA cI (dy2.B)), ((t 9), iA cI (dy2.C)), ((t 10), iA cI (dy2.D)), ((t 11), iA cI (dy2.F)), ((t 12), iA cI (dy2.W)), (q9, lA cL o2)]) (va_runV (As := [.int (xs (i + 1)), .int (xs (i + 2))]) (rest := []) FX (c_X2_foresee l G cI g my.th cy.mo cy.co cy.le my.K my.Ah my.Ot my.Qm my.Op my.Lm my.Hm my.Mm my.Rw my.St k (xs (i + 1)) (xs (i + 2)) hmk hkd _) (cwV 2 hts gL_law_X2_foresee rfl rfl rfl (by decide +kernel) ⟨Nat.le_of_ble_eq_true rfl, Nat.le_of_ble_eq_true rfl⟩) (wrV hK hP hD hN [24, 25, 26, 27, 28, 29, 30, 31, 32, 33, 34] (by decide) rfl rfl (ci := 2) (q0 := 24) rfl rfl) rfl rfl hl.1 rfl (lv_room (Nat.le_of_ble_eq_true rfl)) dL_law_812 ⟨hzc, hzs⟩) hS hP hD hA [24, 25, 26, 27, 28, 29, 30, 31, 32, 33, 34] [0, 1, 2, 3, 4, 5, 6, 7, 8, 9, 10, 11, 12, 13, 14, 15, 16, 17, 18, 19, 20, 21, 22, 23] rfl rfl (by decide) (by decide) (fun r8 u H locs hw hP hD hS => ?_)
  obtain ⟨Ah1, Ot1, Qm1, Op1, Lm1, Hm1, Mm1, Rw1, St1⟩ := u
  have hP := hP.sub (ws' := [(h, oX a t), ((a 0), oC a (cy2.mo) (cy2.co) (cy2.le)), ((a 3), iA cI (cy2.K)), ((a 4), iA cI (cy2.Q)), ((a 5), iA cI (cy2.L)), ((a 6), iA cI (cy2.H)), ((a 7), iA cI (cy2.M)), ((a 8), iA cI (cy2.B)), ((a 9), iA cI (cy2.C)), ((a 10), iA cI (cy2.D)), ((a 11), iA cI (cy2.F)), ((a 12), iA cI (cy2.W)), ((t 0), oC t (dy2.mo) (dy2.co) (dy2.le)), ((t 3), iA cI (dy2.K)), ((t 4), iA cI (dy2.Q)), ((t 5), iA cI (dy2.L)), ((t 6), iA cI (dy2.H)), ((t 7), iA cI (dy2.M)), ((t 8), iA cI (dy2.B)), ((t 9), iA cI (dy2.C)), ((t 10), iA cI (dy2.D)), ((t 11), iA cI (dy2.F)), ((t 12), iA cI (dy2.W)), (q9, lA cL o2), ((g 0), oM g (cdFore (xs (i + 1)) (xs (i + 2))) cy.mo cy.co cy.le), ((g 4), iA cI (my.K)), ((g 5), iA cI Ah1), ((g 6), iA cI Ot1), ((g 7), iA cI Qm1), ((g 8), iA cI Op1), ((g 9), iA cI Lm1), ((g 10), iA cI Hm1), ((g 11), iA cI Mm1), ((g 12), iA cI Rw1), ((g 13), iA cI St1)]) [0, 1, 2, 3, 4, 5, 6, 7, 8, 9, 10, 11, 12, 13, 14, 15, 16, 17, 18, 19, 20, 21, 22, 23, 24, 25, 26, 27, 28, 29, 30, 31, 32, 33, 34] rfl
  have hD := hD.sub (ws' := [(h, oX a t), ((a 0), oC a (cy2.mo) (cy2.co) (cy2.le)), ((a 3), iA cI (cy2.K)), ((a 4), iA cI (cy2.Q)), ((a 5), iA cI (cy2.L)), ((a 6), iA cI (cy2.H)), ((a 7), iA cI (cy2.M)), ((a 8), iA cI (cy2.B)), ((a 9), iA cI (cy2.C)), ((a 10), iA cI (cy2.D)), ((a 11), iA cI (cy2.F)), ((a 12), iA cI (cy2.W)), ((t 0), oC t (dy2.mo) (dy2.co) (dy2.le)), ((t 3), iA cI (dy2.K)), ((t 4), iA cI (dy2.Q)), ((t 5), iA cI (dy2.L)), ((t 6), iA cI (dy2.H)), ((t 7), iA cI (dy2.M)), ((t 8), iA cI (dy2.B)), ((t 9), iA cI (dy2.C)), ((t 10), iA cI (dy2.D)), ((t 11), iA cI (dy2.F)), ((t 12), iA cI (dy2.W)), (q9, lA cL o2), ((g 0), oM g (cdFore (xs (i + 1)) (xs (i + 2))) cy.mo cy.co cy.le), ((g 4), iA cI (my.K)), ((g 5), iA cI Ah1), ((g 6), iA cI Ot1), ((g 7), iA cI Qm1), ((g 8), iA cI Op1), ((g 9), iA cI Lm1), ((g 10), iA cI Hm1), ((g 11), iA cI Mm1), ((g 12), iA cI Rw1), ((g 13), iA cI St1)]) [0, 1, 2, 3, 4, 5, 6, 7, 8, 9, 10, 11, 12, 13, 14, 15, 16, 17, 18, 19, 20, 21, 22, 23, 24, 25, 26, 27, 28, 29, 30, 31, 32, 33, 34] (by decide) rfl
  rw [← hmo] at hP hD
  rw [← hco] at hP hD
  rw [← hle] at hP hD
  have hP : va_P G vwCl [(h, oX a t), ((a 0), oC a (cy2.mo) (cy2.co) (cy2.le)), ((a 3), iA cI (cy2.K)), ((a 4), iA cI (cy2.Q)), ((a 5), iA cI (cy2.L)), ((a 6), iA cI (cy2.H)), ((a 7), iA cI (cy2.M)), ((a 8), iA cI (cy2.B)), ((a 9), iA cI (cy2.C)), ((a 10), iA cI (cy2.D)), ((a 11), iA cI (cy2.F)), ((a 12), iA cI (cy2.W)), ((t 0), oC t (dy2.mo) (dy2.co) (dy2.le)), ((t 3), iA cI (dy2.K)), ((t 4), iA cI (dy2.Q)), ((t 5), iA cI (dy2.L)), ((t 6), iA cI (dy2.H)), ((t 7), iA cI (dy2.M)), ((t 8), iA cI (dy2.B)), ((t 9), iA cI (dy2.C)), ((t 10), iA cI (dy2.D)), ((t 11), iA cI (dy2.F)), ((t 12), iA cI (dy2.W)), (q9, lA cL o2), ((g 0), oM g (cdFore (xs (i + 1)) (xs (i + 2))) cy2.mo cy2.co cy2.le), ((g 4), iA cI (my.K)), ((g 5), iA cI Ah1), ((g 6), iA cI Ot1), ((g 7), iA cI Qm1), ((g 8), iA cI Op1), ((g 9), iA cI Lm1), ((g 10), iA cI Hm1), ((g 11), iA cI Mm1), ((g 12), iA cI Rw1), ((g 13), iA cI St1)] H := hP
  have hD : va_D A [(h, oX a t), ((a 0), oC a (cy2.mo) (cy2.co) (cy2.le)), ((a 3), iA cI (cy2.K)), ((a 4), iA cI (cy2.Q)), ((a 5), iA cI (cy2.L)), ((a 6), iA cI (cy2.H)), ((a 7), iA cI (cy2.M)), ((a 8), iA cI (cy2.B)), ((a 9), iA cI (cy2.C)), ((a 10), iA cI (cy2.D)), ((a 11), iA cI (cy2.F)), ((a 12), iA cI (cy2.W)), ((t 0), oC t (dy2.mo) (dy2.co) (dy2.le)), ((t 3), iA cI (dy2.K)), ((t 4), iA cI (dy2.Q)), ((t 5), iA cI (dy2.L)), ((t 6), iA cI (dy2.H)), ((t 7), iA cI (dy2.M)), ((t 8), iA cI (dy2.B)), ((t 9), iA cI (dy2.C)), ((t 10), iA cI (dy2.D)), ((t 11), iA cI (dy2.F)), ((t 12), iA cI (dy2.W)), (q9, lA cL o2), ((g 0), oM g (cdFore (xs (i + 1)) (xs (i + 2))) cy2.mo cy2.co cy2.le), ((g 4), iA cI (my.K)), ((g 5), iA cI Ah1), ((g 6), iA cI Ot1), ((g 7), iA cI Qm1), ((g 8), iA cI Op1), ((g 9), iA cI Lm1), ((g 10), iA cI Hm1), ((g 11), iA cI Mm1), ((g 12), iA cI Rw1), ((g 13), iA cI St1)] := hD
  refine lv_istore (lv' := [(6, .int r8), (5, .int r9), (4, .int (nI i)), (0, .ref b), (1, .ref h), (2, .ref (g 0)), (3, .ref q9)]) hx hb dL_law_815 hl (by decide) rfl (fun ls hl => ?_)
  refine lv_aload_n hx hb dL_law_817 rfl (lv_at hl 5 rfl) ?_
  refine cr_i (va_runV (As := []) (rest := []) FX (c_X2_thrown l G cI g (cdFore (xs (i + 1)) (xs (i + 2))) cy2.mo cy2.co cy2.le) (cwV 0 hts gL_law_X2_thrown rfl rfl rfl (by decide +kernel) ⟨Nat.le_of_ble_eq_true rfl, Nat.le_of_ble_eq_true rfl⟩) (rdV hK hP hN [24] rfl (ci := 2) (q0 := 24) rfl rfl) rfl rfl hl.1 rfl (lv_room (Nat.le_of_ble_eq_true rfl)) dL_law_818 ⟨hzc, hzs⟩) hS hP (fun H locs hP hS => ?_)
  refine lv_iload hx hb dL_law_821 (lv_at hl 1 rfl) ?_
  refine lv_icmp_eq (tgt := 828) hx hb dL_law_823 (by decide) (fun _ => ?_) (fun c => absurd (hr9.symm) c)
  refine lv_iload hx hb dL_law_828 (lv_at hl 1 rfl) ?_
  refine lv_if_ne (tgt := 845) hx hb dL_law_830 (by decide) (fun cz => ?_) (fun cz => ?_)
  · skip
    refine lv_goto (tgt := 1039) hx hb dL_law_845 (by decide) ?_
    exact kk cy2 dy2 ((cdFore (xs (i + 1)) (xs (i + 2))), my.K, Ah1, Ot1, Qm1, Op1, Lm1, Hm1, Mm1, Rw1, St1) o2 k _ _ _ hgd2 (hmk) hP hD hS (lv_sub hl [2, 3, 4, 5, 6] rfl)
  · skip
    have h0 : (cdFore (xs (i + 1)) (xs (i + 2))) = 0 := hr9.symm.trans cz
    refine lv_aload_n hx hb dL_law_833 rfl (lv_at hl 6 rfl) ?_
    refine lv_iconst (v := 0) hx hb dL_law_834 (by decide) ?_
    refine va_lald hx hb hKL hP 23 0 rfl rfl vp_in01 dL_law_835 ?_
    refine lv_iload hx hb dL_law_836 (lv_at hl 0 rfl) ?_
    refine lv_i2l (v := r8.toInt64) hx hb dL_law_838 rfl ?_
    refine W.lcmp hx hb dL_law_839 ?_
    refine tpi (x' := 0) ((lg_cmp_eq _ _).mpr ((hv h0).trans (congrArg Int32.toInt64 (hw h0).symm))) ?_
    refine lv_if_eq (tgt := 845) hx hb dL_law_840 (by decide) (fun _ => ?_) (fun c => absurd (rfl) c)
    refine lv_goto (tgt := 1039) hx hb dL_law_845 (by decide) ?_
    exact kk cy2 dy2 ((cdFore (xs (i + 1)) (xs (i + 2))), my.K, Ah1, Ot1, Qm1, Op1, Lm1, Hm1, Mm1, Rw1, St1) o2 k _ _ _ hgd2 (hmk) hP hD hS (lv_sub hl [2, 3, 4, 5, 6] rfl)

set_option maxHeartbeats 4000000 in
set_option maxRecDepth 100000 in
theorem law_would {p : Program} {l : Launch} {e : Env} {s : State} {m : MethodId} {below : List Frame} {meth : Method} {c : Code} {b Ln : Nat} {xs : Nat → Int32} {A : Nat → Prop} {cells slots : Nat} {Q : State → Prop} {G : va_G} {cI cL : ClassId} {h q9 : Nat} {a t g : Nat → Nat} {cy dy : Cy} {my : My} {o : Nat → Int64} {k : Nat → Int32} {H : Heap} {locs : List Loc} {ls : Array Slot} {i : Nat} (E0 : LwE p l s m c b Ln xs G cI cL A) (hgd : Sd cy k) (hmk : eqK my.K k) (hP : va_P G vwCl (LAW cI cL h q9 a t g cy dy my o) H) (hD : va_D A (LAW cI cL h q9 a t g cy dy my o)) (hS : va_S A s.heap H locs) (hl : lv_has ls 9 [(4, .int (nI i)), (0, .ref b), (1, .ref h), (2, .ref (g 0)), (3, .ref q9)]) (hi : i + 4 ≤ Ln) (hLn : Ln ≤ 2048) (hzc0 : cells + 1 ≤ room_1.cells) (hzs0 : slots + 6 ≤ room_1.slots)
    (kk : ∀ (cy2 dy2 : Cy) (my2 : My) (o2 : Nat → Int64) (k2 : Nat → Int32) (H2 : Heap) (locs2 : List Loc) (ls2 : Array Slot), Sd cy2 k2 → eqK my2.K k2 → va_P G vwCl (LAW cI cL h q9 a t g cy2 dy2 my2 o2) H2 → va_D A (LAW cI cL h q9 a t g cy2 dy2 my2 o2) → va_S A s.heap H2 locs2 → lv_has ls2 9 [(4, .int (nI i)), (0, .ref b), (1, .ref h), (2, .ref (g 0)), (3, .ref q9)] → W p l e room_1 s m #[Value.ref b] below meth c H2 locs2 (cells + 1) (slots + 6) Q (F0 m 1039 ls2 [])) : W p l e room_1 s m #[Value.ref b] below meth c H locs cells slots Q (F0 m 848 ls []) := by
  obtain ⟨hx, hb, hml, hown, hts, hst, hK, hKL, hN, hE, hX, hNC, hZ, hBL, hA, hXs, hbl, hbA⟩ := E0
  have hk := hgd.1
  have hS0 := hgd.2.1
  have hgt := hgd.2.2.1
  have hkd := hgd.2.2.2
  have FX : CallFix p m c cL_law 9 s #[Value.ref b] wsL_law RL := ⟨hx, hb, hml, hown, hts⟩
  have hP : va_P G vwCl [(h, oX a t), ((a 0), oC a (cy.mo) (cy.co) (cy.le)), ((a 3), iA cI (cy.K)), ((a 4), iA cI (cy.Q)), ((a 5), iA cI (cy.L)), ((a 6), iA cI (cy.H)), ((a 7), iA cI (cy.M)), ((a 8), iA cI (cy.B)), ((a 9), iA cI (cy.C)), ((a 10), iA cI (cy.D)), ((a 11), iA cI (cy.F)), ((a 12), iA cI (cy.W)), ((t 0), oC t (dy.mo) (dy.co) (dy.le)), ((t 3), iA cI (dy.K)), ((t 4), iA cI (dy.Q)), ((t 5), iA cI (dy.L)), ((t 6), iA cI (dy.H)), ((t 7), iA cI (dy.M)), ((t 8), iA cI (dy.B)), ((t 9), iA cI (dy.C)), ((t 10), iA cI (dy.D)), ((t 11), iA cI (dy.F)), ((t 12), iA cI (dy.W)), (q9, lA cL o), ((g 0), oM g my.th cy.mo cy.co cy.le), ((g 4), iA cI (my.K)), ((g 5), iA cI (my.Ah)), ((g 6), iA cI (my.Ot)), ((g 7), iA cI (my.Qm)), ((g 8), iA cI (my.Op)), ((g 9), iA cI (my.Lm)), ((g 10), iA cI (my.Hm)), ((g 11), iA cI (my.Mm)), ((g 12), iA cI (my.Rw)), ((g 13), iA cI (my.St))] H := hP
  have hD : va_D A [(h, oX a t), ((a 0), oC a (cy.mo) (cy.co) (cy.le)), ((a 3), iA cI (cy.K)), ((a 4), iA cI (cy.Q)), ((a 5), iA cI (cy.L)), ((a 6), iA cI (cy.H)), ((a 7), iA cI (cy.M)), ((a 8), iA cI (cy.B)), ((a 9), iA cI (cy.C)), ((a 10), iA cI (cy.D)), ((a 11), iA cI (cy.F)), ((a 12), iA cI (cy.W)), ((t 0), oC t (dy.mo) (dy.co) (dy.le)), ((t 3), iA cI (dy.K)), ((t 4), iA cI (dy.Q)), ((t 5), iA cI (dy.L)), ((t 6), iA cI (dy.H)), ((t 7), iA cI (dy.M)), ((t 8), iA cI (dy.B)), ((t 9), iA cI (dy.C)), ((t 10), iA cI (dy.D)), ((t 11), iA cI (dy.F)), ((t 12), iA cI (dy.W)), (q9, lA cL o), ((g 0), oM g my.th cy.mo cy.co cy.le), ((g 4), iA cI (my.K)), ((g 5), iA cI (my.Ah)), ((g 6), iA cI (my.Ot)), ((g 7), iA cI (my.Qm)), ((g 8), iA cI (my.Op)), ((g 9), iA cI (my.Lm)), ((g 10), iA cI (my.Hm)), ((g 11), iA cI (my.Mm)), ((g 12), iA cI (my.Rw)), ((g 13), iA cI (my.St))] := hD
  refine lv_aload_n hx hb dL_law_848 rfl (lv_at hl 2 rfl) ?_
  refine lv_aload_n hx hb dL_law_849 rfl (lv_at hl 1 rfl) ?_
  refine lv_iload hx hb dL_law_850 (lv_at hl 0 rfl) ?_
  refine lv_iconst (v := 1) hx hb dL_law_852 (by decide) ?_
  refine lv_iadd hx hb dL_law_853 ?_
  refine tpi (x' := nI (i + 1)) (by rw [show (1 : Int32) = nI 1 from rfl, nI_add]) ?_
  refine va_sld hx hb hXs hbl hbA hS (vp_in_nI (n := i + 1) (N := Ln) (by omega) (by omega)) dL_law_854 ?_
  refine tpi (x' := xs (i + 1)) (congrArg xs (nI_clamp (by omega))) ?_
  refine lv_aload_n hx hb dL_law_855 rfl (lv_at hl 1 rfl) ?_
  refine lv_iload hx hb dL_law_856 (lv_at hl 0 rfl) ?_
  refine lv_iconst (v := 2) hx hb dL_law_858 (by decide) ?_
  refine lv_iadd hx hb dL_law_859 ?_
  refine tpi (x' := nI (i + 2)) (by rw [show (2 : Int32) = nI 2 from rfl, nI_add]) ?_
  refine va_sld hx hb hXs hbl hbA hS (vp_in_nI (n := i + 2) (N := Ln) (by omega) (by omega)) dL_law_860 ?_
  refine tpi (x' := xs (i + 2)) (congrArg xs (nI_clamp (by omega))) ?_
  refine lv_aload_n hx hb dL_law_861 rfl (lv_at hl 1 rfl) ?_
  refine lv_iload hx hb dL_law_862 (lv_at hl 0 rfl) ?_
  refine lv_iconst (v := 3) hx hb dL_law_864 (by decide) ?_
  refine lv_iadd hx hb dL_law_865 ?_
  refine tpi (x' := nI (i + 3)) (by rw [show (3 : Int32) = nI 3 from rfl, nI_add]) ?_
  refine va_sld hx hb hXs hbl hbA hS (vp_in_nI (n := i + 3) (N := Ln) (by omega) (by omega)) dL_law_866 ?_
  refine tpi (x' := xs (i + 3)) (congrArg xs (nI_clamp (by omega))) ?_
  refine lv_aload_n hx hb dL_law_867 rfl (lv_at hl 4 rfl) ?_
  refine cw_i (wr := [((g 0), oM g my.th cy.mo cy.co cy.le), ((g 4), iA cI (my.K)), ((g 5), iA cI (my.Ah)), ((g 6), iA cI (my.Ot)), ((g 7), iA cI (my.Qm)), ((g 8), iA cI (my.Op)), ((g 9), iA cI (my.Lm)), ((g 10), iA cI (my.Hm)), ((g 11), iA cI (my.Mm)), ((g 12), iA cI (my.Rw)), ((g 13), iA cI (my.St))]) (vx_runSW (As := [.ref h, .int (xs (i + 1)), .int (xs (i + 2)), .int (xs (i + 3)), .ref q9]) (rest := []) FX (c_L_would l G cI cL hst h q9 a t cy dy o k (xs (i + 1)) (xs (i + 2)) (xs (i + 3)) hgd _) (vx_cwSW 5 hts gL_law_L_would rfl rfl rfl (by decide +kernel) ⟨Nat.le_of_ble_eq_true rfl, Nat.le_of_ble_eq_true rfl⟩) (wrSX hK hKL hP hD hN hE hX hNC hZ hS hA [0, 1, 2, 3, 4, 5, 6, 7, 8, 9, 10, 11, 12, 13, 14, 15, 16, 17, 18, 19, 20, 21, 22, 23] (by decide) rfl rfl) rfl rfl hl.1 rfl (lv_room (Nat.le_of_ble_eq_true rfl)) dL_law_868 ⟨hzc0, hzs0⟩) hS hP hD hA [0, 1, 2, 3, 4, 5, 6, 7, 8, 9, 10, 11, 12, 13, 14, 15, 16, 17, 18, 19, 20, 21, 22, 23] [24, 25, 26, 27, 28, 29, 30, 31, 32, 33, 34] rfl rfl (by decide) (by decide) (fun r9 u H locs hw hP hD hS => ?_)
  obtain ⟨cy2, dy2, o2⟩ := u
  obtain ⟨hr9, hgd2, ⟨hmo, hco, hle⟩, hv⟩ := hw
  have hP := hP.sub (ws' := [(h, oX a t), ((a 0), oC a (cy2.mo) (cy2.co) (cy2.le)), ((a 3), iA cI (cy2.K)), ((a 4), iA cI (cy2.Q)), ((a 5), iA cI (cy2.L)), ((a 6), iA cI (cy2.H)), ((a 7), iA cI (cy2.M)), ((a 8), iA cI (cy2.B)), ((a 9), iA cI (cy2.C)), ((a 10), iA cI (cy2.D)), ((a 11), iA cI (cy2.F)), ((a 12), iA cI (cy2.W)), ((t 0), oC t (dy2.mo) (dy2.co) (dy2.le)), ((t 3), iA cI (dy2.K)), ((t 4), iA cI (dy2.Q)), ((t 5), iA cI (dy2.L)), ((t 6), iA cI (dy2.H)), ((t 7), iA cI (dy2.M)), ((t 8), iA cI (dy2.B)), ((t 9), iA cI (dy2.C)), ((t 10), iA cI (dy2.D)), ((t 11), iA cI (dy2.F)), ((t 12), iA cI (dy2.W)), (q9, lA cL o2), ((g 0), oM g my.th cy.mo cy.co cy.le), ((g 4), iA cI (my.K)), ((g 5), iA cI (my.Ah)), ((g 6), iA cI (my.Ot)), ((g 7), iA cI (my.Qm)), ((g 8), iA cI (my.Op)), ((g 9), iA cI (my.Lm)), ((g 10), iA cI (my.Hm)), ((g 11), iA cI (my.Mm)), ((g 12), iA cI (my.Rw)), ((g 13), iA cI (my.St))]) [11, 12, 13, 14, 15, 16, 17, 18, 19, 20, 21, 22, 23, 24, 25, 26, 27, 28, 29, 30, 31, 32, 33, 34, 0, 1, 2, 3, 4, 5, 6, 7, 8, 9, 10] rfl
  have hD := hD.sub (ws' := [(h, oX a t), ((a 0), oC a (cy2.mo) (cy2.co) (cy2.le)), ((a 3), iA cI (cy2.K)), ((a 4), iA cI (cy2.Q)), ((a 5), iA cI (cy2.L)), ((a 6), iA cI (cy2.H)), ((a 7), iA cI (cy2.M)), ((a 8), iA cI (cy2.B)), ((a 9), iA cI (cy2.C)), ((a 10), iA cI (cy2.D)), ((a 11), iA cI (cy2.F)), ((a 12), iA cI (cy2.W)), ((t 0), oC t (dy2.mo) (dy2.co) (dy2.le)), ((t 3), iA cI (dy2.K)), ((t 4), iA cI (dy2.Q)), ((t 5), iA cI (dy2.L)), ((t 6), iA cI (dy2.H)), ((t 7), iA cI (dy2.M)), ((t 8), iA cI (dy2.B)), ((t 9), iA cI (dy2.C)), ((t 10), iA cI (dy2.D)), ((t 11), iA cI (dy2.F)), ((t 12), iA cI (dy2.W)), (q9, lA cL o2), ((g 0), oM g my.th cy.mo cy.co cy.le), ((g 4), iA cI (my.K)), ((g 5), iA cI (my.Ah)), ((g 6), iA cI (my.Ot)), ((g 7), iA cI (my.Qm)), ((g 8), iA cI (my.Op)), ((g 9), iA cI (my.Lm)), ((g 10), iA cI (my.Hm)), ((g 11), iA cI (my.Mm)), ((g 12), iA cI (my.Rw)), ((g 13), iA cI (my.St))]) [11, 12, 13, 14, 15, 16, 17, 18, 19, 20, 21, 22, 23, 24, 25, 26, 27, 28, 29, 30, 31, 32, 33, 34, 0, 1, 2, 3, 4, 5, 6, 7, 8, 9, 10] (by decide) rfl
  have hmo : cy2.mo = cy.mo := hmo
  have hco : cy2.co = cy.co := hco
  have hle : cy2.le = cy.le := hle
  have hv : (cdWould k (xs (i + 1)) (xs (i + 2)) (xs (i + 3))) = 0 → o2 (0 : Int32).toNatClampNeg = _ := hv
  refine lv_istore (lv' := [(5, .int r9), (4, .int (nI i)), (0, .ref b), (1, .ref h), (2, .ref (g 0)), (3, .ref q9)]) hx hb dL_law_871 hl (by decide) rfl (fun ls hl => ?_)
  refine lv_aload_n hx hb dL_law_873 rfl (lv_at hl 4 rfl) ?_
  refine lv_aload_n hx hb dL_law_874 rfl (lv_at hl 2 rfl) ?_
  refine lv_iload hx hb dL_law_875 (lv_at hl 1 rfl) ?_
  refine lv_iconst (v := 1) hx hb dL_law_877 (by decide) ?_
  refine lv_iadd hx hb dL_law_878 ?_
  refine tpi (x' := nI (i + 1)) (by rw [show (1 : Int32) = nI 1 from rfl, nI_add]) ?_
  refine va_sld hx hb hXs hbl hbA hS (vp_in_nI (n := i + 1) (N := Ln) (by omega) (by omega)) dL_law_879 ?_
  refine tpi (x' := xs (i + 1)) (congrArg xs (nI_clamp (by omega))) ?_
  refine lv_aload_n hx hb dL_law_880 rfl (lv_at hl 2 rfl) ?_
  refine lv_iload hx hb dL_law_881 (lv_at hl 1 rfl) ?_
  refine lv_iconst (v := 2) hx hb dL_law_883 (by decide) ?_
  refine lv_iadd hx hb dL_law_884 ?_
  refine tpi (x' := nI (i + 2)) (by rw [show (2 : Int32) = nI 2 from rfl, nI_add]) ?_
  refine va_sld hx hb hXs hbl hbA hS (vp_in_nI (n := i + 2) (N := Ln) (by omega) (by omega)) dL_law_885 ?_
  refine tpi (x' := xs (i + 2)) (congrArg xs (nI_clamp (by omega))) ?_
  refine lv_aload_n hx hb dL_law_886 rfl (lv_at hl 2 rfl) ?_
  refine lv_iload hx hb dL_law_887 (lv_at hl 1 rfl) ?_
  refine lv_iconst (v := 3) hx hb dL_law_889 (by decide) ?_
  refine lv_iadd hx hb dL_law_890 ?_
  refine tpi (x' := nI (i + 3)) (by rw [show (3 : Int32) = nI 3 from rfl, nI_add]) ?_
  refine va_sld hx hb hXs hbl hbA hS (vp_in_nI (n := i + 3) (N := Ln) (by omega) (by omega)) dL_law_891 ?_
  refine tpi (x' := xs (i + 3)) (congrArg xs (nI_clamp (by omega))) ?_
  have hzc : cells + 1 + 0 ≤ room_1.cells := hzc0
  have hzs : slots + 6 + 0 ≤ room_1.slots := hzs0
  refine cw_i (wr := [(h, oX a t), ((a 0), oC a (cy2.mo) (cy2.co) (cy2.le)), ((a 3), iA cI (cy2.K)), ((a 4), iA cI (cy2.Q)), ((a 5), iA cI (cy2.L)), ((a 6), iA cI (cy2.H)), ((a 7), iA cI (cy2.M)), ((a 8), iA cI (cy2.B)), ((a 9), iA cI (cy2.C)), ((a 10), iA cI (cy2.D)), ((a 11), iA cI (cy2.F)), ((a 12), iA cI (cy2.W)), ((t 0), oC t (dy2.mo) (dy2.co) (dy2.le)), ((t 3), iA cI (dy2.K)), ((t 4), iA cI (dy2.Q)), ((t 5), iA cI (dy2.L)), ((t 6), iA cI (dy2.H)), ((t 7), iA cI (dy2.M)), ((t 8), iA cI (dy2.B)), ((t 9), iA cI (dy2.C)), ((t 10), iA cI (dy2.D)), ((t 11), iA cI (dy2.F)), ((t 12), iA cI (dy2.W)), (q9, lA cL o2)]) (va_runV (As := [.int (xs (i + 1)), .int (xs (i + 2)), .int (xs (i + 3))]) (rest := []) FX (c_X2_would l G cI g my.th cy.mo cy.co cy.le my.K my.Ah my.Ot my.Qm my.Op my.Lm my.Hm my.Mm my.Rw my.St k (xs (i + 1)) (xs (i + 2)) (xs (i + 3)) hmk hkd _) (cwV 3 hts gL_law_X2_would rfl rfl rfl (by decide +kernel) ⟨Nat.le_of_ble_eq_true rfl, Nat.le_of_ble_eq_true rfl⟩) (wrV hK hP hD hN [24, 25, 26, 27, 28, 29, 30, 31, 32, 33, 34] (by decide) rfl rfl (ci := 2) (q0 := 24) rfl rfl) rfl rfl hl.1 rfl (lv_room (Nat.le_of_ble_eq_true rfl)) dL_law_892 ⟨hzc, hzs⟩) hS hP hD hA [24, 25, 26, 27, 28, 29, 30, 31, 32, 33, 34] [0, 1, 2, 3, 4, 5, 6, 7, 8, 9, 10, 11, 12, 13, 14, 15, 16, 17, 18, 19, 20, 21, 22, 23] rfl rfl (by decide) (by decide) (fun r8 u H locs hw hP hD hS => ?_)
  obtain ⟨Ah1, Qm1, Op1, Lm1, Hm1, Mm1, Rw1, St1⟩ := u
  have hP := hP.sub (ws' := [(h, oX a t), ((a 0), oC a (cy2.mo) (cy2.co) (cy2.le)), ((a 3), iA cI (cy2.K)), ((a 4), iA cI (cy2.Q)), ((a 5), iA cI (cy2.L)), ((a 6), iA cI (cy2.H)), ((a 7), iA cI (cy2.M)), ((a 8), iA cI (cy2.B)), ((a 9), iA cI (cy2.C)), ((a 10), iA cI (cy2.D)), ((a 11), iA cI (cy2.F)), ((a 12), iA cI (cy2.W)), ((t 0), oC t (dy2.mo) (dy2.co) (dy2.le)), ((t 3), iA cI (dy2.K)), ((t 4), iA cI (dy2.Q)), ((t 5), iA cI (dy2.L)), ((t 6), iA cI (dy2.H)), ((t 7), iA cI (dy2.M)), ((t 8), iA cI (dy2.B)), ((t 9), iA cI (dy2.C)), ((t 10), iA cI (dy2.D)), ((t 11), iA cI (dy2.F)), ((t 12), iA cI (dy2.W)), (q9, lA cL o2), ((g 0), oM g (cdWould k (xs (i + 1)) (xs (i + 2)) (xs (i + 3))) cy.mo cy.co cy.le), ((g 4), iA cI (my.K)), ((g 5), iA cI Ah1), ((g 6), iA cI (my.Ot)), ((g 7), iA cI Qm1), ((g 8), iA cI Op1), ((g 9), iA cI Lm1), ((g 10), iA cI Hm1), ((g 11), iA cI Mm1), ((g 12), iA cI Rw1), ((g 13), iA cI St1)]) [0, 1, 2, 3, 4, 5, 6, 7, 8, 9, 10, 11, 12, 13, 14, 15, 16, 17, 18, 19, 20, 21, 22, 23, 24, 25, 26, 27, 28, 29, 30, 31, 32, 33, 34] rfl
  have hD := hD.sub (ws' := [(h, oX a t), ((a 0), oC a (cy2.mo) (cy2.co) (cy2.le)), ((a 3), iA cI (cy2.K)), ((a 4), iA cI (cy2.Q)), ((a 5), iA cI (cy2.L)), ((a 6), iA cI (cy2.H)), ((a 7), iA cI (cy2.M)), ((a 8), iA cI (cy2.B)), ((a 9), iA cI (cy2.C)), ((a 10), iA cI (cy2.D)), ((a 11), iA cI (cy2.F)), ((a 12), iA cI (cy2.W)), ((t 0), oC t (dy2.mo) (dy2.co) (dy2.le)), ((t 3), iA cI (dy2.K)), ((t 4), iA cI (dy2.Q)), ((t 5), iA cI (dy2.L)), ((t 6), iA cI (dy2.H)), ((t 7), iA cI (dy2.M)), ((t 8), iA cI (dy2.B)), ((t 9), iA cI (dy2.C)), ((t 10), iA cI (dy2.D)), ((t 11), iA cI (dy2.F)), ((t 12), iA cI (dy2.W)), (q9, lA cL o2), ((g 0), oM g (cdWould k (xs (i + 1)) (xs (i + 2)) (xs (i + 3))) cy.mo cy.co cy.le), ((g 4), iA cI (my.K)), ((g 5), iA cI Ah1), ((g 6), iA cI (my.Ot)), ((g 7), iA cI Qm1), ((g 8), iA cI Op1), ((g 9), iA cI Lm1), ((g 10), iA cI Hm1), ((g 11), iA cI Mm1), ((g 12), iA cI Rw1), ((g 13), iA cI St1)]) [0, 1, 2, 3, 4, 5, 6, 7, 8, 9, 10, 11, 12, 13, 14, 15, 16, 17, 18, 19, 20, 21, 22, 23, 24, 25, 26, 27, 28, 29, 30, 31, 32, 33, 34] (by decide) rfl
  rw [← hmo] at hP hD
  rw [← hco] at hP hD
  rw [← hle] at hP hD
  have hP : va_P G vwCl [(h, oX a t), ((a 0), oC a (cy2.mo) (cy2.co) (cy2.le)), ((a 3), iA cI (cy2.K)), ((a 4), iA cI (cy2.Q)), ((a 5), iA cI (cy2.L)), ((a 6), iA cI (cy2.H)), ((a 7), iA cI (cy2.M)), ((a 8), iA cI (cy2.B)), ((a 9), iA cI (cy2.C)), ((a 10), iA cI (cy2.D)), ((a 11), iA cI (cy2.F)), ((a 12), iA cI (cy2.W)), ((t 0), oC t (dy2.mo) (dy2.co) (dy2.le)), ((t 3), iA cI (dy2.K)), ((t 4), iA cI (dy2.Q)), ((t 5), iA cI (dy2.L)), ((t 6), iA cI (dy2.H)), ((t 7), iA cI (dy2.M)), ((t 8), iA cI (dy2.B)), ((t 9), iA cI (dy2.C)), ((t 10), iA cI (dy2.D)), ((t 11), iA cI (dy2.F)), ((t 12), iA cI (dy2.W)), (q9, lA cL o2), ((g 0), oM g (cdWould k (xs (i + 1)) (xs (i + 2)) (xs (i + 3))) cy2.mo cy2.co cy2.le), ((g 4), iA cI (my.K)), ((g 5), iA cI Ah1), ((g 6), iA cI (my.Ot)), ((g 7), iA cI Qm1), ((g 8), iA cI Op1), ((g 9), iA cI Lm1), ((g 10), iA cI Hm1), ((g 11), iA cI Mm1), ((g 12), iA cI Rw1), ((g 13), iA cI St1)] H := hP
  have hD : va_D A [(h, oX a t), ((a 0), oC a (cy2.mo) (cy2.co) (cy2.le)), ((a 3), iA cI (cy2.K)), ((a 4), iA cI (cy2.Q)), ((a 5), iA cI (cy2.L)), ((a 6), iA cI (cy2.H)), ((a 7), iA cI (cy2.M)), ((a 8), iA cI (cy2.B)), ((a 9), iA cI (cy2.C)), ((a 10), iA cI (cy2.D)), ((a 11), iA cI (cy2.F)), ((a 12), iA cI (cy2.W)), ((t 0), oC t (dy2.mo) (dy2.co) (dy2.le)), ((t 3), iA cI (dy2.K)), ((t 4), iA cI (dy2.Q)), ((t 5), iA cI (dy2.L)), ((t 6), iA cI (dy2.H)), ((t 7), iA cI (dy2.M)), ((t 8), iA cI (dy2.B)), ((t 9), iA cI (dy2.C)), ((t 10), iA cI (dy2.D)), ((t 11), iA cI (dy2.F)), ((t 12), iA cI (dy2.W)), (q9, lA cL o2), ((g 0), oM g (cdWould k (xs (i + 1)) (xs (i + 2)) (xs (i + 3))) cy2.mo cy2.co cy2.le), ((g 4), iA cI (my.K)), ((g 5), iA cI Ah1), ((g 6), iA cI (my.Ot)), ((g 7), iA cI Qm1), ((g 8), iA cI Op1), ((g 9), iA cI Lm1), ((g 10), iA cI Hm1), ((g 11), iA cI Mm1), ((g 12), iA cI Rw1), ((g 13), iA cI St1)] := hD
  refine lv_istore (lv' := [(6, .int r8), (5, .int r9), (4, .int (nI i)), (0, .ref b), (1, .ref h), (2, .ref (g 0)), (3, .ref q9)]) hx hb dL_law_895 hl (by decide) rfl (fun ls hl => ?_)
  refine lv_aload_n hx hb dL_law_897 rfl (lv_at hl 5 rfl) ?_
  refine cr_i (va_runV (As := []) (rest := []) FX (c_X2_thrown l G cI g (cdWould k (xs (i + 1)) (xs (i + 2)) (xs (i + 3))) cy2.mo cy2.co cy2.le) (cwV 0 hts gL_law_X2_thrown rfl rfl rfl (by decide +kernel) ⟨Nat.le_of_ble_eq_true rfl, Nat.le_of_ble_eq_true rfl⟩) (rdV hK hP hN [24] rfl (ci := 2) (q0 := 24) rfl rfl) rfl rfl hl.1 rfl (lv_room (Nat.le_of_ble_eq_true rfl)) dL_law_898 ⟨hzc, hzs⟩) hS hP (fun H locs hP hS => ?_)
  refine lv_iload hx hb dL_law_901 (lv_at hl 1 rfl) ?_
  refine lv_icmp_eq (tgt := 908) hx hb dL_law_903 (by decide) (fun _ => ?_) (fun c => absurd (hr9.symm) c)
  refine lv_iload hx hb dL_law_908 (lv_at hl 1 rfl) ?_
  refine lv_if_ne (tgt := 925) hx hb dL_law_910 (by decide) (fun cz => ?_) (fun cz => ?_)
  · skip
    refine lv_goto (tgt := 1039) hx hb dL_law_925 (by decide) ?_
    exact kk cy2 dy2 ((cdWould k (xs (i + 1)) (xs (i + 2)) (xs (i + 3))), my.K, Ah1, my.Ot, Qm1, Op1, Lm1, Hm1, Mm1, Rw1, St1) o2 k _ _ _ hgd2 (hmk) hP hD hS (lv_sub hl [2, 3, 4, 5, 6] rfl)
  · skip
    have h0 : (cdWould k (xs (i + 1)) (xs (i + 2)) (xs (i + 3))) = 0 := hr9.symm.trans cz
    refine lv_aload_n hx hb dL_law_913 rfl (lv_at hl 6 rfl) ?_
    refine lv_iconst (v := 0) hx hb dL_law_914 (by decide) ?_
    refine va_lald hx hb hKL hP 23 0 rfl rfl vp_in01 dL_law_915 ?_
    refine lv_iload hx hb dL_law_916 (lv_at hl 0 rfl) ?_
    refine lv_i2l (v := r8.toInt64) hx hb dL_law_918 rfl ?_
    refine W.lcmp hx hb dL_law_919 ?_
    refine tpi (x' := 0) ((lg_cmp_eq _ _).mpr ((hv h0).trans (congrArg Int32.toInt64 (hw h0).symm))) ?_
    refine lv_if_eq (tgt := 925) hx hb dL_law_920 (by decide) (fun _ => ?_) (fun c => absurd (rfl) c)
    refine lv_goto (tgt := 1039) hx hb dL_law_925 (by decide) ?_
    exact kk cy2 dy2 ((cdWould k (xs (i + 1)) (xs (i + 2)) (xs (i + 3))), my.K, Ah1, my.Ot, Qm1, Op1, Lm1, Hm1, Mm1, Rw1, St1) o2 k _ _ _ hgd2 (hmk) hP hD hS (lv_sub hl [2, 3, 4, 5, 6] rfl)

set_option maxHeartbeats 4000000 in
set_option maxRecDepth 100000 in
theorem law_best {p : Program} {l : Launch} {e : Env} {s : State} {m : MethodId} {below : List Frame} {meth : Method} {c : Code} {b Ln : Nat} {xs : Nat → Int32} {A : Nat → Prop} {cells slots : Nat} {Q : State → Prop} {G : va_G} {cI cL : ClassId} {h q9 : Nat} {a t g : Nat → Nat} {cy dy : Cy} {my : My} {o : Nat → Int64} {k : Nat → Int32} {H : Heap} {locs : List Loc} {ls : Array Slot} {i : Nat} (E0 : LwE p l s m c b Ln xs G cI cL A) (hgd : Sd cy k) (hmk : eqK my.K k) (hP : va_P G vwCl (LAW cI cL h q9 a t g cy dy my o) H) (hD : va_D A (LAW cI cL h q9 a t g cy dy my o)) (hS : va_S A s.heap H locs) (hl : lv_has ls 9 [(4, .int (nI i)), (0, .ref b), (1, .ref h), (2, .ref (g 0)), (3, .ref q9)]) (hi : i + 4 ≤ Ln) (hLn : Ln ≤ 2048) (hzc0 : cells + 1 ≤ room_1.cells) (hzs0 : slots + 6 ≤ room_1.slots)
    (kk : ∀ (cy2 dy2 : Cy) (my2 : My) (o2 : Nat → Int64) (k2 : Nat → Int32) (H2 : Heap) (locs2 : List Loc) (ls2 : Array Slot), Sd cy2 k2 → eqK my2.K k2 → va_P G vwCl (LAW cI cL h q9 a t g cy2 dy2 my2 o2) H2 → va_D A (LAW cI cL h q9 a t g cy2 dy2 my2 o2) → va_S A s.heap H2 locs2 → lv_has ls2 9 [(4, .int (nI i)), (0, .ref b), (1, .ref h), (2, .ref (g 0)), (3, .ref q9)] → W p l e room_1 s m #[Value.ref b] below meth c H2 locs2 (cells + 1) (slots + 6) Q (F0 m 1039 ls2 [])) : W p l e room_1 s m #[Value.ref b] below meth c H locs cells slots Q (F0 m 928 ls []) := by
  obtain ⟨hx, hb, hml, hown, hts, hst, hK, hKL, hN, hE, hX, hNC, hZ, hBL, hA, hXs, hbl, hbA⟩ := E0
  have hk := hgd.1
  have hS0 := hgd.2.1
  have hgt := hgd.2.2.1
  have hkd := hgd.2.2.2
  have FX : CallFix p m c cL_law 9 s #[Value.ref b] wsL_law RL := ⟨hx, hb, hml, hown, hts⟩
  have hP : va_P G vwCl [(h, oX a t), ((a 0), oC a (cy.mo) (cy.co) (cy.le)), ((a 3), iA cI (cy.K)), ((a 4), iA cI (cy.Q)), ((a 5), iA cI (cy.L)), ((a 6), iA cI (cy.H)), ((a 7), iA cI (cy.M)), ((a 8), iA cI (cy.B)), ((a 9), iA cI (cy.C)), ((a 10), iA cI (cy.D)), ((a 11), iA cI (cy.F)), ((a 12), iA cI (cy.W)), ((t 0), oC t (dy.mo) (dy.co) (dy.le)), ((t 3), iA cI (dy.K)), ((t 4), iA cI (dy.Q)), ((t 5), iA cI (dy.L)), ((t 6), iA cI (dy.H)), ((t 7), iA cI (dy.M)), ((t 8), iA cI (dy.B)), ((t 9), iA cI (dy.C)), ((t 10), iA cI (dy.D)), ((t 11), iA cI (dy.F)), ((t 12), iA cI (dy.W)), (q9, lA cL o), ((g 0), oM g my.th cy.mo cy.co cy.le), ((g 4), iA cI (my.K)), ((g 5), iA cI (my.Ah)), ((g 6), iA cI (my.Ot)), ((g 7), iA cI (my.Qm)), ((g 8), iA cI (my.Op)), ((g 9), iA cI (my.Lm)), ((g 10), iA cI (my.Hm)), ((g 11), iA cI (my.Mm)), ((g 12), iA cI (my.Rw)), ((g 13), iA cI (my.St))] H := hP
  have hD : va_D A [(h, oX a t), ((a 0), oC a (cy.mo) (cy.co) (cy.le)), ((a 3), iA cI (cy.K)), ((a 4), iA cI (cy.Q)), ((a 5), iA cI (cy.L)), ((a 6), iA cI (cy.H)), ((a 7), iA cI (cy.M)), ((a 8), iA cI (cy.B)), ((a 9), iA cI (cy.C)), ((a 10), iA cI (cy.D)), ((a 11), iA cI (cy.F)), ((a 12), iA cI (cy.W)), ((t 0), oC t (dy.mo) (dy.co) (dy.le)), ((t 3), iA cI (dy.K)), ((t 4), iA cI (dy.Q)), ((t 5), iA cI (dy.L)), ((t 6), iA cI (dy.H)), ((t 7), iA cI (dy.M)), ((t 8), iA cI (dy.B)), ((t 9), iA cI (dy.C)), ((t 10), iA cI (dy.D)), ((t 11), iA cI (dy.F)), ((t 12), iA cI (dy.W)), (q9, lA cL o), ((g 0), oM g my.th cy.mo cy.co cy.le), ((g 4), iA cI (my.K)), ((g 5), iA cI (my.Ah)), ((g 6), iA cI (my.Ot)), ((g 7), iA cI (my.Qm)), ((g 8), iA cI (my.Op)), ((g 9), iA cI (my.Lm)), ((g 10), iA cI (my.Hm)), ((g 11), iA cI (my.Mm)), ((g 12), iA cI (my.Rw)), ((g 13), iA cI (my.St))] := hD
  refine lv_aload_n hx hb dL_law_928 rfl (lv_at hl 2 rfl) ?_
  refine lv_aload_n hx hb dL_law_929 rfl (lv_at hl 1 rfl) ?_
  refine lv_iload hx hb dL_law_930 (lv_at hl 0 rfl) ?_
  refine lv_iconst (v := 1) hx hb dL_law_932 (by decide) ?_
  refine lv_iadd hx hb dL_law_933 ?_
  refine tpi (x' := nI (i + 1)) (by rw [show (1 : Int32) = nI 1 from rfl, nI_add]) ?_
  refine va_sld hx hb hXs hbl hbA hS (vp_in_nI (n := i + 1) (N := Ln) (by omega) (by omega)) dL_law_934 ?_
  refine tpi (x' := xs (i + 1)) (congrArg xs (nI_clamp (by omega))) ?_
  refine lv_aload_n hx hb dL_law_935 rfl (lv_at hl 4 rfl) ?_
  refine cw_i (wr := [((g 0), oM g my.th cy.mo cy.co cy.le), ((g 4), iA cI (my.K)), ((g 5), iA cI (my.Ah)), ((g 6), iA cI (my.Ot)), ((g 7), iA cI (my.Qm)), ((g 8), iA cI (my.Op)), ((g 9), iA cI (my.Lm)), ((g 10), iA cI (my.Hm)), ((g 11), iA cI (my.Mm)), ((g 12), iA cI (my.Rw)), ((g 13), iA cI (my.St))]) (vx_runSW (As := [.ref h, .int (xs (i + 1)), .ref q9]) (rest := []) FX (c_L_best l G cI cL hst h q9 a t cy dy o k (xs (i + 1)) hgd _) (vx_cwSW 3 hts gL_law_L_best rfl rfl rfl (by decide +kernel) ⟨Nat.le_of_ble_eq_true rfl, Nat.le_of_ble_eq_true rfl⟩) (wrSX hK hKL hP hD hN hE hX hNC hZ hS hA [0, 1, 2, 3, 4, 5, 6, 7, 8, 9, 10, 11, 12, 13, 14, 15, 16, 17, 18, 19, 20, 21, 22, 23] (by decide) rfl rfl) rfl rfl hl.1 rfl (lv_room (Nat.le_of_ble_eq_true rfl)) dL_law_936 ⟨hzc0, hzs0⟩) hS hP hD hA [0, 1, 2, 3, 4, 5, 6, 7, 8, 9, 10, 11, 12, 13, 14, 15, 16, 17, 18, 19, 20, 21, 22, 23] [24, 25, 26, 27, 28, 29, 30, 31, 32, 33, 34] rfl rfl (by decide) (by decide) (fun r9 u H locs hw hP hD hS => ?_)
  obtain ⟨cy2, dy2, o2⟩ := u
  obtain ⟨hr9, hgd2, ⟨hmo, hco, hle⟩, hv⟩ := hw
  have hP := hP.sub (ws' := [(h, oX a t), ((a 0), oC a (cy2.mo) (cy2.co) (cy2.le)), ((a 3), iA cI (cy2.K)), ((a 4), iA cI (cy2.Q)), ((a 5), iA cI (cy2.L)), ((a 6), iA cI (cy2.H)), ((a 7), iA cI (cy2.M)), ((a 8), iA cI (cy2.B)), ((a 9), iA cI (cy2.C)), ((a 10), iA cI (cy2.D)), ((a 11), iA cI (cy2.F)), ((a 12), iA cI (cy2.W)), ((t 0), oC t (dy2.mo) (dy2.co) (dy2.le)), ((t 3), iA cI (dy2.K)), ((t 4), iA cI (dy2.Q)), ((t 5), iA cI (dy2.L)), ((t 6), iA cI (dy2.H)), ((t 7), iA cI (dy2.M)), ((t 8), iA cI (dy2.B)), ((t 9), iA cI (dy2.C)), ((t 10), iA cI (dy2.D)), ((t 11), iA cI (dy2.F)), ((t 12), iA cI (dy2.W)), (q9, lA cL o2), ((g 0), oM g my.th cy.mo cy.co cy.le), ((g 4), iA cI (my.K)), ((g 5), iA cI (my.Ah)), ((g 6), iA cI (my.Ot)), ((g 7), iA cI (my.Qm)), ((g 8), iA cI (my.Op)), ((g 9), iA cI (my.Lm)), ((g 10), iA cI (my.Hm)), ((g 11), iA cI (my.Mm)), ((g 12), iA cI (my.Rw)), ((g 13), iA cI (my.St))]) [11, 12, 13, 14, 15, 16, 17, 18, 19, 20, 21, 22, 23, 24, 25, 26, 27, 28, 29, 30, 31, 32, 33, 34, 0, 1, 2, 3, 4, 5, 6, 7, 8, 9, 10] rfl
  have hD := hD.sub (ws' := [(h, oX a t), ((a 0), oC a (cy2.mo) (cy2.co) (cy2.le)), ((a 3), iA cI (cy2.K)), ((a 4), iA cI (cy2.Q)), ((a 5), iA cI (cy2.L)), ((a 6), iA cI (cy2.H)), ((a 7), iA cI (cy2.M)), ((a 8), iA cI (cy2.B)), ((a 9), iA cI (cy2.C)), ((a 10), iA cI (cy2.D)), ((a 11), iA cI (cy2.F)), ((a 12), iA cI (cy2.W)), ((t 0), oC t (dy2.mo) (dy2.co) (dy2.le)), ((t 3), iA cI (dy2.K)), ((t 4), iA cI (dy2.Q)), ((t 5), iA cI (dy2.L)), ((t 6), iA cI (dy2.H)), ((t 7), iA cI (dy2.M)), ((t 8), iA cI (dy2.B)), ((t 9), iA cI (dy2.C)), ((t 10), iA cI (dy2.D)), ((t 11), iA cI (dy2.F)), ((t 12), iA cI (dy2.W)), (q9, lA cL o2), ((g 0), oM g my.th cy.mo cy.co cy.le), ((g 4), iA cI (my.K)), ((g 5), iA cI (my.Ah)), ((g 6), iA cI (my.Ot)), ((g 7), iA cI (my.Qm)), ((g 8), iA cI (my.Op)), ((g 9), iA cI (my.Lm)), ((g 10), iA cI (my.Hm)), ((g 11), iA cI (my.Mm)), ((g 12), iA cI (my.Rw)), ((g 13), iA cI (my.St))]) [11, 12, 13, 14, 15, 16, 17, 18, 19, 20, 21, 22, 23, 24, 25, 26, 27, 28, 29, 30, 31, 32, 33, 34, 0, 1, 2, 3, 4, 5, 6, 7, 8, 9, 10] (by decide) rfl
  have hmo : cy2.mo = cy.mo := hmo
  have hco : cy2.co = cy.co := hco
  have hle : cy2.le = cy.le := hle
  have hv : (cdBest (xs (i + 1))) = 0 → o2 (0 : Int32).toNatClampNeg = _ := hv
  refine lv_istore (lv' := [(5, .int r9), (4, .int (nI i)), (0, .ref b), (1, .ref h), (2, .ref (g 0)), (3, .ref q9)]) hx hb dL_law_939 hl (by decide) rfl (fun ls hl => ?_)
  refine lv_aload_n hx hb dL_law_941 rfl (lv_at hl 4 rfl) ?_
  refine lv_aload_n hx hb dL_law_942 rfl (lv_at hl 2 rfl) ?_
  refine lv_iload hx hb dL_law_943 (lv_at hl 1 rfl) ?_
  refine lv_iconst (v := 1) hx hb dL_law_945 (by decide) ?_
  refine lv_iadd hx hb dL_law_946 ?_
  refine tpi (x' := nI (i + 1)) (by rw [show (1 : Int32) = nI 1 from rfl, nI_add]) ?_
  refine va_sld hx hb hXs hbl hbA hS (vp_in_nI (n := i + 1) (N := Ln) (by omega) (by omega)) dL_law_947 ?_
  refine tpi (x' := xs (i + 1)) (congrArg xs (nI_clamp (by omega))) ?_
  have hzc : cells + 1 + 0 ≤ room_1.cells := hzc0
  have hzs : slots + 6 + 0 ≤ room_1.slots := hzs0
  refine cw_i (wr := [(h, oX a t), ((a 0), oC a (cy2.mo) (cy2.co) (cy2.le)), ((a 3), iA cI (cy2.K)), ((a 4), iA cI (cy2.Q)), ((a 5), iA cI (cy2.L)), ((a 6), iA cI (cy2.H)), ((a 7), iA cI (cy2.M)), ((a 8), iA cI (cy2.B)), ((a 9), iA cI (cy2.C)), ((a 10), iA cI (cy2.D)), ((a 11), iA cI (cy2.F)), ((a 12), iA cI (cy2.W)), ((t 0), oC t (dy2.mo) (dy2.co) (dy2.le)), ((t 3), iA cI (dy2.K)), ((t 4), iA cI (dy2.Q)), ((t 5), iA cI (dy2.L)), ((t 6), iA cI (dy2.H)), ((t 7), iA cI (dy2.M)), ((t 8), iA cI (dy2.B)), ((t 9), iA cI (dy2.C)), ((t 10), iA cI (dy2.D)), ((t 11), iA cI (dy2.F)), ((t 12), iA cI (dy2.W)), (q9, lA cL o2)]) (va_runV (As := [.int (xs (i + 1))]) (rest := []) FX (c_X2_best l G cI g my.th cy.mo cy.co cy.le my.K my.Ah my.Ot my.Qm my.Op my.Lm my.Hm my.Mm my.Rw my.St k (xs (i + 1)) hmk hkd _) (cwV 1 hts gL_law_X2_best rfl rfl rfl (by decide +kernel) ⟨Nat.le_of_ble_eq_true rfl, Nat.le_of_ble_eq_true rfl⟩) (wrV hK hP hD hN [24, 25, 26, 27, 28, 29, 30, 31, 32, 33, 34] (by decide) rfl rfl (ci := 2) (q0 := 24) rfl rfl) rfl rfl hl.1 rfl (lv_room (Nat.le_of_ble_eq_true rfl)) dL_law_948 ⟨hzc, hzs⟩) hS hP hD hA [24, 25, 26, 27, 28, 29, 30, 31, 32, 33, 34] [0, 1, 2, 3, 4, 5, 6, 7, 8, 9, 10, 11, 12, 13, 14, 15, 16, 17, 18, 19, 20, 21, 22, 23] rfl rfl (by decide) (by decide) (fun r8 u H locs hw hP hD hS => ?_)
  obtain ⟨Ah1, Qm1, Op1, Lm1, Hm1, Mm1, Rw1, St1⟩ := u
  have hP := hP.sub (ws' := [(h, oX a t), ((a 0), oC a (cy2.mo) (cy2.co) (cy2.le)), ((a 3), iA cI (cy2.K)), ((a 4), iA cI (cy2.Q)), ((a 5), iA cI (cy2.L)), ((a 6), iA cI (cy2.H)), ((a 7), iA cI (cy2.M)), ((a 8), iA cI (cy2.B)), ((a 9), iA cI (cy2.C)), ((a 10), iA cI (cy2.D)), ((a 11), iA cI (cy2.F)), ((a 12), iA cI (cy2.W)), ((t 0), oC t (dy2.mo) (dy2.co) (dy2.le)), ((t 3), iA cI (dy2.K)), ((t 4), iA cI (dy2.Q)), ((t 5), iA cI (dy2.L)), ((t 6), iA cI (dy2.H)), ((t 7), iA cI (dy2.M)), ((t 8), iA cI (dy2.B)), ((t 9), iA cI (dy2.C)), ((t 10), iA cI (dy2.D)), ((t 11), iA cI (dy2.F)), ((t 12), iA cI (dy2.W)), (q9, lA cL o2), ((g 0), oM g (cdBest (xs (i + 1))) cy.mo cy.co cy.le), ((g 4), iA cI (my.K)), ((g 5), iA cI Ah1), ((g 6), iA cI (my.Ot)), ((g 7), iA cI Qm1), ((g 8), iA cI Op1), ((g 9), iA cI Lm1), ((g 10), iA cI Hm1), ((g 11), iA cI Mm1), ((g 12), iA cI Rw1), ((g 13), iA cI St1)]) [0, 1, 2, 3, 4, 5, 6, 7, 8, 9, 10, 11, 12, 13, 14, 15, 16, 17, 18, 19, 20, 21, 22, 23, 24, 25, 26, 27, 28, 29, 30, 31, 32, 33, 34] rfl
  have hD := hD.sub (ws' := [(h, oX a t), ((a 0), oC a (cy2.mo) (cy2.co) (cy2.le)), ((a 3), iA cI (cy2.K)), ((a 4), iA cI (cy2.Q)), ((a 5), iA cI (cy2.L)), ((a 6), iA cI (cy2.H)), ((a 7), iA cI (cy2.M)), ((a 8), iA cI (cy2.B)), ((a 9), iA cI (cy2.C)), ((a 10), iA cI (cy2.D)), ((a 11), iA cI (cy2.F)), ((a 12), iA cI (cy2.W)), ((t 0), oC t (dy2.mo) (dy2.co) (dy2.le)), ((t 3), iA cI (dy2.K)), ((t 4), iA cI (dy2.Q)), ((t 5), iA cI (dy2.L)), ((t 6), iA cI (dy2.H)), ((t 7), iA cI (dy2.M)), ((t 8), iA cI (dy2.B)), ((t 9), iA cI (dy2.C)), ((t 10), iA cI (dy2.D)), ((t 11), iA cI (dy2.F)), ((t 12), iA cI (dy2.W)), (q9, lA cL o2), ((g 0), oM g (cdBest (xs (i + 1))) cy.mo cy.co cy.le), ((g 4), iA cI (my.K)), ((g 5), iA cI Ah1), ((g 6), iA cI (my.Ot)), ((g 7), iA cI Qm1), ((g 8), iA cI Op1), ((g 9), iA cI Lm1), ((g 10), iA cI Hm1), ((g 11), iA cI Mm1), ((g 12), iA cI Rw1), ((g 13), iA cI St1)]) [0, 1, 2, 3, 4, 5, 6, 7, 8, 9, 10, 11, 12, 13, 14, 15, 16, 17, 18, 19, 20, 21, 22, 23, 24, 25, 26, 27, 28, 29, 30, 31, 32, 33, 34] (by decide) rfl
  rw [← hmo] at hP hD
  rw [← hco] at hP hD
  rw [← hle] at hP hD
  have hP : va_P G vwCl [(h, oX a t), ((a 0), oC a (cy2.mo) (cy2.co) (cy2.le)), ((a 3), iA cI (cy2.K)), ((a 4), iA cI (cy2.Q)), ((a 5), iA cI (cy2.L)), ((a 6), iA cI (cy2.H)), ((a 7), iA cI (cy2.M)), ((a 8), iA cI (cy2.B)), ((a 9), iA cI (cy2.C)), ((a 10), iA cI (cy2.D)), ((a 11), iA cI (cy2.F)), ((a 12), iA cI (cy2.W)), ((t 0), oC t (dy2.mo) (dy2.co) (dy2.le)), ((t 3), iA cI (dy2.K)), ((t 4), iA cI (dy2.Q)), ((t 5), iA cI (dy2.L)), ((t 6), iA cI (dy2.H)), ((t 7), iA cI (dy2.M)), ((t 8), iA cI (dy2.B)), ((t 9), iA cI (dy2.C)), ((t 10), iA cI (dy2.D)), ((t 11), iA cI (dy2.F)), ((t 12), iA cI (dy2.W)), (q9, lA cL o2), ((g 0), oM g (cdBest (xs (i + 1))) cy2.mo cy2.co cy2.le), ((g 4), iA cI (my.K)), ((g 5), iA cI Ah1), ((g 6), iA cI (my.Ot)), ((g 7), iA cI Qm1), ((g 8), iA cI Op1), ((g 9), iA cI Lm1), ((g 10), iA cI Hm1), ((g 11), iA cI Mm1), ((g 12), iA cI Rw1), ((g 13), iA cI St1)] H := hP
  have hD : va_D A [(h, oX a t), ((a 0), oC a (cy2.mo) (cy2.co) (cy2.le)), ((a 3), iA cI (cy2.K)), ((a 4), iA cI (cy2.Q)), ((a 5), iA cI (cy2.L)), ((a 6), iA cI (cy2.H)), ((a 7), iA cI (cy2.M)), ((a 8), iA cI (cy2.B)), ((a 9), iA cI (cy2.C)), ((a 10), iA cI (cy2.D)), ((a 11), iA cI (cy2.F)), ((a 12), iA cI (cy2.W)), ((t 0), oC t (dy2.mo) (dy2.co) (dy2.le)), ((t 3), iA cI (dy2.K)), ((t 4), iA cI (dy2.Q)), ((t 5), iA cI (dy2.L)), ((t 6), iA cI (dy2.H)), ((t 7), iA cI (dy2.M)), ((t 8), iA cI (dy2.B)), ((t 9), iA cI (dy2.C)), ((t 10), iA cI (dy2.D)), ((t 11), iA cI (dy2.F)), ((t 12), iA cI (dy2.W)), (q9, lA cL o2), ((g 0), oM g (cdBest (xs (i + 1))) cy2.mo cy2.co cy2.le), ((g 4), iA cI (my.K)), ((g 5), iA cI Ah1), ((g 6), iA cI (my.Ot)), ((g 7), iA cI Qm1), ((g 8), iA cI Op1), ((g 9), iA cI Lm1), ((g 10), iA cI Hm1), ((g 11), iA cI Mm1), ((g 12), iA cI Rw1), ((g 13), iA cI St1)] := hD
  refine lv_istore (lv' := [(6, .int r8), (5, .int r9), (4, .int (nI i)), (0, .ref b), (1, .ref h), (2, .ref (g 0)), (3, .ref q9)]) hx hb dL_law_951 hl (by decide) rfl (fun ls hl => ?_)
  refine lv_aload_n hx hb dL_law_953 rfl (lv_at hl 5 rfl) ?_
  refine cr_i (va_runV (As := []) (rest := []) FX (c_X2_thrown l G cI g (cdBest (xs (i + 1))) cy2.mo cy2.co cy2.le) (cwV 0 hts gL_law_X2_thrown rfl rfl rfl (by decide +kernel) ⟨Nat.le_of_ble_eq_true rfl, Nat.le_of_ble_eq_true rfl⟩) (rdV hK hP hN [24] rfl (ci := 2) (q0 := 24) rfl rfl) rfl rfl hl.1 rfl (lv_room (Nat.le_of_ble_eq_true rfl)) dL_law_954 ⟨hzc, hzs⟩) hS hP (fun H locs hP hS => ?_)
  refine lv_iload hx hb dL_law_957 (lv_at hl 1 rfl) ?_
  refine lv_icmp_eq (tgt := 964) hx hb dL_law_959 (by decide) (fun _ => ?_) (fun c => absurd (hr9.symm) c)
  refine lv_iload hx hb dL_law_964 (lv_at hl 1 rfl) ?_
  refine lv_if_ne (tgt := 981) hx hb dL_law_966 (by decide) (fun cz => ?_) (fun cz => ?_)
  · skip
    refine lv_goto (tgt := 1039) hx hb dL_law_981 (by decide) ?_
    exact kk cy2 dy2 ((cdBest (xs (i + 1))), my.K, Ah1, my.Ot, Qm1, Op1, Lm1, Hm1, Mm1, Rw1, St1) o2 k _ _ _ hgd2 (hmk) hP hD hS (lv_sub hl [2, 3, 4, 5, 6] rfl)
  · skip
    have h0 : (cdBest (xs (i + 1))) = 0 := hr9.symm.trans cz
    refine lv_aload_n hx hb dL_law_969 rfl (lv_at hl 6 rfl) ?_
    refine lv_iconst (v := 0) hx hb dL_law_970 (by decide) ?_
    refine va_lald hx hb hKL hP 23 0 rfl rfl vp_in01 dL_law_971 ?_
    refine lv_iload hx hb dL_law_972 (lv_at hl 0 rfl) ?_
    refine lv_i2l (v := r8.toInt64) hx hb dL_law_974 rfl ?_
    refine W.lcmp hx hb dL_law_975 ?_
    refine tpi (x' := 0) ((lg_cmp_eq _ _).mpr ((hv h0).trans (congrArg Int32.toInt64 ((bst_1 k (xs (i + 1))).symm.trans (hw h0).symm)))) ?_
    refine lv_if_eq (tgt := 981) hx hb dL_law_976 (by decide) (fun _ => ?_) (fun c => absurd (rfl) c)
    refine lv_goto (tgt := 1039) hx hb dL_law_981 (by decide) ?_
    exact kk cy2 dy2 ((cdBest (xs (i + 1))), my.K, Ah1, my.Ot, Qm1, Op1, Lm1, Hm1, Mm1, Rw1, St1) o2 k _ _ _ hgd2 (hmk) hP hD hS (lv_sub hl [2, 3, 4, 5, 6] rfl)

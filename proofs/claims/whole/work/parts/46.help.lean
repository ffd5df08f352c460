def rmL_drain : Room := { frames := 8, cells := 1, slots := 6, locals := 163 }
set_option maxHeartbeats 4000000 in
set_option maxRecDepth 100000 in
theorem c_L_drain (l : Launch) (G : va_G) (cI cL : ClassId) (hst : l.stackTraces = false) (h q9 : Nat) (a t : Nat → Nat) (cy dy : Cy) (o : Nat → Int64) (k : Nat → Int32) (x y : Int32) (hg : Sd cy k) (sz : Nat) : Met l yL_drain wsL_drain rmL_drain (va_Pc [.ref h, .int x, .int y, .ref q9] (WrPX G cI cL [(h, oX a t), ((a 0), oC a (cy.mo) (cy.co) (cy.le)), ((a 3), iA cI (cy.K)), ((a 4), iA cI (cy.Q)), ((a 5), iA cI (cy.L)), ((a 6), iA cI (cy.H)), ((a 7), iA cI (cy.M)), ((a 8), iA cI (cy.B)), ((a 9), iA cI (cy.C)), ((a 10), iA cI (cy.D)), ((a 11), iA cI (cy.F)), ((a 12), iA cI (cy.W)), ((t 0), oC t (dy.mo) (dy.co) (dy.le)), ((t 3), iA cI (dy.K)), ((t 4), iA cI (dy.Q)), ((t 5), iA cI (dy.L)), ((t 6), iA cI (dy.H)), ((t 7), iA cI (dy.M)), ((t 8), iA cI (dy.B)), ((t 9), iA cI (dy.C)), ((t 10), iA cI (dy.D)), ((t 11), iA cI (dy.F)), ((t 12), iA cI (dy.W)), (q9, lA cL o)] sz)) (va_Qi (fun (r : Int32) (u : Cy × Cy × (Nat → Int64)) => r = (cdDrain k cy.co x y) ∧ Sd u.1 (nkO (cdDrain k cy.co x y) k (pAt x y) 2) ∧ (u.1.mo = cy.mo ∧ u.1.co = ncO (cdDrain k cy.co x y) cy.co 2 ∧ u.1.le = cy.le) ∧ ((cdDrain k cy.co x y) = 0 → u.2.2 (0 : Int32).toNatClampNeg = Int32.toInt64 (cy.co - 2))) (WrB G [(h, oX a t), ((a 0), oC a (cy.mo) (cy.co) (cy.le)), ((a 3), iA cI (cy.K)), ((a 4), iA cI (cy.Q)), ((a 5), iA cI (cy.L)), ((a 6), iA cI (cy.H)), ((a 7), iA cI (cy.M)), ((a 8), iA cI (cy.B)), ((a 9), iA cI (cy.C)), ((a 10), iA cI (cy.D)), ((a 11), iA cI (cy.F)), ((a 12), iA cI (cy.W)), ((t 0), oC t (dy.mo) (dy.co) (dy.le)), ((t 3), iA cI (dy.K)), ((t 4), iA cI (dy.Q)), ((t 5), iA cI (dy.L)), ((t 6), iA cI (dy.H)), ((t 7), iA cI (dy.M)), ((t 8), iA cI (dy.B)), ((t 9), iA cI (dy.C)), ((t 10), iA cI (dy.D)), ((t 11), iA cI (dy.F)), ((t 12), iA cI (dy.W)), (q9, lA cL o)] sz (fun u => [(h, oX a t), (a 0, oC a (u.1.mo) (u.1.co) (u.1.le)), (a 3, iA cI (u.1.K)), (a 4, iA cI (u.1.Q)), (a 5, iA cI (u.1.L)), (a 6, iA cI (u.1.H)), (a 7, iA cI (u.1.M)), (a 8, iA cI (u.1.B)), (a 9, iA cI (u.1.C)), (a 10, iA cI (u.1.D)), (a 11, iA cI (u.1.F)), (a 12, iA cI (u.1.W)), (t 0, oC t (u.2.1.mo) (u.2.1.co) (u.2.1.le)), (t 3, iA cI (u.2.1.K)), (t 4, iA cI (u.2.1.Q)), (t 5, iA cI (u.2.1.L)), (t 6, iA cI (u.2.1.H)), (t 7, iA cI (u.2.1.M)), (t 8, iA cI (u.2.1.B)), (t 9, iA cI (u.2.1.C)), (t 10, iA cI (u.2.1.D)), (t 11, iA cI (u.2.1.F)), (t 12, iA cI (u.2.1.W)), (q9, lA cL (u.2.2))])) (va_A [(h, oX a t), ((a 0), oC a (cy.mo) (cy.co) (cy.le)), ((a 3), iA cI (cy.K)), ((a 4), iA cI (cy.Q)), ((a 5), iA cI (cy.L)), ((a 6), iA cI (cy.H)), ((a 7), iA cI (cy.M)), ((a 8), iA cI (cy.B)), ((a 9), iA cI (cy.C)), ((a 10), iA cI (cy.D)), ((a 11), iA cI (cy.F)), ((a 12), iA cI (cy.W)), ((t 0), oC t (dy.mo) (dy.co) (dy.le)), ((t 3), iA cI (dy.K)), ((t 4), iA cI (dy.Q)), ((t 5), iA cI (dy.L)), ((t 6), iA cI (dy.H)), ((t 7), iA cI (dy.M)), ((t 8), iA cI (dy.B)), ((t 9), iA cI (dy.C)), ((t 10), iA cI (dy.D)), ((t 11), iA cI (dy.F)), ((t 12), iA cI (dy.W)), (q9, lA cL o)] sz)) 1 6 (va_A [(h, oX a t), ((a 0), oC a (cy.mo) (cy.co) (cy.le)), ((a 3), iA cI (cy.K)), ((a 4), iA cI (cy.Q)), ((a 5), iA cI (cy.L)), ((a 6), iA cI (cy.H)), ((a 7), iA cI (cy.M)), ((a 8), iA cI (cy.B)), ((a 9), iA cI (cy.C)), ((a 10), iA cI (cy.D)), ((a 11), iA cI (cy.F)), ((a 12), iA cI (cy.W)), ((t 0), oC t (dy.mo) (dy.co) (dy.le)), ((t 3), iA cI (dy.K)), ((t 4), iA cI (dy.Q)), ((t 5), iA cI (dy.L)), ((t 6), iA cI (dy.H)), ((t 7), iA cI (dy.M)), ((t 8), iA cI (dy.B)), ((t 9), iA cI (dy.C)), ((t 10), iA cI (dy.D)), ((t 11), iA cI (dy.F)), ((t 12), iA cI (dy.W)), (q9, lA cL o)] sz) := by
  refine Met_ofWH (cc := cL_drain) (maxL := 5) (ret := (some .int)) (hh := [(0, 10, 13, 13), (0, 10, 17, 15)]) (by decide) rfl ?_
  intro p e s m args below meth c s₁ B hml hv
  obtain ⟨rfl, ⟨hsz, hP, hK, hD0, hN⟩, hKL, hE, hX, hNC, hZ⟩ := hv
  have hx := B.exec
  have hb := B.bytes
  have hr := B.returns
  have hlocks := B.notSynchronized
  have hts := atoms_spec (ws := wsL_drain) B.pre
  have htab : c.exceptionTable.toList = tableOf [(0, 10, 13, 13), (0, 10, 17, 15)] := vx_table (x := yL_drain) (y := yL_drain) B (hts (.codeWith yL_drain cL_drain 5 (some .int) [(0, 10, 13, 13), (0, 10, 17, 15)]) (by unfold wsL_drain; exact List.mem_cons_self))
  have hown : s.vm.findClass RL = some m.cls := findClass_of_methodNamed B.named
  subst hsz
  have hD := hD0.self (sz := s.heap.size)
  have hA : ∀ q : Nat, s.heap.size ≤ q → va_A [(h, oX a t), ((a 0), oC a (cy.mo) (cy.co) (cy.le)), ((a 3), iA cI (cy.K)), ((a 4), iA cI (cy.Q)), ((a 5), iA cI (cy.L)), ((a 6), iA cI (cy.H)), ((a 7), iA cI (cy.M)), ((a 8), iA cI (cy.B)), ((a 9), iA cI (cy.C)), ((a 10), iA cI (cy.D)), ((a 11), iA cI (cy.F)), ((a 12), iA cI (cy.W)), ((t 0), oC t (dy.mo) (dy.co) (dy.le)), ((t 3), iA cI (dy.K)), ((t 4), iA cI (dy.Q)), ((t 5), iA cI (dy.L)), ((t 6), iA cI (dy.H)), ((t 7), iA cI (dy.M)), ((t 8), iA cI (dy.B)), ((t 9), iA cI (dy.C)), ((t 10), iA cI (dy.D)), ((t 11), iA cI (dy.F)), ((t 12), iA cI (dy.W)), (q9, lA cL o)] s.heap.size q := fun q h => Or.inr h
  have hS : va_S (va_A [(h, oX a t), ((a 0), oC a (cy.mo) (cy.co) (cy.le)), ((a 3), iA cI (cy.K)), ((a 4), iA cI (cy.Q)), ((a 5), iA cI (cy.L)), ((a 6), iA cI (cy.H)), ((a 7), iA cI (cy.M)), ((a 8), iA cI (cy.B)), ((a 9), iA cI (cy.C)), ((a 10), iA cI (cy.D)), ((a 11), iA cI (cy.F)), ((a 12), iA cI (cy.W)), ((t 0), oC t (dy.mo) (dy.co) (dy.le)), ((t 3), iA cI (dy.K)), ((t 4), iA cI (dy.Q)), ((t 5), iA cI (dy.L)), ((t 6), iA cI (dy.H)), ((t 7), iA cI (dy.M)), ((t 8), iA cI (dy.B)), ((t 9), iA cI (dy.C)), ((t 10), iA cI (dy.D)), ((t 11), iA cI (dy.F)), ((t 12), iA cI (dy.W)), (q9, lA cL o)] s.heap.size) s.heap s.heap [] := va_S.rf
  obtain ⟨A, hAe⟩ : ∃ A, A = va_A [(h, oX a t), ((a 0), oC a (cy.mo) (cy.co) (cy.le)), ((a 3), iA cI (cy.K)), ((a 4), iA cI (cy.Q)), ((a 5), iA cI (cy.L)), ((a 6), iA cI (cy.H)), ((a 7), iA cI (cy.M)), ((a 8), iA cI (cy.B)), ((a 9), iA cI (cy.C)), ((a 10), iA cI (cy.D)), ((a 11), iA cI (cy.F)), ((a 12), iA cI (cy.W)), ((t 0), oC t (dy.mo) (dy.co) (dy.le)), ((t 3), iA cI (dy.K)), ((t 4), iA cI (dy.Q)), ((t 5), iA cI (dy.L)), ((t 6), iA cI (dy.H)), ((t 7), iA cI (dy.M)), ((t 8), iA cI (dy.B)), ((t 9), iA cI (dy.C)), ((t 10), iA cI (dy.D)), ((t 11), iA cI (dy.F)), ((t 12), iA cI (dy.W)), (q9, lA cL o)] s.heap.size := ⟨_, rfl⟩
  rw [← hAe] at hD hA hS hZ
  have FX : CallFix p m c cL_drain 5 s ([.ref h, .int x, .int y, .ref q9] : List Value).toArray wsL_drain RL := ⟨hx, hb, hml, hown, hts⟩
  have hl := lv_entry ([.ref h, .int x, .int y, .ref q9]) (n := 5) (Nat.le_of_ble_eq_true rfl)
  rw [lg_entry_eq]
  generalize (lg_sl ([.ref h, .int x, .int y, .ref q9]) ++ List.replicate (5 - (lg_sl ([.ref h, .int x, .int y, .ref q9])).length) Slot.unset).toArray = ls at hl ⊢
  have hl : lv_has ls 5 [(0, .ref h), (1, .int x), (2, .int y), (3, .ref q9)] := hl
  refine wq (fun Q hQ => ?_)
  have hzc : 0 + 0 ≤ (headSpec wsL_drain rmL_drain).room.cells := Nat.zero_le _
  have hzs : 0 + 0 ≤ (headSpec wsL_drain rmL_drain).room.slots := Nat.zero_le _
  have hS0 := hg.2.1
  have hgt := hg.2.2.1
  have hk := hg.1
  have hkd := hg.2.2.2
  rcases Decidable.em ((cdDrain k cy.co x y) = 0) with hcd | hcd
  · skip
    refine w_widen (k := 1) (n := 6) (by decide) (by decide) ?_
    have hzc : 1 + 0 ≤ (headSpec wsL_drain rmL_drain).room.cells := Nat.le_of_ble_eq_true rfl
    have hzs : 6 + 0 ≤ (headSpec wsL_drain rmL_drain).room.slots := Nat.le_of_ble_eq_true rfl
    obtain ⟨hpl, hc1, hc2⟩ := drain_0 hcd
    refine lv_aload_n hx hb dL_drain_0 rfl (lv_at hl 3 rfl) ?_
    refine lv_iconst (v := 0) hx hb dL_drain_1 (by decide) ?_
    refine lv_aload_n hx hb dL_drain_2 rfl (lv_at hl 0 rfl) ?_
    refine lv_iload_n hx hb dL_drain_3 rfl (lv_at hl 1 rfl) ?_
    refine lv_iload_n hx hb dL_drain_4 rfl (lv_at hl 2 rfl) ?_
    refine cw_i (wr := [((t 0), oC t (dy.mo) (dy.co) (dy.le)), ((t 3), iA cI (dy.K)), ((t 4), iA cI (dy.Q)), ((t 5), iA cI (dy.L)), ((t 6), iA cI (dy.H)), ((t 7), iA cI (dy.M)), ((t 8), iA cI (dy.B)), ((t 9), iA cI (dy.C)), ((t 10), iA cI (dy.D)), ((t 11), iA cI (dy.F)), ((t 12), iA cI (dy.W)), (q9, lA cL o)]) (va_runV (As := [.int x, .int y]) (rest := [.int 0, .ref q9]) FX (c_X1_drain_ok l G cI h a t cy.mo cy.co cy.le cy.K cy.Q cy.L cy.H cy.M cy.B cy.C cy.D cy.F cy.W k x y hk hgt hcd _) (cwV 2 hts gL_drain_X1_drain rfl rfl rfl (by decide +kernel) ⟨Nat.le_of_ble_eq_true rfl, Nat.le_of_ble_eq_true rfl⟩) (wrV hK hP hD hN [0, 1, 2, 3, 4, 5, 6, 7, 8, 9, 10, 11] (by decide) rfl rfl (ci := 1) (q0 := 0) rfl rfl) rfl rfl hl.1 rfl (lv_room (Nat.le_of_ble_eq_true rfl)) dL_drain_5 ⟨Nat.le_of_ble_eq_true rfl, Nat.le_of_ble_eq_true rfl⟩) hS hP hD hA [0, 1, 2, 3, 4, 5, 6, 7, 8, 9, 10, 11] [12, 13, 14, 15, 16, 17, 18, 19, 20, 21, 22, 23] rfl rfl (by decide) (by decide) (fun r9 u H locs hw hP hD hS => ?_)
    obtain ⟨Q1, L1, H1, M1, B1, C1, D1, W1⟩ := u
    have hP := hP.sub (ws' := [(h, oX a t), ((a 0), oC a (cy.mo) (cy.co - 2) (cy.le)), ((a 3), iA cI (upd cy.K (pAt x y) 2)), ((a 4), iA cI Q1), ((a 5), iA cI L1), ((a 6), iA cI H1), ((a 7), iA cI M1), ((a 8), iA cI B1), ((a 9), iA cI C1), ((a 10), iA cI D1), ((a 11), iA cI (cy.F)), ((a 12), iA cI W1), ((t 0), oC t (dy.mo) (dy.co) (dy.le)), ((t 3), iA cI (dy.K)), ((t 4), iA cI (dy.Q)), ((t 5), iA cI (dy.L)), ((t 6), iA cI (dy.H)), ((t 7), iA cI (dy.M)), ((t 8), iA cI (dy.B)), ((t 9), iA cI (dy.C)), ((t 10), iA cI (dy.D)), ((t 11), iA cI (dy.F)), ((t 12), iA cI (dy.W)), (q9, lA cL o)]) [12, 13, 14, 15, 16, 17, 18, 19, 20, 21, 22, 23, 0, 1, 2, 3, 4, 5, 6, 7, 8, 9, 10, 11] rfl
    have hD := hD.sub (ws' := [(h, oX a t), ((a 0), oC a (cy.mo) (cy.co - 2) (cy.le)), ((a 3), iA cI (upd cy.K (pAt x y) 2)), ((a 4), iA cI Q1), ((a 5), iA cI L1), ((a 6), iA cI H1), ((a 7), iA cI M1), ((a 8), iA cI B1), ((a 9), iA cI C1), ((a 10), iA cI D1), ((a 11), iA cI (cy.F)), ((a 12), iA cI W1), ((t 0), oC t (dy.mo) (dy.co) (dy.le)), ((t 3), iA cI (dy.K)), ((t 4), iA cI (dy.Q)), ((t 5), iA cI (dy.L)), ((t 6), iA cI (dy.H)), ((t 7), iA cI (dy.M)), ((t 8), iA cI (dy.B)), ((t 9), iA cI (dy.C)), ((t 10), iA cI (dy.D)), ((t 11), iA cI (dy.F)), ((t 12), iA cI (dy.W)), (q9, lA cL o)]) [12, 13, 14, 15, 16, 17, 18, 19, 20, 21, 22, 23, 0, 1, 2, 3, 4, 5, 6, 7, 8, 9, 10, 11] (by decide) rfl
    refine lv_i2l (v := r9.toInt64) hx hb dL_drain_8 rfl ?_
    refine va_last hx hb hKL hP hD hS 23 0 rfl rfl vp_in01 dL_drain_9 (fun H locs hP hD hS => ?_)
    have hP : va_P G vwCl [(h, oX a t), ((a 0), oC a (cy.mo) (cy.co - 2) (cy.le)), ((a 3), iA cI (upd cy.K (pAt x y) 2)), ((a 4), iA cI Q1), ((a 5), iA cI L1), ((a 6), iA cI H1), ((a 7), iA cI M1), ((a 8), iA cI B1), ((a 9), iA cI C1), ((a 10), iA cI D1), ((a 11), iA cI (cy.F)), ((a 12), iA cI W1), ((t 0), oC t (dy.mo) (dy.co) (dy.le)), ((t 3), iA cI (dy.K)), ((t 4), iA cI (dy.Q)), ((t 5), iA cI (dy.L)), ((t 6), iA cI (dy.H)), ((t 7), iA cI (dy.M)), ((t 8), iA cI (dy.B)), ((t 9), iA cI (dy.C)), ((t 10), iA cI (dy.D)), ((t 11), iA cI (dy.F)), ((t 12), iA cI (dy.W)), (q9, lA cL (vp_updL o (0 : Int32).toNatClampNeg (r9.toInt64)))] H := hP
    have hD : va_D A [(h, oX a t), ((a 0), oC a (cy.mo) (cy.co - 2) (cy.le)), ((a 3), iA cI (upd cy.K (pAt x y) 2)), ((a 4), iA cI Q1), ((a 5), iA cI L1), ((a 6), iA cI H1), ((a 7), iA cI M1), ((a 8), iA cI B1), ((a 9), iA cI C1), ((a 10), iA cI D1), ((a 11), iA cI (cy.F)), ((a 12), iA cI W1), ((t 0), oC t (dy.mo) (dy.co) (dy.le)), ((t 3), iA cI (dy.K)), ((t 4), iA cI (dy.Q)), ((t 5), iA cI (dy.L)), ((t 6), iA cI (dy.H)), ((t 7), iA cI (dy.M)), ((t 8), iA cI (dy.B)), ((t 9), iA cI (dy.C)), ((t 10), iA cI (dy.D)), ((t 11), iA cI (dy.F)), ((t 12), iA cI (dy.W)), (q9, lA cL (vp_updL o (0 : Int32).toNatClampNeg (r9.toInt64)))] := hD
    refine lv_goto (tgt := 21) hx hb dL_drain_10 (by decide) ?_
    refine lv_iconst (v := 0) hx hb dL_drain_21 (by decide) ?_
    subst hQ
    subst hAe
    exact wr_i (⟨cy.mo, (cy.co - 2), cy.le, (upd cy.K (pAt x y) 2), Q1, L1, H1, M1, B1, C1, D1, cy.F, W1⟩, dy, vp_updL o (0 : Int32).toNatClampNeg r9.toInt64) (⟨hcd.symm, by rw [hcd, nkO_0]; exact ⟨eqK_upd hk, hw.2, gate_upd hgt (Or.inl (by rw [hc1]; decide)), kd_upd hkd (⟨by decide, by decide⟩)⟩, ⟨rfl, by rw [hcd, ncO_0], rfl⟩, fun _ => updL_at (o := o) (j := (0 : Int32).toNatClampNeg) (hw.1)⟩) hx hb hr hP hD hS hlocks dL_drain_22
  · skip
    refine lv_aload_n hx hb dL_drain_0 rfl (lv_at hl 3 rfl) ?_
    refine lv_iconst (v := 0) hx hb dL_drain_1 (by decide) ?_
    refine lv_aload_n hx hb dL_drain_2 rfl (lv_at hl 0 rfl) ?_
    refine lv_iload_n hx hb dL_drain_3 rfl (lv_at hl 1 rfl) ?_
    refine lv_iload_n hx hb dL_drain_4 rfl (lv_at hl 2 rfl) ?_
    refine xr_i (vx_runV (As := [.int x, .int y]) (rest := [.int 0, .ref q9]) FX (c_X1_drain_no l G cI hst h a t cy.mo cy.co cy.le cy.K cy.Q cy.L cy.H cy.M cy.B cy.C cy.D cy.F cy.W k x y hk hcd) (cwV 2 hts gL_drain_X1_drain rfl rfl rfl (by decide +kernel) ⟨Nat.le_of_ble_eq_true rfl, Nat.le_of_ble_eq_true rfl⟩) (xrV hK hP hN hE hX hZ hS [0, 1, 2, 3, 4, 5, 6, 7, 8, 9, 10, 11] rfl (ci := 1) (q0 := 0) rfl rfl) rfl rfl hl.1 rfl (lv_room (Nat.le_of_ble_eq_true rfl)) dL_drain_5 ⟨Nat.le_of_ble_eq_true rfl, Nat.le_of_ble_eq_true rfl⟩) hS hP (fun E ce q8 H locs hcE hP hS h1 h2 h3 => ?_)
    rcases hcE with ⟨rfl, hce⟩ | ⟨rfl, hce⟩
    · skip
      refine vx_catch hown [] ⟨0, 10, 13, 13⟩ [⟨0, 10, 17, 15⟩] htab (fun z hz => nomatch hz) (by decide) (by decide) (hts (.classLink RL 13 "java/lang/IndexOutOfBoundsException") (by decide +kernel)) (EXW_use hX (.castable "java/lang/IndexOutOfBoundsException" "java/lang/IndexOutOfBoundsException") (by decide)) h1 h2 h3 ?_
      refine W.eq (g2 := F0 m 13 ls [.ref q8]) rfl ?_
      refine lv_astore (lv' := [(4, .ref q8), (0, .ref h), (1, .int x), (2, .int y), (3, .ref q9)]) hx hb dL_drain_13 hl (by decide) rfl (fun ls hl => ?_)
      refine lv_iconst (v := 1) hx hb dL_drain_15 (by decide) ?_
      subst hQ
      subst hAe
      exact wr_i (cy, dy, o) (⟨hce.symm, by rw [nkO_n hcd]; exact hg, ⟨rfl, by rw [ncO_n hcd], rfl⟩, fun h9 => absurd h9 hcd⟩) hx hb hr hP hD hS hlocks dL_drain_16
    · skip
      refine vx_catch hown [⟨0, 10, 13, 13⟩] ⟨0, 10, 17, 15⟩ [] htab (fun z hz => by obtain rfl := List.mem_singleton.mp hz; exact Or.inr ⟨by decide, "java/lang/IndexOutOfBoundsException", hts (.classLink RL 13 "java/lang/IndexOutOfBoundsException") (by decide +kernel), hNC.1⟩) (by decide) (by decide) (hts (.classLink RL 15 "java/lang/IllegalStateException") (by decide +kernel)) (EXW_use hX (.castable "java/lang/IllegalStateException" "java/lang/IllegalStateException") (by decide)) h1 h2 h3 ?_
      refine W.eq (g2 := F0 m 17 ls [.ref q8]) rfl ?_
      refine lv_astore (lv' := [(4, .ref q8), (0, .ref h), (1, .int x), (2, .int y), (3, .ref q9)]) hx hb dL_drain_17 hl (by decide) rfl (fun ls hl => ?_)
      refine lv_iconst (v := 2) hx hb dL_drain_19 (by decide) ?_
      subst hQ
      subst hAe
      exact wr_i (cy, dy, o) (⟨hce.symm, by rw [nkO_n hcd]; exact hg, ⟨rfl, by rw [ncO_n hcd], rfl⟩, fun h9 => absurd h9 hcd⟩) hx hb hr hP hD hS hlocks dL_drain_20

def rmL_dig : Room := { frames := 8, cells := 1, slots := 6, locals := 164 }
set_option maxHeartbeats 4000000 in
set_option maxRecDepth 100000 in
theorem c_L_dig (l : Launch) (G : va_G) (cI cL : ClassId) (hst : l.stackTraces = false) (h q9 : Nat) (a t : Nat → Nat) (cy dy : Cy) (o : Nat → Int64) (k : Nat → Int32) (x y : Int32) (hg : Sd cy k) (sz : Nat) : Met l yL_dig wsL_dig rmL_dig (va_Pc [.ref h, .int x, .int y, .ref q9] (WrPX G cI cL [(h, oX a t), ((a 0), oC a (cy.mo) (cy.co) (cy.le)), ((a 3), iA cI (cy.K)), ((a 4), iA cI (cy.Q)), ((a 5), iA cI (cy.L)), ((a 6), iA cI (cy.H)), ((a 7), iA cI (cy.M)), ((a 8), iA cI (cy.B)), ((a 9), iA cI (cy.C)), ((a 10), iA cI (cy.D)), ((a 11), iA cI (cy.F)), ((a 12), iA cI (cy.W)), ((t 0), oC t (dy.mo) (dy.co) (dy.le)), ((t 3), iA cI (dy.K)), ((t 4), iA cI (dy.Q)), ((t 5), iA cI (dy.L)), ((t 6), iA cI (dy.H)), ((t 7), iA cI (dy.M)), ((t 8), iA cI (dy.B)), ((t 9), iA cI (dy.C)), ((t 10), iA cI (dy.D)), ((t 11), iA cI (dy.F)), ((t 12), iA cI (dy.W)), (q9, lA cL o)] sz)) (va_Qi (fun (r : Int32) (u : Cy × Cy × (Nat → Int64)) => r = (cdDig k cy.co x y) ∧ Sd u.1 (nkO (cdDig k cy.co x y) k (pAt x y) 1) ∧ (u.1.mo = cy.mo ∧ u.1.co = ncO (cdDig k cy.co x y) cy.co 3 ∧ u.1.le = cy.le) ∧ ((cdDig k cy.co x y) = 0 → u.2.2 (0 : Int32).toNatClampNeg = Int32.toInt64 (cy.co - 3))) (WrB G [(h, oX a t), ((a 0), oC a (cy.mo) (cy.co) (cy.le)), ((a 3), iA cI (cy.K)), ((a 4), iA cI (cy.Q)), ((a 5), iA cI (cy.L)), ((a 6), iA cI (cy.H)), ((a 7), iA cI (cy.M)), ((a 8), iA cI (cy.B)), ((a 9), iA cI (cy.C)), ((a 10), iA cI (cy.D)), ((a 11), iA cI (cy.F)), ((a 12), iA cI (cy.W)), ((t 0), oC t (dy.mo) (dy.co) (dy.le)), ((t 3), iA cI (dy.K)), ((t 4), iA cI (dy.Q)), ((t 5), iA cI (dy.L)), ((t 6), iA cI (dy.H)), ((t 7), iA cI (dy.M)), ((t 8), iA cI (dy.B)), ((t 9), iA cI (dy.C)), ((t 10), iA cI (dy.D)), ((t 11), iA cI (dy.F)), ((t 12), iA cI (dy.W)), (q9, lA cL o)] sz (fun u => [(h, oX a t), (a 0, oC a (u.1.mo) (u.1.co) (u.1.le)), (a 3, iA cI (u.1.K)), (a 4, iA cI (u.1.Q)), (a 5, iA cI (u.1.L)), (a 6, iA cI (u.1.H)), (a 7, iA cI (u.1.M)), (a 8, iA cI (u.1.B)), (a 9, iA cI (u.1.C)), (a 10, iA cI (u.1.D)), (a 11, iA cI (u.1.F)), (a 12, iA cI (u.1.W)), (t 0, oC t (u.2.1.mo) (u.2.1.co) (u.2.1.le)), (t 3, iA cI (u.2.1.K)), (t 4, iA cI (u.2.1.Q)), (t 5, iA cI (u.2.1.L)), (t 6, iA cI (u.2.1.H)), (t 7, iA cI (u.2.1.M)), (t 8, iA cI (u.2.1.B)), (t 9, iA cI (u.2.1.C)), (t 10, iA cI (u.2.1.D)), (t 11, iA cI (u.2.1.F)), (t 12, iA cI (u.2.1.W)), (q9, lA cL (u.2.2))])) (va_A [(h, oX a t), ((a 0), oC a (cy.mo) (cy.co) (cy.le)), ((a 3), iA cI (cy.K)), ((a 4), iA cI (cy.Q)), ((a 5), iA cI (cy.L)), ((a 6), iA cI (cy.H)), ((a 7), iA cI (cy.M)), ((a 8), iA cI (cy.B)), ((a 9), iA cI (cy.C)), ((a 10), iA cI (cy.D)), ((a 11), iA cI (cy.F)), ((a 12), iA cI (cy.W)), ((t 0), oC t (dy.mo) (dy.co) (dy.le)), ((t 3), iA cI (dy.K)), ((t 4), iA cI (dy.Q)), ((t 5), iA cI (dy.L)), ((t 6), iA cI (dy.H)), ((t 7), iA cI (dy.M)), ((t 8), iA cI (dy.B)), ((t 9), iA cI (dy.C)), ((t 10), iA cI (dy.D)), ((t 11), iA cI (dy.F)), ((t 12), iA cI (dy.W)), (q9, lA cL o)] sz)) 1 6 (va_A [(h, oX a t), ((a 0), oC a (cy.mo) (cy.co) (cy.le)), ((a 3), iA cI (cy.K)), ((a 4), iA cI (cy.Q)), ((a 5), iA cI (cy.L)), ((a 6), iA cI (cy.H)), ((a 7), iA cI (cy.M)), ((a 8), iA cI (cy.B)), ((a 9), iA cI (cy.C)), ((a 10), iA cI (cy.D)), ((a 11), iA cI (cy.F)), ((a 12), iA cI (cy.W)), ((t 0), oC t (dy.mo) (dy.co) (dy.le)), ((t 3), iA cI (dy.K)), ((t 4), iA cI (dy.Q)), ((t 5), iA cI (dy.L)), ((t 6), iA cI (dy.H)), ((t 7), iA cI (dy.M)), ((t 8), iA cI (dy.B)), ((t 9), iA cI (dy.C)), ((t 10), iA cI (dy.D)), ((t 11), iA cI (dy.F)), ((t 12), iA cI (dy.W)), (q9, lA cL o)] sz) := by
  refine Met_ofWH (cc := cL_dig) (maxL := 5) (ret := (some .int)) (hh := [(0, 10, 13, 13), (0, 10, 17, 15)]) (by decide) rfl ?_
  intro p e s m args below meth c s₁ B hml hv
  obtain ⟨rfl, ⟨hsz, hP, hK, hD0, hN⟩, hKL, hE, hX, hNC, hZ⟩ := hv
  have hx := B.exec
  have hb := B.bytes
  have hr := B.returns
  have hlocks := B.notSynchronized
  have hts := atoms_spec (ws := wsL_dig) B.pre
  have htab : c.exceptionTable.toList = tableOf [(0, 10, 13, 13), (0, 10, 17, 15)] := vx_table (x := yL_dig) (y := yL_dig) B (hts (.codeWith yL_dig cL_dig 5 (some .int) [(0, 10, 13, 13), (0, 10, 17, 15)]) (by unfold wsL_dig; exact List.mem_cons_self))
  have hown : s.vm.findClass RL = some m.cls := findClass_of_methodNamed B.named
  subst hsz
  have hD := hD0.self (sz := s.heap.size)
  have hA : ∀ q : Nat, s.heap.size ≤ q → va_A [(h, oX a t), ((a 0), oC a (cy.mo) (cy.co) (cy.le)), ((a 3), iA cI (cy.K)), ((a 4), iA cI (cy.Q)), ((a 5), iA cI (cy.L)), ((a 6), iA cI (cy.H)), ((a 7), iA cI (cy.M)), ((a 8), iA cI (cy.B)), ((a 9), iA cI (cy.C)), ((a 10), iA cI (cy.D)), ((a 11), iA cI (cy.F)), ((a 12), iA cI (cy.W)), ((t 0), oC t (dy.mo) (dy.co) (dy.le)), ((t 3), iA cI (dy.K)), ((t 4), iA cI (dy.Q)), ((t 5), iA cI (dy.L)), ((t 6), iA cI (dy.H)), ((t 7), iA cI (dy.M)), ((t 8), iA cI (dy.B)), ((t 9), iA cI (dy.C)), ((t 10), iA cI (dy.D)), ((t 11), iA cI (dy.F)), ((t 12), iA cI (dy.W)), (q9, lA cL o)] s.heap.size q := fun q h => Or.inr h
  have hS : va_S (va_A [(h, oX a t), ((a 0), oC a (cy.mo) (cy.co) (cy.le)), ((a 3), iA cI (cy.K)), ((a 4), iA cI (cy.Q)), ((a 5), iA cI (cy.L)), ((a 6), iA cI (cy.H)), ((a 7), iA cI (cy.M)), ((a 8), iA cI (cy.B)), ((a 9), iA cI (cy.C)), ((a 10), iA cI (cy.D)), ((a 11), iA cI (cy.F)), ((a 12), iA cI (cy.W)), ((t 0), oC t (dy.mo) (dy.co) (dy.le)), ((t 3), iA cI (dy.K)), ((t 4), iA cI (dy.Q)), ((t 5), iA cI (dy.L)), ((t 6), iA cI (dy.H)), ((t 7), iA cI (dy.M)), ((t 8), iA cI (dy.B)), ((t 9), iA cI (dy.C)), ((t 10), iA cI (dy.D)), ((t 11), iA cI (dy.F)), ((t 12), iA cI (dy.W)), (q9, lA cL o)] s.heap.size) s.heap s.heap [] := va_S.rf
  obtain ⟨A, hAe⟩ : ∃ A, A = va_A [(h, oX a t), ((a 0), oC a (cy.mo) (cy.co) (cy.le)), ((a 3), iA cI (cy.K)), ((a 4), iA cI (cy.Q)), ((a 5), iA cI (cy.L)), ((a 6), iA cI (cy.H)), ((a 7), iA cI (cy.M)), ((a 8), iA cI (cy.B)), ((a 9), iA cI (cy.C)), ((a 10), iA cI (cy.D)), ((a 11), iA cI (cy.F)), ((a 12), iA cI (cy.W)), ((t 0), oC t (dy.mo) (dy.co) (dy.le)), ((t 3), iA cI (dy.K)), ((t 4), iA cI (dy.Q)), ((t 5), iA cI (dy.L)), ((t 6), iA cI (dy.H)), ((t 7), iA cI (dy.M)), ((t 8), iA cI (dy.B)), ((t 9), iA cI (dy.C)), ((t 10), iA cI (dy.D)), ((t 11), iA cI (dy.F)), ((t 12), iA cI (dy.W)), (q9, lA cL o)] s.heap.size := ⟨_, rfl⟩
  rw [← hAe] at hD hA hS hZ
  have FX : CallFix p m c cL_dig 5 s ([.ref h, .int x, .int y, .ref q9] : List Value).toArray wsL_dig RL := ⟨hx, hb, hml, hown, hts⟩
  have hl := lv_entry ([.ref h, .int x, .int y, .ref q9]) (n := 5) (Nat.le_of_ble_eq_true rfl)
  rw [lg_entry_eq]
  generalize (lg_sl ([.ref h, .int x, .int y, .ref q9]) ++ List.replicate (5 - (lg_sl ([.ref h, .int x, .int y, .ref q9])).length) Slot.unset).toArray = ls at hl ⊢
  have hl : lv_has ls 5 [(0, .ref h), (1, .int x), (2, .int y), (3, .ref q9)] := hl
  refine wq (fun Q hQ => ?_)
  have hzc : 0 + 0 ≤ (headSpec wsL_dig rmL_dig).room.cells := Nat.zero_le _
  have hzs : 0 + 0 ≤ (headSpec wsL_dig rmL_dig).room.slots := Nat.zero_le _
  have hS0 := hg.2.1
  have hgt := hg.2.2.1
  have hk := hg.1
  have hkd := hg.2.2.2
  rcases Decidable.em ((cdDig k cy.co x y) = 0) with hcd | hcd
  · skip
    refine w_widen (k := 1) (n := 6) (by decide) (by decide) ?_
    have hzc : 1 + 0 ≤ (headSpec wsL_dig rmL_dig).room.cells := Nat.le_of_ble_eq_true rfl
    have hzs : 6 + 0 ≤ (headSpec wsL_dig rmL_dig).room.slots := Nat.le_of_ble_eq_true rfl
    refine lv_aload_n hx hb dL_dig_0 rfl (lv_at hl 3 rfl) ?_
    refine lv_iconst (v := 0) hx hb dL_dig_1 (by decide) ?_
    refine lv_aload_n hx hb dL_dig_2 rfl (lv_at hl 0 rfl) ?_
    refine lv_iload_n hx hb dL_dig_3 rfl (lv_at hl 1 rfl) ?_
    refine lv_iload_n hx hb dL_dig_4 rfl (lv_at hl 2 rfl) ?_
    refine cw_i (wr := [((t 0), oC t (dy.mo) (dy.co) (dy.le)), ((t 3), iA cI (dy.K)), ((t 4), iA cI (dy.Q)), ((t 5), iA cI (dy.L)), ((t 6), iA cI (dy.H)), ((t 7), iA cI (dy.M)), ((t 8), iA cI (dy.B)), ((t 9), iA cI (dy.C)), ((t 10), iA cI (dy.D)), ((t 11), iA cI (dy.F)), ((t 12), iA cI (dy.W)), (q9, lA cL o)]) (va_runV (As := [.int x, .int y]) (rest := [.int 0, .ref q9]) FX (c_X1_dig_ok l G cI h a t cy.mo cy.co cy.le cy.K cy.Q cy.L cy.H cy.M cy.B cy.C cy.D cy.F cy.W k x y hk hgt hcd _) (cwV 2 hts gL_dig_X1_dig rfl rfl rfl (by decide +kernel) ⟨Nat.le_of_ble_eq_true rfl, Nat.le_of_ble_eq_true rfl⟩) (wrV hK hP hD hN [0, 1, 2, 3, 4, 5, 6, 7, 8, 9, 10, 11] (by decide) rfl rfl (ci := 1) (q0 := 0) rfl rfl) rfl rfl hl.1 rfl (lv_room (Nat.le_of_ble_eq_true rfl)) dL_dig_5 ⟨Nat.le_of_ble_eq_true rfl, Nat.le_of_ble_eq_true rfl⟩) hS hP hD hA [0, 1, 2, 3, 4, 5, 6, 7, 8, 9, 10, 11] [12, 13, 14, 15, 16, 17, 18, 19, 20, 21, 22, 23] rfl rfl (by decide) (by decide) (fun r9 u H locs hw hP hD hS => ?_)
    obtain ⟨Q1, L1, H1, M1, B1, C1, D1, W1⟩ := u
    have hP := hP.sub (ws' := [(h, oX a t), ((a 0), oC a (cy.mo) (cy.co - 3) (cy.le)), ((a 3), iA cI (upd cy.K (pAt x y) 1)), ((a 4), iA cI Q1), ((a 5), iA cI L1), ((a 6), iA cI H1), ((a 7), iA cI M1), ((a 8), iA cI B1), ((a 9), iA cI C1), ((a 10), iA cI D1), ((a 11), iA cI (cy.F)), ((a 12), iA cI W1), ((t 0), oC t (dy.mo) (dy.co) (dy.le)), ((t 3), iA cI (dy.K)), ((t 4), iA cI (dy.Q)), ((t 5), iA cI (dy.L)), ((t 6), iA cI (dy.H)), ((t 7), iA cI (dy.M)), ((t 8), iA cI (dy.B)), ((t 9), iA cI (dy.C)), ((t 10), iA cI (dy.D)), ((t 11), iA cI (dy.F)), ((t 12), iA cI (dy.W)), (q9, lA cL o)]) [12, 13, 14, 15, 16, 17, 18, 19, 20, 21, 22, 23, 0, 1, 2, 3, 4, 5, 6, 7, 8, 9, 10, 11] rfl
    have hD := hD.sub (ws' := [(h, oX a t), ((a 0), oC a (cy.mo) (cy.co - 3) (cy.le)), ((a 3), iA cI (upd cy.K (pAt x y) 1)), ((a 4), iA cI Q1), ((a 5), iA cI L1), ((a 6), iA cI H1), ((a 7), iA cI M1), ((a 8), iA cI B1), ((a 9), iA cI C1), ((a 10), iA cI D1), ((a 11), iA cI (cy.F)), ((a 12), iA cI W1), ((t 0), oC t (dy.mo) (dy.co) (dy.le)), ((t 3), iA cI (dy.K)), ((t 4), iA cI (dy.Q)), ((t 5), iA cI (dy.L)), ((t 6), iA cI (dy.H)), ((t 7), iA cI (dy.M)), ((t 8), iA cI (dy.B)), ((t 9), iA cI (dy.C)), ((t 10), iA cI (dy.D)), ((t 11), iA cI (dy.F)), ((t 12), iA cI (dy.W)), (q9, lA cL o)]) [12, 13, 14, 15, 16, 17, 18, 19, 20, 21, 22, 23, 0, 1, 2, 3, 4, 5, 6, 7, 8, 9, 10, 11] (by decide) rfl
    refine lv_i2l (v := r9.toInt64) hx hb dL_dig_8 rfl ?_
    refine va_last hx hb hKL hP hD hS 23 0 rfl rfl vp_in01 dL_dig_9 (fun H locs hP hD hS => ?_)
    have hP : va_P G vwCl [(h, oX a t), ((a 0), oC a (cy.mo) (cy.co - 3) (cy.le)), ((a 3), iA cI (upd cy.K (pAt x y) 1)), ((a 4), iA cI Q1), ((a 5), iA cI L1), ((a 6), iA cI H1), ((a 7), iA cI M1), ((a 8), iA cI B1), ((a 9), iA cI C1), ((a 10), iA cI D1), ((a 11), iA cI (cy.F)), ((a 12), iA cI W1), ((t 0), oC t (dy.mo) (dy.co) (dy.le)), ((t 3), iA cI (dy.K)), ((t 4), iA cI (dy.Q)), ((t 5), iA cI (dy.L)), ((t 6), iA cI (dy.H)), ((t 7), iA cI (dy.M)), ((t 8), iA cI (dy.B)), ((t 9), iA cI (dy.C)), ((t 10), iA cI (dy.D)), ((t 11), iA cI (dy.F)), ((t 12), iA cI (dy.W)), (q9, lA cL (vp_updL o (0 : Int32).toNatClampNeg (r9.toInt64)))] H := hP
    have hD : va_D A [(h, oX a t), ((a 0), oC a (cy.mo) (cy.co - 3) (cy.le)), ((a 3), iA cI (upd cy.K (pAt x y) 1)), ((a 4), iA cI Q1), ((a 5), iA cI L1), ((a 6), iA cI H1), ((a 7), iA cI M1), ((a 8), iA cI B1), ((a 9), iA cI C1), ((a 10), iA cI D1), ((a 11), iA cI (cy.F)), ((a 12), iA cI W1), ((t 0), oC t (dy.mo) (dy.co) (dy.le)), ((t 3), iA cI (dy.K)), ((t 4), iA cI (dy.Q)), ((t 5), iA cI (dy.L)), ((t 6), iA cI (dy.H)), ((t 7), iA cI (dy.M)), ((t 8), iA cI (dy.B)), ((t 9), iA cI (dy.C)), ((t 10), iA cI (dy.D)), ((t 11), iA cI (dy.F)), ((t 12), iA cI (dy.W)), (q9, lA cL (vp_updL o (0 : Int32).toNatClampNeg (r9.toInt64)))] := hD
    refine lv_goto (tgt := 21) hx hb dL_dig_10 (by decide) ?_
    refine lv_iconst (v := 0) hx hb dL_dig_21 (by decide) ?_
    subst hQ
    subst hAe
    exact wr_i (⟨cy.mo, (cy.co - 3), cy.le, (upd cy.K (pAt x y) 1), Q1, L1, H1, M1, B1, C1, D1, cy.F, W1⟩, dy, vp_updL o (0 : Int32).toNatClampNeg r9.toInt64) (⟨hcd.symm, by rw [hcd, nkO_0]; exact ⟨eqK_upd hk, hw.2, gate_upd hgt (Or.inr (by decide)), kd_upd hkd (⟨by decide, by decide⟩)⟩, ⟨rfl, by rw [hcd, ncO_0], rfl⟩, fun _ => updL_at (o := o) (j := (0 : Int32).toNatClampNeg) (hw.1)⟩) hx hb hr hP hD hS hlocks dL_dig_22
  · skip
    refine lv_aload_n hx hb dL_dig_0 rfl (lv_at hl 3 rfl) ?_
    refine lv_iconst (v := 0) hx hb dL_dig_1 (by decide) ?_
    refine lv_aload_n hx hb dL_dig_2 rfl (lv_at hl 0 rfl) ?_
    refine lv_iload_n hx hb dL_dig_3 rfl (lv_at hl 1 rfl) ?_
    refine lv_iload_n hx hb dL_dig_4 rfl (lv_at hl 2 rfl) ?_
    refine xr_i (vx_runV (As := [.int x, .int y]) (rest := [.int 0, .ref q9]) FX (c_X1_dig_no l G cI hst h a t cy.mo cy.co cy.le cy.K cy.Q cy.L cy.H cy.M cy.B cy.C cy.D cy.F cy.W k x y hk hcd) (cwV 2 hts gL_dig_X1_dig rfl rfl rfl (by decide +kernel) ⟨Nat.le_of_ble_eq_true rfl, Nat.le_of_ble_eq_true rfl⟩) (xrV hK hP hN hE hX hZ hS [0, 1, 2, 3, 4, 5, 6, 7, 8, 9, 10, 11] rfl (ci := 1) (q0 := 0) rfl rfl) rfl rfl hl.1 rfl (lv_room (Nat.le_of_ble_eq_true rfl)) dL_dig_5 ⟨Nat.le_of_ble_eq_true rfl, Nat.le_of_ble_eq_true rfl⟩) hS hP (fun E ce q8 H locs hcE hP hS h1 h2 h3 => ?_)
    rcases hcE with ⟨rfl, hce⟩ | ⟨rfl, hce⟩
    · skip
      refine vx_catch hown [] ⟨0, 10, 13, 13⟩ [⟨0, 10, 17, 15⟩] htab (fun z hz => nomatch hz) (by decide) (by decide) (hts (.classLink RL 13 "java/lang/IndexOutOfBoundsException") (by decide +kernel)) (EXW_use hX (.castable "java/lang/IndexOutOfBoundsException" "java/lang/IndexOutOfBoundsException") (by decide)) h1 h2 h3 ?_
      refine W.eq (g2 := F0 m 13 ls [.ref q8]) rfl ?_
      refine lv_astore (lv' := [(4, .ref q8), (0, .ref h), (1, .int x), (2, .int y), (3, .ref q9)]) hx hb dL_dig_13 hl (by decide) rfl (fun ls hl => ?_)
      refine lv_iconst (v := 1) hx hb dL_dig_15 (by decide) ?_
      subst hQ
      subst hAe
      exact wr_i (cy, dy, o) (⟨hce.symm, by rw [nkO_n hcd]; exact hg, ⟨rfl, by rw [ncO_n hcd], rfl⟩, fun h9 => absurd h9 hcd⟩) hx hb hr hP hD hS hlocks dL_dig_16
    · skip
      refine vx_catch hown [⟨0, 10, 13, 13⟩] ⟨0, 10, 17, 15⟩ [] htab (fun z hz => by obtain rfl := List.mem_singleton.mp hz; exact Or.inr ⟨by decide, "java/lang/IndexOutOfBoundsException", hts (.classLink RL 13 "java/lang/IndexOutOfBoundsException") (by decide +kernel), hNC.1⟩) (by decide) (by decide) (hts (.classLink RL 15 "java/lang/IllegalStateException") (by decide +kernel)) (EXW_use hX (.castable "java/lang/IllegalStateException" "java/lang/IllegalStateException") (by decide)) h1 h2 h3 ?_
      refine W.eq (g2 := F0 m 17 ls [.ref q8]) rfl ?_
      refine lv_astore (lv' := [(4, .ref q8), (0, .ref h), (1, .int x), (2, .int y), (3, .ref q9)]) hx hb dL_dig_17 hl (by decide) rfl (fun ls hl => ?_)
      refine lv_iconst (v := 2) hx hb dL_dig_19 (by decide) ?_
      subst hQ
      subst hAe
      exact wr_i (cy, dy, o) (⟨hce.symm, by rw [nkO_n hcd]; exact hg, ⟨rfl, by rw [ncO_n hcd], rfl⟩, fun h9 => absurd h9 hcd⟩) hx hb hr hP hD hS hlocks dL_dig_20

def rmL_build : Room := { frames := 8, cells := 1, slots := 6, locals := 165 }
set_option maxHeartbeats 4000000 in
set_option maxRecDepth 100000 in
theorem c_L_build (l : Launch) (G : va_G) (cI cL : ClassId) (hst : l.stackTraces = false) (h q9 : Nat) (a t : Nat → Nat) (cy dy : Cy) (o : Nat → Int64) (k : Nat → Int32) (x y v : Int32) (hg : Sd cy k) (sz : Nat) : Met l yL_build wsL_build rmL_build (va_Pc [.ref h, .int x, .int y, .int v, .ref q9] (WrPX G cI cL [(h, oX a t), ((a 0), oC a (cy.mo) (cy.co) (cy.le)), ((a 3), iA cI (cy.K)), ((a 4), iA cI (cy.Q)), ((a 5), iA cI (cy.L)), ((a 6), iA cI (cy.H)), ((a 7), iA cI (cy.M)), ((a 8), iA cI (cy.B)), ((a 9), iA cI (cy.C)), ((a 10), iA cI (cy.D)), ((a 11), iA cI (cy.F)), ((a 12), iA cI (cy.W)), ((t 0), oC t (dy.mo) (dy.co) (dy.le)), ((t 3), iA cI (dy.K)), ((t 4), iA cI (dy.Q)), ((t 5), iA cI (dy.L)), ((t 6), iA cI (dy.H)), ((t 7), iA cI (dy.M)), ((t 8), iA cI (dy.B)), ((t 9), iA cI (dy.C)), ((t 10), iA cI (dy.D)), ((t 11), iA cI (dy.F)), ((t 12), iA cI (dy.W)), (q9, lA cL o)] sz)) (va_Qi (fun (r : Int32) (u : Cy × Cy × (Nat → Int64)) => r = (cdBuild k cy.co x y v) ∧ Sd u.1 (nkO (cdBuild k cy.co x y v) k (pAt x y) v) ∧ (u.1.mo = cy.mo ∧ u.1.co = ncO (cdBuild k cy.co x y v) cy.co (cst v) ∧ u.1.le = cy.le) ∧ ((cdBuild k cy.co x y v) = 0 → u.2.2 (0 : Int32).toNatClampNeg = Int32.toInt64 (cy.co - cst v))) (WrB G [(h, oX a t), ((a 0), oC a (cy.mo) (cy.co) (cy.le)), ((a 3), iA cI (cy.K)), ((a 4), iA cI (cy.Q)), ((a 5), iA cI (cy.L)), ((a 6), iA cI (cy.H)), ((a 7), iA cI (cy.M)), ((a 8), iA cI (cy.B)), ((a 9), iA cI (cy.C)), ((a 10), iA cI (cy.D)), ((a 11), iA cI (cy.F)), ((a 12), iA cI (cy.W)), ((t 0), oC t (dy.mo) (dy.co) (dy.le)), ((t 3), iA cI (dy.K)), ((t 4), iA cI (dy.Q)), ((t 5), iA cI (dy.L)), ((t 6), iA cI (dy.H)), ((t 7), iA cI (dy.M)), ((t 8), iA cI (dy.B)), ((t 9), iA cI (dy.C)), ((t 10), iA cI (dy.D)), ((t 11), iA cI (dy.F)), ((t 12), iA cI (dy.W)), (q9, lA cL o)] sz (fun u => [(h, oX a t), (a 0, oC a (u.1.mo) (u.1.co) (u.1.le)), (a 3, iA cI (u.1.K)), (a 4, iA cI (u.1.Q)), (a 5, iA cI (u.1.L)), (a 6, iA cI (u.1.H)), (a 7, iA cI (u.1.M)), (a 8, iA cI (u.1.B)), (a 9, iA cI (u.1.C)), (a 10, iA cI (u.1.D)), (a 11, iA cI (u.1.F)), (a 12, iA cI (u.1.W)), (t 0, oC t (u.2.1.mo) (u.2.1.co) (u.2.1.le)), (t 3, iA cI (u.2.1.K)), (t 4, iA cI (u.2.1.Q)), (t 5, iA cI (u.2.1.L)), (t 6, iA cI (u.2.1.H)), (t 7, iA cI (u.2.1.M)), (t 8, iA cI (u.2.1.B)), (t 9, iA cI (u.2.1.C)), (t 10, iA cI (u.2.1.D)), (t 11, iA cI (u.2.1.F)), (t 12, iA cI (u.2.1.W)), (q9, lA cL (u.2.2))])) (va_A [(h, oX a t), ((a 0), oC a (cy.mo) (cy.co) (cy.le)), ((a 3), iA cI (cy.K)), ((a 4), iA cI (cy.Q)), ((a 5), iA cI (cy.L)), ((a 6), iA cI (cy.H)), ((a 7), iA cI (cy.M)), ((a 8), iA cI (cy.B)), ((a 9), iA cI (cy.C)), ((a 10), iA cI (cy.D)), ((a 11), iA cI (cy.F)), ((a 12), iA cI (cy.W)), ((t 0), oC t (dy.mo) (dy.co) (dy.le)), ((t 3), iA cI (dy.K)), ((t 4), iA cI (dy.Q)), ((t 5), iA cI (dy.L)), ((t 6), iA cI (dy.H)), ((t 7), iA cI (dy.M)), ((t 8), iA cI (dy.B)), ((t 9), iA cI (dy.C)), ((t 10), iA cI (dy.D)), ((t 11), iA cI (dy.F)), ((t 12), iA cI (dy.W)), (q9, lA cL o)] sz)) 1 6 (va_A [(h, oX a t), ((a 0), oC a (cy.mo) (cy.co) (cy.le)), ((a 3), iA cI (cy.K)), ((a 4), iA cI (cy.Q)), ((a 5), iA cI (cy.L)), ((a 6), iA cI (cy.H)), ((a 7), iA cI (cy.M)), ((a 8), iA cI (cy.B)), ((a 9), iA cI (cy.C)), ((a 10), iA cI (cy.D)), ((a 11), iA cI (cy.F)), ((a 12), iA cI (cy.W)), ((t 0), oC t (dy.mo) (dy.co) (dy.le)), ((t 3), iA cI (dy.K)), ((t 4), iA cI (dy.Q)), ((t 5), iA cI (dy.L)), ((t 6), iA cI (dy.H)), ((t 7), iA cI (dy.M)), ((t 8), iA cI (dy.B)), ((t 9), iA cI (dy.C)), ((t 10), iA cI (dy.D)), ((t 11), iA cI (dy.F)), ((t 12), iA cI (dy.W)), (q9, lA cL o)] sz) := by
  refine Met_ofWH (cc := cL_build) (maxL := 6) (ret := (some .int)) (hh := [(0, 12, 15, 13), (0, 12, 19, 24), (0, 12, 23, 15)]) (by decide) rfl ?_
  intro p e s m args below meth c s₁ B hml hv
  obtain ⟨rfl, ⟨hsz, hP, hK, hD0, hN⟩, hKL, hE, hX, hNC, hZ⟩ := hv
  have hx := B.exec
  have hb := B.bytes
  have hr := B.returns
  have hlocks := B.notSynchronized
  have hts := atoms_spec (ws := wsL_build) B.pre
  have htab : c.exceptionTable.toList = tableOf [(0, 12, 15, 13), (0, 12, 19, 24), (0, 12, 23, 15)] := vx_table (x := yL_build) (y := yL_build) B (hts (.codeWith yL_build cL_build 6 (some .int) [(0, 12, 15, 13), (0, 12, 19, 24), (0, 12, 23, 15)]) (by unfold wsL_build; exact List.mem_cons_self))
  have hown : s.vm.findClass RL = some m.cls := findClass_of_methodNamed B.named
  subst hsz
  have hD := hD0.self (sz := s.heap.size)
  have hA : ∀ q : Nat, s.heap.size ≤ q → va_A [(h, oX a t), ((a 0), oC a (cy.mo) (cy.co) (cy.le)), ((a 3), iA cI (cy.K)), ((a 4), iA cI (cy.Q)), ((a 5), iA cI (cy.L)), ((a 6), iA cI (cy.H)), ((a 7), iA cI (cy.M)), ((a 8), iA cI (cy.B)), ((a 9), iA cI (cy.C)), ((a 10), iA cI (cy.D)), ((a 11), iA cI (cy.F)), ((a 12), iA cI (cy.W)), ((t 0), oC t (dy.mo) (dy.co) (dy.le)), ((t 3), iA cI (dy.K)), ((t 4), iA cI (dy.Q)), ((t 5), iA cI (dy.L)), ((t 6), iA cI (dy.H)), ((t 7), iA cI (dy.M)), ((t 8), iA cI (dy.B)), ((t 9), iA cI (dy.C)), ((t 10), iA cI (dy.D)), ((t 11), iA cI (dy.F)), ((t 12), iA cI (dy.W)), (q9, lA cL o)] s.heap.size q := fun q h => Or.inr h
  have hS : va_S (va_A [(h, oX a t), ((a 0), oC a (cy.mo) (cy.co) (cy.le)), ((a 3), iA cI (cy.K)), ((a 4), iA cI (cy.Q)), ((a 5), iA cI (cy.L)), ((a 6), iA cI (cy.H)), ((a 7), iA cI (cy.M)), ((a 8), iA cI (cy.B)), ((a 9), iA cI (cy.C)), ((a 10), iA cI (cy.D)), ((a 11), iA cI (cy.F)), ((a 12), iA cI (cy.W)), ((t 0), oC t (dy.mo) (dy.co) (dy.le)), ((t 3), iA cI (dy.K)), ((t 4), iA cI (dy.Q)), ((t 5), iA cI (dy.L)), ((t 6), iA cI (dy.H)), ((t 7), iA cI (dy.M)), ((t 8), iA cI (dy.B)), ((t 9), iA cI (dy.C)), ((t 10), iA cI (dy.D)), ((t 11), iA cI (dy.F)), ((t 12), iA cI (dy.W)), (q9, lA cL o)] s.heap.size) s.heap s.heap [] := va_S.rf
  obtain ⟨A, hAe⟩ : ∃ A, A = va_A [(h, oX a t), ((a 0), oC a (cy.mo) (cy.co) (cy.le)), ((a 3), iA cI (cy.K)), ((a 4), iA cI (cy.Q)), ((a 5), iA cI (cy.L)), ((a 6), iA cI (cy.H)), ((a 7), iA cI (cy.M)), ((a 8), iA cI (cy.B)), ((a 9), iA cI (cy.C)), ((a 10), iA cI (cy.D)), ((a 11), iA cI (cy.F)), ((a 12), iA cI (cy.W)), ((t 0), oC t (dy.mo) (dy.co) (dy.le)), ((t 3), iA cI (dy.K)), ((t 4), iA cI (dy.Q)), ((t 5), iA cI (dy.L)), ((t 6), iA cI (dy.H)), ((t 7), iA cI (dy.M)), ((t 8), iA cI (dy.B)), ((t 9), iA cI (dy.C)), ((t 10), iA cI (dy.D)), ((t 11), iA cI (dy.F)), ((t 12), iA cI (dy.W)), (q9, lA cL o)] s.heap.size := ⟨_, rfl⟩
  rw [← hAe] at hD hA hS hZ
  have FX : CallFix p m c cL_build 6 s ([.ref h, .int x, .int y, .int v, .ref q9] : List Value).toArray wsL_build RL := ⟨hx, hb, hml, hown, hts⟩
  have hl := lv_entry ([.ref h, .int x, .int y, .int v, .ref q9]) (n := 6) (Nat.le_of_ble_eq_true rfl)
  rw [lg_entry_eq]
  generalize (lg_sl ([.ref h, .int x, .int y, .int v, .ref q9]) ++ List.replicate (6 - (lg_sl ([.ref h, .int x, .int y, .int v, .ref q9])).length) Slot.unset).toArray = ls at hl ⊢
  have hl : lv_has ls 6 [(0, .ref h), (1, .int x), (2, .int y), (3, .int v), (4, .ref q9)] := hl
  refine wq (fun Q hQ => ?_)
  have hzc : 0 + 0 ≤ (headSpec wsL_build rmL_build).room.cells := Nat.zero_le _
  have hzs : 0 + 0 ≤ (headSpec wsL_build rmL_build).room.slots := Nat.zero_le _
  have hS0 := hg.2.1
  have hgt := hg.2.2.1
  have hk := hg.1
  have hkd := hg.2.2.2
  rcases Decidable.em ((cdBuild k cy.co x y v) = 0) with hcd | hcd
  · skip
    refine w_widen (k := 1) (n := 6) (by decide) (by decide) ?_
    have hzc : 1 + 0 ≤ (headSpec wsL_build rmL_build).room.cells := Nat.le_of_ble_eq_true rfl
    have hzs : 6 + 0 ≤ (headSpec wsL_build rmL_build).room.slots := Nat.le_of_ble_eq_true rfl
    obtain ⟨hpl, hin, hc1, hc2⟩ := build_0 hcd
    refine lv_aload hx hb dL_build_0 (lv_at hl 4 rfl) ?_
    refine lv_iconst (v := 0) hx hb dL_build_2 (by decide) ?_
    refine lv_aload_n hx hb dL_build_3 rfl (lv_at hl 0 rfl) ?_
    refine lv_iload_n hx hb dL_build_4 rfl (lv_at hl 1 rfl) ?_
    refine lv_iload_n hx hb dL_build_5 rfl (lv_at hl 2 rfl) ?_
    refine lv_iload_n hx hb dL_build_6 rfl (lv_at hl 3 rfl) ?_
    refine cw_i (wr := [((t 0), oC t (dy.mo) (dy.co) (dy.le)), ((t 3), iA cI (dy.K)), ((t 4), iA cI (dy.Q)), ((t 5), iA cI (dy.L)), ((t 6), iA cI (dy.H)), ((t 7), iA cI (dy.M)), ((t 8), iA cI (dy.B)), ((t 9), iA cI (dy.C)), ((t 10), iA cI (dy.D)), ((t 11), iA cI (dy.F)), ((t 12), iA cI (dy.W)), (q9, lA cL o)]) (va_runV (As := [.int x, .int y, .int v]) (rest := [.int 0, .ref q9]) FX (c_X1_build_ok l G cI h a t cy.mo cy.co cy.le cy.K cy.Q cy.L cy.H cy.M cy.B cy.C cy.D cy.F cy.W k x y v hk hgt hcd _) (cwV 3 hts gL_build_X1_build rfl rfl rfl (by decide +kernel) ⟨Nat.le_of_ble_eq_true rfl, Nat.le_of_ble_eq_true rfl⟩) (wrV hK hP hD hN [0, 1, 2, 3, 4, 5, 6, 7, 8, 9, 10, 11] (by decide) rfl rfl (ci := 1) (q0 := 0) rfl rfl) rfl rfl hl.1 rfl (lv_room (Nat.le_of_ble_eq_true rfl)) dL_build_7 ⟨Nat.le_of_ble_eq_true rfl, Nat.le_of_ble_eq_true rfl⟩) hS hP hD hA [0, 1, 2, 3, 4, 5, 6, 7, 8, 9, 10, 11] [12, 13, 14, 15, 16, 17, 18, 19, 20, 21, 22, 23] rfl rfl (by decide) (by decide) (fun r9 u H locs hw hP hD hS => ?_)
    obtain ⟨Q1, L1, H1, M1, B1, C1, D1, W1⟩ := u
    have hP := hP.sub (ws' := [(h, oX a t), ((a 0), oC a (cy.mo) (cy.co - (cst v)) (cy.le)), ((a 3), iA cI (upd cy.K (pAt x y) v)), ((a 4), iA cI Q1), ((a 5), iA cI L1), ((a 6), iA cI H1), ((a 7), iA cI M1), ((a 8), iA cI B1), ((a 9), iA cI C1), ((a 10), iA cI D1), ((a 11), iA cI (cy.F)), ((a 12), iA cI W1), ((t 0), oC t (dy.mo) (dy.co) (dy.le)), ((t 3), iA cI (dy.K)), ((t 4), iA cI (dy.Q)), ((t 5), iA cI (dy.L)), ((t 6), iA cI (dy.H)), ((t 7), iA cI (dy.M)), ((t 8), iA cI (dy.B)), ((t 9), iA cI (dy.C)), ((t 10), iA cI (dy.D)), ((t 11), iA cI (dy.F)), ((t 12), iA cI (dy.W)), (q9, lA cL o)]) [12, 13, 14, 15, 16, 17, 18, 19, 20, 21, 22, 23, 0, 1, 2, 3, 4, 5, 6, 7, 8, 9, 10, 11] rfl
    have hD := hD.sub (ws' := [(h, oX a t), ((a 0), oC a (cy.mo) (cy.co - (cst v)) (cy.le)), ((a 3), iA cI (upd cy.K (pAt x y) v)), ((a 4), iA cI Q1), ((a 5), iA cI L1), ((a 6), iA cI H1), ((a 7), iA cI M1), ((a 8), iA cI B1), ((a 9), iA cI C1), ((a 10), iA cI D1), ((a 11), iA cI (cy.F)), ((a 12), iA cI W1), ((t 0), oC t (dy.mo) (dy.co) (dy.le)), ((t 3), iA cI (dy.K)), ((t 4), iA cI (dy.Q)), ((t 5), iA cI (dy.L)), ((t 6), iA cI (dy.H)), ((t 7), iA cI (dy.M)), ((t 8), iA cI (dy.B)), ((t 9), iA cI (dy.C)), ((t 10), iA cI (dy.D)), ((t 11), iA cI (dy.F)), ((t 12), iA cI (dy.W)), (q9, lA cL o)]) [12, 13, 14, 15, 16, 17, 18, 19, 20, 21, 22, 23, 0, 1, 2, 3, 4, 5, 6, 7, 8, 9, 10, 11] (by decide) rfl
    refine lv_i2l (v := r9.toInt64) hx hb dL_build_10 rfl ?_
    refine va_last hx hb hKL hP hD hS 23 0 rfl rfl vp_in01 dL_build_11 (fun H locs hP hD hS => ?_)
    have hP : va_P G vwCl [(h, oX a t), ((a 0), oC a (cy.mo) (cy.co - (cst v)) (cy.le)), ((a 3), iA cI (upd cy.K (pAt x y) v)), ((a 4), iA cI Q1), ((a 5), iA cI L1), ((a 6), iA cI H1), ((a 7), iA cI M1), ((a 8), iA cI B1), ((a 9), iA cI C1), ((a 10), iA cI D1), ((a 11), iA cI (cy.F)), ((a 12), iA cI W1), ((t 0), oC t (dy.mo) (dy.co) (dy.le)), ((t 3), iA cI (dy.K)), ((t 4), iA cI (dy.Q)), ((t 5), iA cI (dy.L)), ((t 6), iA cI (dy.H)), ((t 7), iA cI (dy.M)), ((t 8), iA cI (dy.B)), ((t 9), iA cI (dy.C)), ((t 10), iA cI (dy.D)), ((t 11), iA cI (dy.F)), ((t 12), iA cI (dy.W)), (q9, lA cL (vp_updL o (0 : Int32).toNatClampNeg (r9.toInt64)))] H := hP
    have hD : va_D A [(h, oX a t), ((a 0), oC a (cy.mo) (cy.co - (cst v)) (cy.le)), ((a 3), iA cI (upd cy.K (pAt x y) v)), ((a 4), iA cI Q1), ((a 5), iA cI L1), ((a 6), iA cI H1), ((a 7), iA cI M1), ((a 8), iA cI B1), ((a 9), iA cI C1), ((a 10), iA cI D1), ((a 11), iA cI (cy.F)), ((a 12), iA cI W1), ((t 0), oC t (dy.mo) (dy.co) (dy.le)), ((t 3), iA cI (dy.K)), ((t 4), iA cI (dy.Q)), ((t 5), iA cI (dy.L)), ((t 6), iA cI (dy.H)), ((t 7), iA cI (dy.M)), ((t 8), iA cI (dy.B)), ((t 9), iA cI (dy.C)), ((t 10), iA cI (dy.D)), ((t 11), iA cI (dy.F)), ((t 12), iA cI (dy.W)), (q9, lA cL (vp_updL o (0 : Int32).toNatClampNeg (r9.toInt64)))] := hD
    refine lv_goto (tgt := 27) hx hb dL_build_12 (by decide) ?_
    refine lv_iconst (v := 0) hx hb dL_build_27 (by decide) ?_
    subst hQ
    subst hAe
    exact wr_i (⟨cy.mo, (cy.co - (cst v)), cy.le, (upd cy.K (pAt x y) v), Q1, L1, H1, M1, B1, C1, D1, cy.F, W1⟩, dy, vp_updL o (0 : Int32).toNatClampNeg r9.toInt64) (⟨hcd.symm, by rw [hcd, nkO_0]; exact ⟨eqK_upd hk, hw.2, gate_w hgt hc1, kd_upd hkd (inB_kd hin)⟩, ⟨rfl, by rw [hcd, ncO_0], rfl⟩, fun _ => updL_at (o := o) (j := (0 : Int32).toNatClampNeg) (hw.1)⟩) hx hb hr hP hD hS hlocks dL_build_28
  · skip
    refine lv_aload hx hb dL_build_0 (lv_at hl 4 rfl) ?_
    refine lv_iconst (v := 0) hx hb dL_build_2 (by decide) ?_
    refine lv_aload_n hx hb dL_build_3 rfl (lv_at hl 0 rfl) ?_
    refine lv_iload_n hx hb dL_build_4 rfl (lv_at hl 1 rfl) ?_
    refine lv_iload_n hx hb dL_build_5 rfl (lv_at hl 2 rfl) ?_
    refine lv_iload_n hx hb dL_build_6 rfl (lv_at hl 3 rfl) ?_
    refine xr_i (vx_runV (As := [.int x, .int y, .int v]) (rest := [.int 0, .ref q9]) FX (c_X1_build_no l G cI hst h a t cy.mo cy.co cy.le cy.K cy.Q cy.L cy.H cy.M cy.B cy.C cy.D cy.F cy.W k x y v hk hcd) (cwV 3 hts gL_build_X1_build rfl rfl rfl (by decide +kernel) ⟨Nat.le_of_ble_eq_true rfl, Nat.le_of_ble_eq_true rfl⟩) (xrV hK hP hN hE hX hZ hS [0, 1, 2, 3, 4, 5, 6, 7, 8, 9, 10, 11] rfl (ci := 1) (q0 := 0) rfl rfl) rfl rfl hl.1 rfl (lv_room (Nat.le_of_ble_eq_true rfl)) dL_build_7 ⟨Nat.le_of_ble_eq_true rfl, Nat.le_of_ble_eq_true rfl⟩) hS hP (fun E ce q8 H locs hcE hP hS h1 h2 h3 => ?_)
    rcases hcE with ⟨rfl, hce⟩ | ⟨rfl, hce⟩ | ⟨rfl, hce⟩
    · skip
      refine vx_catch hown [] ⟨0, 12, 15, 13⟩ [⟨0, 12, 19, 24⟩, ⟨0, 12, 23, 15⟩] htab (fun z hz => nomatch hz) (by decide) (by decide) (hts (.classLink RL 13 "java/lang/IndexOutOfBoundsException") (by decide +kernel)) (EXW_use hX (.castable "java/lang/IndexOutOfBoundsException" "java/lang/IndexOutOfBoundsException") (by decide)) h1 h2 h3 ?_
      refine W.eq (g2 := F0 m 15 ls [.ref q8]) rfl ?_
      refine lv_astore (lv' := [(5, .ref q8), (0, .ref h), (1, .int x), (2, .int y), (3, .int v), (4, .ref q9)]) hx hb dL_build_15 hl (by decide) rfl (fun ls hl => ?_)
      refine lv_iconst (v := 1) hx hb dL_build_17 (by decide) ?_
      subst hQ
      subst hAe
      exact wr_i (cy, dy, o) (⟨hce.symm, by rw [nkO_n hcd]; exact hg, ⟨rfl, by rw [ncO_n hcd], rfl⟩, fun h9 => absurd h9 hcd⟩) hx hb hr hP hD hS hlocks dL_build_18
    · skip
      refine vx_catch hown [⟨0, 12, 15, 13⟩] ⟨0, 12, 19, 24⟩ [⟨0, 12, 23, 15⟩] htab (fun z hz => by obtain rfl := List.mem_singleton.mp hz; exact Or.inr ⟨by decide, "java/lang/IndexOutOfBoundsException", hts (.classLink RL 13 "java/lang/IndexOutOfBoundsException") (by decide +kernel), hNC.2.1⟩) (by decide) (by decide) (hts (.classLink RL 24 "java/lang/IllegalArgumentException") (by decide +kernel)) (EXW_use hX (.castable "java/lang/IllegalArgumentException" "java/lang/IllegalArgumentException") (by decide)) h1 h2 h3 ?_
      refine W.eq (g2 := F0 m 19 ls [.ref q8]) rfl ?_
      refine lv_astore (lv' := [(5, .ref q8), (0, .ref h), (1, .int x), (2, .int y), (3, .int v), (4, .ref q9)]) hx hb dL_build_19 hl (by decide) rfl (fun ls hl => ?_)
      refine lv_iconst (v := 2) hx hb dL_build_21 (by decide) ?_
      subst hQ
      subst hAe
      exact wr_i (cy, dy, o) (⟨hce.symm, by rw [nkO_n hcd]; exact hg, ⟨rfl, by rw [ncO_n hcd], rfl⟩, fun h9 => absurd h9 hcd⟩) hx hb hr hP hD hS hlocks dL_build_22
    · skip
      refine vx_catch hown [⟨0, 12, 15, 13⟩, ⟨0, 12, 19, 24⟩] ⟨0, 12, 23, 15⟩ [] htab (fun z hz => (List.mem_cons.mp hz).elim (fun h8 => by subst h8; exact Or.inr ⟨by decide, "java/lang/IndexOutOfBoundsException", hts (.classLink RL 13 "java/lang/IndexOutOfBoundsException") (by decide +kernel), hNC.1⟩) (fun hz => by obtain rfl := List.mem_singleton.mp hz; exact Or.inr ⟨by decide, "java/lang/IllegalArgumentException", hts (.classLink RL 24 "java/lang/IllegalArgumentException") (by decide +kernel), hNC.2.2.1⟩)) (by decide) (by decide) (hts (.classLink RL 15 "java/lang/IllegalStateException") (by decide +kernel)) (EXW_use hX (.castable "java/lang/IllegalStateException" "java/lang/IllegalStateException") (by decide)) h1 h2 h3 ?_
      refine W.eq (g2 := F0 m 23 ls [.ref q8]) rfl ?_
      refine lv_astore (lv' := [(5, .ref q8), (0, .ref h), (1, .int x), (2, .int y), (3, .int v), (4, .ref q9)]) hx hb dL_build_23 hl (by decide) rfl (fun ls hl => ?_)
      refine lv_iconst (v := 3) hx hb dL_build_25 (by decide) ?_
      subst hQ
      subst hAe
      exact wr_i (cy, dy, o) (⟨hce.symm, by rw [nkO_n hcd]; exact hg, ⟨rfl, by rw [ncO_n hcd], rfl⟩, fun h9 => absurd h9 hcd⟩) hx hb hr hP hD hS hlocks dL_build_26

def rmL_bridge : Room := { frames := 8, cells := 1, slots := 6, locals := 163 }
set_option maxHeartbeats 4000000 in
set_option maxRecDepth 100000 in
theorem c_L_bridge (l : Launch) (G : va_G) (cI cL : ClassId) (hst : l.stackTraces = false) (h q9 : Nat) (a t : Nat → Nat) (cy dy : Cy) (o : Nat → Int64) (k : Nat → Int32) (x y : Int32) (hg : Sd cy k) (sz : Nat) : Met l yL_bridge wsL_bridge rmL_bridge (va_Pc [.ref h, .int x, .int y, .ref q9] (WrPX G cI cL [(h, oX a t), ((a 0), oC a (cy.mo) (cy.co) (cy.le)), ((a 3), iA cI (cy.K)), ((a 4), iA cI (cy.Q)), ((a 5), iA cI (cy.L)), ((a 6), iA cI (cy.H)), ((a 7), iA cI (cy.M)), ((a 8), iA cI (cy.B)), ((a 9), iA cI (cy.C)), ((a 10), iA cI (cy.D)), ((a 11), iA cI (cy.F)), ((a 12), iA cI (cy.W)), ((t 0), oC t (dy.mo) (dy.co) (dy.le)), ((t 3), iA cI (dy.K)), ((t 4), iA cI (dy.Q)), ((t 5), iA cI (dy.L)), ((t 6), iA cI (dy.H)), ((t 7), iA cI (dy.M)), ((t 8), iA cI (dy.B)), ((t 9), iA cI (dy.C)), ((t 10), iA cI (dy.D)), ((t 11), iA cI (dy.F)), ((t 12), iA cI (dy.W)), (q9, lA cL o)] sz)) (va_Qi (fun (r : Int32) (u : Cy × Cy × (Nat → Int64)) => r = (cdBridge k cy.co x y) ∧ Sd u.1 (nkO (cdBridge k cy.co x y) k (pAt x y) 6) ∧ (u.1.mo = cy.mo ∧ u.1.co = ncO (cdBridge k cy.co x y) cy.co 7 ∧ u.1.le = cy.le) ∧ ((cdBridge k cy.co x y) = 0 → u.2.2 (0 : Int32).toNatClampNeg = Int32.toInt64 (lotsQ (upd k (pAt x y) 6) (pAt x y)))) (WrB G [(h, oX a t), ((a 0), oC a (cy.mo) (cy.co) (cy.le)), ((a 3), iA cI (cy.K)), ((a 4), iA cI (cy.Q)), ((a 5), iA cI (cy.L)), ((a 6), iA cI (cy.H)), ((a 7), iA cI (cy.M)), ((a 8), iA cI (cy.B)), ((a 9), iA cI (cy.C)), ((a 10), iA cI (cy.D)), ((a 11), iA cI (cy.F)), ((a 12), iA cI (cy.W)), ((t 0), oC t (dy.mo) (dy.co) (dy.le)), ((t 3), iA cI (dy.K)), ((t 4), iA cI (dy.Q)), ((t 5), iA cI (dy.L)), ((t 6), iA cI (dy.H)), ((t 7), iA cI (dy.M)), ((t 8), iA cI (dy.B)), ((t 9), iA cI (dy.C)), ((t 10), iA cI (dy.D)), ((t 11), iA cI (dy.F)), ((t 12), iA cI (dy.W)), (q9, lA cL o)] sz (fun u => [(h, oX a t), (a 0, oC a (u.1.mo) (u.1.co) (u.1.le)), (a 3, iA cI (u.1.K)), (a 4, iA cI (u.1.Q)), (a 5, iA cI (u.1.L)), (a 6, iA cI (u.1.H)), (a 7, iA cI (u.1.M)), (a 8, iA cI (u.1.B)), (a 9, iA cI (u.1.C)), (a 10, iA cI (u.1.D)), (a 11, iA cI (u.1.F)), (a 12, iA cI (u.1.W)), (t 0, oC t (u.2.1.mo) (u.2.1.co) (u.2.1.le)), (t 3, iA cI (u.2.1.K)), (t 4, iA cI (u.2.1.Q)), (t 5, iA cI (u.2.1.L)), (t 6, iA cI (u.2.1.H)), (t 7, iA cI (u.2.1.M)), (t 8, iA cI (u.2.1.B)), (t 9, iA cI (u.2.1.C)), (t 10, iA cI (u.2.1.D)), (t 11, iA cI (u.2.1.F)), (t 12, iA cI (u.2.1.W)), (q9, lA cL (u.2.2))])) (va_A [(h, oX a t), ((a 0), oC a (cy.mo) (cy.co) (cy.le)), ((a 3), iA cI (cy.K)), ((a 4), iA cI (cy.Q)), ((a 5), iA cI (cy.L)), ((a 6), iA cI (cy.H)), ((a 7), iA cI (cy.M)), ((a 8), iA cI (cy.B)), ((a 9), iA cI (cy.C)), ((a 10), iA cI (cy.D)), ((a 11), iA cI (cy.F)), ((a 12), iA cI (cy.W)), ((t 0), oC t (dy.mo) (dy.co) (dy.le)), ((t 3), iA cI (dy.K)), ((t 4), iA cI (dy.Q)), ((t 5), iA cI (dy.L)), ((t 6), iA cI (dy.H)), ((t 7), iA cI (dy.M)), ((t 8), iA cI (dy.B)), ((t 9), iA cI (dy.C)), ((t 10), iA cI (dy.D)), ((t 11), iA cI (dy.F)), ((t 12), iA cI (dy.W)), (q9, lA cL o)] sz)) 1 6 (va_A [(h, oX a t), ((a 0), oC a (cy.mo) (cy.co) (cy.le)), ((a 3), iA cI (cy.K)), ((a 4), iA cI (cy.Q)), ((a 5), iA cI (cy.L)), ((a 6), iA cI (cy.H)), ((a 7), iA cI (cy.M)), ((a 8), iA cI (cy.B)), ((a 9), iA cI (cy.C)), ((a 10), iA cI (cy.D)), ((a 11), iA cI (cy.F)), ((a 12), iA cI (cy.W)), ((t 0), oC t (dy.mo) (dy.co) (dy.le)), ((t 3), iA cI (dy.K)), ((t 4), iA cI (dy.Q)), ((t 5), iA cI (dy.L)), ((t 6), iA cI (dy.H)), ((t 7), iA cI (dy.M)), ((t 8), iA cI (dy.B)), ((t 9), iA cI (dy.C)), ((t 10), iA cI (dy.D)), ((t 11), iA cI (dy.F)), ((t 12), iA cI (dy.W)), (q9, lA cL o)] sz) := by
  refine Met_ofWH (cc := cL_bridge) (maxL := 5) (ret := (some .int)) (hh := [(0, 10, 13, 13), (0, 10, 17, 15)]) (by decide) rfl ?_
  intro p e s m args below meth c s₁ B hml hv
  obtain ⟨rfl, ⟨hsz, hP, hK, hD0, hN⟩, hKL, hE, hX, hNC, hZ⟩ := hv
  have hx := B.exec
  have hb := B.bytes
  have hr := B.returns
  have hlocks := B.notSynchronized
  have hts := atoms_spec (ws := wsL_bridge) B.pre
  have htab : c.exceptionTable.toList = tableOf [(0, 10, 13, 13), (0, 10, 17, 15)] := vx_table (x := yL_bridge) (y := yL_bridge) B (hts (.codeWith yL_bridge cL_bridge 5 (some .int) [(0, 10, 13, 13), (0, 10, 17, 15)]) (by unfold wsL_bridge; exact List.mem_cons_self))
  have hown : s.vm.findClass RL = some m.cls := findClass_of_methodNamed B.named
  subst hsz
  have hD := hD0.self (sz := s.heap.size)
  have hA : ∀ q : Nat, s.heap.size ≤ q → va_A [(h, oX a t), ((a 0), oC a (cy.mo) (cy.co) (cy.le)), ((a 3), iA cI (cy.K)), ((a 4), iA cI (cy.Q)), ((a 5), iA cI (cy.L)), ((a 6), iA cI (cy.H)), ((a 7), iA cI (cy.M)), ((a 8), iA cI (cy.B)), ((a 9), iA cI (cy.C)), ((a 10), iA cI (cy.D)), ((a 11), iA cI (cy.F)), ((a 12), iA cI (cy.W)), ((t 0), oC t (dy.mo) (dy.co) (dy.le)), ((t 3), iA cI (dy.K)), ((t 4), iA cI (dy.Q)), ((t 5), iA cI (dy.L)), ((t 6), iA cI (dy.H)), ((t 7), iA cI (dy.M)), ((t 8), iA cI (dy.B)), ((t 9), iA cI (dy.C)), ((t 10), iA cI (dy.D)), ((t 11), iA cI (dy.F)), ((t 12), iA cI (dy.W)), (q9, lA cL o)] s.heap.size q := fun q h => Or.inr h
  have hS : va_S (va_A [(h, oX a t), ((a 0), oC a (cy.mo) (cy.co) (cy.le)), ((a 3), iA cI (cy.K)), ((a 4), iA cI (cy.Q)), ((a 5), iA cI (cy.L)), ((a 6), iA cI (cy.H)), ((a 7), iA cI (cy.M)), ((a 8), iA cI (cy.B)), ((a 9), iA cI (cy.C)), ((a 10), iA cI (cy.D)), ((a 11), iA cI (cy.F)), ((a 12), iA cI (cy.W)), ((t 0), oC t (dy.mo) (dy.co) (dy.le)), ((t 3), iA cI (dy.K)), ((t 4), iA cI (dy.Q)), ((t 5), iA cI (dy.L)), ((t 6), iA cI (dy.H)), ((t 7), iA cI (dy.M)), ((t 8), iA cI (dy.B)), ((t 9), iA cI (dy.C)), ((t 10), iA cI (dy.D)), ((t 11), iA cI (dy.F)), ((t 12), iA cI (dy.W)), (q9, lA cL o)] s.heap.size) s.heap s.heap [] := va_S.rf
  obtain ⟨A, hAe⟩ : ∃ A, A = va_A [(h, oX a t), ((a 0), oC a (cy.mo) (cy.co) (cy.le)), ((a 3), iA cI (cy.K)), ((a 4), iA cI (cy.Q)), ((a 5), iA cI (cy.L)), ((a 6), iA cI (cy.H)), ((a 7), iA cI (cy.M)), ((a 8), iA cI (cy.B)), ((a 9), iA cI (cy.C)), ((a 10), iA cI (cy.D)), ((a 11), iA cI (cy.F)), ((a 12), iA cI (cy.W)), ((t 0), oC t (dy.mo) (dy.co) (dy.le)), ((t 3), iA cI (dy.K)), ((t 4), iA cI (dy.Q)), ((t 5), iA cI (dy.L)), ((t 6), iA cI (dy.H)), ((t 7), iA cI (dy.M)), ((t 8), iA cI (dy.B)), ((t 9), iA cI (dy.C)), ((t 10), iA cI (dy.D)), ((t 11), iA cI (dy.F)), ((t 12), iA cI (dy.W)), (q9, lA cL o)] s.heap.size := ⟨_, rfl⟩
  rw [← hAe] at hD hA hS hZ
  have FX : CallFix p m c cL_bridge 5 s ([.ref h, .int x, .int y, .ref q9] : List Value).toArray wsL_bridge RL := ⟨hx, hb, hml, hown, hts⟩
  have hl := lv_entry ([.ref h, .int x, .int y, .ref q9]) (n := 5) (Nat.le_of_ble_eq_true rfl)
  rw [lg_entry_eq]
  generalize (lg_sl ([.ref h, .int x, .int y, .ref q9]) ++ List.replicate (5 - (lg_sl ([.ref h, .int x, .int y, .ref q9])).length) Slot.unset).toArray = ls at hl ⊢
  have hl : lv_has ls 5 [(0, .ref h), (1, .int x), (2, .int y), (3, .ref q9)] := hl
  refine wq (fun Q hQ => ?_)
  have hzc : 0 + 0 ≤ (headSpec wsL_bridge rmL_bridge).room.cells := Nat.zero_le _
  have hzs : 0 + 0 ≤ (headSpec wsL_bridge rmL_bridge).room.slots := Nat.zero_le _
  have hS0 := hg.2.1
  have hgt := hg.2.2.1
  have hk := hg.1
  have hkd := hg.2.2.2
  rcases Decidable.em ((cdBridge k cy.co x y) = 0) with hcd | hcd
  · skip
    refine w_widen (k := 1) (n := 6) (by decide) (by decide) ?_
    have hzc : 1 + 0 ≤ (headSpec wsL_bridge rmL_bridge).room.cells := Nat.le_of_ble_eq_true rfl
    have hzs : 6 + 0 ≤ (headSpec wsL_bridge rmL_bridge).room.slots := Nat.le_of_ble_eq_true rfl
    refine lv_aload_n hx hb dL_bridge_0 rfl (lv_at hl 3 rfl) ?_
    refine lv_iconst (v := 0) hx hb dL_bridge_1 (by decide) ?_
    refine lv_aload_n hx hb dL_bridge_2 rfl (lv_at hl 0 rfl) ?_
    refine lv_iload_n hx hb dL_bridge_3 rfl (lv_at hl 1 rfl) ?_
    refine lv_iload_n hx hb dL_bridge_4 rfl (lv_at hl 2 rfl) ?_
    refine cw_i (wr := [((t 0), oC t (dy.mo) (dy.co) (dy.le)), ((t 3), iA cI (dy.K)), ((t 4), iA cI (dy.Q)), ((t 5), iA cI (dy.L)), ((t 6), iA cI (dy.H)), ((t 7), iA cI (dy.M)), ((t 8), iA cI (dy.B)), ((t 9), iA cI (dy.C)), ((t 10), iA cI (dy.D)), ((t 11), iA cI (dy.F)), ((t 12), iA cI (dy.W)), (q9, lA cL o)]) (va_runV (As := [.int x, .int y]) (rest := [.int 0, .ref q9]) FX (c_X1_bridge_ok l G cI h a t cy.mo cy.co cy.le cy.K cy.Q cy.L cy.H cy.M cy.B cy.C cy.D cy.F cy.W k x y hk hgt hcd _) (cwV 2 hts gL_bridge_X1_bridge rfl rfl rfl (by decide +kernel) ⟨Nat.le_of_ble_eq_true rfl, Nat.le_of_ble_eq_true rfl⟩) (wrV hK hP hD hN [0, 1, 2, 3, 4, 5, 6, 7, 8, 9, 10, 11] (by decide) rfl rfl (ci := 1) (q0 := 0) rfl rfl) rfl rfl hl.1 rfl (lv_room (Nat.le_of_ble_eq_true rfl)) dL_bridge_5 ⟨Nat.le_of_ble_eq_true rfl, Nat.le_of_ble_eq_true rfl⟩) hS hP hD hA [0, 1, 2, 3, 4, 5, 6, 7, 8, 9, 10, 11] [12, 13, 14, 15, 16, 17, 18, 19, 20, 21, 22, 23] rfl rfl (by decide) (by decide) (fun r9 u H locs hw hP hD hS => ?_)
    obtain ⟨Q1, L1, H1, M1, B1, C1, D1, W1⟩ := u
    have hP := hP.sub (ws' := [(h, oX a t), ((a 0), oC a (cy.mo) (cy.co - 7) (cy.le)), ((a 3), iA cI (upd cy.K (pAt x y) 6)), ((a 4), iA cI Q1), ((a 5), iA cI L1), ((a 6), iA cI H1), ((a 7), iA cI M1), ((a 8), iA cI B1), ((a 9), iA cI C1), ((a 10), iA cI D1), ((a 11), iA cI (cy.F)), ((a 12), iA cI W1), ((t 0), oC t (dy.mo) (dy.co) (dy.le)), ((t 3), iA cI (dy.K)), ((t 4), iA cI (dy.Q)), ((t 5), iA cI (dy.L)), ((t 6), iA cI (dy.H)), ((t 7), iA cI (dy.M)), ((t 8), iA cI (dy.B)), ((t 9), iA cI (dy.C)), ((t 10), iA cI (dy.D)), ((t 11), iA cI (dy.F)), ((t 12), iA cI (dy.W)), (q9, lA cL o)]) [12, 13, 14, 15, 16, 17, 18, 19, 20, 21, 22, 23, 0, 1, 2, 3, 4, 5, 6, 7, 8, 9, 10, 11] rfl
    have hD := hD.sub (ws' := [(h, oX a t), ((a 0), oC a (cy.mo) (cy.co - 7) (cy.le)), ((a 3), iA cI (upd cy.K (pAt x y) 6)), ((a 4), iA cI Q1), ((a 5), iA cI L1), ((a 6), iA cI H1), ((a 7), iA cI M1), ((a 8), iA cI B1), ((a 9), iA cI C1), ((a 10), iA cI D1), ((a 11), iA cI (cy.F)), ((a 12), iA cI W1), ((t 0), oC t (dy.mo) (dy.co) (dy.le)), ((t 3), iA cI (dy.K)), ((t 4), iA cI (dy.Q)), ((t 5), iA cI (dy.L)), ((t 6), iA cI (dy.H)), ((t 7), iA cI (dy.M)), ((t 8), iA cI (dy.B)), ((t 9), iA cI (dy.C)), ((t 10), iA cI (dy.D)), ((t 11), iA cI (dy.F)), ((t 12), iA cI (dy.W)), (q9, lA cL o)]) [12, 13, 14, 15, 16, 17, 18, 19, 20, 21, 22, 23, 0, 1, 2, 3, 4, 5, 6, 7, 8, 9, 10, 11] (by decide) rfl
    refine lv_i2l (v := r9.toInt64) hx hb dL_bridge_8 rfl ?_
    refine va_last hx hb hKL hP hD hS 23 0 rfl rfl vp_in01 dL_bridge_9 (fun H locs hP hD hS => ?_)
    have hP : va_P G vwCl [(h, oX a t), ((a 0), oC a (cy.mo) (cy.co - 7) (cy.le)), ((a 3), iA cI (upd cy.K (pAt x y) 6)), ((a 4), iA cI Q1), ((a 5), iA cI L1), ((a 6), iA cI H1), ((a 7), iA cI M1), ((a 8), iA cI B1), ((a 9), iA cI C1), ((a 10), iA cI D1), ((a 11), iA cI (cy.F)), ((a 12), iA cI W1), ((t 0), oC t (dy.mo) (dy.co) (dy.le)), ((t 3), iA cI (dy.K)), ((t 4), iA cI (dy.Q)), ((t 5), iA cI (dy.L)), ((t 6), iA cI (dy.H)), ((t 7), iA cI (dy.M)), ((t 8), iA cI (dy.B)), ((t 9), iA cI (dy.C)), ((t 10), iA cI (dy.D)), ((t 11), iA cI (dy.F)), ((t 12), iA cI (dy.W)), (q9, lA cL (vp_updL o (0 : Int32).toNatClampNeg (r9.toInt64)))] H := hP
    have hD : va_D A [(h, oX a t), ((a 0), oC a (cy.mo) (cy.co - 7) (cy.le)), ((a 3), iA cI (upd cy.K (pAt x y) 6)), ((a 4), iA cI Q1), ((a 5), iA cI L1), ((a 6), iA cI H1), ((a 7), iA cI M1), ((a 8), iA cI B1), ((a 9), iA cI C1), ((a 10), iA cI D1), ((a 11), iA cI (cy.F)), ((a 12), iA cI W1), ((t 0), oC t (dy.mo) (dy.co) (dy.le)), ((t 3), iA cI (dy.K)), ((t 4), iA cI (dy.Q)), ((t 5), iA cI (dy.L)), ((t 6), iA cI (dy.H)), ((t 7), iA cI (dy.M)), ((t 8), iA cI (dy.B)), ((t 9), iA cI (dy.C)), ((t 10), iA cI (dy.D)), ((t 11), iA cI (dy.F)), ((t 12), iA cI (dy.W)), (q9, lA cL (vp_updL o (0 : Int32).toNatClampNeg (r9.toInt64)))] := hD
    refine lv_goto (tgt := 21) hx hb dL_bridge_10 (by decide) ?_
    refine lv_iconst (v := 0) hx hb dL_bridge_21 (by decide) ?_
    subst hQ
    subst hAe
    exact wr_i (⟨cy.mo, (cy.co - 7), cy.le, (upd cy.K (pAt x y) 6), Q1, L1, H1, M1, B1, C1, D1, cy.F, W1⟩, dy, vp_updL o (0 : Int32).toNatClampNeg r9.toInt64) (⟨hcd.symm, by rw [hcd, nkO_0]; exact ⟨eqK_upd hk, hw.2, gate_upd hgt (Or.inr (by decide)), kd_upd hkd (⟨by decide, by decide⟩)⟩, ⟨rfl, by rw [hcd, ncO_0], rfl⟩, fun _ => updL_at (o := o) (j := (0 : Int32).toNatClampNeg) (hw.1)⟩) hx hb hr hP hD hS hlocks dL_bridge_22
  · skip
    refine lv_aload_n hx hb dL_bridge_0 rfl (lv_at hl 3 rfl) ?_
    refine lv_iconst (v := 0) hx hb dL_bridge_1 (by decide) ?_
    refine lv_aload_n hx hb dL_bridge_2 rfl (lv_at hl 0 rfl) ?_
    refine lv_iload_n hx hb dL_bridge_3 rfl (lv_at hl 1 rfl) ?_
    refine lv_iload_n hx hb dL_bridge_4 rfl (lv_at hl 2 rfl) ?_
    refine xr_i (vx_runV (As := [.int x, .int y]) (rest := [.int 0, .ref q9]) FX (c_X1_bridge_no l G cI hst h a t cy.mo cy.co cy.le cy.K cy.Q cy.L cy.H cy.M cy.B cy.C cy.D cy.F cy.W k x y hk hcd) (cwV 2 hts gL_bridge_X1_bridge rfl rfl rfl (by decide +kernel) ⟨Nat.le_of_ble_eq_true rfl, Nat.le_of_ble_eq_true rfl⟩) (xrV hK hP hN hE hX hZ hS [0, 1, 2, 3, 4, 5, 6, 7, 8, 9, 10, 11] rfl (ci := 1) (q0 := 0) rfl rfl) rfl rfl hl.1 rfl (lv_room (Nat.le_of_ble_eq_true rfl)) dL_bridge_5 ⟨Nat.le_of_ble_eq_true rfl, Nat.le_of_ble_eq_true rfl⟩) hS hP (fun E ce q8 H locs hcE hP hS h1 h2 h3 => ?_)
    rcases hcE with ⟨rfl, hce⟩ | ⟨rfl, hce⟩
    · skip
      refine vx_catch hown [] ⟨0, 10, 13, 13⟩ [⟨0, 10, 17, 15⟩] htab (fun z hz => nomatch hz) (by decide) (by decide) (hts (.classLink RL 13 "java/lang/IndexOutOfBoundsException") (by decide +kernel)) (EXW_use hX (.castable "java/lang/IndexOutOfBoundsException" "java/lang/IndexOutOfBoundsException") (by decide)) h1 h2 h3 ?_
      refine W.eq (g2 := F0 m 13 ls [.ref q8]) rfl ?_
      refine lv_astore (lv' := [(4, .ref q8), (0, .ref h), (1, .int x), (2, .int y), (3, .ref q9)]) hx hb dL_bridge_13 hl (by decide) rfl (fun ls hl => ?_)
      refine lv_iconst (v := 1) hx hb dL_bridge_15 (by decide) ?_
      subst hQ
      subst hAe
      exact wr_i (cy, dy, o) (⟨hce.symm, by rw [nkO_n hcd]; exact hg, ⟨rfl, by rw [ncO_n hcd], rfl⟩, fun h9 => absurd h9 hcd⟩) hx hb hr hP hD hS hlocks dL_bridge_16
    · skip
      refine vx_catch hown [⟨0, 10, 13, 13⟩] ⟨0, 10, 17, 15⟩ [] htab (fun z hz => by obtain rfl := List.mem_singleton.mp hz; exact Or.inr ⟨by decide, "java/lang/IndexOutOfBoundsException", hts (.classLink RL 13 "java/lang/IndexOutOfBoundsException") (by decide +kernel), hNC.1⟩) (by decide) (by decide) (hts (.classLink RL 15 "java/lang/IllegalStateException") (by decide +kernel)) (EXW_use hX (.castable "java/lang/IllegalStateException" "java/lang/IllegalStateException") (by decide)) h1 h2 h3 ?_
      refine W.eq (g2 := F0 m 17 ls [.ref q8]) rfl ?_
      refine lv_astore (lv' := [(4, .ref q8), (0, .ref h), (1, .int x), (2, .int y), (3, .ref q9)]) hx hb dL_bridge_17 hl (by decide) rfl (fun ls hl => ?_)
      refine lv_iconst (v := 2) hx hb dL_bridge_19 (by decide) ?_
      subst hQ
      subst hAe
      exact wr_i (cy, dy, o) (⟨hce.symm, by rw [nkO_n hcd]; exact hg, ⟨rfl, by rw [ncO_n hcd], rfl⟩, fun h9 => absurd h9 hcd⟩) hx hb hr hP hD hS hlocks dL_bridge_20

def rmL_raze : Room := { frames := 8, cells := 1, slots := 6, locals := 141 }
set_option maxHeartbeats 4000000 in
set_option maxRecDepth 100000 in
theorem c_L_raze (l : Launch) (G : va_G) (cI cL : ClassId) (hst : l.stackTraces = false) (h q9 : Nat) (a t : Nat → Nat) (cy dy : Cy) (o : Nat → Int64) (k : Nat → Int32) (x y : Int32) (hg : Sd cy k) (sz : Nat) : Met l yL_raze wsL_raze rmL_raze (va_Pc [.ref h, .int x, .int y, .ref q9] (WrPX G cI cL [(h, oX a t), ((a 0), oC a (cy.mo) (cy.co) (cy.le)), ((a 3), iA cI (cy.K)), ((a 4), iA cI (cy.Q)), ((a 5), iA cI (cy.L)), ((a 6), iA cI (cy.H)), ((a 7), iA cI (cy.M)), ((a 8), iA cI (cy.B)), ((a 9), iA cI (cy.C)), ((a 10), iA cI (cy.D)), ((a 11), iA cI (cy.F)), ((a 12), iA cI (cy.W)), ((t 0), oC t (dy.mo) (dy.co) (dy.le)), ((t 3), iA cI (dy.K)), ((t 4), iA cI (dy.Q)), ((t 5), iA cI (dy.L)), ((t 6), iA cI (dy.H)), ((t 7), iA cI (dy.M)), ((t 8), iA cI (dy.B)), ((t 9), iA cI (dy.C)), ((t 10), iA cI (dy.D)), ((t 11), iA cI (dy.F)), ((t 12), iA cI (dy.W)), (q9, lA cL o)] sz)) (va_Qi (fun (r : Int32) (u : Cy × Cy × (Nat → Int64)) => r = (cdRaze k x y) ∧ Sd u.1 (nkO (cdRaze k x y) k (pAt x y) (rzV k x y)) ∧ (u.1.mo = cy.mo ∧ u.1.co = cy.co ∧ u.1.le = cy.le) ∧ ((cdRaze k x y) = 0 → u.2.2 (0 : Int32).toNatClampNeg = Int32.toInt64 (k (pAt x y)))) (WrB G [(h, oX a t), ((a 0), oC a (cy.mo) (cy.co) (cy.le)), ((a 3), iA cI (cy.K)), ((a 4), iA cI (cy.Q)), ((a 5), iA cI (cy.L)), ((a 6), iA cI (cy.H)), ((a 7), iA cI (cy.M)), ((a 8), iA cI (cy.B)), ((a 9), iA cI (cy.C)), ((a 10), iA cI (cy.D)), ((a 11), iA cI (cy.F)), ((a 12), iA cI (cy.W)), ((t 0), oC t (dy.mo) (dy.co) (dy.le)), ((t 3), iA cI (dy.K)), ((t 4), iA cI (dy.Q)), ((t 5), iA cI (dy.L)), ((t 6), iA cI (dy.H)), ((t 7), iA cI (dy.M)), ((t 8), iA cI (dy.B)), ((t 9), iA cI (dy.C)), ((t 10), iA cI (dy.D)), ((t 11), iA cI (dy.F)), ((t 12), iA cI (dy.W)), (q9, lA cL o)] sz (fun u => [(h, oX a t), (a 0, oC a (u.1.mo) (u.1.co) (u.1.le)), (a 3, iA cI (u.1.K)), (a 4, iA cI (u.1.Q)), (a 5, iA cI (u.1.L)), (a 6, iA cI (u.1.H)), (a 7, iA cI (u.1.M)), (a 8, iA cI (u.1.B)), (a 9, iA cI (u.1.C)), (a 10, iA cI (u.1.D)), (a 11, iA cI (u.1.F)), (a 12, iA cI (u.1.W)), (t 0, oC t (u.2.1.mo) (u.2.1.co) (u.2.1.le)), (t 3, iA cI (u.2.1.K)), (t 4, iA cI (u.2.1.Q)), (t 5, iA cI (u.2.1.L)), (t 6, iA cI (u.2.1.H)), (t 7, iA cI (u.2.1.M)), (t 8, iA cI (u.2.1.B)), (t 9, iA cI (u.2.1.C)), (t 10, iA cI (u.2.1.D)), (t 11, iA cI (u.2.1.F)), (t 12, iA cI (u.2.1.W)), (q9, lA cL (u.2.2))])) (va_A [(h, oX a t), ((a 0), oC a (cy.mo) (cy.co) (cy.le)), ((a 3), iA cI (cy.K)), ((a 4), iA cI (cy.Q)), ((a 5), iA cI (cy.L)), ((a 6), iA cI (cy.H)), ((a 7), iA cI (cy.M)), ((a 8), iA cI (cy.B)), ((a 9), iA cI (cy.C)), ((a 10), iA cI (cy.D)), ((a 11), iA cI (cy.F)), ((a 12), iA cI (cy.W)), ((t 0), oC t (dy.mo) (dy.co) (dy.le)), ((t 3), iA cI (dy.K)), ((t 4), iA cI (dy.Q)), ((t 5), iA cI (dy.L)), ((t 6), iA cI (dy.H)), ((t 7), iA cI (dy.M)), ((t 8), iA cI (dy.B)), ((t 9), iA cI (dy.C)), ((t 10), iA cI (dy.D)), ((t 11), iA cI (dy.F)), ((t 12), iA cI (dy.W)), (q9, lA cL o)] sz)) 1 6 (va_A [(h, oX a t), ((a 0), oC a (cy.mo) (cy.co) (cy.le)), ((a 3), iA cI (cy.K)), ((a 4), iA cI (cy.Q)), ((a 5), iA cI (cy.L)), ((a 6), iA cI (cy.H)), ((a 7), iA cI (cy.M)), ((a 8), iA cI (cy.B)), ((a 9), iA cI (cy.C)), ((a 10), iA cI (cy.D)), ((a 11), iA cI (cy.F)), ((a 12), iA cI (cy.W)), ((t 0), oC t (dy.mo) (dy.co) (dy.le)), ((t 3), iA cI (dy.K)), ((t 4), iA cI (dy.Q)), ((t 5), iA cI (dy.L)), ((t 6), iA cI (dy.H)), ((t 7), iA cI (dy.M)), ((t 8), iA cI (dy.B)), ((t 9), iA cI (dy.C)), ((t 10), iA cI (dy.D)), ((t 11), iA cI (dy.F)), ((t 12), iA cI (dy.W)), (q9, lA cL o)] sz) := by
  refine Met_ofWH (cc := cL_raze) (maxL := 5) (ret := (some .int)) (hh := [(0, 10, 13, 13), (0, 10, 17, 15)]) (by decide) rfl ?_
  intro p e s m args below meth c s₁ B hml hv
  obtain ⟨rfl, ⟨hsz, hP, hK, hD0, hN⟩, hKL, hE, hX, hNC, hZ⟩ := hv
  have hx := B.exec
  have hb := B.bytes
  have hr := B.returns
  have hlocks := B.notSynchronized
  have hts := atoms_spec (ws := wsL_raze) B.pre
  have htab : c.exceptionTable.toList = tableOf [(0, 10, 13, 13), (0, 10, 17, 15)] := vx_table (x := yL_raze) (y := yL_raze) B (hts (.codeWith yL_raze cL_raze 5 (some .int) [(0, 10, 13, 13), (0, 10, 17, 15)]) (by unfold wsL_raze; exact List.mem_cons_self))
  have hown : s.vm.findClass RL = some m.cls := findClass_of_methodNamed B.named
  subst hsz
  have hD := hD0.self (sz := s.heap.size)
  have hA : ∀ q : Nat, s.heap.size ≤ q → va_A [(h, oX a t), ((a 0), oC a (cy.mo) (cy.co) (cy.le)), ((a 3), iA cI (cy.K)), ((a 4), iA cI (cy.Q)), ((a 5), iA cI (cy.L)), ((a 6), iA cI (cy.H)), ((a 7), iA cI (cy.M)), ((a 8), iA cI (cy.B)), ((a 9), iA cI (cy.C)), ((a 10), iA cI (cy.D)), ((a 11), iA cI (cy.F)), ((a 12), iA cI (cy.W)), ((t 0), oC t (dy.mo) (dy.co) (dy.le)), ((t 3), iA cI (dy.K)), ((t 4), iA cI (dy.Q)), ((t 5), iA cI (dy.L)), ((t 6), iA cI (dy.H)), ((t 7), iA cI (dy.M)), ((t 8), iA cI (dy.B)), ((t 9), iA cI (dy.C)), ((t 10), iA cI (dy.D)), ((t 11), iA cI (dy.F)), ((t 12), iA cI (dy.W)), (q9, lA cL o)] s.heap.size q := fun q h => Or.inr h
  have hS : va_S (va_A [(h, oX a t), ((a 0), oC a (cy.mo) (cy.co) (cy.le)), ((a 3), iA cI (cy.K)), ((a 4), iA cI (cy.Q)), ((a 5), iA cI (cy.L)), ((a 6), iA cI (cy.H)), ((a 7), iA cI (cy.M)), ((a 8), iA cI (cy.B)), ((a 9), iA cI (cy.C)), ((a 10), iA cI (cy.D)), ((a 11), iA cI (cy.F)), ((a 12), iA cI (cy.W)), ((t 0), oC t (dy.mo) (dy.co) (dy.le)), ((t 3), iA cI (dy.K)), ((t 4), iA cI (dy.Q)), ((t 5), iA cI (dy.L)), ((t 6), iA cI (dy.H)), ((t 7), iA cI (dy.M)), ((t 8), iA cI (dy.B)), ((t 9), iA cI (dy.C)), ((t 10), iA cI (dy.D)), ((t 11), iA cI (dy.F)), ((t 12), iA cI (dy.W)), (q9, lA cL o)] s.heap.size) s.heap s.heap [] := va_S.rf
  obtain ⟨A, hAe⟩ : ∃ A, A = va_A [(h, oX a t), ((a 0), oC a (cy.mo) (cy.co) (cy.le)), ((a 3), iA cI (cy.K)), ((a 4), iA cI (cy.Q)), ((a 5), iA cI (cy.L)), ((a 6), iA cI (cy.H)), ((a 7), iA cI (cy.M)), ((a 8), iA cI (cy.B)), ((a 9), iA cI (cy.C)), ((a 10), iA cI (cy.D)), ((a 11), iA cI (cy.F)), ((a 12), iA cI (cy.W)), ((t 0), oC t (dy.mo) (dy.co) (dy.le)), ((t 3), iA cI (dy.K)), ((t 4), iA cI (dy.Q)), ((t 5), iA cI (dy.L)), ((t 6), iA cI (dy.H)), ((t 7), iA cI (dy.M)), ((t 8), iA cI (dy.B)), ((t 9), iA cI (dy.C)), ((t 10), iA cI (dy.D)), ((t 11), iA cI (dy.F)), ((t 12), iA cI (dy.W)), (q9, lA cL o)] s.heap.size := ⟨_, rfl⟩
  rw [← hAe] at hD hA hS hZ
  have FX : CallFix p m c cL_raze 5 s ([.ref h, .int x, .int y, .ref q9] : List Value).toArray wsL_raze RL := ⟨hx, hb, hml, hown, hts⟩
  have hl := lv_entry ([.ref h, .int x, .int y, .ref q9]) (n := 5) (Nat.le_of_ble_eq_true rfl)
  rw [lg_entry_eq]
  generalize (lg_sl ([.ref h, .int x, .int y, .ref q9]) ++ List.replicate (5 - (lg_sl ([.ref h, .int x, .int y, .ref q9])).length) Slot.unset).toArray = ls at hl ⊢
  have hl : lv_has ls 5 [(0, .ref h), (1, .int x), (2, .int y), (3, .ref q9)] := hl
  refine wq (fun Q hQ => ?_)
  have hzc : 0 + 0 ≤ (headSpec wsL_raze rmL_raze).room.cells := Nat.zero_le _
  have hzs : 0 + 0 ≤ (headSpec wsL_raze rmL_raze).room.slots := Nat.zero_le _
  have hS0 := hg.2.1
  have hgt := hg.2.2.1
  have hk := hg.1
  have hkd := hg.2.2.2
  rcases Decidable.em ((cdRaze k x y) = 0) with hcd | hcd
  · skip
    refine w_widen (k := 1) (n := 6) (by decide) (by decide) ?_
    have hzc : 1 + 0 ≤ (headSpec wsL_raze rmL_raze).room.cells := Nat.le_of_ble_eq_true rfl
    have hzs : 6 + 0 ≤ (headSpec wsL_raze rmL_raze).room.slots := Nat.le_of_ble_eq_true rfl
    obtain ⟨hpl, hin⟩ := raze_0 hcd
    refine lv_aload_n hx hb dL_raze_0 rfl (lv_at hl 3 rfl) ?_
    refine lv_iconst (v := 0) hx hb dL_raze_1 (by decide) ?_
    refine lv_aload_n hx hb dL_raze_2 rfl (lv_at hl 0 rfl) ?_
    refine lv_iload_n hx hb dL_raze_3 rfl (lv_at hl 1 rfl) ?_
    refine lv_iload_n hx hb dL_raze_4 rfl (lv_at hl 2 rfl) ?_
    refine cw_i (wr := [((t 0), oC t (dy.mo) (dy.co) (dy.le)), ((t 3), iA cI (dy.K)), ((t 4), iA cI (dy.Q)), ((t 5), iA cI (dy.L)), ((t 6), iA cI (dy.H)), ((t 7), iA cI (dy.M)), ((t 8), iA cI (dy.B)), ((t 9), iA cI (dy.C)), ((t 10), iA cI (dy.D)), ((t 11), iA cI (dy.F)), ((t 12), iA cI (dy.W)), (q9, lA cL o)]) (va_runV (As := [.int x, .int y]) (rest := [.int 0, .ref q9]) FX (c_X1_raze_ok l G cI h a t cy.mo cy.co cy.le cy.K cy.Q cy.L cy.H cy.M cy.B cy.C cy.D cy.F cy.W k x y hk hgt hcd _) (cwV 2 hts gL_raze_X1_raze rfl rfl rfl (by decide +kernel) ⟨Nat.le_of_ble_eq_true rfl, Nat.le_of_ble_eq_true rfl⟩) (wrV hK hP hD hN [0, 1, 2, 3, 4, 5, 6, 7, 8, 9, 10, 11] (by decide) rfl rfl (ci := 1) (q0 := 0) rfl rfl) rfl rfl hl.1 rfl (lv_room (Nat.le_of_ble_eq_true rfl)) dL_raze_5 ⟨Nat.le_of_ble_eq_true rfl, Nat.le_of_ble_eq_true rfl⟩) hS hP hD hA [0, 1, 2, 3, 4, 5, 6, 7, 8, 9, 10, 11] [12, 13, 14, 15, 16, 17, 18, 19, 20, 21, 22, 23] rfl rfl (by decide) (by decide) (fun r9 u H locs hw hP hD hS => ?_)
    obtain ⟨Q1, L1, H1, M1, B1, C1, D1, W1⟩ := u
    have hP := hP.sub (ws' := [(h, oX a t), ((a 0), oC a (cy.mo) (cy.co) (cy.le)), ((a 3), iA cI (upd cy.K (pAt x y) (rzV k x y))), ((a 4), iA cI Q1), ((a 5), iA cI L1), ((a 6), iA cI H1), ((a 7), iA cI M1), ((a 8), iA cI B1), ((a 9), iA cI C1), ((a 10), iA cI D1), ((a 11), iA cI (cy.F)), ((a 12), iA cI W1), ((t 0), oC t (dy.mo) (dy.co) (dy.le)), ((t 3), iA cI (dy.K)), ((t 4), iA cI (dy.Q)), ((t 5), iA cI (dy.L)), ((t 6), iA cI (dy.H)), ((t 7), iA cI (dy.M)), ((t 8), iA cI (dy.B)), ((t 9), iA cI (dy.C)), ((t 10), iA cI (dy.D)), ((t 11), iA cI (dy.F)), ((t 12), iA cI (dy.W)), (q9, lA cL o)]) [12, 13, 14, 15, 16, 17, 18, 19, 20, 21, 22, 23, 0, 1, 2, 3, 4, 5, 6, 7, 8, 9, 10, 11] rfl
    have hD := hD.sub (ws' := [(h, oX a t), ((a 0), oC a (cy.mo) (cy.co) (cy.le)), ((a 3), iA cI (upd cy.K (pAt x y) (rzV k x y))), ((a 4), iA cI Q1), ((a 5), iA cI L1), ((a 6), iA cI H1), ((a 7), iA cI M1), ((a 8), iA cI B1), ((a 9), iA cI C1), ((a 10), iA cI D1), ((a 11), iA cI (cy.F)), ((a 12), iA cI W1), ((t 0), oC t (dy.mo) (dy.co) (dy.le)), ((t 3), iA cI (dy.K)), ((t 4), iA cI (dy.Q)), ((t 5), iA cI (dy.L)), ((t 6), iA cI (dy.H)), ((t 7), iA cI (dy.M)), ((t 8), iA cI (dy.B)), ((t 9), iA cI (dy.C)), ((t 10), iA cI (dy.D)), ((t 11), iA cI (dy.F)), ((t 12), iA cI (dy.W)), (q9, lA cL o)]) [12, 13, 14, 15, 16, 17, 18, 19, 20, 21, 22, 23, 0, 1, 2, 3, 4, 5, 6, 7, 8, 9, 10, 11] (by decide) rfl
    refine lv_i2l (v := r9.toInt64) hx hb dL_raze_8 rfl ?_
    refine va_last hx hb hKL hP hD hS 23 0 rfl rfl vp_in01 dL_raze_9 (fun H locs hP hD hS => ?_)
    have hP : va_P G vwCl [(h, oX a t), ((a 0), oC a (cy.mo) (cy.co) (cy.le)), ((a 3), iA cI (upd cy.K (pAt x y) (rzV k x y))), ((a 4), iA cI Q1), ((a 5), iA cI L1), ((a 6), iA cI H1), ((a 7), iA cI M1), ((a 8), iA cI B1), ((a 9), iA cI C1), ((a 10), iA cI D1), ((a 11), iA cI (cy.F)), ((a 12), iA cI W1), ((t 0), oC t (dy.mo) (dy.co) (dy.le)), ((t 3), iA cI (dy.K)), ((t 4), iA cI (dy.Q)), ((t 5), iA cI (dy.L)), ((t 6), iA cI (dy.H)), ((t 7), iA cI (dy.M)), ((t 8), iA cI (dy.B)), ((t 9), iA cI (dy.C)), ((t 10), iA cI (dy.D)), ((t 11), iA cI (dy.F)), ((t 12), iA cI (dy.W)), (q9, lA cL (vp_updL o (0 : Int32).toNatClampNeg (r9.toInt64)))] H := hP
    have hD : va_D A [(h, oX a t), ((a 0), oC a (cy.mo) (cy.co) (cy.le)), ((a 3), iA cI (upd cy.K (pAt x y) (rzV k x y))), ((a 4), iA cI Q1), ((a 5), iA cI L1), ((a 6), iA cI H1), ((a 7), iA cI M1), ((a 8), iA cI B1), ((a 9), iA cI C1), ((a 10), iA cI D1), ((a 11), iA cI (cy.F)), ((a 12), iA cI W1), ((t 0), oC t (dy.mo) (dy.co) (dy.le)), ((t 3), iA cI (dy.K)), ((t 4), iA cI (dy.Q)), ((t 5), iA cI (dy.L)), ((t 6), iA cI (dy.H)), ((t 7), iA cI (dy.M)), ((t 8), iA cI (dy.B)), ((t 9), iA cI (dy.C)), ((t 10), iA cI (dy.D)), ((t 11), iA cI (dy.F)), ((t 12), iA cI (dy.W)), (q9, lA cL (vp_updL o (0 : Int32).toNatClampNeg (r9.toInt64)))] := hD
    refine lv_goto (tgt := 21) hx hb dL_raze_10 (by decide) ?_
    refine lv_iconst (v := 0) hx hb dL_raze_21 (by decide) ?_
    subst hQ
    subst hAe
    exact wr_i (⟨cy.mo, cy.co, cy.le, (upd cy.K (pAt x y) (rzV k x y)), Q1, L1, H1, M1, B1, C1, D1, cy.F, W1⟩, dy, vp_updL o (0 : Int32).toNatClampNeg r9.toInt64) (⟨hcd.symm, by rw [hcd, nkO_0]; exact ⟨eqK_upd hk, hw.2, rz_gate hgt hin, kd_upd hkd (rz_kd)⟩, ⟨rfl, rfl, rfl⟩, fun _ => updL_at (o := o) (j := (0 : Int32).toNatClampNeg) (hw.1)⟩) hx hb hr hP hD hS hlocks dL_raze_22
  · skip
    refine lv_aload_n hx hb dL_raze_0 rfl (lv_at hl 3 rfl) ?_
    refine lv_iconst (v := 0) hx hb dL_raze_1 (by decide) ?_
    refine lv_aload_n hx hb dL_raze_2 rfl (lv_at hl 0 rfl) ?_
    refine lv_iload_n hx hb dL_raze_3 rfl (lv_at hl 1 rfl) ?_
    refine lv_iload_n hx hb dL_raze_4 rfl (lv_at hl 2 rfl) ?_
    refine xr_i (vx_runV (As := [.int x, .int y]) (rest := [.int 0, .ref q9]) FX (c_X1_raze_no l G cI hst h a t cy.mo cy.co cy.le cy.K cy.Q cy.L cy.H cy.M cy.B cy.C cy.D cy.F cy.W k x y hk hcd) (cwV 2 hts gL_raze_X1_raze rfl rfl rfl (by decide +kernel) ⟨Nat.le_of_ble_eq_true rfl, Nat.le_of_ble_eq_true rfl⟩) (xrV hK hP hN hE hX hZ hS [0, 1, 2, 3, 4, 5, 6, 7, 8, 9, 10, 11] rfl (ci := 1) (q0 := 0) rfl rfl) rfl rfl hl.1 rfl (lv_room (Nat.le_of_ble_eq_true rfl)) dL_raze_5 ⟨Nat.le_of_ble_eq_true rfl, Nat.le_of_ble_eq_true rfl⟩) hS hP (fun E ce q8 H locs hcE hP hS h1 h2 h3 => ?_)
    rcases hcE with ⟨rfl, hce⟩ | ⟨rfl, hce⟩
    · skip
      refine vx_catch hown [] ⟨0, 10, 13, 13⟩ [⟨0, 10, 17, 15⟩] htab (fun z hz => nomatch hz) (by decide) (by decide) (hts (.classLink RL 13 "java/lang/IndexOutOfBoundsException") (by decide +kernel)) (EXW_use hX (.castable "java/lang/IndexOutOfBoundsException" "java/lang/IndexOutOfBoundsException") (by decide)) h1 h2 h3 ?_
      refine W.eq (g2 := F0 m 13 ls [.ref q8]) rfl ?_
      refine lv_astore (lv' := [(4, .ref q8), (0, .ref h), (1, .int x), (2, .int y), (3, .ref q9)]) hx hb dL_raze_13 hl (by decide) rfl (fun ls hl => ?_)
      refine lv_iconst (v := 1) hx hb dL_raze_15 (by decide) ?_
      subst hQ
      subst hAe
      exact wr_i (cy, dy, o) (⟨hce.symm, by rw [nkO_n hcd]; exact hg, ⟨rfl, rfl, rfl⟩, fun h9 => absurd h9 hcd⟩) hx hb hr hP hD hS hlocks dL_raze_16
    · skip
      refine vx_catch hown [⟨0, 10, 13, 13⟩] ⟨0, 10, 17, 15⟩ [] htab (fun z hz => by obtain rfl := List.mem_singleton.mp hz; exact Or.inr ⟨by decide, "java/lang/IndexOutOfBoundsException", hts (.classLink RL 13 "java/lang/IndexOutOfBoundsException") (by decide +kernel), hNC.1⟩) (by decide) (by decide) (hts (.classLink RL 15 "java/lang/IllegalStateException") (by decide +kernel)) (EXW_use hX (.castable "java/lang/IllegalStateException" "java/lang/IllegalStateException") (by decide)) h1 h2 h3 ?_
      refine W.eq (g2 := F0 m 17 ls [.ref q8]) rfl ?_
      refine lv_astore (lv' := [(4, .ref q8), (0, .ref h), (1, .int x), (2, .int y), (3, .ref q9)]) hx hb dL_raze_17 hl (by decide) rfl (fun ls hl => ?_)
      refine lv_iconst (v := 2) hx hb dL_raze_19 (by decide) ?_
      subst hQ
      subst hAe
      exact wr_i (cy, dy, o) (⟨hce.symm, by rw [nkO_n hcd]; exact hg, ⟨rfl, rfl, rfl⟩, fun h9 => absurd h9 hcd⟩) hx hb hr hP hD hS hlocks dL_raze_20

def rmL_lot : Room := { frames := 8, cells := 1, slots := 6, locals := 135 }
set_option maxHeartbeats 4000000 in
set_option maxRecDepth 100000 in
theorem c_L_lot (l : Launch) (G : va_G) (cI cL : ClassId) (hst : l.stackTraces = false) (h q9 : Nat) (a t : Nat → Nat) (cy dy : Cy) (o : Nat → Int64) (k : Nat → Int32) (x y w : Int32) (hg : Sd cy k) (sz : Nat) : Met l yL_lot wsL_lot rmL_lot (va_Pc [.ref h, .int x, .int y, .int w, .ref q9] (WrPX G cI cL [(h, oX a t), ((a 0), oC a (cy.mo) (cy.co) (cy.le)), ((a 3), iA cI (cy.K)), ((a 4), iA cI (cy.Q)), ((a 5), iA cI (cy.L)), ((a 6), iA cI (cy.H)), ((a 7), iA cI (cy.M)), ((a 8), iA cI (cy.B)), ((a 9), iA cI (cy.C)), ((a 10), iA cI (cy.D)), ((a 11), iA cI (cy.F)), ((a 12), iA cI (cy.W)), ((t 0), oC t (dy.mo) (dy.co) (dy.le)), ((t 3), iA cI (dy.K)), ((t 4), iA cI (dy.Q)), ((t 5), iA cI (dy.L)), ((t 6), iA cI (dy.H)), ((t 7), iA cI (dy.M)), ((t 8), iA cI (dy.B)), ((t 9), iA cI (dy.C)), ((t 10), iA cI (dy.D)), ((t 11), iA cI (dy.F)), ((t 12), iA cI (dy.W)), (q9, lA cL o)] sz)) (va_Qi (fun (r : Int32) (u : Cy × Cy × (Nat → Int64)) => r = (cdLot x y w) ∧ Sd u.1 k ∧ (u.1.mo = cy.mo ∧ u.1.co = cy.co ∧ u.1.le = cy.le) ∧ ((cdLot x y w) = 0 → u.2.2 (0 : Int32).toNatClampNeg = Int32.toInt64 (fct k (pAt x y) w))) (WrB G [(h, oX a t), ((a 0), oC a (cy.mo) (cy.co) (cy.le)), ((a 3), iA cI (cy.K)), ((a 4), iA cI (cy.Q)), ((a 5), iA cI (cy.L)), ((a 6), iA cI (cy.H)), ((a 7), iA cI (cy.M)), ((a 8), iA cI (cy.B)), ((a 9), iA cI (cy.C)), ((a 10), iA cI (cy.D)), ((a 11), iA cI (cy.F)), ((a 12), iA cI (cy.W)), ((t 0), oC t (dy.mo) (dy.co) (dy.le)), ((t 3), iA cI (dy.K)), ((t 4), iA cI (dy.Q)), ((t 5), iA cI (dy.L)), ((t 6), iA cI (dy.H)), ((t 7), iA cI (dy.M)), ((t 8), iA cI (dy.B)), ((t 9), iA cI (dy.C)), ((t 10), iA cI (dy.D)), ((t 11), iA cI (dy.F)), ((t 12), iA cI (dy.W)), (q9, lA cL o)] sz (fun u => [(h, oX a t), (a 0, oC a (u.1.mo) (u.1.co) (u.1.le)), (a 3, iA cI (u.1.K)), (a 4, iA cI (u.1.Q)), (a 5, iA cI (u.1.L)), (a 6, iA cI (u.1.H)), (a 7, iA cI (u.1.M)), (a 8, iA cI (u.1.B)), (a 9, iA cI (u.1.C)), (a 10, iA cI (u.1.D)), (a 11, iA cI (u.1.F)), (a 12, iA cI (u.1.W)), (t 0, oC t (u.2.1.mo) (u.2.1.co) (u.2.1.le)), (t 3, iA cI (u.2.1.K)), (t 4, iA cI (u.2.1.Q)), (t 5, iA cI (u.2.1.L)), (t 6, iA cI (u.2.1.H)), (t 7, iA cI (u.2.1.M)), (t 8, iA cI (u.2.1.B)), (t 9, iA cI (u.2.1.C)), (t 10, iA cI (u.2.1.D)), (t 11, iA cI (u.2.1.F)), (t 12, iA cI (u.2.1.W)), (q9, lA cL (u.2.2))])) (va_A [(h, oX a t), ((a 0), oC a (cy.mo) (cy.co) (cy.le)), ((a 3), iA cI (cy.K)), ((a 4), iA cI (cy.Q)), ((a 5), iA cI (cy.L)), ((a 6), iA cI (cy.H)), ((a 7), iA cI (cy.M)), ((a 8), iA cI (cy.B)), ((a 9), iA cI (cy.C)), ((a 10), iA cI (cy.D)), ((a 11), iA cI (cy.F)), ((a 12), iA cI (cy.W)), ((t 0), oC t (dy.mo) (dy.co) (dy.le)), ((t 3), iA cI (dy.K)), ((t 4), iA cI (dy.Q)), ((t 5), iA cI (dy.L)), ((t 6), iA cI (dy.H)), ((t 7), iA cI (dy.M)), ((t 8), iA cI (dy.B)), ((t 9), iA cI (dy.C)), ((t 10), iA cI (dy.D)), ((t 11), iA cI (dy.F)), ((t 12), iA cI (dy.W)), (q9, lA cL o)] sz)) 1 6 (va_A [(h, oX a t), ((a 0), oC a (cy.mo) (cy.co) (cy.le)), ((a 3), iA cI (cy.K)), ((a 4), iA cI (cy.Q)), ((a 5), iA cI (cy.L)), ((a 6), iA cI (cy.H)), ((a 7), iA cI (cy.M)), ((a 8), iA cI (cy.B)), ((a 9), iA cI (cy.C)), ((a 10), iA cI (cy.D)), ((a 11), iA cI (cy.F)), ((a 12), iA cI (cy.W)), ((t 0), oC t (dy.mo) (dy.co) (dy.le)), ((t 3), iA cI (dy.K)), ((t 4), iA cI (dy.Q)), ((t 5), iA cI (dy.L)), ((t 6), iA cI (dy.H)), ((t 7), iA cI (dy.M)), ((t 8), iA cI (dy.B)), ((t 9), iA cI (dy.C)), ((t 10), iA cI (dy.D)), ((t 11), iA cI (dy.F)), ((t 12), iA cI (dy.W)), (q9, lA cL o)] sz) := by
  refine Met_ofWH (cc := cL_lot) (maxL := 6) (ret := (some .int)) (hh := [(0, 12, 15, 13)]) (by decide) rfl ?_
  intro p e s m args below meth c s₁ B hml hv
  obtain ⟨rfl, ⟨hsz, hP, hK, hD0, hN⟩, hKL, hE, hX, hNC, hZ⟩ := hv
  have hx := B.exec
  have hb := B.bytes
  have hr := B.returns
  have hlocks := B.notSynchronized
  have hts := atoms_spec (ws := wsL_lot) B.pre
  have htab : c.exceptionTable.toList = tableOf [(0, 12, 15, 13)] := vx_table (x := yL_lot) (y := yL_lot) B (hts (.codeWith yL_lot cL_lot 6 (some .int) [(0, 12, 15, 13)]) (by unfold wsL_lot; exact List.mem_cons_self))
  have hown : s.vm.findClass RL = some m.cls := findClass_of_methodNamed B.named
  subst hsz
  have hD := hD0.self (sz := s.heap.size)
  have hA : ∀ q : Nat, s.heap.size ≤ q → va_A [(h, oX a t), ((a 0), oC a (cy.mo) (cy.co) (cy.le)), ((a 3), iA cI (cy.K)), ((a 4), iA cI (cy.Q)), ((a 5), iA cI (cy.L)), ((a 6), iA cI (cy.H)), ((a 7), iA cI (cy.M)), ((a 8), iA cI (cy.B)), ((a 9), iA cI (cy.C)), ((a 10), iA cI (cy.D)), ((a 11), iA cI (cy.F)), ((a 12), iA cI (cy.W)), ((t 0), oC t (dy.mo) (dy.co) (dy.le)), ((t 3), iA cI (dy.K)), ((t 4), iA cI (dy.Q)), ((t 5), iA cI (dy.L)), ((t 6), iA cI (dy.H)), ((t 7), iA cI (dy.M)), ((t 8), iA cI (dy.B)), ((t 9), iA cI (dy.C)), ((t 10), iA cI (dy.D)), ((t 11), iA cI (dy.F)), ((t 12), iA cI (dy.W)), (q9, lA cL o)] s.heap.size q := fun q h => Or.inr h
  have hS : va_S (va_A [(h, oX a t), ((a 0), oC a (cy.mo) (cy.co) (cy.le)), ((a 3), iA cI (cy.K)), ((a 4), iA cI (cy.Q)), ((a 5), iA cI (cy.L)), ((a 6), iA cI (cy.H)), ((a 7), iA cI (cy.M)), ((a 8), iA cI (cy.B)), ((a 9), iA cI (cy.C)), ((a 10), iA cI (cy.D)), ((a 11), iA cI (cy.F)), ((a 12), iA cI (cy.W)), ((t 0), oC t (dy.mo) (dy.co) (dy.le)), ((t 3), iA cI (dy.K)), ((t 4), iA cI (dy.Q)), ((t 5), iA cI (dy.L)), ((t 6), iA cI (dy.H)), ((t 7), iA cI (dy.M)), ((t 8), iA cI (dy.B)), ((t 9), iA cI (dy.C)), ((t 10), iA cI (dy.D)), ((t 11), iA cI (dy.F)), ((t 12), iA cI (dy.W)), (q9, lA cL o)] s.heap.size) s.heap s.heap [] := va_S.rf
  obtain ⟨A, hAe⟩ : ∃ A, A = va_A [(h, oX a t), ((a 0), oC a (cy.mo) (cy.co) (cy.le)), ((a 3), iA cI (cy.K)), ((a 4), iA cI (cy.Q)), ((a 5), iA cI (cy.L)), ((a 6), iA cI (cy.H)), ((a 7), iA cI (cy.M)), ((a 8), iA cI (cy.B)), ((a 9), iA cI (cy.C)), ((a 10), iA cI (cy.D)), ((a 11), iA cI (cy.F)), ((a 12), iA cI (cy.W)), ((t 0), oC t (dy.mo) (dy.co) (dy.le)), ((t 3), iA cI (dy.K)), ((t 4), iA cI (dy.Q)), ((t 5), iA cI (dy.L)), ((t 6), iA cI (dy.H)), ((t 7), iA cI (dy.M)), ((t 8), iA cI (dy.B)), ((t 9), iA cI (dy.C)), ((t 10), iA cI (dy.D)), ((t 11), iA cI (dy.F)), ((t 12), iA cI (dy.W)), (q9, lA cL o)] s.heap.size := ⟨_, rfl⟩
  rw [← hAe] at hD hA hS hZ
  have FX : CallFix p m c cL_lot 6 s ([.ref h, .int x, .int y, .int w, .ref q9] : List Value).toArray wsL_lot RL := ⟨hx, hb, hml, hown, hts⟩
  have hl := lv_entry ([.ref h, .int x, .int y, .int w, .ref q9]) (n := 6) (Nat.le_of_ble_eq_true rfl)
  rw [lg_entry_eq]
  generalize (lg_sl ([.ref h, .int x, .int y, .int w, .ref q9]) ++ List.replicate (6 - (lg_sl ([.ref h, .int x, .int y, .int w, .ref q9])).length) Slot.unset).toArray = ls at hl ⊢
  have hl : lv_has ls 6 [(0, .ref h), (1, .int x), (2, .int y), (3, .int w), (4, .ref q9)] := hl
  refine wq (fun Q hQ => ?_)
  have hzc : 0 + 0 ≤ (headSpec wsL_lot rmL_lot).room.cells := Nat.zero_le _
  have hzs : 0 + 0 ≤ (headSpec wsL_lot rmL_lot).room.slots := Nat.zero_le _
  have hS0 := hg.2.1
  have hgt := hg.2.2.1
  have hk := hg.1
  have hkd := hg.2.2.2
  rcases Decidable.em ((cdLot x y w) = 0) with hcd | hcd
  · skip
    refine w_widen (k := 1) (n := 6) (by decide) (by decide) ?_
    have hzc : 1 + 0 ≤ (headSpec wsL_lot rmL_lot).room.cells := Nat.le_of_ble_eq_true rfl
    have hzs : 6 + 0 ≤ (headSpec wsL_lot rmL_lot).room.slots := Nat.le_of_ble_eq_true rfl
    obtain ⟨hpl, hin⟩ := lot_0 hcd
    refine lv_aload hx hb dL_lot_0 (lv_at hl 4 rfl) ?_
    refine lv_iconst (v := 0) hx hb dL_lot_2 (by decide) ?_
    refine lv_aload_n hx hb dL_lot_3 rfl (lv_at hl 0 rfl) ?_
    refine lv_iload_n hx hb dL_lot_4 rfl (lv_at hl 1 rfl) ?_
    refine lv_iload_n hx hb dL_lot_5 rfl (lv_at hl 2 rfl) ?_
    refine lv_iload_n hx hb dL_lot_6 rfl (lv_at hl 3 rfl) ?_
    refine cr_i (va_runV (As := [.int x, .int y, .int w]) (rest := [.int 0, .ref q9]) FX (c_X1_lot_ok l G cI h a t cy.mo cy.co cy.le cy.K cy.Q cy.L cy.H cy.M cy.B cy.C cy.D cy.F cy.W k x y w hk hS0 hpl hin) (cwV 3 hts gL_lot_X1_lot rfl rfl rfl (by decide +kernel) ⟨Nat.le_of_ble_eq_true rfl, Nat.le_of_ble_eq_true rfl⟩) (rdV hK hP hN [0, 1, 2, 3, 4, 5, 6, 7, 8, 9, 10, 11] rfl (ci := 1) (q0 := 0) rfl rfl) rfl rfl hl.1 rfl (lv_room (Nat.le_of_ble_eq_true rfl)) dL_lot_7 ⟨hzc, hzs⟩) hS hP (fun H locs hP hS => ?_)
    refine lv_i2l (v := (fct k (pAt x y) w).toInt64) hx hb dL_lot_10 rfl ?_
    refine va_last hx hb hKL hP hD hS 23 0 rfl rfl vp_in01 dL_lot_11 (fun H locs hP hD hS => ?_)
    have hP : va_P G vwCl [(h, oX a t), ((a 0), oC a (cy.mo) (cy.co) (cy.le)), ((a 3), iA cI (cy.K)), ((a 4), iA cI (cy.Q)), ((a 5), iA cI (cy.L)), ((a 6), iA cI (cy.H)), ((a 7), iA cI (cy.M)), ((a 8), iA cI (cy.B)), ((a 9), iA cI (cy.C)), ((a 10), iA cI (cy.D)), ((a 11), iA cI (cy.F)), ((a 12), iA cI (cy.W)), ((t 0), oC t (dy.mo) (dy.co) (dy.le)), ((t 3), iA cI (dy.K)), ((t 4), iA cI (dy.Q)), ((t 5), iA cI (dy.L)), ((t 6), iA cI (dy.H)), ((t 7), iA cI (dy.M)), ((t 8), iA cI (dy.B)), ((t 9), iA cI (dy.C)), ((t 10), iA cI (dy.D)), ((t 11), iA cI (dy.F)), ((t 12), iA cI (dy.W)), (q9, lA cL (vp_updL o (0 : Int32).toNatClampNeg ((fct k (pAt x y) w).toInt64)))] H := hP
    have hD : va_D A [(h, oX a t), ((a 0), oC a (cy.mo) (cy.co) (cy.le)), ((a 3), iA cI (cy.K)), ((a 4), iA cI (cy.Q)), ((a 5), iA cI (cy.L)), ((a 6), iA cI (cy.H)), ((a 7), iA cI (cy.M)), ((a 8), iA cI (cy.B)), ((a 9), iA cI (cy.C)), ((a 10), iA cI (cy.D)), ((a 11), iA cI (cy.F)), ((a 12), iA cI (cy.W)), ((t 0), oC t (dy.mo) (dy.co) (dy.le)), ((t 3), iA cI (dy.K)), ((t 4), iA cI (dy.Q)), ((t 5), iA cI (dy.L)), ((t 6), iA cI (dy.H)), ((t 7), iA cI (dy.M)), ((t 8), iA cI (dy.B)), ((t 9), iA cI (dy.C)), ((t 10), iA cI (dy.D)), ((t 11), iA cI (dy.F)), ((t 12), iA cI (dy.W)), (q9, lA cL (vp_updL o (0 : Int32).toNatClampNeg ((fct k (pAt x y) w).toInt64)))] := hD
    refine lv_goto (tgt := 19) hx hb dL_lot_12 (by decide) ?_
    refine lv_iconst (v := 0) hx hb dL_lot_19 (by decide) ?_
    subst hQ
    subst hAe
    exact wr_i (cy, dy, vp_updL o (0 : Int32).toNatClampNeg ((fct k (pAt x y) w)).toInt64) (⟨hcd.symm, hg, ⟨rfl, rfl, rfl⟩, fun _ => updL_at (o := o) (j := (0 : Int32).toNatClampNeg) (rfl)⟩) hx hb hr hP hD hS hlocks dL_lot_20
  · skip
    refine lv_aload hx hb dL_lot_0 (lv_at hl 4 rfl) ?_
    refine lv_iconst (v := 0) hx hb dL_lot_2 (by decide) ?_
    refine lv_aload_n hx hb dL_lot_3 rfl (lv_at hl 0 rfl) ?_
    refine lv_iload_n hx hb dL_lot_4 rfl (lv_at hl 1 rfl) ?_
    refine lv_iload_n hx hb dL_lot_5 rfl (lv_at hl 2 rfl) ?_
    refine lv_iload_n hx hb dL_lot_6 rfl (lv_at hl 3 rfl) ?_
    refine xr_i (vx_runV (As := [.int x, .int y, .int w]) (rest := [.int 0, .ref q9]) FX (c_X1_lot_no l G cI hst h a t cy.mo cy.co cy.le cy.K cy.Q cy.L cy.H cy.M cy.B cy.C cy.D cy.F cy.W k x y w hk hcd) (cwV 3 hts gL_lot_X1_lot rfl rfl rfl (by decide +kernel) ⟨Nat.le_of_ble_eq_true rfl, Nat.le_of_ble_eq_true rfl⟩) (xrV hK hP hN hE hX hZ hS [0, 1, 2, 3, 4, 5, 6, 7, 8, 9, 10, 11] rfl (ci := 1) (q0 := 0) rfl rfl) rfl rfl hl.1 rfl (lv_room (Nat.le_of_ble_eq_true rfl)) dL_lot_7 ⟨Nat.le_of_ble_eq_true rfl, Nat.le_of_ble_eq_true rfl⟩) hS hP (fun E ce q8 H locs hcE hP hS h1 h2 h3 => ?_)
    obtain ⟨rfl, hce⟩ := hcE
    · skip
      refine vx_catch hown [] ⟨0, 12, 15, 13⟩ [] htab (fun z hz => nomatch hz) (by decide) (by decide) (hts (.classLink RL 13 "java/lang/IndexOutOfBoundsException") (by decide +kernel)) (EXW_use hX (.castable "java/lang/IndexOutOfBoundsException" "java/lang/IndexOutOfBoundsException") (by decide)) h1 h2 h3 ?_
      refine W.eq (g2 := F0 m 15 ls [.ref q8]) rfl ?_
      refine lv_astore (lv' := [(5, .ref q8), (0, .ref h), (1, .int x), (2, .int y), (3, .int w), (4, .ref q9)]) hx hb dL_lot_15 hl (by decide) rfl (fun ls hl => ?_)
      refine lv_iconst (v := 1) hx hb dL_lot_17 (by decide) ?_
      subst hQ
      subst hAe
      exact wr_i (cy, dy, o) (⟨hce.symm, hg, ⟨rfl, rfl, rfl⟩, fun h9 => absurd h9 hcd⟩) hx hb hr hP hD hS hlocks dL_lot_18

def rmL_count : Room := { frames := 7, cells := 1, slots := 6, locals := 111 }
set_option maxHeartbeats 4000000 in
set_option maxRecDepth 100000 in
theorem c_L_count (l : Launch) (G : va_G) (cI cL : ClassId) (hst : l.stackTraces = false) (h q9 : Nat) (a t : Nat → Nat) (cy dy : Cy) (o : Nat → Int64) (k : Nat → Int32) (w : Int32) (hg : Sd cy k) (sz : Nat) : Met l yL_count wsL_count rmL_count (va_Pc [.ref h, .int w, .ref q9] (WrPX G cI cL [(h, oX a t), ((a 0), oC a (cy.mo) (cy.co) (cy.le)), ((a 3), iA cI (cy.K)), ((a 4), iA cI (cy.Q)), ((a 5), iA cI (cy.L)), ((a 6), iA cI (cy.H)), ((a 7), iA cI (cy.M)), ((a 8), iA cI (cy.B)), ((a 9), iA cI (cy.C)), ((a 10), iA cI (cy.D)), ((a 11), iA cI (cy.F)), ((a 12), iA cI (cy.W)), ((t 0), oC t (dy.mo) (dy.co) (dy.le)), ((t 3), iA cI (dy.K)), ((t 4), iA cI (dy.Q)), ((t 5), iA cI (dy.L)), ((t 6), iA cI (dy.H)), ((t 7), iA cI (dy.M)), ((t 8), iA cI (dy.B)), ((t 9), iA cI (dy.C)), ((t 10), iA cI (dy.D)), ((t 11), iA cI (dy.F)), ((t 12), iA cI (dy.W)), (q9, lA cL o)] sz)) (va_Qi (fun (r : Int32) (u : Cy × Cy × (Nat → Int64)) => r = (cdCount w) ∧ Sd u.1 k ∧ (u.1.mo = cy.mo ∧ u.1.co = cy.co ∧ u.1.le = cy.le) ∧ ((cdCount w) = 0 → u.2.2 (0 : Int32).toNatClampNeg = Int32.toInt64 (tot k cy.mo cy.co cy.le w))) (WrB G [(h, oX a t), ((a 0), oC a (cy.mo) (cy.co) (cy.le)), ((a 3), iA cI (cy.K)), ((a 4), iA cI (cy.Q)), ((a 5), iA cI (cy.L)), ((a 6), iA cI (cy.H)), ((a 7), iA cI (cy.M)), ((a 8), iA cI (cy.B)), ((a 9), iA cI (cy.C)), ((a 10), iA cI (cy.D)), ((a 11), iA cI (cy.F)), ((a 12), iA cI (cy.W)), ((t 0), oC t (dy.mo) (dy.co) (dy.le)), ((t 3), iA cI (dy.K)), ((t 4), iA cI (dy.Q)), ((t 5), iA cI (dy.L)), ((t 6), iA cI (dy.H)), ((t 7), iA cI (dy.M)), ((t 8), iA cI (dy.B)), ((t 9), iA cI (dy.C)), ((t 10), iA cI (dy.D)), ((t 11), iA cI (dy.F)), ((t 12), iA cI (dy.W)), (q9, lA cL o)] sz (fun u => [(h, oX a t), (a 0, oC a (u.1.mo) (u.1.co) (u.1.le)), (a 3, iA cI (u.1.K)), (a 4, iA cI (u.1.Q)), (a 5, iA cI (u.1.L)), (a 6, iA cI (u.1.H)), (a 7, iA cI (u.1.M)), (a 8, iA cI (u.1.B)), (a 9, iA cI (u.1.C)), (a 10, iA cI (u.1.D)), (a 11, iA cI (u.1.F)), (a 12, iA cI (u.1.W)), (t 0, oC t (u.2.1.mo) (u.2.1.co) (u.2.1.le)), (t 3, iA cI (u.2.1.K)), (t 4, iA cI (u.2.1.Q)), (t 5, iA cI (u.2.1.L)), (t 6, iA cI (u.2.1.H)), (t 7, iA cI (u.2.1.M)), (t 8, iA cI (u.2.1.B)), (t 9, iA cI (u.2.1.C)), (t 10, iA cI (u.2.1.D)), (t 11, iA cI (u.2.1.F)), (t 12, iA cI (u.2.1.W)), (q9, lA cL (u.2.2))])) (va_A [(h, oX a t), ((a 0), oC a (cy.mo) (cy.co) (cy.le)), ((a 3), iA cI (cy.K)), ((a 4), iA cI (cy.Q)), ((a 5), iA cI (cy.L)), ((a 6), iA cI (cy.H)), ((a 7), iA cI (cy.M)), ((a 8), iA cI (cy.B)), ((a 9), iA cI (cy.C)), ((a 10), iA cI (cy.D)), ((a 11), iA cI (cy.F)), ((a 12), iA cI (cy.W)), ((t 0), oC t (dy.mo) (dy.co) (dy.le)), ((t 3), iA cI (dy.K)), ((t 4), iA cI (dy.Q)), ((t 5), iA cI (dy.L)), ((t 6), iA cI (dy.H)), ((t 7), iA cI (dy.M)), ((t 8), iA cI (dy.B)), ((t 9), iA cI (dy.C)), ((t 10), iA cI (dy.D)), ((t 11), iA cI (dy.F)), ((t 12), iA cI (dy.W)), (q9, lA cL o)] sz)) 1 6 (va_A [(h, oX a t), ((a 0), oC a (cy.mo) (cy.co) (cy.le)), ((a 3), iA cI (cy.K)), ((a 4), iA cI (cy.Q)), ((a 5), iA cI (cy.L)), ((a 6), iA cI (cy.H)), ((a 7), iA cI (cy.M)), ((a 8), iA cI (cy.B)), ((a 9), iA cI (cy.C)), ((a 10), iA cI (cy.D)), ((a 11), iA cI (cy.F)), ((a 12), iA cI (cy.W)), ((t 0), oC t (dy.mo) (dy.co) (dy.le)), ((t 3), iA cI (dy.K)), ((t 4), iA cI (dy.Q)), ((t 5), iA cI (dy.L)), ((t 6), iA cI (dy.H)), ((t 7), iA cI (dy.M)), ((t 8), iA cI (dy.B)), ((t 9), iA cI (dy.C)), ((t 10), iA cI (dy.D)), ((t 11), iA cI (dy.F)), ((t 12), iA cI (dy.W)), (q9, lA cL o)] sz) := by
  refine Met_ofWH (cc := cL_count) (maxL := 4) (ret := (some .int)) (hh := [(0, 9, 12, 13)]) (by decide) rfl ?_
  intro p e s m args below meth c s₁ B hml hv
  obtain ⟨rfl, ⟨hsz, hP, hK, hD0, hN⟩, hKL, hE, hX, hNC, hZ⟩ := hv
  have hx := B.exec
  have hb := B.bytes
  have hr := B.returns
  have hlocks := B.notSynchronized
  have hts := atoms_spec (ws := wsL_count) B.pre
  have htab : c.exceptionTable.toList = tableOf [(0, 9, 12, 13)] := vx_table (x := yL_count) (y := yL_count) B (hts (.codeWith yL_count cL_count 4 (some .int) [(0, 9, 12, 13)]) (by unfold wsL_count; exact List.mem_cons_self))
  have hown : s.vm.findClass RL = some m.cls := findClass_of_methodNamed B.named
  subst hsz
  have hD := hD0.self (sz := s.heap.size)
  have hA : ∀ q : Nat, s.heap.size ≤ q → va_A [(h, oX a t), ((a 0), oC a (cy.mo) (cy.co) (cy.le)), ((a 3), iA cI (cy.K)), ((a 4), iA cI (cy.Q)), ((a 5), iA cI (cy.L)), ((a 6), iA cI (cy.H)), ((a 7), iA cI (cy.M)), ((a 8), iA cI (cy.B)), ((a 9), iA cI (cy.C)), ((a 10), iA cI (cy.D)), ((a 11), iA cI (cy.F)), ((a 12), iA cI (cy.W)), ((t 0), oC t (dy.mo) (dy.co) (dy.le)), ((t 3), iA cI (dy.K)), ((t 4), iA cI (dy.Q)), ((t 5), iA cI (dy.L)), ((t 6), iA cI (dy.H)), ((t 7), iA cI (dy.M)), ((t 8), iA cI (dy.B)), ((t 9), iA cI (dy.C)), ((t 10), iA cI (dy.D)), ((t 11), iA cI (dy.F)), ((t 12), iA cI (dy.W)), (q9, lA cL o)] s.heap.size q := fun q h => Or.inr h
  have hS : va_S (va_A [(h, oX a t), ((a 0), oC a (cy.mo) (cy.co) (cy.le)), ((a 3), iA cI (cy.K)), ((a 4), iA cI (cy.Q)), ((a 5), iA cI (cy.L)), ((a 6), iA cI (cy.H)), ((a 7), iA cI (cy.M)), ((a 8), iA cI (cy.B)), ((a 9), iA cI (cy.C)), ((a 10), iA cI (cy.D)), ((a 11), iA cI (cy.F)), ((a 12), iA cI (cy.W)), ((t 0), oC t (dy.mo) (dy.co) (dy.le)), ((t 3), iA cI (dy.K)), ((t 4), iA cI (dy.Q)), ((t 5), iA cI (dy.L)), ((t 6), iA cI (dy.H)), ((t 7), iA cI (dy.M)), ((t 8), iA cI (dy.B)), ((t 9), iA cI (dy.C)), ((t 10), iA cI (dy.D)), ((t 11), iA cI (dy.F)), ((t 12), iA cI (dy.W)), (q9, lA cL o)] s.heap.size) s.heap s.heap [] := va_S.rf
  obtain ⟨A, hAe⟩ : ∃ A, A = va_A [(h, oX a t), ((a 0), oC a (cy.mo) (cy.co) (cy.le)), ((a 3), iA cI (cy.K)), ((a 4), iA cI (cy.Q)), ((a 5), iA cI (cy.L)), ((a 6), iA cI (cy.H)), ((a 7), iA cI (cy.M)), ((a 8), iA cI (cy.B)), ((a 9), iA cI (cy.C)), ((a 10), iA cI (cy.D)), ((a 11), iA cI (cy.F)), ((a 12), iA cI (cy.W)), ((t 0), oC t (dy.mo) (dy.co) (dy.le)), ((t 3), iA cI (dy.K)), ((t 4), iA cI (dy.Q)), ((t 5), iA cI (dy.L)), ((t 6), iA cI (dy.H)), ((t 7), iA cI (dy.M)), ((t 8), iA cI (dy.B)), ((t 9), iA cI (dy.C)), ((t 10), iA cI (dy.D)), ((t 11), iA cI (dy.F)), ((t 12), iA cI (dy.W)), (q9, lA cL o)] s.heap.size := ⟨_, rfl⟩
  rw [← hAe] at hD hA hS hZ
  have FX : CallFix p m c cL_count 4 s ([.ref h, .int w, .ref q9] : List Value).toArray wsL_count RL := ⟨hx, hb, hml, hown, hts⟩
  have hl := lv_entry ([.ref h, .int w, .ref q9]) (n := 4) (Nat.le_of_ble_eq_true rfl)
  rw [lg_entry_eq]
  generalize (lg_sl ([.ref h, .int w, .ref q9]) ++ List.replicate (4 - (lg_sl ([.ref h, .int w, .ref q9])).length) Slot.unset).toArray = ls at hl ⊢
  have hl : lv_has ls 4 [(0, .ref h), (1, .int w), (2, .ref q9)] := hl
  refine wq (fun Q hQ => ?_)
  have hzc : 0 + 0 ≤ (headSpec wsL_count rmL_count).room.cells := Nat.zero_le _
  have hzs : 0 + 0 ≤ (headSpec wsL_count rmL_count).room.slots := Nat.zero_le _
  have hS0 := hg.2.1
  have hgt := hg.2.2.1
  have hk := hg.1
  have hkd := hg.2.2.2
  rcases Decidable.em ((cdCount w) = 0) with hcd | hcd
  · skip
    refine w_widen (k := 1) (n := 6) (by decide) (by decide) ?_
    have hzc : 1 + 0 ≤ (headSpec wsL_count rmL_count).room.cells := Nat.le_of_ble_eq_true rfl
    have hzs : 6 + 0 ≤ (headSpec wsL_count rmL_count).room.slots := Nat.le_of_ble_eq_true rfl
    have hin := count_0 hcd
    refine lv_aload_n hx hb dL_count_0 rfl (lv_at hl 2 rfl) ?_
    refine lv_iconst (v := 0) hx hb dL_count_1 (by decide) ?_
    refine lv_aload_n hx hb dL_count_2 rfl (lv_at hl 0 rfl) ?_
    refine lv_iload_n hx hb dL_count_3 rfl (lv_at hl 1 rfl) ?_
    refine cr_i (va_runV (As := [.int w]) (rest := [.int 0, .ref q9]) FX (c_X1_count_ok l G cI h a t cy.mo cy.co cy.le cy.K cy.Q cy.L cy.H cy.M cy.B cy.C cy.D cy.F cy.W k w hk hS0 hin) (cwV 1 hts gL_count_X1_count rfl rfl rfl (by decide +kernel) ⟨Nat.le_of_ble_eq_true rfl, Nat.le_of_ble_eq_true rfl⟩) (rdV hK hP hN [0, 1, 2, 3, 4, 5, 6, 7, 8, 9, 10, 11] rfl (ci := 1) (q0 := 0) rfl rfl) rfl rfl hl.1 rfl (lv_room (Nat.le_of_ble_eq_true rfl)) dL_count_4 ⟨hzc, hzs⟩) hS hP (fun H locs hP hS => ?_)
    refine lv_i2l (v := (tot k cy.mo cy.co cy.le w).toInt64) hx hb dL_count_7 rfl ?_
    refine va_last hx hb hKL hP hD hS 23 0 rfl rfl vp_in01 dL_count_8 (fun H locs hP hD hS => ?_)
    have hP : va_P G vwCl [(h, oX a t), ((a 0), oC a (cy.mo) (cy.co) (cy.le)), ((a 3), iA cI (cy.K)), ((a 4), iA cI (cy.Q)), ((a 5), iA cI (cy.L)), ((a 6), iA cI (cy.H)), ((a 7), iA cI (cy.M)), ((a 8), iA cI (cy.B)), ((a 9), iA cI (cy.C)), ((a 10), iA cI (cy.D)), ((a 11), iA cI (cy.F)), ((a 12), iA cI (cy.W)), ((t 0), oC t (dy.mo) (dy.co) (dy.le)), ((t 3), iA cI (dy.K)), ((t 4), iA cI (dy.Q)), ((t 5), iA cI (dy.L)), ((t 6), iA cI (dy.H)), ((t 7), iA cI (dy.M)), ((t 8), iA cI (dy.B)), ((t 9), iA cI (dy.C)), ((t 10), iA cI (dy.D)), ((t 11), iA cI (dy.F)), ((t 12), iA cI (dy.W)), (q9, lA cL (vp_updL o (0 : Int32).toNatClampNeg ((tot k cy.mo cy.co cy.le w).toInt64)))] H := hP
    have hD : va_D A [(h, oX a t), ((a 0), oC a (cy.mo) (cy.co) (cy.le)), ((a 3), iA cI (cy.K)), ((a 4), iA cI (cy.Q)), ((a 5), iA cI (cy.L)), ((a 6), iA cI (cy.H)), ((a 7), iA cI (cy.M)), ((a 8), iA cI (cy.B)), ((a 9), iA cI (cy.C)), ((a 10), iA cI (cy.D)), ((a 11), iA cI (cy.F)), ((a 12), iA cI (cy.W)), ((t 0), oC t (dy.mo) (dy.co) (dy.le)), ((t 3), iA cI (dy.K)), ((t 4), iA cI (dy.Q)), ((t 5), iA cI (dy.L)), ((t 6), iA cI (dy.H)), ((t 7), iA cI (dy.M)), ((t 8), iA cI (dy.B)), ((t 9), iA cI (dy.C)), ((t 10), iA cI (dy.D)), ((t 11), iA cI (dy.F)), ((t 12), iA cI (dy.W)), (q9, lA cL (vp_updL o (0 : Int32).toNatClampNeg ((tot k cy.mo cy.co cy.le w).toInt64)))] := hD
    refine lv_goto (tgt := 15) hx hb dL_count_9 (by decide) ?_
    refine lv_iconst (v := 0) hx hb dL_count_15 (by decide) ?_
    subst hQ
    subst hAe
    exact wr_i (cy, dy, vp_updL o (0 : Int32).toNatClampNeg ((tot k cy.mo cy.co cy.le w)).toInt64) (⟨hcd.symm, hg, ⟨rfl, rfl, rfl⟩, fun _ => updL_at (o := o) (j := (0 : Int32).toNatClampNeg) (rfl)⟩) hx hb hr hP hD hS hlocks dL_count_16
  · skip
    refine lv_aload_n hx hb dL_count_0 rfl (lv_at hl 2 rfl) ?_
    refine lv_iconst (v := 0) hx hb dL_count_1 (by decide) ?_
    refine lv_aload_n hx hb dL_count_2 rfl (lv_at hl 0 rfl) ?_
    refine lv_iload_n hx hb dL_count_3 rfl (lv_at hl 1 rfl) ?_
    refine xr_i (vx_runV (As := [.int w]) (rest := [.int 0, .ref q9]) FX (c_X1_count_no l G cI hst h a t cy.mo cy.co cy.le cy.K cy.Q cy.L cy.H cy.M cy.B cy.C cy.D cy.F cy.W k w hk hcd) (cwV 1 hts gL_count_X1_count rfl rfl rfl (by decide +kernel) ⟨Nat.le_of_ble_eq_true rfl, Nat.le_of_ble_eq_true rfl⟩) (xrV hK hP hN hE hX hZ hS [0, 1, 2, 3, 4, 5, 6, 7, 8, 9, 10, 11] rfl (ci := 1) (q0 := 0) rfl rfl) rfl rfl hl.1 rfl (lv_room (Nat.le_of_ble_eq_true rfl)) dL_count_4 ⟨Nat.le_of_ble_eq_true rfl, Nat.le_of_ble_eq_true rfl⟩) hS hP (fun E ce q8 H locs hcE hP hS h1 h2 h3 => ?_)
    obtain ⟨rfl, hce⟩ := hcE
    · skip
      refine vx_catch hown [] ⟨0, 9, 12, 13⟩ [] htab (fun z hz => nomatch hz) (by decide) (by decide) (hts (.classLink RL 13 "java/lang/IndexOutOfBoundsException") (by decide +kernel)) (EXW_use hX (.castable "java/lang/IndexOutOfBoundsException" "java/lang/IndexOutOfBoundsException") (by decide)) h1 h2 h3 ?_
      refine W.eq (g2 := F0 m 12 ls [.ref q8]) rfl ?_
      refine lv_astore_n (lv' := [(3, .ref q8), (0, .ref h), (1, .int w), (2, .ref q9)]) hx hb dL_count_12 rfl hl (by decide) rfl (fun ls hl => ?_)
      refine lv_iconst (v := 1) hx hb dL_count_13 (by decide) ?_
      subst hQ
      subst hAe
      exact wr_i (cy, dy, o) (⟨hce.symm, hg, ⟨rfl, rfl, rfl⟩, fun h9 => absurd h9 hcd⟩) hx hb hr hP hD hS hlocks dL_count_14

def rmL_walk : Room := { frames := 8, cells := 1, slots := 6, locals := 132 }
set_option maxHeartbeats 4000000 in
set_option maxRecDepth 100000 in
theorem c_L_walk (l : Launch) (G : va_G) (cI cL : ClassId) (hst : l.stackTraces = false) (h q9 : Nat) (a t : Nat → Nat) (cy dy : Cy) (o : Nat → Int64) (k : Nat → Int32) (x y : Int32) (hg : Sd cy k) (sz : Nat) : Met l yL_walk wsL_walk rmL_walk (va_Pc [.ref h, .int x, .int y, .ref q9] (WrPX G cI cL [(h, oX a t), ((a 0), oC a (cy.mo) (cy.co) (cy.le)), ((a 3), iA cI (cy.K)), ((a 4), iA cI (cy.Q)), ((a 5), iA cI (cy.L)), ((a 6), iA cI (cy.H)), ((a 7), iA cI (cy.M)), ((a 8), iA cI (cy.B)), ((a 9), iA cI (cy.C)), ((a 10), iA cI (cy.D)), ((a 11), iA cI (cy.F)), ((a 12), iA cI (cy.W)), ((t 0), oC t (dy.mo) (dy.co) (dy.le)), ((t 3), iA cI (dy.K)), ((t 4), iA cI (dy.Q)), ((t 5), iA cI (dy.L)), ((t 6), iA cI (dy.H)), ((t 7), iA cI (dy.M)), ((t 8), iA cI (dy.B)), ((t 9), iA cI (dy.C)), ((t 10), iA cI (dy.D)), ((t 11), iA cI (dy.F)), ((t 12), iA cI (dy.W)), (q9, lA cL o)] sz)) (va_Qi (fun (r : Int32) (u : Cy × Cy × (Nat → Int64)) => r = (cdWalk k x y) ∧ Sd u.1 k ∧ (u.1.mo = cy.mo ∧ u.1.co = cy.co ∧ u.1.le = cy.le) ∧ ((cdWalk k x y) = 0 → u.2.2 (0 : Int32).toNatClampNeg = Int32.toInt64 (toI (dst (PB true k) x.toNatClampNeg y.toNatClampNeg)))) (WrB G [(h, oX a t), ((a 0), oC a (cy.mo) (cy.co) (cy.le)), ((a 3), iA cI (cy.K)), ((a 4), iA cI (cy.Q)), ((a 5), iA cI (cy.L)), ((a 6), iA cI (cy.H)), ((a 7), iA cI (cy.M)), ((a 8), iA cI (cy.B)), ((a 9), iA cI (cy.C)), ((a 10), iA cI (cy.D)), ((a 11), iA cI (cy.F)), ((a 12), iA cI (cy.W)), ((t 0), oC t (dy.mo) (dy.co) (dy.le)), ((t 3), iA cI (dy.K)), ((t 4), iA cI (dy.Q)), ((t 5), iA cI (dy.L)), ((t 6), iA cI (dy.H)), ((t 7), iA cI (dy.M)), ((t 8), iA cI (dy.B)), ((t 9), iA cI (dy.C)), ((t 10), iA cI (dy.D)), ((t 11), iA cI (dy.F)), ((t 12), iA cI (dy.W)), (q9, lA cL o)] sz (fun u => [(h, oX a t), (a 0, oC a (u.1.mo) (u.1.co) (u.1.le)), (a 3, iA cI (u.1.K)), (a 4, iA cI (u.1.Q)), (a 5, iA cI (u.1.L)), (a 6, iA cI (u.1.H)), (a 7, iA cI (u.1.M)), (a 8, iA cI (u.1.B)), (a 9, iA cI (u.1.C)), (a 10, iA cI (u.1.D)), (a 11, iA cI (u.1.F)), (a 12, iA cI (u.1.W)), (t 0, oC t (u.2.1.mo) (u.2.1.co) (u.2.1.le)), (t 3, iA cI (u.2.1.K)), (t 4, iA cI (u.2.1.Q)), (t 5, iA cI (u.2.1.L)), (t 6, iA cI (u.2.1.H)), (t 7, iA cI (u.2.1.M)), (t 8, iA cI (u.2.1.B)), (t 9, iA cI (u.2.1.C)), (t 10, iA cI (u.2.1.D)), (t 11, iA cI (u.2.1.F)), (t 12, iA cI (u.2.1.W)), (q9, lA cL (u.2.2))])) (va_A [(h, oX a t), ((a 0), oC a (cy.mo) (cy.co) (cy.le)), ((a 3), iA cI (cy.K)), ((a 4), iA cI (cy.Q)), ((a 5), iA cI (cy.L)), ((a 6), iA cI (cy.H)), ((a 7), iA cI (cy.M)), ((a 8), iA cI (cy.B)), ((a 9), iA cI (cy.C)), ((a 10), iA cI (cy.D)), ((a 11), iA cI (cy.F)), ((a 12), iA cI (cy.W)), ((t 0), oC t (dy.mo) (dy.co) (dy.le)), ((t 3), iA cI (dy.K)), ((t 4), iA cI (dy.Q)), ((t 5), iA cI (dy.L)), ((t 6), iA cI (dy.H)), ((t 7), iA cI (dy.M)), ((t 8), iA cI (dy.B)), ((t 9), iA cI (dy.C)), ((t 10), iA cI (dy.D)), ((t 11), iA cI (dy.F)), ((t 12), iA cI (dy.W)), (q9, lA cL o)] sz)) 1 6 (va_A [(h, oX a t), ((a 0), oC a (cy.mo) (cy.co) (cy.le)), ((a 3), iA cI (cy.K)), ((a 4), iA cI (cy.Q)), ((a 5), iA cI (cy.L)), ((a 6), iA cI (cy.H)), ((a 7), iA cI (cy.M)), ((a 8), iA cI (cy.B)), ((a 9), iA cI (cy.C)), ((a 10), iA cI (cy.D)), ((a 11), iA cI (cy.F)), ((a 12), iA cI (cy.W)), ((t 0), oC t (dy.mo) (dy.co) (dy.le)), ((t 3), iA cI (dy.K)), ((t 4), iA cI (dy.Q)), ((t 5), iA cI (dy.L)), ((t 6), iA cI (dy.H)), ((t 7), iA cI (dy.M)), ((t 8), iA cI (dy.B)), ((t 9), iA cI (dy.C)), ((t 10), iA cI (dy.D)), ((t 11), iA cI (dy.F)), ((t 12), iA cI (dy.W)), (q9, lA cL o)] sz) := by
  refine Met_ofWH (cc := cL_walk) (maxL := 5) (ret := (some .int)) (hh := [(0, 10, 13, 13), (0, 10, 17, 15)]) (by decide) rfl ?_
  intro p e s m args below meth c s₁ B hml hv
  obtain ⟨rfl, ⟨hsz, hP, hK, hD0, hN⟩, hKL, hE, hX, hNC, hZ⟩ := hv
  have hx := B.exec
  have hb := B.bytes
  have hr := B.returns
  have hlocks := B.notSynchronized
  have hts := atoms_spec (ws := wsL_walk) B.pre
  have htab : c.exceptionTable.toList = tableOf [(0, 10, 13, 13), (0, 10, 17, 15)] := vx_table (x := yL_walk) (y := yL_walk) B (hts (.codeWith yL_walk cL_walk 5 (some .int) [(0, 10, 13, 13), (0, 10, 17, 15)]) (by unfold wsL_walk; exact List.mem_cons_self))
  have hown : s.vm.findClass RL = some m.cls := findClass_of_methodNamed B.named
  subst hsz
  have hD := hD0.self (sz := s.heap.size)
  have hA : ∀ q : Nat, s.heap.size ≤ q → va_A [(h, oX a t), ((a 0), oC a (cy.mo) (cy.co) (cy.le)), ((a 3), iA cI (cy.K)), ((a 4), iA cI (cy.Q)), ((a 5), iA cI (cy.L)), ((a 6), iA cI (cy.H)), ((a 7), iA cI (cy.M)), ((a 8), iA cI (cy.B)), ((a 9), iA cI (cy.C)), ((a 10), iA cI (cy.D)), ((a 11), iA cI (cy.F)), ((a 12), iA cI (cy.W)), ((t 0), oC t (dy.mo) (dy.co) (dy.le)), ((t 3), iA cI (dy.K)), ((t 4), iA cI (dy.Q)), ((t 5), iA cI (dy.L)), ((t 6), iA cI (dy.H)), ((t 7), iA cI (dy.M)), ((t 8), iA cI (dy.B)), ((t 9), iA cI (dy.C)), ((t 10), iA cI (dy.D)), ((t 11), iA cI (dy.F)), ((t 12), iA cI (dy.W)), (q9, lA cL o)] s.heap.size q := fun q h => Or.inr h
  have hS : va_S (va_A [(h, oX a t), ((a 0), oC a (cy.mo) (cy.co) (cy.le)), ((a 3), iA cI (cy.K)), ((a 4), iA cI (cy.Q)), ((a 5), iA cI (cy.L)), ((a 6), iA cI (cy.H)), ((a 7), iA cI (cy.M)), ((a 8), iA cI (cy.B)), ((a 9), iA cI (cy.C)), ((a 10), iA cI (cy.D)), ((a 11), iA cI (cy.F)), ((a 12), iA cI (cy.W)), ((t 0), oC t (dy.mo) (dy.co) (dy.le)), ((t 3), iA cI (dy.K)), ((t 4), iA cI (dy.Q)), ((t 5), iA cI (dy.L)), ((t 6), iA cI (dy.H)), ((t 7), iA cI (dy.M)), ((t 8), iA cI (dy.B)), ((t 9), iA cI (dy.C)), ((t 10), iA cI (dy.D)), ((t 11), iA cI (dy.F)), ((t 12), iA cI (dy.W)), (q9, lA cL o)] s.heap.size) s.heap s.heap [] := va_S.rf
  obtain ⟨A, hAe⟩ : ∃ A, A = va_A [(h, oX a t), ((a 0), oC a (cy.mo) (cy.co) (cy.le)), ((a 3), iA cI (cy.K)), ((a 4), iA cI (cy.Q)), ((a 5), iA cI (cy.L)), ((a 6), iA cI (cy.H)), ((a 7), iA cI (cy.M)), ((a 8), iA cI (cy.B)), ((a 9), iA cI (cy.C)), ((a 10), iA cI (cy.D)), ((a 11), iA cI (cy.F)), ((a 12), iA cI (cy.W)), ((t 0), oC t (dy.mo) (dy.co) (dy.le)), ((t 3), iA cI (dy.K)), ((t 4), iA cI (dy.Q)), ((t 5), iA cI (dy.L)), ((t 6), iA cI (dy.H)), ((t 7), iA cI (dy.M)), ((t 8), iA cI (dy.B)), ((t 9), iA cI (dy.C)), ((t 10), iA cI (dy.D)), ((t 11), iA cI (dy.F)), ((t 12), iA cI (dy.W)), (q9, lA cL o)] s.heap.size := ⟨_, rfl⟩
  rw [← hAe] at hD hA hS hZ
  have FX : CallFix p m c cL_walk 5 s ([.ref h, .int x, .int y, .ref q9] : List Value).toArray wsL_walk RL := ⟨hx, hb, hml, hown, hts⟩
  have hl := lv_entry ([.ref h, .int x, .int y, .ref q9]) (n := 5) (Nat.le_of_ble_eq_true rfl)
  rw [lg_entry_eq]
  generalize (lg_sl ([.ref h, .int x, .int y, .ref q9]) ++ List.replicate (5 - (lg_sl ([.ref h, .int x, .int y, .ref q9])).length) Slot.unset).toArray = ls at hl ⊢
  have hl : lv_has ls 5 [(0, .ref h), (1, .int x), (2, .int y), (3, .ref q9)] := hl
  refine wq (fun Q hQ => ?_)
  have hzc : 0 + 0 ≤ (headSpec wsL_walk rmL_walk).room.cells := Nat.zero_le _
  have hzs : 0 + 0 ≤ (headSpec wsL_walk rmL_walk).room.slots := Nat.zero_le _
  have hS0 := hg.2.1
  have hgt := hg.2.2.1
  have hk := hg.1
  have hkd := hg.2.2.2
  rcases Decidable.em ((cdWalk k x y) = 0) with hcd | hcd
  · skip
    refine w_widen (k := 1) (n := 6) (by decide) (by decide) ?_
    have hzc : 1 + 0 ≤ (headSpec wsL_walk rmL_walk).room.cells := Nat.le_of_ble_eq_true rfl
    have hzs : 6 + 0 ≤ (headSpec wsL_walk rmL_walk).room.slots := Nat.le_of_ble_eq_true rfl
    obtain ⟨⟨hin, hin2⟩, hl1, hl2⟩ := walk_0 hcd
    refine lv_aload_n hx hb dL_walk_0 rfl (lv_at hl 3 rfl) ?_
    refine lv_iconst (v := 0) hx hb dL_walk_1 (by decide) ?_
    refine lv_aload_n hx hb dL_walk_2 rfl (lv_at hl 0 rfl) ?_
    refine lv_iload_n hx hb dL_walk_3 rfl (lv_at hl 1 rfl) ?_
    refine lv_iload_n hx hb dL_walk_4 rfl (lv_at hl 2 rfl) ?_
    refine cw_i (wr := [((t 0), oC t (dy.mo) (dy.co) (dy.le)), ((t 3), iA cI (dy.K)), ((t 4), iA cI (dy.Q)), ((t 5), iA cI (dy.L)), ((t 6), iA cI (dy.H)), ((t 7), iA cI (dy.M)), ((t 8), iA cI (dy.B)), ((t 9), iA cI (dy.C)), ((t 10), iA cI (dy.D)), ((t 11), iA cI (dy.F)), ((t 12), iA cI (dy.W)), (q9, lA cL o)]) (va_runV (As := [.int x, .int y]) (rest := [.int 0, .ref q9]) FX (c_X1_walk_ok l G cI h a t cy.mo cy.co cy.le cy.K cy.Q cy.L cy.H cy.M cy.B cy.C cy.D cy.F cy.W k x y hk hin hin2 hl1 hl2 _) (cwV 2 hts gL_walk_X1_walk rfl rfl rfl (by decide +kernel) ⟨Nat.le_of_ble_eq_true rfl, Nat.le_of_ble_eq_true rfl⟩) (wrV hK hP hD hN [0, 1, 2, 3, 4, 5, 6, 7, 8, 9, 10, 11] (by decide) rfl rfl (ci := 1) (q0 := 0) rfl rfl) rfl rfl hl.1 rfl (lv_room (Nat.le_of_ble_eq_true rfl)) dL_walk_5 ⟨Nat.le_of_ble_eq_true rfl, Nat.le_of_ble_eq_true rfl⟩) hS hP hD hA [0, 1, 2, 3, 4, 5, 6, 7, 8, 9, 10, 11] [12, 13, 14, 15, 16, 17, 18, 19, 20, 21, 22, 23] rfl rfl (by decide) (by decide) (fun r9 u H locs hw hP hD hS => ?_)
    obtain ⟨F1, W1⟩ := u
    have hP := hP.sub (ws' := [(h, oX a t), ((a 0), oC a (cy.mo) (cy.co) (cy.le)), ((a 3), iA cI (cy.K)), ((a 4), iA cI (cy.Q)), ((a 5), iA cI (cy.L)), ((a 6), iA cI (cy.H)), ((a 7), iA cI (cy.M)), ((a 8), iA cI (cy.B)), ((a 9), iA cI (cy.C)), ((a 10), iA cI (cy.D)), ((a 11), iA cI F1), ((a 12), iA cI W1), ((t 0), oC t (dy.mo) (dy.co) (dy.le)), ((t 3), iA cI (dy.K)), ((t 4), iA cI (dy.Q)), ((t 5), iA cI (dy.L)), ((t 6), iA cI (dy.H)), ((t 7), iA cI (dy.M)), ((t 8), iA cI (dy.B)), ((t 9), iA cI (dy.C)), ((t 10), iA cI (dy.D)), ((t 11), iA cI (dy.F)), ((t 12), iA cI (dy.W)), (q9, lA cL o)]) [12, 13, 14, 15, 16, 17, 18, 19, 20, 21, 22, 23, 0, 1, 2, 3, 4, 5, 6, 7, 8, 9, 10, 11] rfl
    have hD := hD.sub (ws' := [(h, oX a t), ((a 0), oC a (cy.mo) (cy.co) (cy.le)), ((a 3), iA cI (cy.K)), ((a 4), iA cI (cy.Q)), ((a 5), iA cI (cy.L)), ((a 6), iA cI (cy.H)), ((a 7), iA cI (cy.M)), ((a 8), iA cI (cy.B)), ((a 9), iA cI (cy.C)), ((a 10), iA cI (cy.D)), ((a 11), iA cI F1), ((a 12), iA cI W1), ((t 0), oC t (dy.mo) (dy.co) (dy.le)), ((t 3), iA cI (dy.K)), ((t 4), iA cI (dy.Q)), ((t 5), iA cI (dy.L)), ((t 6), iA cI (dy.H)), ((t 7), iA cI (dy.M)), ((t 8), iA cI (dy.B)), ((t 9), iA cI (dy.C)), ((t 10), iA cI (dy.D)), ((t 11), iA cI (dy.F)), ((t 12), iA cI (dy.W)), (q9, lA cL o)]) [12, 13, 14, 15, 16, 17, 18, 19, 20, 21, 22, 23, 0, 1, 2, 3, 4, 5, 6, 7, 8, 9, 10, 11] (by decide) rfl
    refine lv_i2l (v := r9.toInt64) hx hb dL_walk_8 rfl ?_
    refine va_last hx hb hKL hP hD hS 23 0 rfl rfl vp_in01 dL_walk_9 (fun H locs hP hD hS => ?_)
    have hP : va_P G vwCl [(h, oX a t), ((a 0), oC a (cy.mo) (cy.co) (cy.le)), ((a 3), iA cI (cy.K)), ((a 4), iA cI (cy.Q)), ((a 5), iA cI (cy.L)), ((a 6), iA cI (cy.H)), ((a 7), iA cI (cy.M)), ((a 8), iA cI (cy.B)), ((a 9), iA cI (cy.C)), ((a 10), iA cI (cy.D)), ((a 11), iA cI F1), ((a 12), iA cI W1), ((t 0), oC t (dy.mo) (dy.co) (dy.le)), ((t 3), iA cI (dy.K)), ((t 4), iA cI (dy.Q)), ((t 5), iA cI (dy.L)), ((t 6), iA cI (dy.H)), ((t 7), iA cI (dy.M)), ((t 8), iA cI (dy.B)), ((t 9), iA cI (dy.C)), ((t 10), iA cI (dy.D)), ((t 11), iA cI (dy.F)), ((t 12), iA cI (dy.W)), (q9, lA cL (vp_updL o (0 : Int32).toNatClampNeg (r9.toInt64)))] H := hP
    have hD : va_D A [(h, oX a t), ((a 0), oC a (cy.mo) (cy.co) (cy.le)), ((a 3), iA cI (cy.K)), ((a 4), iA cI (cy.Q)), ((a 5), iA cI (cy.L)), ((a 6), iA cI (cy.H)), ((a 7), iA cI (cy.M)), ((a 8), iA cI (cy.B)), ((a 9), iA cI (cy.C)), ((a 10), iA cI (cy.D)), ((a 11), iA cI F1), ((a 12), iA cI W1), ((t 0), oC t (dy.mo) (dy.co) (dy.le)), ((t 3), iA cI (dy.K)), ((t 4), iA cI (dy.Q)), ((t 5), iA cI (dy.L)), ((t 6), iA cI (dy.H)), ((t 7), iA cI (dy.M)), ((t 8), iA cI (dy.B)), ((t 9), iA cI (dy.C)), ((t 10), iA cI (dy.D)), ((t 11), iA cI (dy.F)), ((t 12), iA cI (dy.W)), (q9, lA cL (vp_updL o (0 : Int32).toNatClampNeg (r9.toInt64)))] := hD
    refine lv_goto (tgt := 21) hx hb dL_walk_10 (by decide) ?_
    refine lv_iconst (v := 0) hx hb dL_walk_21 (by decide) ?_
    subst hQ
    subst hAe
    exact wr_i (⟨cy.mo, cy.co, cy.le, cy.K, cy.Q, cy.L, cy.H, cy.M, cy.B, cy.C, cy.D, F1, W1⟩, dy, vp_updL o (0 : Int32).toNatClampNeg r9.toInt64) (⟨hcd.symm, hg, ⟨rfl, rfl, rfl⟩, fun _ => updL_at (o := o) (j := (0 : Int32).toNatClampNeg) (hw)⟩) hx hb hr hP hD hS hlocks dL_walk_22
  · skip
    refine lv_aload_n hx hb dL_walk_0 rfl (lv_at hl 3 rfl) ?_
    refine lv_iconst (v := 0) hx hb dL_walk_1 (by decide) ?_
    refine lv_aload_n hx hb dL_walk_2 rfl (lv_at hl 0 rfl) ?_
    refine lv_iload_n hx hb dL_walk_3 rfl (lv_at hl 1 rfl) ?_
    refine lv_iload_n hx hb dL_walk_4 rfl (lv_at hl 2 rfl) ?_
    refine xr_i (vx_runV (As := [.int x, .int y]) (rest := [.int 0, .ref q9]) FX (c_X1_walk_no l G cI hst h a t cy.mo cy.co cy.le cy.K cy.Q cy.L cy.H cy.M cy.B cy.C cy.D cy.F cy.W k x y hk hcd) (cwV 2 hts gL_walk_X1_walk rfl rfl rfl (by decide +kernel) ⟨Nat.le_of_ble_eq_true rfl, Nat.le_of_ble_eq_true rfl⟩) (xrV hK hP hN hE hX hZ hS [0, 1, 2, 3, 4, 5, 6, 7, 8, 9, 10, 11] rfl (ci := 1) (q0 := 0) rfl rfl) rfl rfl hl.1 rfl (lv_room (Nat.le_of_ble_eq_true rfl)) dL_walk_5 ⟨Nat.le_of_ble_eq_true rfl, Nat.le_of_ble_eq_true rfl⟩) hS hP (fun E ce q8 H locs hcE hP hS h1 h2 h3 => ?_)
    rcases hcE with ⟨rfl, hce⟩ | ⟨rfl, hce⟩
    · skip
      refine vx_catch hown [] ⟨0, 10, 13, 13⟩ [⟨0, 10, 17, 15⟩] htab (fun z hz => nomatch hz) (by decide) (by decide) (hts (.classLink RL 13 "java/lang/IndexOutOfBoundsException") (by decide +kernel)) (EXW_use hX (.castable "java/lang/IndexOutOfBoundsException" "java/lang/IndexOutOfBoundsException") (by decide)) h1 h2 h3 ?_
      refine W.eq (g2 := F0 m 13 ls [.ref q8]) rfl ?_
      refine lv_astore (lv' := [(4, .ref q8), (0, .ref h), (1, .int x), (2, .int y), (3, .ref q9)]) hx hb dL_walk_13 hl (by decide) rfl (fun ls hl => ?_)
      refine lv_iconst (v := 1) hx hb dL_walk_15 (by decide) ?_
      subst hQ
      subst hAe
      exact wr_i (cy, dy, o) (⟨hce.symm, hg, ⟨rfl, rfl, rfl⟩, fun h9 => absurd h9 hcd⟩) hx hb hr hP hD hS hlocks dL_walk_16
    · skip
      refine vx_catch hown [⟨0, 10, 13, 13⟩] ⟨0, 10, 17, 15⟩ [] htab (fun z hz => by obtain rfl := List.mem_singleton.mp hz; exact Or.inr ⟨by decide, "java/lang/IndexOutOfBoundsException", hts (.classLink RL 13 "java/lang/IndexOutOfBoundsException") (by decide +kernel), hNC.1⟩) (by decide) (by decide) (hts (.classLink RL 15 "java/lang/IllegalStateException") (by decide +kernel)) (EXW_use hX (.castable "java/lang/IllegalStateException" "java/lang/IllegalStateException") (by decide)) h1 h2 h3 ?_
      refine W.eq (g2 := F0 m 17 ls [.ref q8]) rfl ?_
      refine lv_astore (lv' := [(4, .ref q8), (0, .ref h), (1, .int x), (2, .int y), (3, .ref q9)]) hx hb dL_walk_17 hl (by decide) rfl (fun ls hl => ?_)
      refine lv_iconst (v := 2) hx hb dL_walk_19 (by decide) ?_
      subst hQ
      subst hAe
      exact wr_i (cy, dy, o) (⟨hce.symm, hg, ⟨rfl, rfl, rfl⟩, fun h9 => absurd h9 hcd⟩) hx hb hr hP hD hS hlocks dL_walk_20

def rmL_sail : Room := { frames := 8, cells := 1, slots := 6, locals := 131 }
set_option maxHeartbeats 4000000 in
set_option maxRecDepth 100000 in
theorem c_L_sail (l : Launch) (G : va_G) (cI cL : ClassId) (hst : l.stackTraces = false) (h q9 : Nat) (a t : Nat → Nat) (cy dy : Cy) (o : Nat → Int64) (k : Nat → Int32) (x : Int32) (hg : Sd cy k) (sz : Nat) : Met l yL_sail wsL_sail rmL_sail (va_Pc [.ref h, .int x, .ref q9] (WrPX G cI cL [(h, oX a t), ((a 0), oC a (cy.mo) (cy.co) (cy.le)), ((a 3), iA cI (cy.K)), ((a 4), iA cI (cy.Q)), ((a 5), iA cI (cy.L)), ((a 6), iA cI (cy.H)), ((a 7), iA cI (cy.M)), ((a 8), iA cI (cy.B)), ((a 9), iA cI (cy.C)), ((a 10), iA cI (cy.D)), ((a 11), iA cI (cy.F)), ((a 12), iA cI (cy.W)), ((t 0), oC t (dy.mo) (dy.co) (dy.le)), ((t 3), iA cI (dy.K)), ((t 4), iA cI (dy.Q)), ((t 5), iA cI (dy.L)), ((t 6), iA cI (dy.H)), ((t 7), iA cI (dy.M)), ((t 8), iA cI (dy.B)), ((t 9), iA cI (dy.C)), ((t 10), iA cI (dy.D)), ((t 11), iA cI (dy.F)), ((t 12), iA cI (dy.W)), (q9, lA cL o)] sz)) (va_Qi (fun (r : Int32) (u : Cy × Cy × (Nat → Int64)) => r = (cdSail k x) ∧ Sd u.1 k ∧ (u.1.mo = cy.mo ∧ u.1.co = cy.co ∧ u.1.le = cy.le) ∧ ((cdSail k x) = 0 → u.2.2 (0 : Int32).toNatClampNeg = Int32.toInt64 (toI (dst (PB false k) 3 x.toNatClampNeg)))) (WrB G [(h, oX a t), ((a 0), oC a (cy.mo) (cy.co) (cy.le)), ((a 3), iA cI (cy.K)), ((a 4), iA cI (cy.Q)), ((a 5), iA cI (cy.L)), ((a 6), iA cI (cy.H)), ((a 7), iA cI (cy.M)), ((a 8), iA cI (cy.B)), ((a 9), iA cI (cy.C)), ((a 10), iA cI (cy.D)), ((a 11), iA cI (cy.F)), ((a 12), iA cI (cy.W)), ((t 0), oC t (dy.mo) (dy.co) (dy.le)), ((t 3), iA cI (dy.K)), ((t 4), iA cI (dy.Q)), ((t 5), iA cI (dy.L)), ((t 6), iA cI (dy.H)), ((t 7), iA cI (dy.M)), ((t 8), iA cI (dy.B)), ((t 9), iA cI (dy.C)), ((t 10), iA cI (dy.D)), ((t 11), iA cI (dy.F)), ((t 12), iA cI (dy.W)), (q9, lA cL o)] sz (fun u => [(h, oX a t), (a 0, oC a (u.1.mo) (u.1.co) (u.1.le)), (a 3, iA cI (u.1.K)), (a 4, iA cI (u.1.Q)), (a 5, iA cI (u.1.L)), (a 6, iA cI (u.1.H)), (a 7, iA cI (u.1.M)), (a 8, iA cI (u.1.B)), (a 9, iA cI (u.1.C)), (a 10, iA cI (u.1.D)), (a 11, iA cI (u.1.F)), (a 12, iA cI (u.1.W)), (t 0, oC t (u.2.1.mo) (u.2.1.co) (u.2.1.le)), (t 3, iA cI (u.2.1.K)), (t 4, iA cI (u.2.1.Q)), (t 5, iA cI (u.2.1.L)), (t 6, iA cI (u.2.1.H)), (t 7, iA cI (u.2.1.M)), (t 8, iA cI (u.2.1.B)), (t 9, iA cI (u.2.1.C)), (t 10, iA cI (u.2.1.D)), (t 11, iA cI (u.2.1.F)), (t 12, iA cI (u.2.1.W)), (q9, lA cL (u.2.2))])) (va_A [(h, oX a t), ((a 0), oC a (cy.mo) (cy.co) (cy.le)), ((a 3), iA cI (cy.K)), ((a 4), iA cI (cy.Q)), ((a 5), iA cI (cy.L)), ((a 6), iA cI (cy.H)), ((a 7), iA cI (cy.M)), ((a 8), iA cI (cy.B)), ((a 9), iA cI (cy.C)), ((a 10), iA cI (cy.D)), ((a 11), iA cI (cy.F)), ((a 12), iA cI (cy.W)), ((t 0), oC t (dy.mo) (dy.co) (dy.le)), ((t 3), iA cI (dy.K)), ((t 4), iA cI (dy.Q)), ((t 5), iA cI (dy.L)), ((t 6), iA cI (dy.H)), ((t 7), iA cI (dy.M)), ((t 8), iA cI (dy.B)), ((t 9), iA cI (dy.C)), ((t 10), iA cI (dy.D)), ((t 11), iA cI (dy.F)), ((t 12), iA cI (dy.W)), (q9, lA cL o)] sz)) 1 6 (va_A [(h, oX a t), ((a 0), oC a (cy.mo) (cy.co) (cy.le)), ((a 3), iA cI (cy.K)), ((a 4), iA cI (cy.Q)), ((a 5), iA cI (cy.L)), ((a 6), iA cI (cy.H)), ((a 7), iA cI (cy.M)), ((a 8), iA cI (cy.B)), ((a 9), iA cI (cy.C)), ((a 10), iA cI (cy.D)), ((a 11), iA cI (cy.F)), ((a 12), iA cI (cy.W)), ((t 0), oC t (dy.mo) (dy.co) (dy.le)), ((t 3), iA cI (dy.K)), ((t 4), iA cI (dy.Q)), ((t 5), iA cI (dy.L)), ((t 6), iA cI (dy.H)), ((t 7), iA cI (dy.M)), ((t 8), iA cI (dy.B)), ((t 9), iA cI (dy.C)), ((t 10), iA cI (dy.D)), ((t 11), iA cI (dy.F)), ((t 12), iA cI (dy.W)), (q9, lA cL o)] sz) := by
  refine Met_ofWH (cc := cL_sail) (maxL := 4) (ret := (some .int)) (hh := [(0, 9, 12, 13), (0, 9, 15, 15)]) (by decide) rfl ?_
  intro p e s m args below meth c s₁ B hml hv
  obtain ⟨rfl, ⟨hsz, hP, hK, hD0, hN⟩, hKL, hE, hX, hNC, hZ⟩ := hv
  have hx := B.exec
  have hb := B.bytes
  have hr := B.returns
  have hlocks := B.notSynchronized
  have hts := atoms_spec (ws := wsL_sail) B.pre
  have htab : c.exceptionTable.toList = tableOf [(0, 9, 12, 13), (0, 9, 15, 15)] := vx_table (x := yL_sail) (y := yL_sail) B (hts (.codeWith yL_sail cL_sail 4 (some .int) [(0, 9, 12, 13), (0, 9, 15, 15)]) (by unfold wsL_sail; exact List.mem_cons_self))
  have hown : s.vm.findClass RL = some m.cls := findClass_of_methodNamed B.named
  subst hsz
  have hD := hD0.self (sz := s.heap.size)
  have hA : ∀ q : Nat, s.heap.size ≤ q → va_A [(h, oX a t), ((a 0), oC a (cy.mo) (cy.co) (cy.le)), ((a 3), iA cI (cy.K)), ((a 4), iA cI (cy.Q)), ((a 5), iA cI (cy.L)), ((a 6), iA cI (cy.H)), ((a 7), iA cI (cy.M)), ((a 8), iA cI (cy.B)), ((a 9), iA cI (cy.C)), ((a 10), iA cI (cy.D)), ((a 11), iA cI (cy.F)), ((a 12), iA cI (cy.W)), ((t 0), oC t (dy.mo) (dy.co) (dy.le)), ((t 3), iA cI (dy.K)), ((t 4), iA cI (dy.Q)), ((t 5), iA cI (dy.L)), ((t 6), iA cI (dy.H)), ((t 7), iA cI (dy.M)), ((t 8), iA cI (dy.B)), ((t 9), iA cI (dy.C)), ((t 10), iA cI (dy.D)), ((t 11), iA cI (dy.F)), ((t 12), iA cI (dy.W)), (q9, lA cL o)] s.heap.size q := fun q h => Or.inr h
  have hS : va_S (va_A [(h, oX a t), ((a 0), oC a (cy.mo) (cy.co) (cy.le)), ((a 3), iA cI (cy.K)), ((a 4), iA cI (cy.Q)), ((a 5), iA cI (cy.L)), ((a 6), iA cI (cy.H)), ((a 7), iA cI (cy.M)), ((a 8), iA cI (cy.B)), ((a 9), iA cI (cy.C)), ((a 10), iA cI (cy.D)), ((a 11), iA cI (cy.F)), ((a 12), iA cI (cy.W)), ((t 0), oC t (dy.mo) (dy.co) (dy.le)), ((t 3), iA cI (dy.K)), ((t 4), iA cI (dy.Q)), ((t 5), iA cI (dy.L)), ((t 6), iA cI (dy.H)), ((t 7), iA cI (dy.M)), ((t 8), iA cI (dy.B)), ((t 9), iA cI (dy.C)), ((t 10), iA cI (dy.D)), ((t 11), iA cI (dy.F)), ((t 12), iA cI (dy.W)), (q9, lA cL o)] s.heap.size) s.heap s.heap [] := va_S.rf
  obtain ⟨A, hAe⟩ : ∃ A, A = va_A [(h, oX a t), ((a 0), oC a (cy.mo) (cy.co) (cy.le)), ((a 3), iA cI (cy.K)), ((a 4), iA cI (cy.Q)), ((a 5), iA cI (cy.L)), ((a 6), iA cI (cy.H)), ((a 7), iA cI (cy.M)), ((a 8), iA cI (cy.B)), ((a 9), iA cI (cy.C)), ((a 10), iA cI (cy.D)), ((a 11), iA cI (cy.F)), ((a 12), iA cI (cy.W)), ((t 0), oC t (dy.mo) (dy.co) (dy.le)), ((t 3), iA cI (dy.K)), ((t 4), iA cI (dy.Q)), ((t 5), iA cI (dy.L)), ((t 6), iA cI (dy.H)), ((t 7), iA cI (dy.M)), ((t 8), iA cI (dy.B)), ((t 9), iA cI (dy.C)), ((t 10), iA cI (dy.D)), ((t 11), iA cI (dy.F)), ((t 12), iA cI (dy.W)), (q9, lA cL o)] s.heap.size := ⟨_, rfl⟩
  rw [← hAe] at hD hA hS hZ
  have FX : CallFix p m c cL_sail 4 s ([.ref h, .int x, .ref q9] : List Value).toArray wsL_sail RL := ⟨hx, hb, hml, hown, hts⟩
  have hl := lv_entry ([.ref h, .int x, .ref q9]) (n := 4) (Nat.le_of_ble_eq_true rfl)
  rw [lg_entry_eq]
  generalize (lg_sl ([.ref h, .int x, .ref q9]) ++ List.replicate (4 - (lg_sl ([.ref h, .int x, .ref q9])).length) Slot.unset).toArray = ls at hl ⊢
  have hl : lv_has ls 4 [(0, .ref h), (1, .int x), (2, .ref q9)] := hl
  refine wq (fun Q hQ => ?_)
  have hzc : 0 + 0 ≤ (headSpec wsL_sail rmL_sail).room.cells := Nat.zero_le _
  have hzs : 0 + 0 ≤ (headSpec wsL_sail rmL_sail).room.slots := Nat.zero_le _
  have hS0 := hg.2.1
  have hgt := hg.2.2.1
  have hk := hg.1
  have hkd := hg.2.2.2
  rcases Decidable.em ((cdSail k x) = 0) with hcd | hcd
  · skip
    refine w_widen (k := 1) (n := 6) (by decide) (by decide) ?_
    have hzc : 1 + 0 ≤ (headSpec wsL_sail rmL_sail).room.cells := Nat.le_of_ble_eq_true rfl
    have hzs : 6 + 0 ≤ (headSpec wsL_sail rmL_sail).room.slots := Nat.le_of_ble_eq_true rfl
    obtain ⟨hin, hl1⟩ := sail_0 hcd
    refine lv_aload_n hx hb dL_sail_0 rfl (lv_at hl 2 rfl) ?_
    refine lv_iconst (v := 0) hx hb dL_sail_1 (by decide) ?_
    refine lv_aload_n hx hb dL_sail_2 rfl (lv_at hl 0 rfl) ?_
    refine lv_iload_n hx hb dL_sail_3 rfl (lv_at hl 1 rfl) ?_
    refine cr_i (va_runV (As := [.int x]) (rest := [.int 0, .ref q9]) FX (c_X1_sail_ok l G cI h a t cy.mo cy.co cy.le cy.K cy.Q cy.L cy.H cy.M cy.B cy.C cy.D cy.F cy.W k x hk hS0 hin hl1) (cwV 1 hts gL_sail_X1_sail rfl rfl rfl (by decide +kernel) ⟨Nat.le_of_ble_eq_true rfl, Nat.le_of_ble_eq_true rfl⟩) (rdV hK hP hN [0, 1, 2, 3, 4, 5, 6, 7, 8, 9, 10, 11] rfl (ci := 1) (q0 := 0) rfl rfl) rfl rfl hl.1 rfl (lv_room (Nat.le_of_ble_eq_true rfl)) dL_sail_4 ⟨hzc, hzs⟩) hS hP (fun H locs hP hS => ?_)
    refine lv_i2l (v := (toI (dst (PB false k) 3 x.toNatClampNeg)).toInt64) hx hb dL_sail_7 rfl ?_
    refine va_last hx hb hKL hP hD hS 23 0 rfl rfl vp_in01 dL_sail_8 (fun H locs hP hD hS => ?_)
    have hP : va_P G vwCl [(h, oX a t), ((a 0), oC a (cy.mo) (cy.co) (cy.le)), ((a 3), iA cI (cy.K)), ((a 4), iA cI (cy.Q)), ((a 5), iA cI (cy.L)), ((a 6), iA cI (cy.H)), ((a 7), iA cI (cy.M)), ((a 8), iA cI (cy.B)), ((a 9), iA cI (cy.C)), ((a 10), iA cI (cy.D)), ((a 11), iA cI (cy.F)), ((a 12), iA cI (cy.W)), ((t 0), oC t (dy.mo) (dy.co) (dy.le)), ((t 3), iA cI (dy.K)), ((t 4), iA cI (dy.Q)), ((t 5), iA cI (dy.L)), ((t 6), iA cI (dy.H)), ((t 7), iA cI (dy.M)), ((t 8), iA cI (dy.B)), ((t 9), iA cI (dy.C)), ((t 10), iA cI (dy.D)), ((t 11), iA cI (dy.F)), ((t 12), iA cI (dy.W)), (q9, lA cL (vp_updL o (0 : Int32).toNatClampNeg ((toI (dst (PB false k) 3 x.toNatClampNeg)).toInt64)))] H := hP
    have hD : va_D A [(h, oX a t), ((a 0), oC a (cy.mo) (cy.co) (cy.le)), ((a 3), iA cI (cy.K)), ((a 4), iA cI (cy.Q)), ((a 5), iA cI (cy.L)), ((a 6), iA cI (cy.H)), ((a 7), iA cI (cy.M)), ((a 8), iA cI (cy.B)), ((a 9), iA cI (cy.C)), ((a 10), iA cI (cy.D)), ((a 11), iA cI (cy.F)), ((a 12), iA cI (cy.W)), ((t 0), oC t (dy.mo) (dy.co) (dy.le)), ((t 3), iA cI (dy.K)), ((t 4), iA cI (dy.Q)), ((t 5), iA cI (dy.L)), ((t 6), iA cI (dy.H)), ((t 7), iA cI (dy.M)), ((t 8), iA cI (dy.B)), ((t 9), iA cI (dy.C)), ((t 10), iA cI (dy.D)), ((t 11), iA cI (dy.F)), ((t 12), iA cI (dy.W)), (q9, lA cL (vp_updL o (0 : Int32).toNatClampNeg ((toI (dst (PB false k) 3 x.toNatClampNeg)).toInt64)))] := hD
    refine lv_goto (tgt := 18) hx hb dL_sail_9 (by decide) ?_
    refine lv_iconst (v := 0) hx hb dL_sail_18 (by decide) ?_
    subst hQ
    subst hAe
    exact wr_i (cy, dy, vp_updL o (0 : Int32).toNatClampNeg ((toI (dst (PB false k) 3 x.toNatClampNeg))).toInt64) (⟨hcd.symm, hg, ⟨rfl, rfl, rfl⟩, fun _ => updL_at (o := o) (j := (0 : Int32).toNatClampNeg) (rfl)⟩) hx hb hr hP hD hS hlocks dL_sail_19
  · skip
    refine lv_aload_n hx hb dL_sail_0 rfl (lv_at hl 2 rfl) ?_
    refine lv_iconst (v := 0) hx hb dL_sail_1 (by decide) ?_
    refine lv_aload_n hx hb dL_sail_2 rfl (lv_at hl 0 rfl) ?_
    refine lv_iload_n hx hb dL_sail_3 rfl (lv_at hl 1 rfl) ?_
    refine xr_i (vx_runV (As := [.int x]) (rest := [.int 0, .ref q9]) FX (c_X1_sail_no l G cI hst h a t cy.mo cy.co cy.le cy.K cy.Q cy.L cy.H cy.M cy.B cy.C cy.D cy.F cy.W k x hk hcd) (cwV 1 hts gL_sail_X1_sail rfl rfl rfl (by decide +kernel) ⟨Nat.le_of_ble_eq_true rfl, Nat.le_of_ble_eq_true rfl⟩) (xrV hK hP hN hE hX hZ hS [0, 1, 2, 3, 4, 5, 6, 7, 8, 9, 10, 11] rfl (ci := 1) (q0 := 0) rfl rfl) rfl rfl hl.1 rfl (lv_room (Nat.le_of_ble_eq_true rfl)) dL_sail_4 ⟨Nat.le_of_ble_eq_true rfl, Nat.le_of_ble_eq_true rfl⟩) hS hP (fun E ce q8 H locs hcE hP hS h1 h2 h3 => ?_)
    rcases hcE with ⟨rfl, hce⟩ | ⟨rfl, hce⟩
    · skip
      refine vx_catch hown [] ⟨0, 9, 12, 13⟩ [⟨0, 9, 15, 15⟩] htab (fun z hz => nomatch hz) (by decide) (by decide) (hts (.classLink RL 13 "java/lang/IndexOutOfBoundsException") (by decide +kernel)) (EXW_use hX (.castable "java/lang/IndexOutOfBoundsException" "java/lang/IndexOutOfBoundsException") (by decide)) h1 h2 h3 ?_
      refine W.eq (g2 := F0 m 12 ls [.ref q8]) rfl ?_
      refine lv_astore_n (lv' := [(3, .ref q8), (0, .ref h), (1, .int x), (2, .ref q9)]) hx hb dL_sail_12 rfl hl (by decide) rfl (fun ls hl => ?_)
      refine lv_iconst (v := 1) hx hb dL_sail_13 (by decide) ?_
      subst hQ
      subst hAe
      exact wr_i (cy, dy, o) (⟨hce.symm, hg, ⟨rfl, rfl, rfl⟩, fun h9 => absurd h9 hcd⟩) hx hb hr hP hD hS hlocks dL_sail_14
    · skip
      refine vx_catch hown [⟨0, 9, 12, 13⟩] ⟨0, 9, 15, 15⟩ [] htab (fun z hz => by obtain rfl := List.mem_singleton.mp hz; exact Or.inr ⟨by decide, "java/lang/IndexOutOfBoundsException", hts (.classLink RL 13 "java/lang/IndexOutOfBoundsException") (by decide +kernel), hNC.1⟩) (by decide) (by decide) (hts (.classLink RL 15 "java/lang/IllegalStateException") (by decide +kernel)) (EXW_use hX (.castable "java/lang/IllegalStateException" "java/lang/IllegalStateException") (by decide)) h1 h2 h3 ?_
      refine W.eq (g2 := F0 m 15 ls [.ref q8]) rfl ?_
      refine lv_astore_n (lv' := [(3, .ref q8), (0, .ref h), (1, .int x), (2, .ref q9)]) hx hb dL_sail_15 rfl hl (by decide) rfl (fun ls hl => ?_)
      refine lv_iconst (v := 2) hx hb dL_sail_16 (by decide) ?_
      subst hQ
      subst hAe
      exact wr_i (cy, dy, o) (⟨hce.symm, hg, ⟨rfl, rfl, rfl⟩, fun h9 => absurd h9 hcd⟩) hx hb hr hP hD hS hlocks dL_sail_17

def rmL_pass : Room := { frames := 8, cells := 1, slots := 6, locals := 140 }
set_option maxHeartbeats 4000000 in
set_option maxRecDepth 100000 in
theorem c_L_pass (l : Launch) (G : va_G) (cI cL : ClassId) (hst : l.stackTraces = false) (h q9 : Nat) (a t : Nat → Nat) (cy dy : Cy) (o : Nat → Int64) (k : Nat → Int32) (n9 : Int32) (hg : Sd cy k) (sz : Nat) : Met l yL_pass wsL_pass rmL_pass (va_Pc [.ref h, .int n9, .ref q9] (WrPX G cI cL [(h, oX a t), ((a 0), oC a (cy.mo) (cy.co) (cy.le)), ((a 3), iA cI (cy.K)), ((a 4), iA cI (cy.Q)), ((a 5), iA cI (cy.L)), ((a 6), iA cI (cy.H)), ((a 7), iA cI (cy.M)), ((a 8), iA cI (cy.B)), ((a 9), iA cI (cy.C)), ((a 10), iA cI (cy.D)), ((a 11), iA cI (cy.F)), ((a 12), iA cI (cy.W)), ((t 0), oC t (dy.mo) (dy.co) (dy.le)), ((t 3), iA cI (dy.K)), ((t 4), iA cI (dy.Q)), ((t 5), iA cI (dy.L)), ((t 6), iA cI (dy.H)), ((t 7), iA cI (dy.M)), ((t 8), iA cI (dy.B)), ((t 9), iA cI (dy.C)), ((t 10), iA cI (dy.D)), ((t 11), iA cI (dy.F)), ((t 12), iA cI (dy.W)), (q9, lA cL o)] sz)) (va_Qi (fun (r : Int32) (u : Cy × Cy × (Nat → Int64)) => r = (cdPass n9) ∧ Sd u.1 (nmK (cdPass n9) k n9.toNatClampNeg) ∧ (u.1.mo = nmM (cdPass n9) cy.mo n9.toNatClampNeg ∧ u.1.co = nmC (cdPass n9) k cy.co n9.toNatClampNeg ∧ u.1.le = nmL (cdPass n9) k cy.le n9.toNatClampNeg) ∧ ((cdPass n9) = 0 → u.2.2 (0 : Int32).toNatClampNeg = Int32.toInt64 (incS k n9.toNatClampNeg))) (WrB G [(h, oX a t), ((a 0), oC a (cy.mo) (cy.co) (cy.le)), ((a 3), iA cI (cy.K)), ((a 4), iA cI (cy.Q)), ((a 5), iA cI (cy.L)), ((a 6), iA cI (cy.H)), ((a 7), iA cI (cy.M)), ((a 8), iA cI (cy.B)), ((a 9), iA cI (cy.C)), ((a 10), iA cI (cy.D)), ((a 11), iA cI (cy.F)), ((a 12), iA cI (cy.W)), ((t 0), oC t (dy.mo) (dy.co) (dy.le)), ((t 3), iA cI (dy.K)), ((t 4), iA cI (dy.Q)), ((t 5), iA cI (dy.L)), ((t 6), iA cI (dy.H)), ((t 7), iA cI (dy.M)), ((t 8), iA cI (dy.B)), ((t 9), iA cI (dy.C)), ((t 10), iA cI (dy.D)), ((t 11), iA cI (dy.F)), ((t 12), iA cI (dy.W)), (q9, lA cL o)] sz (fun u => [(h, oX a t), (a 0, oC a (u.1.mo) (u.1.co) (u.1.le)), (a 3, iA cI (u.1.K)), (a 4, iA cI (u.1.Q)), (a 5, iA cI (u.1.L)), (a 6, iA cI (u.1.H)), (a 7, iA cI (u.1.M)), (a 8, iA cI (u.1.B)), (a 9, iA cI (u.1.C)), (a 10, iA cI (u.1.D)), (a 11, iA cI (u.1.F)), (a 12, iA cI (u.1.W)), (t 0, oC t (u.2.1.mo) (u.2.1.co) (u.2.1.le)), (t 3, iA cI (u.2.1.K)), (t 4, iA cI (u.2.1.Q)), (t 5, iA cI (u.2.1.L)), (t 6, iA cI (u.2.1.H)), (t 7, iA cI (u.2.1.M)), (t 8, iA cI (u.2.1.B)), (t 9, iA cI (u.2.1.C)), (t 10, iA cI (u.2.1.D)), (t 11, iA cI (u.2.1.F)), (t 12, iA cI (u.2.1.W)), (q9, lA cL (u.2.2))])) (va_A [(h, oX a t), ((a 0), oC a (cy.mo) (cy.co) (cy.le)), ((a 3), iA cI (cy.K)), ((a 4), iA cI (cy.Q)), ((a 5), iA cI (cy.L)), ((a 6), iA cI (cy.H)), ((a 7), iA cI (cy.M)), ((a 8), iA cI (cy.B)), ((a 9), iA cI (cy.C)), ((a 10), iA cI (cy.D)), ((a 11), iA cI (cy.F)), ((a 12), iA cI (cy.W)), ((t 0), oC t (dy.mo) (dy.co) (dy.le)), ((t 3), iA cI (dy.K)), ((t 4), iA cI (dy.Q)), ((t 5), iA cI (dy.L)), ((t 6), iA cI (dy.H)), ((t 7), iA cI (dy.M)), ((t 8), iA cI (dy.B)), ((t 9), iA cI (dy.C)), ((t 10), iA cI (dy.D)), ((t 11), iA cI (dy.F)), ((t 12), iA cI (dy.W)), (q9, lA cL o)] sz)) 1 6 (va_A [(h, oX a t), ((a 0), oC a (cy.mo) (cy.co) (cy.le)), ((a 3), iA cI (cy.K)), ((a 4), iA cI (cy.Q)), ((a 5), iA cI (cy.L)), ((a 6), iA cI (cy.H)), ((a 7), iA cI (cy.M)), ((a 8), iA cI (cy.B)), ((a 9), iA cI (cy.C)), ((a 10), iA cI (cy.D)), ((a 11), iA cI (cy.F)), ((a 12), iA cI (cy.W)), ((t 0), oC t (dy.mo) (dy.co) (dy.le)), ((t 3), iA cI (dy.K)), ((t 4), iA cI (dy.Q)), ((t 5), iA cI (dy.L)), ((t 6), iA cI (dy.H)), ((t 7), iA cI (dy.M)), ((t 8), iA cI (dy.B)), ((t 9), iA cI (dy.C)), ((t 10), iA cI (dy.D)), ((t 11), iA cI (dy.F)), ((t 12), iA cI (dy.W)), (q9, lA cL o)] sz) := by
  refine Met_ofWH (cc := cL_pass) (maxL := 4) (ret := (some .int)) (hh := [(0, 9, 12, 24)]) (by decide) rfl ?_
  intro p e s m args below meth c s₁ B hml hv
  obtain ⟨rfl, ⟨hsz, hP, hK, hD0, hN⟩, hKL, hE, hX, hNC, hZ⟩ := hv
  have hx := B.exec
  have hb := B.bytes
  have hr := B.returns
  have hlocks := B.notSynchronized
  have hts := atoms_spec (ws := wsL_pass) B.pre
  have htab : c.exceptionTable.toList = tableOf [(0, 9, 12, 24)] := vx_table (x := yL_pass) (y := yL_pass) B (hts (.codeWith yL_pass cL_pass 4 (some .int) [(0, 9, 12, 24)]) (by unfold wsL_pass; exact List.mem_cons_self))
  have hown : s.vm.findClass RL = some m.cls := findClass_of_methodNamed B.named
  subst hsz
  have hD := hD0.self (sz := s.heap.size)
  have hA : ∀ q : Nat, s.heap.size ≤ q → va_A [(h, oX a t), ((a 0), oC a (cy.mo) (cy.co) (cy.le)), ((a 3), iA cI (cy.K)), ((a 4), iA cI (cy.Q)), ((a 5), iA cI (cy.L)), ((a 6), iA cI (cy.H)), ((a 7), iA cI (cy.M)), ((a 8), iA cI (cy.B)), ((a 9), iA cI (cy.C)), ((a 10), iA cI (cy.D)), ((a 11), iA cI (cy.F)), ((a 12), iA cI (cy.W)), ((t 0), oC t (dy.mo) (dy.co) (dy.le)), ((t 3), iA cI (dy.K)), ((t 4), iA cI (dy.Q)), ((t 5), iA cI (dy.L)), ((t 6), iA cI (dy.H)), ((t 7), iA cI (dy.M)), ((t 8), iA cI (dy.B)), ((t 9), iA cI (dy.C)), ((t 10), iA cI (dy.D)), ((t 11), iA cI (dy.F)), ((t 12), iA cI (dy.W)), (q9, lA cL o)] s.heap.size q := fun q h => Or.inr h
  have hS : va_S (va_A [(h, oX a t), ((a 0), oC a (cy.mo) (cy.co) (cy.le)), ((a 3), iA cI (cy.K)), ((a 4), iA cI (cy.Q)), ((a 5), iA cI (cy.L)), ((a 6), iA cI (cy.H)), ((a 7), iA cI (cy.M)), ((a 8), iA cI (cy.B)), ((a 9), iA cI (cy.C)), ((a 10), iA cI (cy.D)), ((a 11), iA cI (cy.F)), ((a 12), iA cI (cy.W)), ((t 0), oC t (dy.mo) (dy.co) (dy.le)), ((t 3), iA cI (dy.K)), ((t 4), iA cI (dy.Q)), ((t 5), iA cI (dy.L)), ((t 6), iA cI (dy.H)), ((t 7), iA cI (dy.M)), ((t 8), iA cI (dy.B)), ((t 9), iA cI (dy.C)), ((t 10), iA cI (dy.D)), ((t 11), iA cI (dy.F)), ((t 12), iA cI (dy.W)), (q9, lA cL o)] s.heap.size) s.heap s.heap [] := va_S.rf
  obtain ⟨A, hAe⟩ : ∃ A, A = va_A [(h, oX a t), ((a 0), oC a (cy.mo) (cy.co) (cy.le)), ((a 3), iA cI (cy.K)), ((a 4), iA cI (cy.Q)), ((a 5), iA cI (cy.L)), ((a 6), iA cI (cy.H)), ((a 7), iA cI (cy.M)), ((a 8), iA cI (cy.B)), ((a 9), iA cI (cy.C)), ((a 10), iA cI (cy.D)), ((a 11), iA cI (cy.F)), ((a 12), iA cI (cy.W)), ((t 0), oC t (dy.mo) (dy.co) (dy.le)), ((t 3), iA cI (dy.K)), ((t 4), iA cI (dy.Q)), ((t 5), iA cI (dy.L)), ((t 6), iA cI (dy.H)), ((t 7), iA cI (dy.M)), ((t 8), iA cI (dy.B)), ((t 9), iA cI (dy.C)), ((t 10), iA cI (dy.D)), ((t 11), iA cI (dy.F)), ((t 12), iA cI (dy.W)), (q9, lA cL o)] s.heap.size := ⟨_, rfl⟩
  rw [← hAe] at hD hA hS hZ
  have FX : CallFix p m c cL_pass 4 s ([.ref h, .int n9, .ref q9] : List Value).toArray wsL_pass RL := ⟨hx, hb, hml, hown, hts⟩
  have hl := lv_entry ([.ref h, .int n9, .ref q9]) (n := 4) (Nat.le_of_ble_eq_true rfl)
  rw [lg_entry_eq]
  generalize (lg_sl ([.ref h, .int n9, .ref q9]) ++ List.replicate (4 - (lg_sl ([.ref h, .int n9, .ref q9])).length) Slot.unset).toArray = ls at hl ⊢
  have hl : lv_has ls 4 [(0, .ref h), (1, .int n9), (2, .ref q9)] := hl
  refine wq (fun Q hQ => ?_)
  have hzc : 0 + 0 ≤ (headSpec wsL_pass rmL_pass).room.cells := Nat.zero_le _
  have hzs : 0 + 0 ≤ (headSpec wsL_pass rmL_pass).room.slots := Nat.zero_le _
  have hS0 := hg.2.1
  have hgt := hg.2.2.1
  have hk := hg.1
  have hkd := hg.2.2.2
  rcases Decidable.em ((cdPass n9) = 0) with hcd | hcd
  · skip
    refine w_widen (k := 1) (n := 6) (by decide) (by decide) ?_
    have hzc : 1 + 0 ≤ (headSpec wsL_pass rmL_pass).room.cells := Nat.le_of_ble_eq_true rfl
    have hzs : 6 + 0 ≤ (headSpec wsL_pass rmL_pass).room.slots := Nat.le_of_ble_eq_true rfl
    have hin := pass_0 hcd
    refine lv_aload_n hx hb dL_pass_0 rfl (lv_at hl 2 rfl) ?_
    refine lv_iconst (v := 0) hx hb dL_pass_1 (by decide) ?_
    refine lv_aload_n hx hb dL_pass_2 rfl (lv_at hl 0 rfl) ?_
    refine lv_iload_n hx hb dL_pass_3 rfl (lv_at hl 1 rfl) ?_
    refine cw_i (wr := [((t 0), oC t (dy.mo) (dy.co) (dy.le)), ((t 3), iA cI (dy.K)), ((t 4), iA cI (dy.Q)), ((t 5), iA cI (dy.L)), ((t 6), iA cI (dy.H)), ((t 7), iA cI (dy.M)), ((t 8), iA cI (dy.B)), ((t 9), iA cI (dy.C)), ((t 10), iA cI (dy.D)), ((t 11), iA cI (dy.F)), ((t 12), iA cI (dy.W)), (q9, lA cL o)]) (va_runV (As := [.int n9]) (rest := [.int 0, .ref q9]) FX (c_X1_pass_ok l G cI h a t cy.mo cy.co cy.le cy.K cy.Q cy.L cy.H cy.M cy.B cy.C cy.D cy.F cy.W k n9 hk hS0 hgt hin _) (cwV 1 hts gL_pass_X1_pass rfl rfl rfl (by decide +kernel) ⟨Nat.le_of_ble_eq_true rfl, Nat.le_of_ble_eq_true rfl⟩) (wrV hK hP hD hN [0, 1, 2, 3, 4, 5, 6, 7, 8, 9, 10, 11] (by decide) rfl rfl (ci := 1) (q0 := 0) rfl rfl) rfl rfl hl.1 rfl (lv_room (Nat.le_of_ble_eq_true rfl)) dL_pass_4 ⟨Nat.le_of_ble_eq_true rfl, Nat.le_of_ble_eq_true rfl⟩) hS hP hD hA [0, 1, 2, 3, 4, 5, 6, 7, 8, 9, 10, 11] [12, 13, 14, 15, 16, 17, 18, 19, 20, 21, 22, 23] rfl rfl (by decide) (by decide) (fun r9 u H locs hw hP hD hS => ?_)
    obtain ⟨K1, Q1, L1, H1, M1, B1, C1, D1, W1⟩ := u
    have hP := hP.sub (ws' := [(h, oX a t), ((a 0), oC a (cy.mo + nI n9.toNatClampNeg) (cy.co + incS k n9.toNatClampNeg) (cy.le + lftS k n9.toNatClampNeg)), ((a 3), iA cI K1), ((a 4), iA cI Q1), ((a 5), iA cI L1), ((a 6), iA cI H1), ((a 7), iA cI M1), ((a 8), iA cI B1), ((a 9), iA cI C1), ((a 10), iA cI D1), ((a 11), iA cI (cy.F)), ((a 12), iA cI W1), ((t 0), oC t (dy.mo) (dy.co) (dy.le)), ((t 3), iA cI (dy.K)), ((t 4), iA cI (dy.Q)), ((t 5), iA cI (dy.L)), ((t 6), iA cI (dy.H)), ((t 7), iA cI (dy.M)), ((t 8), iA cI (dy.B)), ((t 9), iA cI (dy.C)), ((t 10), iA cI (dy.D)), ((t 11), iA cI (dy.F)), ((t 12), iA cI (dy.W)), (q9, lA cL o)]) [12, 13, 14, 15, 16, 17, 18, 19, 20, 21, 22, 23, 0, 1, 2, 3, 4, 5, 6, 7, 8, 9, 10, 11] rfl
    have hD := hD.sub (ws' := [(h, oX a t), ((a 0), oC a (cy.mo + nI n9.toNatClampNeg) (cy.co + incS k n9.toNatClampNeg) (cy.le + lftS k n9.toNatClampNeg)), ((a 3), iA cI K1), ((a 4), iA cI Q1), ((a 5), iA cI L1), ((a 6), iA cI H1), ((a 7), iA cI M1), ((a 8), iA cI B1), ((a 9), iA cI C1), ((a 10), iA cI D1), ((a 11), iA cI (cy.F)), ((a 12), iA cI W1), ((t 0), oC t (dy.mo) (dy.co) (dy.le)), ((t 3), iA cI (dy.K)), ((t 4), iA cI (dy.Q)), ((t 5), iA cI (dy.L)), ((t 6), iA cI (dy.H)), ((t 7), iA cI (dy.M)), ((t 8), iA cI (dy.B)), ((t 9), iA cI (dy.C)), ((t 10), iA cI (dy.D)), ((t 11), iA cI (dy.F)), ((t 12), iA cI (dy.W)), (q9, lA cL o)]) [12, 13, 14, 15, 16, 17, 18, 19, 20, 21, 22, 23, 0, 1, 2, 3, 4, 5, 6, 7, 8, 9, 10, 11] (by decide) rfl
    refine lv_i2l (v := r9.toInt64) hx hb dL_pass_7 rfl ?_
    refine va_last hx hb hKL hP hD hS 23 0 rfl rfl vp_in01 dL_pass_8 (fun H locs hP hD hS => ?_)
    have hP : va_P G vwCl [(h, oX a t), ((a 0), oC a (cy.mo + nI n9.toNatClampNeg) (cy.co + incS k n9.toNatClampNeg) (cy.le + lftS k n9.toNatClampNeg)), ((a 3), iA cI K1), ((a 4), iA cI Q1), ((a 5), iA cI L1), ((a 6), iA cI H1), ((a 7), iA cI M1), ((a 8), iA cI B1), ((a 9), iA cI C1), ((a 10), iA cI D1), ((a 11), iA cI (cy.F)), ((a 12), iA cI W1), ((t 0), oC t (dy.mo) (dy.co) (dy.le)), ((t 3), iA cI (dy.K)), ((t 4), iA cI (dy.Q)), ((t 5), iA cI (dy.L)), ((t 6), iA cI (dy.H)), ((t 7), iA cI (dy.M)), ((t 8), iA cI (dy.B)), ((t 9), iA cI (dy.C)), ((t 10), iA cI (dy.D)), ((t 11), iA cI (dy.F)), ((t 12), iA cI (dy.W)), (q9, lA cL (vp_updL o (0 : Int32).toNatClampNeg (r9.toInt64)))] H := hP
    have hD : va_D A [(h, oX a t), ((a 0), oC a (cy.mo + nI n9.toNatClampNeg) (cy.co + incS k n9.toNatClampNeg) (cy.le + lftS k n9.toNatClampNeg)), ((a 3), iA cI K1), ((a 4), iA cI Q1), ((a 5), iA cI L1), ((a 6), iA cI H1), ((a 7), iA cI M1), ((a 8), iA cI B1), ((a 9), iA cI C1), ((a 10), iA cI D1), ((a 11), iA cI (cy.F)), ((a 12), iA cI W1), ((t 0), oC t (dy.mo) (dy.co) (dy.le)), ((t 3), iA cI (dy.K)), ((t 4), iA cI (dy.Q)), ((t 5), iA cI (dy.L)), ((t 6), iA cI (dy.H)), ((t 7), iA cI (dy.M)), ((t 8), iA cI (dy.B)), ((t 9), iA cI (dy.C)), ((t 10), iA cI (dy.D)), ((t 11), iA cI (dy.F)), ((t 12), iA cI (dy.W)), (q9, lA cL (vp_updL o (0 : Int32).toNatClampNeg (r9.toInt64)))] := hD
    refine lv_goto (tgt := 15) hx hb dL_pass_9 (by decide) ?_
    refine lv_iconst (v := 0) hx hb dL_pass_15 (by decide) ?_
    subst hQ
    subst hAe
    exact wr_i (⟨(cy.mo + nI n9.toNatClampNeg), (cy.co + incS k n9.toNatClampNeg), (cy.le + lftS k n9.toNatClampNeg), K1, Q1, L1, H1, M1, B1, C1, D1, cy.F, W1⟩, dy, vp_updL o (0 : Int32).toNatClampNeg r9.toInt64) (⟨hcd.symm, by rw [hcd, nm_0]; exact ⟨hw.2.1, hw.2.2, wtr_itK hgt _, kd_itK hkd _⟩, ⟨by rw [hcd, nmM_0], by rw [hcd, nmC_0], by rw [hcd, nmL_0]⟩, fun _ => updL_at (o := o) (j := (0 : Int32).toNatClampNeg) (hw.1)⟩) hx hb hr hP hD hS hlocks dL_pass_16
  · skip
    refine lv_aload_n hx hb dL_pass_0 rfl (lv_at hl 2 rfl) ?_
    refine lv_iconst (v := 0) hx hb dL_pass_1 (by decide) ?_
    refine lv_aload_n hx hb dL_pass_2 rfl (lv_at hl 0 rfl) ?_
    refine lv_iload_n hx hb dL_pass_3 rfl (lv_at hl 1 rfl) ?_
    refine xr_i (vx_runV (As := [.int n9]) (rest := [.int 0, .ref q9]) FX (c_X1_pass_no l G cI hst h a t cy.mo cy.co cy.le cy.K cy.Q cy.L cy.H cy.M cy.B cy.C cy.D cy.F cy.W k n9 hk hcd) (cwV 1 hts gL_pass_X1_pass rfl rfl rfl (by decide +kernel) ⟨Nat.le_of_ble_eq_true rfl, Nat.le_of_ble_eq_true rfl⟩) (xrV hK hP hN hE hX hZ hS [0, 1, 2, 3, 4, 5, 6, 7, 8, 9, 10, 11] rfl (ci := 1) (q0 := 0) rfl rfl) rfl rfl hl.1 rfl (lv_room (Nat.le_of_ble_eq_true rfl)) dL_pass_4 ⟨Nat.le_of_ble_eq_true rfl, Nat.le_of_ble_eq_true rfl⟩) hS hP (fun E ce q8 H locs hcE hP hS h1 h2 h3 => ?_)
    obtain ⟨rfl, hce⟩ := hcE
    · skip
      refine vx_catch hown [] ⟨0, 9, 12, 24⟩ [] htab (fun z hz => nomatch hz) (by decide) (by decide) (hts (.classLink RL 24 "java/lang/IllegalArgumentException") (by decide +kernel)) (EXW_use hX (.castable "java/lang/IllegalArgumentException" "java/lang/IllegalArgumentException") (by decide)) h1 h2 h3 ?_
      refine W.eq (g2 := F0 m 12 ls [.ref q8]) rfl ?_
      refine lv_astore_n (lv' := [(3, .ref q8), (0, .ref h), (1, .int n9), (2, .ref q9)]) hx hb dL_pass_12 rfl hl (by decide) rfl (fun ls hl => ?_)
      refine lv_iconst (v := 1) hx hb dL_pass_13 (by decide) ?_
      subst hQ
      subst hAe
      exact wr_i (cy, dy, o) (⟨hce.symm, by rw [nm_n hcd]; exact hg, ⟨by rw [nmM_n hcd], by rw [nmC_n hcd], by rw [nmL_n hcd]⟩, fun h9 => absurd h9 hcd⟩) hx hb hr hP hD hS hlocks dL_pass_14

def rmL_foresee : Room := { frames := 8, cells := 1, slots := 6, locals := 141 }
set_option maxHeartbeats 4000000 in
set_option maxRecDepth 100000 in
theorem c_L_foresee (l : Launch) (G : va_G) (cI cL : ClassId) (hst : l.stackTraces = false) (h q9 : Nat) (a t : Nat → Nat) (cy dy : Cy) (o : Nat → Int64) (k : Nat → Int32) (n9 w : Int32) (hg : Sd cy k) (sz : Nat) : Met l yL_foresee wsL_foresee rmL_foresee (va_Pc [.ref h, .int n9, .int w, .ref q9] (WrPX G cI cL [(h, oX a t), ((a 0), oC a (cy.mo) (cy.co) (cy.le)), ((a 3), iA cI (cy.K)), ((a 4), iA cI (cy.Q)), ((a 5), iA cI (cy.L)), ((a 6), iA cI (cy.H)), ((a 7), iA cI (cy.M)), ((a 8), iA cI (cy.B)), ((a 9), iA cI (cy.C)), ((a 10), iA cI (cy.D)), ((a 11), iA cI (cy.F)), ((a 12), iA cI (cy.W)), ((t 0), oC t (dy.mo) (dy.co) (dy.le)), ((t 3), iA cI (dy.K)), ((t 4), iA cI (dy.Q)), ((t 5), iA cI (dy.L)), ((t 6), iA cI (dy.H)), ((t 7), iA cI (dy.M)), ((t 8), iA cI (dy.B)), ((t 9), iA cI (dy.C)), ((t 10), iA cI (dy.D)), ((t 11), iA cI (dy.F)), ((t 12), iA cI (dy.W)), (q9, lA cL o)] sz)) (va_Qi (fun (r : Int32) (u : Cy × Cy × (Nat → Int64)) => r = (cdFore n9 w) ∧ Sd u.1 k ∧ (u.1.mo = cy.mo ∧ u.1.co = cy.co ∧ u.1.le = cy.le) ∧ ((cdFore n9 w) = 0 → u.2.2 (0 : Int32).toNatClampNeg = Int32.toInt64 (tot (itK k n9.toNatClampNeg) (cy.mo + nI n9.toNatClampNeg) (cy.co + incS k n9.toNatClampNeg) (cy.le + lftS k n9.toNatClampNeg) w))) (WrB G [(h, oX a t), ((a 0), oC a (cy.mo) (cy.co) (cy.le)), ((a 3), iA cI (cy.K)), ((a 4), iA cI (cy.Q)), ((a 5), iA cI (cy.L)), ((a 6), iA cI (cy.H)), ((a 7), iA cI (cy.M)), ((a 8), iA cI (cy.B)), ((a 9), iA cI (cy.C)), ((a 10), iA cI (cy.D)), ((a 11), iA cI (cy.F)), ((a 12), iA cI (cy.W)), ((t 0), oC t (dy.mo) (dy.co) (dy.le)), ((t 3), iA cI (dy.K)), ((t 4), iA cI (dy.Q)), ((t 5), iA cI (dy.L)), ((t 6), iA cI (dy.H)), ((t 7), iA cI (dy.M)), ((t 8), iA cI (dy.B)), ((t 9), iA cI (dy.C)), ((t 10), iA cI (dy.D)), ((t 11), iA cI (dy.F)), ((t 12), iA cI (dy.W)), (q9, lA cL o)] sz (fun u => [(h, oX a t), (a 0, oC a (u.1.mo) (u.1.co) (u.1.le)), (a 3, iA cI (u.1.K)), (a 4, iA cI (u.1.Q)), (a 5, iA cI (u.1.L)), (a 6, iA cI (u.1.H)), (a 7, iA cI (u.1.M)), (a 8, iA cI (u.1.B)), (a 9, iA cI (u.1.C)), (a 10, iA cI (u.1.D)), (a 11, iA cI (u.1.F)), (a 12, iA cI (u.1.W)), (t 0, oC t (u.2.1.mo) (u.2.1.co) (u.2.1.le)), (t 3, iA cI (u.2.1.K)), (t 4, iA cI (u.2.1.Q)), (t 5, iA cI (u.2.1.L)), (t 6, iA cI (u.2.1.H)), (t 7, iA cI (u.2.1.M)), (t 8, iA cI (u.2.1.B)), (t 9, iA cI (u.2.1.C)), (t 10, iA cI (u.2.1.D)), (t 11, iA cI (u.2.1.F)), (t 12, iA cI (u.2.1.W)), (q9, lA cL (u.2.2))])) (va_A [(h, oX a t), ((a 0), oC a (cy.mo) (cy.co) (cy.le)), ((a 3), iA cI (cy.K)), ((a 4), iA cI (cy.Q)), ((a 5), iA cI (cy.L)), ((a 6), iA cI (cy.H)), ((a 7), iA cI (cy.M)), ((a 8), iA cI (cy.B)), ((a 9), iA cI (cy.C)), ((a 10), iA cI (cy.D)), ((a 11), iA cI (cy.F)), ((a 12), iA cI (cy.W)), ((t 0), oC t (dy.mo) (dy.co) (dy.le)), ((t 3), iA cI (dy.K)), ((t 4), iA cI (dy.Q)), ((t 5), iA cI (dy.L)), ((t 6), iA cI (dy.H)), ((t 7), iA cI (dy.M)), ((t 8), iA cI (dy.B)), ((t 9), iA cI (dy.C)), ((t 10), iA cI (dy.D)), ((t 11), iA cI (dy.F)), ((t 12), iA cI (dy.W)), (q9, lA cL o)] sz)) 1 6 (va_A [(h, oX a t), ((a 0), oC a (cy.mo) (cy.co) (cy.le)), ((a 3), iA cI (cy.K)), ((a 4), iA cI (cy.Q)), ((a 5), iA cI (cy.L)), ((a 6), iA cI (cy.H)), ((a 7), iA cI (cy.M)), ((a 8), iA cI (cy.B)), ((a 9), iA cI (cy.C)), ((a 10), iA cI (cy.D)), ((a 11), iA cI (cy.F)), ((a 12), iA cI (cy.W)), ((t 0), oC t (dy.mo) (dy.co) (dy.le)), ((t 3), iA cI (dy.K)), ((t 4), iA cI (dy.Q)), ((t 5), iA cI (dy.L)), ((t 6), iA cI (dy.H)), ((t 7), iA cI (dy.M)), ((t 8), iA cI (dy.B)), ((t 9), iA cI (dy.C)), ((t 10), iA cI (dy.D)), ((t 11), iA cI (dy.F)), ((t 12), iA cI (dy.W)), (q9, lA cL o)] sz) := by
  refine Met_ofWH (cc := cL_foresee) (maxL := 5) (ret := (some .int)) (hh := [(0, 10, 13, 24), (0, 10, 17, 13)]) (by decide) rfl ?_
  intro p e s m args below meth c s₁ B hml hv
  obtain ⟨rfl, ⟨hsz, hP, hK, hD0, hN⟩, hKL, hE, hX, hNC, hZ⟩ := hv
  have hx := B.exec
  have hb := B.bytes
  have hr := B.returns
  have hlocks := B.notSynchronized
  have hts := atoms_spec (ws := wsL_foresee) B.pre
  have htab : c.exceptionTable.toList = tableOf [(0, 10, 13, 24), (0, 10, 17, 13)] := vx_table (x := yL_foresee) (y := yL_foresee) B (hts (.codeWith yL_foresee cL_foresee 5 (some .int) [(0, 10, 13, 24), (0, 10, 17, 13)]) (by unfold wsL_foresee; exact List.mem_cons_self))
  have hown : s.vm.findClass RL = some m.cls := findClass_of_methodNamed B.named
  subst hsz
  have hD := hD0.self (sz := s.heap.size)
  have hA : ∀ q : Nat, s.heap.size ≤ q → va_A [(h, oX a t), ((a 0), oC a (cy.mo) (cy.co) (cy.le)), ((a 3), iA cI (cy.K)), ((a 4), iA cI (cy.Q)), ((a 5), iA cI (cy.L)), ((a 6), iA cI (cy.H)), ((a 7), iA cI (cy.M)), ((a 8), iA cI (cy.B)), ((a 9), iA cI (cy.C)), ((a 10), iA cI (cy.D)), ((a 11), iA cI (cy.F)), ((a 12), iA cI (cy.W)), ((t 0), oC t (dy.mo) (dy.co) (dy.le)), ((t 3), iA cI (dy.K)), ((t 4), iA cI (dy.Q)), ((t 5), iA cI (dy.L)), ((t 6), iA cI (dy.H)), ((t 7), iA cI (dy.M)), ((t 8), iA cI (dy.B)), ((t 9), iA cI (dy.C)), ((t 10), iA cI (dy.D)), ((t 11), iA cI (dy.F)), ((t 12), iA cI (dy.W)), (q9, lA cL o)] s.heap.size q := fun q h => Or.inr h
  have hS : va_S (va_A [(h, oX a t), ((a 0), oC a (cy.mo) (cy.co) (cy.le)), ((a 3), iA cI (cy.K)), ((a 4), iA cI (cy.Q)), ((a 5), iA cI (cy.L)), ((a 6), iA cI (cy.H)), ((a 7), iA cI (cy.M)), ((a 8), iA cI (cy.B)), ((a 9), iA cI (cy.C)), ((a 10), iA cI (cy.D)), ((a 11), iA cI (cy.F)), ((a 12), iA cI (cy.W)), ((t 0), oC t (dy.mo) (dy.co) (dy.le)), ((t 3), iA cI (dy.K)), ((t 4), iA cI (dy.Q)), ((t 5), iA cI (dy.L)), ((t 6), iA cI (dy.H)), ((t 7), iA cI (dy.M)), ((t 8), iA cI (dy.B)), ((t 9), iA cI (dy.C)), ((t 10), iA cI (dy.D)), ((t 11), iA cI (dy.F)), ((t 12), iA cI (dy.W)), (q9, lA cL o)] s.heap.size) s.heap s.heap [] := va_S.rf
  obtain ⟨A, hAe⟩ : ∃ A, A = va_A [(h, oX a t), ((a 0), oC a (cy.mo) (cy.co) (cy.le)), ((a 3), iA cI (cy.K)), ((a 4), iA cI (cy.Q)), ((a 5), iA cI (cy.L)), ((a 6), iA cI (cy.H)), ((a 7), iA cI (cy.M)), ((a 8), iA cI (cy.B)), ((a 9), iA cI (cy.C)), ((a 10), iA cI (cy.D)), ((a 11), iA cI (cy.F)), ((a 12), iA cI (cy.W)), ((t 0), oC t (dy.mo) (dy.co) (dy.le)), ((t 3), iA cI (dy.K)), ((t 4), iA cI (dy.Q)), ((t 5), iA cI (dy.L)), ((t 6), iA cI (dy.H)), ((t 7), iA cI (dy.M)), ((t 8), iA cI (dy.B)), ((t 9), iA cI (dy.C)), ((t 10), iA cI (dy.D)), ((t 11), iA cI (dy.F)), ((t 12), iA cI (dy.W)), (q9, lA cL o)] s.heap.size := ⟨_, rfl⟩
  rw [← hAe] at hD hA hS hZ
  have FX : CallFix p m c cL_foresee 5 s ([.ref h, .int n9, .int w, .ref q9] : List Value).toArray wsL_foresee RL := ⟨hx, hb, hml, hown, hts⟩
  have hl := lv_entry ([.ref h, .int n9, .int w, .ref q9]) (n := 5) (Nat.le_of_ble_eq_true rfl)
  rw [lg_entry_eq]
  generalize (lg_sl ([.ref h, .int n9, .int w, .ref q9]) ++ List.replicate (5 - (lg_sl ([.ref h, .int n9, .int w, .ref q9])).length) Slot.unset).toArray = ls at hl ⊢
  have hl : lv_has ls 5 [(0, .ref h), (1, .int n9), (2, .int w), (3, .ref q9)] := hl
  refine wq (fun Q hQ => ?_)
  have hzc : 0 + 0 ≤ (headSpec wsL_foresee rmL_foresee).room.cells := Nat.zero_le _
  have hzs : 0 + 0 ≤ (headSpec wsL_foresee rmL_foresee).room.slots := Nat.zero_le _
  have hS0 := hg.2.1
  have hgt := hg.2.2.1
  have hk := hg.1
  have hkd := hg.2.2.2
  rcases Decidable.em ((cdFore n9 w) = 0) with hcd | hcd
  · skip
    refine w_widen (k := 1) (n := 6) (by decide) (by decide) ?_
    have hzc : 1 + 0 ≤ (headSpec wsL_foresee rmL_foresee).room.cells := Nat.le_of_ble_eq_true rfl
    have hzs : 6 + 0 ≤ (headSpec wsL_foresee rmL_foresee).room.slots := Nat.le_of_ble_eq_true rfl
    obtain ⟨hin, hin2⟩ := fore_0 hcd
    refine lv_aload_n hx hb dL_foresee_0 rfl (lv_at hl 3 rfl) ?_
    refine lv_iconst (v := 0) hx hb dL_foresee_1 (by decide) ?_
    refine lv_aload_n hx hb dL_foresee_2 rfl (lv_at hl 0 rfl) ?_
    refine lv_iload_n hx hb dL_foresee_3 rfl (lv_at hl 1 rfl) ?_
    refine lv_iload_n hx hb dL_foresee_4 rfl (lv_at hl 2 rfl) ?_
    refine cw_i (wr := [(q9, lA cL o)]) (va_runV (As := [.int n9, .int w]) (rest := [.int 0, .ref q9]) FX (c_X1_foresee_ok l G cI h a t cy.mo cy.co cy.le cy.K cy.Q cy.L cy.H cy.M cy.B cy.C cy.D cy.F cy.W k dy.mo dy.co dy.le dy.K dy.Q dy.L dy.H dy.M dy.B dy.C dy.D dy.F dy.W n9 w hk hgt hin hin2 _) (cwV 2 hts gL_foresee_X1_foresee rfl rfl rfl (by decide +kernel) ⟨Nat.le_of_ble_eq_true rfl, Nat.le_of_ble_eq_true rfl⟩) (wrV hK hP hD hN [0, 1, 2, 3, 4, 5, 6, 7, 8, 9, 10, 11, 12, 13, 14, 15, 16, 17, 18, 19, 20, 21, 22] (by decide) rfl rfl (ci := 1) (q0 := 0) rfl rfl) rfl rfl hl.1 rfl (lv_room (Nat.le_of_ble_eq_true rfl)) dL_foresee_5 ⟨Nat.le_of_ble_eq_true rfl, Nat.le_of_ble_eq_true rfl⟩) hS hP hD hA [0, 1, 2, 3, 4, 5, 6, 7, 8, 9, 10, 11, 12, 13, 14, 15, 16, 17, 18, 19, 20, 21, 22] [23] rfl rfl (by decide) (by decide) (fun r9 u H locs hw hP hD hS => ?_)
    obtain ⟨K1, Q1, L1, H1, M1, B1, C1, D1, W1⟩ := u
    have hP := hP.sub (ws' := [(h, oX a t), ((a 0), oC a (cy.mo) (cy.co) (cy.le)), ((a 3), iA cI (cy.K)), ((a 4), iA cI (cy.Q)), ((a 5), iA cI (cy.L)), ((a 6), iA cI (cy.H)), ((a 7), iA cI (cy.M)), ((a 8), iA cI (cy.B)), ((a 9), iA cI (cy.C)), ((a 10), iA cI (cy.D)), ((a 11), iA cI (cy.F)), ((a 12), iA cI (cy.W)), ((t 0), oC t (cy.mo + nI n9.toNatClampNeg) (cy.co + incS k n9.toNatClampNeg) (cy.le + lftS k n9.toNatClampNeg)), ((t 3), iA cI K1), ((t 4), iA cI Q1), ((t 5), iA cI L1), ((t 6), iA cI H1), ((t 7), iA cI M1), ((t 8), iA cI B1), ((t 9), iA cI C1), ((t 10), iA cI D1), ((t 11), iA cI (dy.F)), ((t 12), iA cI W1), (q9, lA cL o)]) [1, 2, 3, 4, 5, 6, 7, 8, 9, 10, 11, 12, 13, 14, 15, 16, 17, 18, 19, 20, 21, 22, 23, 0] rfl
    have hD := hD.sub (ws' := [(h, oX a t), ((a 0), oC a (cy.mo) (cy.co) (cy.le)), ((a 3), iA cI (cy.K)), ((a 4), iA cI (cy.Q)), ((a 5), iA cI (cy.L)), ((a 6), iA cI (cy.H)), ((a 7), iA cI (cy.M)), ((a 8), iA cI (cy.B)), ((a 9), iA cI (cy.C)), ((a 10), iA cI (cy.D)), ((a 11), iA cI (cy.F)), ((a 12), iA cI (cy.W)), ((t 0), oC t (cy.mo + nI n9.toNatClampNeg) (cy.co + incS k n9.toNatClampNeg) (cy.le + lftS k n9.toNatClampNeg)), ((t 3), iA cI K1), ((t 4), iA cI Q1), ((t 5), iA cI L1), ((t 6), iA cI H1), ((t 7), iA cI M1), ((t 8), iA cI B1), ((t 9), iA cI C1), ((t 10), iA cI D1), ((t 11), iA cI (dy.F)), ((t 12), iA cI W1), (q9, lA cL o)]) [1, 2, 3, 4, 5, 6, 7, 8, 9, 10, 11, 12, 13, 14, 15, 16, 17, 18, 19, 20, 21, 22, 23, 0] (by decide) rfl
    refine lv_i2l (v := r9.toInt64) hx hb dL_foresee_8 rfl ?_
    refine va_last hx hb hKL hP hD hS 23 0 rfl rfl vp_in01 dL_foresee_9 (fun H locs hP hD hS => ?_)
    have hP : va_P G vwCl [(h, oX a t), ((a 0), oC a (cy.mo) (cy.co) (cy.le)), ((a 3), iA cI (cy.K)), ((a 4), iA cI (cy.Q)), ((a 5), iA cI (cy.L)), ((a 6), iA cI (cy.H)), ((a 7), iA cI (cy.M)), ((a 8), iA cI (cy.B)), ((a 9), iA cI (cy.C)), ((a 10), iA cI (cy.D)), ((a 11), iA cI (cy.F)), ((a 12), iA cI (cy.W)), ((t 0), oC t (cy.mo + nI n9.toNatClampNeg) (cy.co + incS k n9.toNatClampNeg) (cy.le + lftS k n9.toNatClampNeg)), ((t 3), iA cI K1), ((t 4), iA cI Q1), ((t 5), iA cI L1), ((t 6), iA cI H1), ((t 7), iA cI M1), ((t 8), iA cI B1), ((t 9), iA cI C1), ((t 10), iA cI D1), ((t 11), iA cI (dy.F)), ((t 12), iA cI W1), (q9, lA cL (vp_updL o (0 : Int32).toNatClampNeg (r9.toInt64)))] H := hP
    have hD : va_D A [(h, oX a t), ((a 0), oC a (cy.mo) (cy.co) (cy.le)), ((a 3), iA cI (cy.K)), ((a 4), iA cI (cy.Q)), ((a 5), iA cI (cy.L)), ((a 6), iA cI (cy.H)), ((a 7), iA cI (cy.M)), ((a 8), iA cI (cy.B)), ((a 9), iA cI (cy.C)), ((a 10), iA cI (cy.D)), ((a 11), iA cI (cy.F)), ((a 12), iA cI (cy.W)), ((t 0), oC t (cy.mo + nI n9.toNatClampNeg) (cy.co + incS k n9.toNatClampNeg) (cy.le + lftS k n9.toNatClampNeg)), ((t 3), iA cI K1), ((t 4), iA cI Q1), ((t 5), iA cI L1), ((t 6), iA cI H1), ((t 7), iA cI M1), ((t 8), iA cI B1), ((t 9), iA cI C1), ((t 10), iA cI D1), ((t 11), iA cI (dy.F)), ((t 12), iA cI W1), (q9, lA cL (vp_updL o (0 : Int32).toNatClampNeg (r9.toInt64)))] := hD
    refine lv_goto (tgt := 21) hx hb dL_foresee_10 (by decide) ?_
    refine lv_iconst (v := 0) hx hb dL_foresee_21 (by decide) ?_
    subst hQ
    subst hAe
    exact wr_i (cy, ⟨(cy.mo + nI n9.toNatClampNeg), (cy.co + incS k n9.toNatClampNeg), (cy.le + lftS k n9.toNatClampNeg), K1, Q1, L1, H1, M1, B1, C1, D1, dy.F, W1⟩, vp_updL o (0 : Int32).toNatClampNeg r9.toInt64) (⟨hcd.symm, hg, ⟨rfl, rfl, rfl⟩, fun _ => updL_at (o := o) (j := (0 : Int32).toNatClampNeg) (hw)⟩) hx hb hr hP hD hS hlocks dL_foresee_22
  · skip
    refine lv_aload_n hx hb dL_foresee_0 rfl (lv_at hl 3 rfl) ?_
    refine lv_iconst (v := 0) hx hb dL_foresee_1 (by decide) ?_
    refine lv_aload_n hx hb dL_foresee_2 rfl (lv_at hl 0 rfl) ?_
    refine lv_iload_n hx hb dL_foresee_3 rfl (lv_at hl 1 rfl) ?_
    refine lv_iload_n hx hb dL_foresee_4 rfl (lv_at hl 2 rfl) ?_
    refine xr_i (vx_runV (As := [.int n9, .int w]) (rest := [.int 0, .ref q9]) FX (c_X1_foresee_no l G cI hst h a t cy.mo cy.co cy.le cy.K cy.Q cy.L cy.H cy.M cy.B cy.C cy.D cy.F cy.W k n9 w hk hcd) (cwV 2 hts gL_foresee_X1_foresee rfl rfl rfl (by decide +kernel) ⟨Nat.le_of_ble_eq_true rfl, Nat.le_of_ble_eq_true rfl⟩) (xrV hK hP hN hE hX hZ hS [0, 1, 2, 3, 4, 5, 6, 7, 8, 9, 10, 11] rfl (ci := 1) (q0 := 0) rfl rfl) rfl rfl hl.1 rfl (lv_room (Nat.le_of_ble_eq_true rfl)) dL_foresee_5 ⟨Nat.le_of_ble_eq_true rfl, Nat.le_of_ble_eq_true rfl⟩) hS hP (fun E ce q8 H locs hcE hP hS h1 h2 h3 => ?_)
    rcases hcE with ⟨rfl, hce⟩ | ⟨rfl, hce⟩
    · skip
      refine vx_catch hown [] ⟨0, 10, 13, 24⟩ [⟨0, 10, 17, 13⟩] htab (fun z hz => nomatch hz) (by decide) (by decide) (hts (.classLink RL 24 "java/lang/IllegalArgumentException") (by decide +kernel)) (EXW_use hX (.castable "java/lang/IllegalArgumentException" "java/lang/IllegalArgumentException") (by decide)) h1 h2 h3 ?_
      refine W.eq (g2 := F0 m 13 ls [.ref q8]) rfl ?_
      refine lv_astore (lv' := [(4, .ref q8), (0, .ref h), (1, .int n9), (2, .int w), (3, .ref q9)]) hx hb dL_foresee_13 hl (by decide) rfl (fun ls hl => ?_)
      refine lv_iconst (v := 1) hx hb dL_foresee_15 (by decide) ?_
      subst hQ
      subst hAe
      exact wr_i (cy, dy, o) (⟨hce.symm, hg, ⟨rfl, rfl, rfl⟩, fun h9 => absurd h9 hcd⟩) hx hb hr hP hD hS hlocks dL_foresee_16
    · skip
      refine vx_catch hown [⟨0, 10, 13, 24⟩] ⟨0, 10, 17, 13⟩ [] htab (fun z hz => by obtain rfl := List.mem_singleton.mp hz; exact Or.inr ⟨by decide, "java/lang/IllegalArgumentException", hts (.classLink RL 24 "java/lang/IllegalArgumentException") (by decide +kernel), hNC.2.2.2⟩) (by decide) (by decide) (hts (.classLink RL 13 "java/lang/IndexOutOfBoundsException") (by decide +kernel)) (EXW_use hX (.castable "java/lang/IndexOutOfBoundsException" "java/lang/IndexOutOfBoundsException") (by decide)) h1 h2 h3 ?_
      refine W.eq (g2 := F0 m 17 ls [.ref q8]) rfl ?_
      refine lv_astore (lv' := [(4, .ref q8), (0, .ref h), (1, .int n9), (2, .int w), (3, .ref q9)]) hx hb dL_foresee_17 hl (by decide) rfl (fun ls hl => ?_)
      refine lv_iconst (v := 2) hx hb dL_foresee_19 (by decide) ?_
      subst hQ
      subst hAe
      exact wr_i (cy, dy, o) (⟨hce.symm, hg, ⟨rfl, rfl, rfl⟩, fun h9 => absurd h9 hcd⟩) hx hb hr hP hD hS hlocks dL_foresee_20

def rmL_would : Room := { frames := 8, cells := 1, slots := 6, locals := 163 }
set_option maxHeartbeats 4000000 in
set_option maxRecDepth 100000 in
theorem c_L_would (l : Launch) (G : va_G) (cI cL : ClassId) (hst : l.stackTraces = false) (h q9 : Nat) (a t : Nat → Nat) (cy dy : Cy) (o : Nat → Int64) (k : Nat → Int32) (x y v : Int32) (hg : Sd cy k) (sz : Nat) : Met l yL_would wsL_would rmL_would (va_Pc [.ref h, .int x, .int y, .int v, .ref q9] (WrPX G cI cL [(h, oX a t), ((a 0), oC a (cy.mo) (cy.co) (cy.le)), ((a 3), iA cI (cy.K)), ((a 4), iA cI (cy.Q)), ((a 5), iA cI (cy.L)), ((a 6), iA cI (cy.H)), ((a 7), iA cI (cy.M)), ((a 8), iA cI (cy.B)), ((a 9), iA cI (cy.C)), ((a 10), iA cI (cy.D)), ((a 11), iA cI (cy.F)), ((a 12), iA cI (cy.W)), ((t 0), oC t (dy.mo) (dy.co) (dy.le)), ((t 3), iA cI (dy.K)), ((t 4), iA cI (dy.Q)), ((t 5), iA cI (dy.L)), ((t 6), iA cI (dy.H)), ((t 7), iA cI (dy.M)), ((t 8), iA cI (dy.B)), ((t 9), iA cI (dy.C)), ((t 10), iA cI (dy.D)), ((t 11), iA cI (dy.F)), ((t 12), iA cI (dy.W)), (q9, lA cL o)] sz)) (va_Qi (fun (r : Int32) (u : Cy × Cy × (Nat → Int64)) => r = (cdWould k x y v) ∧ Sd u.1 k ∧ (u.1.mo = cy.mo ∧ u.1.co = cy.co ∧ u.1.le = cy.le) ∧ ((cdWould k x y v) = 0 → u.2.2 (0 : Int32).toNatClampNeg = Int32.toInt64 (dall (upd k (pAt x y) v) - dall k))) (WrB G [(h, oX a t), ((a 0), oC a (cy.mo) (cy.co) (cy.le)), ((a 3), iA cI (cy.K)), ((a 4), iA cI (cy.Q)), ((a 5), iA cI (cy.L)), ((a 6), iA cI (cy.H)), ((a 7), iA cI (cy.M)), ((a 8), iA cI (cy.B)), ((a 9), iA cI (cy.C)), ((a 10), iA cI (cy.D)), ((a 11), iA cI (cy.F)), ((a 12), iA cI (cy.W)), ((t 0), oC t (dy.mo) (dy.co) (dy.le)), ((t 3), iA cI (dy.K)), ((t 4), iA cI (dy.Q)), ((t 5), iA cI (dy.L)), ((t 6), iA cI (dy.H)), ((t 7), iA cI (dy.M)), ((t 8), iA cI (dy.B)), ((t 9), iA cI (dy.C)), ((t 10), iA cI (dy.D)), ((t 11), iA cI (dy.F)), ((t 12), iA cI (dy.W)), (q9, lA cL o)] sz (fun u => [(h, oX a t), (a 0, oC a (u.1.mo) (u.1.co) (u.1.le)), (a 3, iA cI (u.1.K)), (a 4, iA cI (u.1.Q)), (a 5, iA cI (u.1.L)), (a 6, iA cI (u.1.H)), (a 7, iA cI (u.1.M)), (a 8, iA cI (u.1.B)), (a 9, iA cI (u.1.C)), (a 10, iA cI (u.1.D)), (a 11, iA cI (u.1.F)), (a 12, iA cI (u.1.W)), (t 0, oC t (u.2.1.mo) (u.2.1.co) (u.2.1.le)), (t 3, iA cI (u.2.1.K)), (t 4, iA cI (u.2.1.Q)), (t 5, iA cI (u.2.1.L)), (t 6, iA cI (u.2.1.H)), (t 7, iA cI (u.2.1.M)), (t 8, iA cI (u.2.1.B)), (t 9, iA cI (u.2.1.C)), (t 10, iA cI (u.2.1.D)), (t 11, iA cI (u.2.1.F)), (t 12, iA cI (u.2.1.W)), (q9, lA cL (u.2.2))])) (va_A [(h, oX a t), ((a 0), oC a (cy.mo) (cy.co) (cy.le)), ((a 3), iA cI (cy.K)), ((a 4), iA cI (cy.Q)), ((a 5), iA cI (cy.L)), ((a 6), iA cI (cy.H)), ((a 7), iA cI (cy.M)), ((a 8), iA cI (cy.B)), ((a 9), iA cI (cy.C)), ((a 10), iA cI (cy.D)), ((a 11), iA cI (cy.F)), ((a 12), iA cI (cy.W)), ((t 0), oC t (dy.mo) (dy.co) (dy.le)), ((t 3), iA cI (dy.K)), ((t 4), iA cI (dy.Q)), ((t 5), iA cI (dy.L)), ((t 6), iA cI (dy.H)), ((t 7), iA cI (dy.M)), ((t 8), iA cI (dy.B)), ((t 9), iA cI (dy.C)), ((t 10), iA cI (dy.D)), ((t 11), iA cI (dy.F)), ((t 12), iA cI (dy.W)), (q9, lA cL o)] sz)) 1 6 (va_A [(h, oX a t), ((a 0), oC a (cy.mo) (cy.co) (cy.le)), ((a 3), iA cI (cy.K)), ((a 4), iA cI (cy.Q)), ((a 5), iA cI (cy.L)), ((a 6), iA cI (cy.H)), ((a 7), iA cI (cy.M)), ((a 8), iA cI (cy.B)), ((a 9), iA cI (cy.C)), ((a 10), iA cI (cy.D)), ((a 11), iA cI (cy.F)), ((a 12), iA cI (cy.W)), ((t 0), oC t (dy.mo) (dy.co) (dy.le)), ((t 3), iA cI (dy.K)), ((t 4), iA cI (dy.Q)), ((t 5), iA cI (dy.L)), ((t 6), iA cI (dy.H)), ((t 7), iA cI (dy.M)), ((t 8), iA cI (dy.B)), ((t 9), iA cI (dy.C)), ((t 10), iA cI (dy.D)), ((t 11), iA cI (dy.F)), ((t 12), iA cI (dy.W)), (q9, lA cL o)] sz) := by
  refine Met_ofWH (cc := cL_would) (maxL := 6) (ret := (some .int)) (hh := [(0, 12, 15, 13), (0, 12, 19, 24), (0, 12, 23, 15)]) (by decide) rfl ?_
  intro p e s m args below meth c s₁ B hml hv
  obtain ⟨rfl, ⟨hsz, hP, hK, hD0, hN⟩, hKL, hE, hX, hNC, hZ⟩ := hv
  have hx := B.exec
  have hb := B.bytes
  have hr := B.returns
  have hlocks := B.notSynchronized
  have hts := atoms_spec (ws := wsL_would) B.pre
  have htab : c.exceptionTable.toList = tableOf [(0, 12, 15, 13), (0, 12, 19, 24), (0, 12, 23, 15)] := vx_table (x := yL_would) (y := yL_would) B (hts (.codeWith yL_would cL_would 6 (some .int) [(0, 12, 15, 13), (0, 12, 19, 24), (0, 12, 23, 15)]) (by unfold wsL_would; exact List.mem_cons_self))
  have hown : s.vm.findClass RL = some m.cls := findClass_of_methodNamed B.named
  subst hsz
  have hD := hD0.self (sz := s.heap.size)
  have hA : ∀ q : Nat, s.heap.size ≤ q → va_A [(h, oX a t), ((a 0), oC a (cy.mo) (cy.co) (cy.le)), ((a 3), iA cI (cy.K)), ((a 4), iA cI (cy.Q)), ((a 5), iA cI (cy.L)), ((a 6), iA cI (cy.H)), ((a 7), iA cI (cy.M)), ((a 8), iA cI (cy.B)), ((a 9), iA cI (cy.C)), ((a 10), iA cI (cy.D)), ((a 11), iA cI (cy.F)), ((a 12), iA cI (cy.W)), ((t 0), oC t (dy.mo) (dy.co) (dy.le)), ((t 3), iA cI (dy.K)), ((t 4), iA cI (dy.Q)), ((t 5), iA cI (dy.L)), ((t 6), iA cI (dy.H)), ((t 7), iA cI (dy.M)), ((t 8), iA cI (dy.B)), ((t 9), iA cI (dy.C)), ((t 10), iA cI (dy.D)), ((t 11), iA cI (dy.F)), ((t 12), iA cI (dy.W)), (q9, lA cL o)] s.heap.size q := fun q h => Or.inr h
  have hS : va_S (va_A [(h, oX a t), ((a 0), oC a (cy.mo) (cy.co) (cy.le)), ((a 3), iA cI (cy.K)), ((a 4), iA cI (cy.Q)), ((a 5), iA cI (cy.L)), ((a 6), iA cI (cy.H)), ((a 7), iA cI (cy.M)), ((a 8), iA cI (cy.B)), ((a 9), iA cI (cy.C)), ((a 10), iA cI (cy.D)), ((a 11), iA cI (cy.F)), ((a 12), iA cI (cy.W)), ((t 0), oC t (dy.mo) (dy.co) (dy.le)), ((t 3), iA cI (dy.K)), ((t 4), iA cI (dy.Q)), ((t 5), iA cI (dy.L)), ((t 6), iA cI (dy.H)), ((t 7), iA cI (dy.M)), ((t 8), iA cI (dy.B)), ((t 9), iA cI (dy.C)), ((t 10), iA cI (dy.D)), ((t 11), iA cI (dy.F)), ((t 12), iA cI (dy.W)), (q9, lA cL o)] s.heap.size) s.heap s.heap [] := va_S.rf
  obtain ⟨A, hAe⟩ : ∃ A, A = va_A [(h, oX a t), ((a 0), oC a (cy.mo) (cy.co) (cy.le)), ((a 3), iA cI (cy.K)), ((a 4), iA cI (cy.Q)), ((a 5), iA cI (cy.L)), ((a 6), iA cI (cy.H)), ((a 7), iA cI (cy.M)), ((a 8), iA cI (cy.B)), ((a 9), iA cI (cy.C)), ((a 10), iA cI (cy.D)), ((a 11), iA cI (cy.F)), ((a 12), iA cI (cy.W)), ((t 0), oC t (dy.mo) (dy.co) (dy.le)), ((t 3), iA cI (dy.K)), ((t 4), iA cI (dy.Q)), ((t 5), iA cI (dy.L)), ((t 6), iA cI (dy.H)), ((t 7), iA cI (dy.M)), ((t 8), iA cI (dy.B)), ((t 9), iA cI (dy.C)), ((t 10), iA cI (dy.D)), ((t 11), iA cI (dy.F)), ((t 12), iA cI (dy.W)), (q9, lA cL o)] s.heap.size := ⟨_, rfl⟩
  rw [← hAe] at hD hA hS hZ
  have FX : CallFix p m c cL_would 6 s ([.ref h, .int x, .int y, .int v, .ref q9] : List Value).toArray wsL_would RL := ⟨hx, hb, hml, hown, hts⟩
  have hl := lv_entry ([.ref h, .int x, .int y, .int v, .ref q9]) (n := 6) (Nat.le_of_ble_eq_true rfl)
  rw [lg_entry_eq]
  generalize (lg_sl ([.ref h, .int x, .int y, .int v, .ref q9]) ++ List.replicate (6 - (lg_sl ([.ref h, .int x, .int y, .int v, .ref q9])).length) Slot.unset).toArray = ls at hl ⊢
  have hl : lv_has ls 6 [(0, .ref h), (1, .int x), (2, .int y), (3, .int v), (4, .ref q9)] := hl
  refine wq (fun Q hQ => ?_)
  have hzc : 0 + 0 ≤ (headSpec wsL_would rmL_would).room.cells := Nat.zero_le _
  have hzs : 0 + 0 ≤ (headSpec wsL_would rmL_would).room.slots := Nat.zero_le _
  have hS0 := hg.2.1
  have hgt := hg.2.2.1
  have hk := hg.1
  have hkd := hg.2.2.2
  rcases Decidable.em ((cdWould k x y v) = 0) with hcd | hcd
  · skip
    refine w_widen (k := 1) (n := 6) (by decide) (by decide) ?_
    have hzc : 1 + 0 ≤ (headSpec wsL_would rmL_would).room.cells := Nat.le_of_ble_eq_true rfl
    have hzs : 6 + 0 ≤ (headSpec wsL_would rmL_would).room.slots := Nat.le_of_ble_eq_true rfl
    obtain ⟨hpl, hin, hc1⟩ := would_0 hcd
    refine lv_aload hx hb dL_would_0 (lv_at hl 4 rfl) ?_
    refine lv_iconst (v := 0) hx hb dL_would_2 (by decide) ?_
    refine lv_aload_n hx hb dL_would_3 rfl (lv_at hl 0 rfl) ?_
    refine lv_iload_n hx hb dL_would_4 rfl (lv_at hl 1 rfl) ?_
    refine lv_iload_n hx hb dL_would_5 rfl (lv_at hl 2 rfl) ?_
    refine lv_iload_n hx hb dL_would_6 rfl (lv_at hl 3 rfl) ?_
    refine cw_i (wr := [(q9, lA cL o)]) (va_runV (As := [.int x, .int y, .int v]) (rest := [.int 0, .ref q9]) FX (c_X1_would_ok l G cI h a t cy.mo cy.co cy.le cy.K cy.Q cy.L cy.H cy.M cy.B cy.C cy.D cy.F cy.W k dy.mo dy.co dy.le dy.K dy.Q dy.L dy.H dy.M dy.B dy.C dy.D dy.F dy.W x y v hk hS0 hgt hpl hin hc1 _) (cwV 3 hts gL_would_X1_would rfl rfl rfl (by decide +kernel) ⟨Nat.le_of_ble_eq_true rfl, Nat.le_of_ble_eq_true rfl⟩) (wrV hK hP hD hN [0, 1, 2, 3, 4, 5, 6, 7, 8, 9, 10, 11, 12, 13, 14, 15, 16, 17, 18, 19, 20, 21, 22] (by decide) rfl rfl (ci := 1) (q0 := 0) rfl rfl) rfl rfl hl.1 rfl (lv_room (Nat.le_of_ble_eq_true rfl)) dL_would_7 ⟨Nat.le_of_ble_eq_true rfl, Nat.le_of_ble_eq_true rfl⟩) hS hP hD hA [0, 1, 2, 3, 4, 5, 6, 7, 8, 9, 10, 11, 12, 13, 14, 15, 16, 17, 18, 19, 20, 21, 22] [23] rfl rfl (by decide) (by decide) (fun r9 u H locs hw hP hD hS => ?_)
    obtain ⟨K1, Q1, L1, H1, M1, B1, C1, D1, W1⟩ := u
    have hP := hP.sub (ws' := [(h, oX a t), ((a 0), oC a (cy.mo) (cy.co) (cy.le)), ((a 3), iA cI (cy.K)), ((a 4), iA cI (cy.Q)), ((a 5), iA cI (cy.L)), ((a 6), iA cI (cy.H)), ((a 7), iA cI (cy.M)), ((a 8), iA cI (cy.B)), ((a 9), iA cI (cy.C)), ((a 10), iA cI (cy.D)), ((a 11), iA cI (cy.F)), ((a 12), iA cI (cy.W)), ((t 0), oC t cy.mo cy.co cy.le), ((t 3), iA cI K1), ((t 4), iA cI Q1), ((t 5), iA cI L1), ((t 6), iA cI H1), ((t 7), iA cI M1), ((t 8), iA cI B1), ((t 9), iA cI C1), ((t 10), iA cI D1), ((t 11), iA cI (dy.F)), ((t 12), iA cI W1), (q9, lA cL o)]) [1, 2, 3, 4, 5, 6, 7, 8, 9, 10, 11, 12, 13, 14, 15, 16, 17, 18, 19, 20, 21, 22, 23, 0] rfl
    have hD := hD.sub (ws' := [(h, oX a t), ((a 0), oC a (cy.mo) (cy.co) (cy.le)), ((a 3), iA cI (cy.K)), ((a 4), iA cI (cy.Q)), ((a 5), iA cI (cy.L)), ((a 6), iA cI (cy.H)), ((a 7), iA cI (cy.M)), ((a 8), iA cI (cy.B)), ((a 9), iA cI (cy.C)), ((a 10), iA cI (cy.D)), ((a 11), iA cI (cy.F)), ((a 12), iA cI (cy.W)), ((t 0), oC t cy.mo cy.co cy.le), ((t 3), iA cI K1), ((t 4), iA cI Q1), ((t 5), iA cI L1), ((t 6), iA cI H1), ((t 7), iA cI M1), ((t 8), iA cI B1), ((t 9), iA cI C1), ((t 10), iA cI D1), ((t 11), iA cI (dy.F)), ((t 12), iA cI W1), (q9, lA cL o)]) [1, 2, 3, 4, 5, 6, 7, 8, 9, 10, 11, 12, 13, 14, 15, 16, 17, 18, 19, 20, 21, 22, 23, 0] (by decide) rfl
    refine lv_i2l (v := r9.toInt64) hx hb dL_would_10 rfl ?_
    refine va_last hx hb hKL hP hD hS 23 0 rfl rfl vp_in01 dL_would_11 (fun H locs hP hD hS => ?_)
    have hP : va_P G vwCl [(h, oX a t), ((a 0), oC a (cy.mo) (cy.co) (cy.le)), ((a 3), iA cI (cy.K)), ((a 4), iA cI (cy.Q)), ((a 5), iA cI (cy.L)), ((a 6), iA cI (cy.H)), ((a 7), iA cI (cy.M)), ((a 8), iA cI (cy.B)), ((a 9), iA cI (cy.C)), ((a 10), iA cI (cy.D)), ((a 11), iA cI (cy.F)), ((a 12), iA cI (cy.W)), ((t 0), oC t cy.mo cy.co cy.le), ((t 3), iA cI K1), ((t 4), iA cI Q1), ((t 5), iA cI L1), ((t 6), iA cI H1), ((t 7), iA cI M1), ((t 8), iA cI B1), ((t 9), iA cI C1), ((t 10), iA cI D1), ((t 11), iA cI (dy.F)), ((t 12), iA cI W1), (q9, lA cL (vp_updL o (0 : Int32).toNatClampNeg (r9.toInt64)))] H := hP
    have hD : va_D A [(h, oX a t), ((a 0), oC a (cy.mo) (cy.co) (cy.le)), ((a 3), iA cI (cy.K)), ((a 4), iA cI (cy.Q)), ((a 5), iA cI (cy.L)), ((a 6), iA cI (cy.H)), ((a 7), iA cI (cy.M)), ((a 8), iA cI (cy.B)), ((a 9), iA cI (cy.C)), ((a 10), iA cI (cy.D)), ((a 11), iA cI (cy.F)), ((a 12), iA cI (cy.W)), ((t 0), oC t cy.mo cy.co cy.le), ((t 3), iA cI K1), ((t 4), iA cI Q1), ((t 5), iA cI L1), ((t 6), iA cI H1), ((t 7), iA cI M1), ((t 8), iA cI B1), ((t 9), iA cI C1), ((t 10), iA cI D1), ((t 11), iA cI (dy.F)), ((t 12), iA cI W1), (q9, lA cL (vp_updL o (0 : Int32).toNatClampNeg (r9.toInt64)))] := hD
    refine lv_goto (tgt := 27) hx hb dL_would_12 (by decide) ?_
    refine lv_iconst (v := 0) hx hb dL_would_27 (by decide) ?_
    subst hQ
    subst hAe
    exact wr_i (cy, ⟨cy.mo, cy.co, cy.le, K1, Q1, L1, H1, M1, B1, C1, D1, dy.F, W1⟩, vp_updL o (0 : Int32).toNatClampNeg r9.toInt64) (⟨hcd.symm, hg, ⟨rfl, rfl, rfl⟩, fun _ => updL_at (o := o) (j := (0 : Int32).toNatClampNeg) (hw)⟩) hx hb hr hP hD hS hlocks dL_would_28
  · skip
    refine lv_aload hx hb dL_would_0 (lv_at hl 4 rfl) ?_
    refine lv_iconst (v := 0) hx hb dL_would_2 (by decide) ?_
    refine lv_aload_n hx hb dL_would_3 rfl (lv_at hl 0 rfl) ?_
    refine lv_iload_n hx hb dL_would_4 rfl (lv_at hl 1 rfl) ?_
    refine lv_iload_n hx hb dL_would_5 rfl (lv_at hl 2 rfl) ?_
    refine lv_iload_n hx hb dL_would_6 rfl (lv_at hl 3 rfl) ?_
    refine xr_i (vx_runV (As := [.int x, .int y, .int v]) (rest := [.int 0, .ref q9]) FX (c_X1_would_no l G cI hst h a t cy.mo cy.co cy.le cy.K cy.Q cy.L cy.H cy.M cy.B cy.C cy.D cy.F cy.W k x y v hk hcd) (cwV 3 hts gL_would_X1_would rfl rfl rfl (by decide +kernel) ⟨Nat.le_of_ble_eq_true rfl, Nat.le_of_ble_eq_true rfl⟩) (xrV hK hP hN hE hX hZ hS [0, 1, 2, 3, 4, 5, 6, 7, 8, 9, 10, 11] rfl (ci := 1) (q0 := 0) rfl rfl) rfl rfl hl.1 rfl (lv_room (Nat.le_of_ble_eq_true rfl)) dL_would_7 ⟨Nat.le_of_ble_eq_true rfl, Nat.le_of_ble_eq_true rfl⟩) hS hP (fun E ce q8 H locs hcE hP hS h1 h2 h3 => ?_)
    rcases hcE with ⟨rfl, hce⟩ | ⟨rfl, hce⟩ | ⟨rfl, hce⟩
    · skip
      refine vx_catch hown [] ⟨0, 12, 15, 13⟩ [⟨0, 12, 19, 24⟩, ⟨0, 12, 23, 15⟩] htab (fun z hz => nomatch hz) (by decide) (by decide) (hts (.classLink RL 13 "java/lang/IndexOutOfBoundsException") (by decide +kernel)) (EXW_use hX (.castable "java/lang/IndexOutOfBoundsException" "java/lang/IndexOutOfBoundsException") (by decide)) h1 h2 h3 ?_
      refine W.eq (g2 := F0 m 15 ls [.ref q8]) rfl ?_
      refine lv_astore (lv' := [(5, .ref q8), (0, .ref h), (1, .int x), (2, .int y), (3, .int v), (4, .ref q9)]) hx hb dL_would_15 hl (by decide) rfl (fun ls hl => ?_)
      refine lv_iconst (v := 1) hx hb dL_would_17 (by decide) ?_
      subst hQ
      subst hAe
      exact wr_i (cy, dy, o) (⟨hce.symm, hg, ⟨rfl, rfl, rfl⟩, fun h9 => absurd h9 hcd⟩) hx hb hr hP hD hS hlocks dL_would_18
    · skip
      refine vx_catch hown [⟨0, 12, 15, 13⟩] ⟨0, 12, 19, 24⟩ [⟨0, 12, 23, 15⟩] htab (fun z hz => by obtain rfl := List.mem_singleton.mp hz; exact Or.inr ⟨by decide, "java/lang/IndexOutOfBoundsException", hts (.classLink RL 13 "java/lang/IndexOutOfBoundsException") (by decide +kernel), hNC.2.1⟩) (by decide) (by decide) (hts (.classLink RL 24 "java/lang/IllegalArgumentException") (by decide +kernel)) (EXW_use hX (.castable "java/lang/IllegalArgumentException" "java/lang/IllegalArgumentException") (by decide)) h1 h2 h3 ?_
      refine W.eq (g2 := F0 m 19 ls [.ref q8]) rfl ?_
      refine lv_astore (lv' := [(5, .ref q8), (0, .ref h), (1, .int x), (2, .int y), (3, .int v), (4, .ref q9)]) hx hb dL_would_19 hl (by decide) rfl (fun ls hl => ?_)
      refine lv_iconst (v := 2) hx hb dL_would_21 (by decide) ?_
      subst hQ
      subst hAe
      exact wr_i (cy, dy, o) (⟨hce.symm, hg, ⟨rfl, rfl, rfl⟩, fun h9 => absurd h9 hcd⟩) hx hb hr hP hD hS hlocks dL_would_22
    · skip
      refine vx_catch hown [⟨0, 12, 15, 13⟩, ⟨0, 12, 19, 24⟩] ⟨0, 12, 23, 15⟩ [] htab (fun z hz => (List.mem_cons.mp hz).elim (fun h8 => by subst h8; exact Or.inr ⟨by decide, "java/lang/IndexOutOfBoundsException", hts (.classLink RL 13 "java/lang/IndexOutOfBoundsException") (by decide +kernel), hNC.1⟩) (fun hz => by obtain rfl := List.mem_singleton.mp hz; exact Or.inr ⟨by decide, "java/lang/IllegalArgumentException", hts (.classLink RL 24 "java/lang/IllegalArgumentException") (by decide +kernel), hNC.2.2.1⟩)) (by decide) (by decide) (hts (.classLink RL 15 "java/lang/IllegalStateException") (by decide +kernel)) (EXW_use hX (.castable "java/lang/IllegalStateException" "java/lang/IllegalStateException") (by decide)) h1 h2 h3 ?_
      refine W.eq (g2 := F0 m 23 ls [.ref q8]) rfl ?_
      refine lv_astore (lv' := [(5, .ref q8), (0, .ref h), (1, .int x), (2, .int y), (3, .int v), (4, .ref q9)]) hx hb dL_would_23 hl (by decide) rfl (fun ls hl => ?_)
      refine lv_iconst (v := 3) hx hb dL_would_25 (by decide) ?_
      subst hQ
      subst hAe
      exact wr_i (cy, dy, o) (⟨hce.symm, hg, ⟨rfl, rfl, rfl⟩, fun h9 => absurd h9 hcd⟩) hx hb hr hP hD hS hlocks dL_would_26

def rmL_best : Room := { frames := 8, cells := 1, slots := 6, locals := 164 }
set_option maxHeartbeats 4000000 in
set_option maxRecDepth 100000 in
theorem c_L_best (l : Launch) (G : va_G) (cI cL : ClassId) (hst : l.stackTraces = false) (h q9 : Nat) (a t : Nat → Nat) (cy dy : Cy) (o : Nat → Int64) (k : Nat → Int32) (v : Int32) (hg : Sd cy k) (sz : Nat) : Met l yL_best wsL_best rmL_best (va_Pc [.ref h, .int v, .ref q9] (WrPX G cI cL [(h, oX a t), ((a 0), oC a (cy.mo) (cy.co) (cy.le)), ((a 3), iA cI (cy.K)), ((a 4), iA cI (cy.Q)), ((a 5), iA cI (cy.L)), ((a 6), iA cI (cy.H)), ((a 7), iA cI (cy.M)), ((a 8), iA cI (cy.B)), ((a 9), iA cI (cy.C)), ((a 10), iA cI (cy.D)), ((a 11), iA cI (cy.F)), ((a 12), iA cI (cy.W)), ((t 0), oC t (dy.mo) (dy.co) (dy.le)), ((t 3), iA cI (dy.K)), ((t 4), iA cI (dy.Q)), ((t 5), iA cI (dy.L)), ((t 6), iA cI (dy.H)), ((t 7), iA cI (dy.M)), ((t 8), iA cI (dy.B)), ((t 9), iA cI (dy.C)), ((t 10), iA cI (dy.D)), ((t 11), iA cI (dy.F)), ((t 12), iA cI (dy.W)), (q9, lA cL o)] sz)) (va_Qi (fun (r : Int32) (u : Cy × Cy × (Nat → Int64)) => r = (cdBest v) ∧ Sd u.1 k ∧ (u.1.mo = cy.mo ∧ u.1.co = cy.co ∧ u.1.le = cy.le) ∧ ((cdBest v) = 0 → u.2.2 (0 : Int32).toNatClampNeg = Int32.toInt64 ((bsc k v 64).1))) (WrB G [(h, oX a t), ((a 0), oC a (cy.mo) (cy.co) (cy.le)), ((a 3), iA cI (cy.K)), ((a 4), iA cI (cy.Q)), ((a 5), iA cI (cy.L)), ((a 6), iA cI (cy.H)), ((a 7), iA cI (cy.M)), ((a 8), iA cI (cy.B)), ((a 9), iA cI (cy.C)), ((a 10), iA cI (cy.D)), ((a 11), iA cI (cy.F)), ((a 12), iA cI (cy.W)), ((t 0), oC t (dy.mo) (dy.co) (dy.le)), ((t 3), iA cI (dy.K)), ((t 4), iA cI (dy.Q)), ((t 5), iA cI (dy.L)), ((t 6), iA cI (dy.H)), ((t 7), iA cI (dy.M)), ((t 8), iA cI (dy.B)), ((t 9), iA cI (dy.C)), ((t 10), iA cI (dy.D)), ((t 11), iA cI (dy.F)), ((t 12), iA cI (dy.W)), (q9, lA cL o)] sz (fun u => [(h, oX a t), (a 0, oC a (u.1.mo) (u.1.co) (u.1.le)), (a 3, iA cI (u.1.K)), (a 4, iA cI (u.1.Q)), (a 5, iA cI (u.1.L)), (a 6, iA cI (u.1.H)), (a 7, iA cI (u.1.M)), (a 8, iA cI (u.1.B)), (a 9, iA cI (u.1.C)), (a 10, iA cI (u.1.D)), (a 11, iA cI (u.1.F)), (a 12, iA cI (u.1.W)), (t 0, oC t (u.2.1.mo) (u.2.1.co) (u.2.1.le)), (t 3, iA cI (u.2.1.K)), (t 4, iA cI (u.2.1.Q)), (t 5, iA cI (u.2.1.L)), (t 6, iA cI (u.2.1.H)), (t 7, iA cI (u.2.1.M)), (t 8, iA cI (u.2.1.B)), (t 9, iA cI (u.2.1.C)), (t 10, iA cI (u.2.1.D)), (t 11, iA cI (u.2.1.F)), (t 12, iA cI (u.2.1.W)), (q9, lA cL (u.2.2))])) (va_A [(h, oX a t), ((a 0), oC a (cy.mo) (cy.co) (cy.le)), ((a 3), iA cI (cy.K)), ((a 4), iA cI (cy.Q)), ((a 5), iA cI (cy.L)), ((a 6), iA cI (cy.H)), ((a 7), iA cI (cy.M)), ((a 8), iA cI (cy.B)), ((a 9), iA cI (cy.C)), ((a 10), iA cI (cy.D)), ((a 11), iA cI (cy.F)), ((a 12), iA cI (cy.W)), ((t 0), oC t (dy.mo) (dy.co) (dy.le)), ((t 3), iA cI (dy.K)), ((t 4), iA cI (dy.Q)), ((t 5), iA cI (dy.L)), ((t 6), iA cI (dy.H)), ((t 7), iA cI (dy.M)), ((t 8), iA cI (dy.B)), ((t 9), iA cI (dy.C)), ((t 10), iA cI (dy.D)), ((t 11), iA cI (dy.F)), ((t 12), iA cI (dy.W)), (q9, lA cL o)] sz)) 1 6 (va_A [(h, oX a t), ((a 0), oC a (cy.mo) (cy.co) (cy.le)), ((a 3), iA cI (cy.K)), ((a 4), iA cI (cy.Q)), ((a 5), iA cI (cy.L)), ((a 6), iA cI (cy.H)), ((a 7), iA cI (cy.M)), ((a 8), iA cI (cy.B)), ((a 9), iA cI (cy.C)), ((a 10), iA cI (cy.D)), ((a 11), iA cI (cy.F)), ((a 12), iA cI (cy.W)), ((t 0), oC t (dy.mo) (dy.co) (dy.le)), ((t 3), iA cI (dy.K)), ((t 4), iA cI (dy.Q)), ((t 5), iA cI (dy.L)), ((t 6), iA cI (dy.H)), ((t 7), iA cI (dy.M)), ((t 8), iA cI (dy.B)), ((t 9), iA cI (dy.C)), ((t 10), iA cI (dy.D)), ((t 11), iA cI (dy.F)), ((t 12), iA cI (dy.W)), (q9, lA cL o)] sz) := by
  refine Met_ofWH (cc := cL_best) (maxL := 4) (ret := (some .int)) (hh := [(0, 9, 12, 24)]) (by decide) rfl ?_
  intro p e s m args below meth c s₁ B hml hv
  obtain ⟨rfl, ⟨hsz, hP, hK, hD0, hN⟩, hKL, hE, hX, hNC, hZ⟩ := hv
  have hx := B.exec
  have hb := B.bytes
  have hr := B.returns
  have hlocks := B.notSynchronized
  have hts := atoms_spec (ws := wsL_best) B.pre
  have htab : c.exceptionTable.toList = tableOf [(0, 9, 12, 24)] := vx_table (x := yL_best) (y := yL_best) B (hts (.codeWith yL_best cL_best 4 (some .int) [(0, 9, 12, 24)]) (by unfold wsL_best; exact List.mem_cons_self))
  have hown : s.vm.findClass RL = some m.cls := findClass_of_methodNamed B.named
  subst hsz
  have hD := hD0.self (sz := s.heap.size)
  have hA : ∀ q : Nat, s.heap.size ≤ q → va_A [(h, oX a t), ((a 0), oC a (cy.mo) (cy.co) (cy.le)), ((a 3), iA cI (cy.K)), ((a 4), iA cI (cy.Q)), ((a 5), iA cI (cy.L)), ((a 6), iA cI (cy.H)), ((a 7), iA cI (cy.M)), ((a 8), iA cI (cy.B)), ((a 9), iA cI (cy.C)), ((a 10), iA cI (cy.D)), ((a 11), iA cI (cy.F)), ((a 12), iA cI (cy.W)), ((t 0), oC t (dy.mo) (dy.co) (dy.le)), ((t 3), iA cI (dy.K)), ((t 4), iA cI (dy.Q)), ((t 5), iA cI (dy.L)), ((t 6), iA cI (dy.H)), ((t 7), iA cI (dy.M)), ((t 8), iA cI (dy.B)), ((t 9), iA cI (dy.C)), ((t 10), iA cI (dy.D)), ((t 11), iA cI (dy.F)), ((t 12), iA cI (dy.W)), (q9, lA cL o)] s.heap.size q := fun q h => Or.inr h
  have hS : va_S (va_A [(h, oX a t), ((a 0), oC a (cy.mo) (cy.co) (cy.le)), ((a 3), iA cI (cy.K)), ((a 4), iA cI (cy.Q)), ((a 5), iA cI (cy.L)), ((a 6), iA cI (cy.H)), ((a 7), iA cI (cy.M)), ((a 8), iA cI (cy.B)), ((a 9), iA cI (cy.C)), ((a 10), iA cI (cy.D)), ((a 11), iA cI (cy.F)), ((a 12), iA cI (cy.W)), ((t 0), oC t (dy.mo) (dy.co) (dy.le)), ((t 3), iA cI (dy.K)), ((t 4), iA cI (dy.Q)), ((t 5), iA cI (dy.L)), ((t 6), iA cI (dy.H)), ((t 7), iA cI (dy.M)), ((t 8), iA cI (dy.B)), ((t 9), iA cI (dy.C)), ((t 10), iA cI (dy.D)), ((t 11), iA cI (dy.F)), ((t 12), iA cI (dy.W)), (q9, lA cL o)] s.heap.size) s.heap s.heap [] := va_S.rf
  obtain ⟨A, hAe⟩ : ∃ A, A = va_A [(h, oX a t), ((a 0), oC a (cy.mo) (cy.co) (cy.le)), ((a 3), iA cI (cy.K)), ((a 4), iA cI (cy.Q)), ((a 5), iA cI (cy.L)), ((a 6), iA cI (cy.H)), ((a 7), iA cI (cy.M)), ((a 8), iA cI (cy.B)), ((a 9), iA cI (cy.C)), ((a 10), iA cI (cy.D)), ((a 11), iA cI (cy.F)), ((a 12), iA cI (cy.W)), ((t 0), oC t (dy.mo) (dy.co) (dy.le)), ((t 3), iA cI (dy.K)), ((t 4), iA cI (dy.Q)), ((t 5), iA cI (dy.L)), ((t 6), iA cI (dy.H)), ((t 7), iA cI (dy.M)), ((t 8), iA cI (dy.B)), ((t 9), iA cI (dy.C)), ((t 10), iA cI (dy.D)), ((t 11), iA cI (dy.F)), ((t 12), iA cI (dy.W)), (q9, lA cL o)] s.heap.size := ⟨_, rfl⟩
  rw [← hAe] at hD hA hS hZ
  have FX : CallFix p m c cL_best 4 s ([.ref h, .int v, .ref q9] : List Value).toArray wsL_best RL := ⟨hx, hb, hml, hown, hts⟩
  have hl := lv_entry ([.ref h, .int v, .ref q9]) (n := 4) (Nat.le_of_ble_eq_true rfl)
  rw [lg_entry_eq]
  generalize (lg_sl ([.ref h, .int v, .ref q9]) ++ List.replicate (4 - (lg_sl ([.ref h, .int v, .ref q9])).length) Slot.unset).toArray = ls at hl ⊢
  have hl : lv_has ls 4 [(0, .ref h), (1, .int v), (2, .ref q9)] := hl
  refine wq (fun Q hQ => ?_)
  have hzc : 0 + 0 ≤ (headSpec wsL_best rmL_best).room.cells := Nat.zero_le _
  have hzs : 0 + 0 ≤ (headSpec wsL_best rmL_best).room.slots := Nat.zero_le _
  have hS0 := hg.2.1
  have hgt := hg.2.2.1
  have hk := hg.1
  have hkd := hg.2.2.2
  rcases Decidable.em ((cdBest v) = 0) with hcd | hcd
  · skip
    refine w_widen (k := 1) (n := 6) (by decide) (by decide) ?_
    have hzc : 1 + 0 ≤ (headSpec wsL_best rmL_best).room.cells := Nat.le_of_ble_eq_true rfl
    have hzs : 6 + 0 ≤ (headSpec wsL_best rmL_best).room.slots := Nat.le_of_ble_eq_true rfl
    have hin := best_0 hcd
    refine lv_aload_n hx hb dL_best_0 rfl (lv_at hl 2 rfl) ?_
    refine lv_iconst (v := 0) hx hb dL_best_1 (by decide) ?_
    refine lv_aload_n hx hb dL_best_2 rfl (lv_at hl 0 rfl) ?_
    refine lv_iload_n hx hb dL_best_3 rfl (lv_at hl 1 rfl) ?_
    refine cw_i (wr := [(q9, lA cL o)]) (va_runV (As := [.int v]) (rest := [.int 0, .ref q9]) FX (c_X1_best_ok l G cI h a t cy.mo cy.co cy.le cy.K cy.Q cy.L cy.H cy.M cy.B cy.C cy.D cy.F cy.W k dy.mo dy.co dy.le dy.K dy.Q dy.L dy.H dy.M dy.B dy.C dy.D dy.F dy.W v hk hgt hin _) (cwV 1 hts gL_best_X1_best rfl rfl rfl (by decide +kernel) ⟨Nat.le_of_ble_eq_true rfl, Nat.le_of_ble_eq_true rfl⟩) (wrV hK hP hD hN [0, 1, 2, 3, 4, 5, 6, 7, 8, 9, 10, 11, 12, 13, 14, 15, 16, 17, 18, 19, 20, 21, 22] (by decide) rfl rfl (ci := 1) (q0 := 0) rfl rfl) rfl rfl hl.1 rfl (lv_room (Nat.le_of_ble_eq_true rfl)) dL_best_4 ⟨Nat.le_of_ble_eq_true rfl, Nat.le_of_ble_eq_true rfl⟩) hS hP hD hA [0, 1, 2, 3, 4, 5, 6, 7, 8, 9, 10, 11, 12, 13, 14, 15, 16, 17, 18, 19, 20, 21, 22] [23] rfl rfl (by decide) (by decide) (fun r9 u H locs hw hP hD hS => ?_)
    obtain ⟨⟨m1, c1, l1⟩, K1, Q1, L1, H1, M1, B1, C1, D1, W1⟩ := u
    have hP := hP.sub (ws' := [(h, oX a t), ((a 0), oC a (cy.mo) (cy.co) (cy.le)), ((a 3), iA cI (cy.K)), ((a 4), iA cI (cy.Q)), ((a 5), iA cI (cy.L)), ((a 6), iA cI (cy.H)), ((a 7), iA cI (cy.M)), ((a 8), iA cI (cy.B)), ((a 9), iA cI (cy.C)), ((a 10), iA cI (cy.D)), ((a 11), iA cI (cy.F)), ((a 12), iA cI (cy.W)), ((t 0), oC t m1 c1 l1), ((t 3), iA cI K1), ((t 4), iA cI Q1), ((t 5), iA cI L1), ((t 6), iA cI H1), ((t 7), iA cI M1), ((t 8), iA cI B1), ((t 9), iA cI C1), ((t 10), iA cI D1), ((t 11), iA cI (dy.F)), ((t 12), iA cI W1), (q9, lA cL o)]) [1, 2, 3, 4, 5, 6, 7, 8, 9, 10, 11, 12, 13, 14, 15, 16, 17, 18, 19, 20, 21, 22, 23, 0] rfl
    have hD := hD.sub (ws' := [(h, oX a t), ((a 0), oC a (cy.mo) (cy.co) (cy.le)), ((a 3), iA cI (cy.K)), ((a 4), iA cI (cy.Q)), ((a 5), iA cI (cy.L)), ((a 6), iA cI (cy.H)), ((a 7), iA cI (cy.M)), ((a 8), iA cI (cy.B)), ((a 9), iA cI (cy.C)), ((a 10), iA cI (cy.D)), ((a 11), iA cI (cy.F)), ((a 12), iA cI (cy.W)), ((t 0), oC t m1 c1 l1), ((t 3), iA cI K1), ((t 4), iA cI Q1), ((t 5), iA cI L1), ((t 6), iA cI H1), ((t 7), iA cI M1), ((t 8), iA cI B1), ((t 9), iA cI C1), ((t 10), iA cI D1), ((t 11), iA cI (dy.F)), ((t 12), iA cI W1), (q9, lA cL o)]) [1, 2, 3, 4, 5, 6, 7, 8, 9, 10, 11, 12, 13, 14, 15, 16, 17, 18, 19, 20, 21, 22, 23, 0] (by decide) rfl
    refine lv_i2l (v := r9.toInt64) hx hb dL_best_7 rfl ?_
    refine va_last hx hb hKL hP hD hS 23 0 rfl rfl vp_in01 dL_best_8 (fun H locs hP hD hS => ?_)
    have hP : va_P G vwCl [(h, oX a t), ((a 0), oC a (cy.mo) (cy.co) (cy.le)), ((a 3), iA cI (cy.K)), ((a 4), iA cI (cy.Q)), ((a 5), iA cI (cy.L)), ((a 6), iA cI (cy.H)), ((a 7), iA cI (cy.M)), ((a 8), iA cI (cy.B)), ((a 9), iA cI (cy.C)), ((a 10), iA cI (cy.D)), ((a 11), iA cI (cy.F)), ((a 12), iA cI (cy.W)), ((t 0), oC t m1 c1 l1), ((t 3), iA cI K1), ((t 4), iA cI Q1), ((t 5), iA cI L1), ((t 6), iA cI H1), ((t 7), iA cI M1), ((t 8), iA cI B1), ((t 9), iA cI C1), ((t 10), iA cI D1), ((t 11), iA cI (dy.F)), ((t 12), iA cI W1), (q9, lA cL (vp_updL o (0 : Int32).toNatClampNeg (r9.toInt64)))] H := hP
    have hD : va_D A [(h, oX a t), ((a 0), oC a (cy.mo) (cy.co) (cy.le)), ((a 3), iA cI (cy.K)), ((a 4), iA cI (cy.Q)), ((a 5), iA cI (cy.L)), ((a 6), iA cI (cy.H)), ((a 7), iA cI (cy.M)), ((a 8), iA cI (cy.B)), ((a 9), iA cI (cy.C)), ((a 10), iA cI (cy.D)), ((a 11), iA cI (cy.F)), ((a 12), iA cI (cy.W)), ((t 0), oC t m1 c1 l1), ((t 3), iA cI K1), ((t 4), iA cI Q1), ((t 5), iA cI L1), ((t 6), iA cI H1), ((t 7), iA cI M1), ((t 8), iA cI B1), ((t 9), iA cI C1), ((t 10), iA cI D1), ((t 11), iA cI (dy.F)), ((t 12), iA cI W1), (q9, lA cL (vp_updL o (0 : Int32).toNatClampNeg (r9.toInt64)))] := hD
    refine lv_goto (tgt := 15) hx hb dL_best_9 (by decide) ?_
    refine lv_iconst (v := 0) hx hb dL_best_15 (by decide) ?_
    subst hQ
    subst hAe
    exact wr_i (cy, ⟨m1, c1, l1, K1, Q1, L1, H1, M1, B1, C1, D1, dy.F, W1⟩, vp_updL o (0 : Int32).toNatClampNeg r9.toInt64) (⟨hcd.symm, hg, ⟨rfl, rfl, rfl⟩, fun _ => updL_at (o := o) (j := (0 : Int32).toNatClampNeg) (hw)⟩) hx hb hr hP hD hS hlocks dL_best_16
  · skip
    refine lv_aload_n hx hb dL_best_0 rfl (lv_at hl 2 rfl) ?_
    refine lv_iconst (v := 0) hx hb dL_best_1 (by decide) ?_
    refine lv_aload_n hx hb dL_best_2 rfl (lv_at hl 0 rfl) ?_
    refine lv_iload_n hx hb dL_best_3 rfl (lv_at hl 1 rfl) ?_
    refine xr_i (vx_runV (As := [.int v]) (rest := [.int 0, .ref q9]) FX (c_X1_best_no l G cI hst h a t cy.mo cy.co cy.le cy.K cy.Q cy.L cy.H cy.M cy.B cy.C cy.D cy.F cy.W k v hk hcd) (cwV 1 hts gL_best_X1_best rfl rfl rfl (by decide +kernel) ⟨Nat.le_of_ble_eq_true rfl, Nat.le_of_ble_eq_true rfl⟩) (xrV hK hP hN hE hX hZ hS [0, 1, 2, 3, 4, 5, 6, 7, 8, 9, 10, 11] rfl (ci := 1) (q0 := 0) rfl rfl) rfl rfl hl.1 rfl (lv_room (Nat.le_of_ble_eq_true rfl)) dL_best_4 ⟨Nat.le_of_ble_eq_true rfl, Nat.le_of_ble_eq_true rfl⟩) hS hP (fun E ce q8 H locs hcE hP hS h1 h2 h3 => ?_)
    obtain ⟨rfl, hce⟩ := hcE
    · skip
      refine vx_catch hown [] ⟨0, 9, 12, 24⟩ [] htab (fun z hz => nomatch hz) (by decide) (by decide) (hts (.classLink RL 24 "java/lang/IllegalArgumentException") (by decide +kernel)) (EXW_use hX (.castable "java/lang/IllegalArgumentException" "java/lang/IllegalArgumentException") (by decide)) h1 h2 h3 ?_
      refine W.eq (g2 := F0 m 12 ls [.ref q8]) rfl ?_
      refine lv_astore_n (lv' := [(3, .ref q8), (0, .ref h), (1, .int v), (2, .ref q9)]) hx hb dL_best_12 rfl hl (by decide) rfl (fun ls hl => ?_)
      refine lv_iconst (v := 1) hx hb dL_best_13 (by decide) ?_
      subst hQ
      subst hAe
      exact wr_i (cy, dy, o) (⟨hce.symm, hg, ⟨rfl, rfl, rfl⟩, fun h9 => absurd h9 hcd⟩) hx hb hr hP hD hS hlocks dL_best_14

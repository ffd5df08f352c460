def rmX1_drain_ok : Room := { frames := 6, cells := 0, slots := 0, locals := 140 }
set_option maxHeartbeats 4000000 in
set_option maxRecDepth 100000 in
theorem c_X1_drain_ok (l : Launch) (G : va_G) (cI : ClassId) (h : Nat) (a t : Nat → Nat) (mo co le : Int32) (K Qa La Ha Ma Ba Ca Da Fa Wa k : Nat → Int32) (x y : Int32) (hk : eqK K k) (hg : wtr (k 3) = true) (hcd : cdDrain k co x y = 0) (sz : Nat) : Met l yX1_drain wsX1_drain rmX1_drain_ok (va_Pc [.ref h, .int x, .int y] (WrP G cI [(h, oX a t), ((a 0), oC a mo co le), ((a 3), iA cI K), ((a 4), iA cI Qa), ((a 5), iA cI La), ((a 6), iA cI Ha), ((a 7), iA cI Ma), ((a 8), iA cI Ba), ((a 9), iA cI Ca), ((a 10), iA cI Da), ((a 11), iA cI Fa), ((a 12), iA cI Wa)] sz)) (va_Qi (fun (r : Int32) (u : (Nat → Int32) × (Nat → Int32) × (Nat → Int32) × (Nat → Int32) × (Nat → Int32) × (Nat → Int32) × (Nat → Int32) × (Nat → Int32)) => r = co - 2 ∧ SVd (upd k (pAt x y) 2) (u.1) (u.2.1) (u.2.2.1) (u.2.2.2.1) (u.2.2.2.2.1) (u.2.2.2.2.2.1) (u.2.2.2.2.2.2.1)) (WrB G [(h, oX a t), ((a 0), oC a mo co le), ((a 3), iA cI K), ((a 4), iA cI Qa), ((a 5), iA cI La), ((a 6), iA cI Ha), ((a 7), iA cI Ma), ((a 8), iA cI Ba), ((a 9), iA cI Ca), ((a 10), iA cI Da), ((a 11), iA cI Fa), ((a 12), iA cI Wa)] sz (fun u => [(h, oX a t), (a 0, oC a mo (co - 2) le), (a 3, iA cI (upd K (pAt x y) 2)), (a 4, iA cI (u.1)), (a 5, iA cI (u.2.1)), (a 6, iA cI (u.2.2.1)), (a 7, iA cI (u.2.2.2.1)), (a 8, iA cI (u.2.2.2.2.1)), (a 9, iA cI (u.2.2.2.2.2.1)), (a 10, iA cI (u.2.2.2.2.2.2.1)), (a 11, iA cI Fa), (a 12, iA cI (u.2.2.2.2.2.2.2))])) (va_A [(h, oX a t), ((a 0), oC a mo co le), ((a 3), iA cI K), ((a 4), iA cI Qa), ((a 5), iA cI La), ((a 6), iA cI Ha), ((a 7), iA cI Ma), ((a 8), iA cI Ba), ((a 9), iA cI Ca), ((a 10), iA cI Da), ((a 11), iA cI Fa), ((a 12), iA cI Wa)] sz)) 0 0 (va_A [(h, oX a t), ((a 0), oC a mo co le), ((a 3), iA cI K), ((a 4), iA cI Qa), ((a 5), iA cI La), ((a 6), iA cI Ha), ((a 7), iA cI Ma), ((a 8), iA cI Ba), ((a 9), iA cI Ca), ((a 10), iA cI Da), ((a 11), iA cI Fa), ((a 12), iA cI Wa)] sz) := by
  refine Met.ofW (cc := cX1_drain) (maxL := 4) (ret := (some .int)) (by decide) rfl ?_
  intro p e s m args below meth c s₁ B hml hv
  obtain ⟨rfl, hsz, hP, hK, hD0, hN⟩ := hv
  have hx := B.exec
  have hb := B.bytes
  have hr := B.returns
  have hlocks := B.notSynchronized
  have hts := atoms_spec (ws := wsX1_drain) B.pre
  have hown : s.vm.findClass RX1 = some m.cls := findClass_of_methodNamed B.named
  subst hsz
  have hD := hD0.self (sz := s.heap.size)
  have hA : ∀ q : Nat, s.heap.size ≤ q → va_A [(h, oX a t), ((a 0), oC a mo co le), ((a 3), iA cI K), ((a 4), iA cI Qa), ((a 5), iA cI La), ((a 6), iA cI Ha), ((a 7), iA cI Ma), ((a 8), iA cI Ba), ((a 9), iA cI Ca), ((a 10), iA cI Da), ((a 11), iA cI Fa), ((a 12), iA cI Wa)] s.heap.size q := fun q h => Or.inr h
  have hS : va_S (va_A [(h, oX a t), ((a 0), oC a mo co le), ((a 3), iA cI K), ((a 4), iA cI Qa), ((a 5), iA cI La), ((a 6), iA cI Ha), ((a 7), iA cI Ma), ((a 8), iA cI Ba), ((a 9), iA cI Ca), ((a 10), iA cI Da), ((a 11), iA cI Fa), ((a 12), iA cI Wa)] s.heap.size) s.heap s.heap [] := va_S.rf
  obtain ⟨A, hAe⟩ : ∃ A, A = va_A [(h, oX a t), ((a 0), oC a mo co le), ((a 3), iA cI K), ((a 4), iA cI Qa), ((a 5), iA cI La), ((a 6), iA cI Ha), ((a 7), iA cI Ma), ((a 8), iA cI Ba), ((a 9), iA cI Ca), ((a 10), iA cI Da), ((a 11), iA cI Fa), ((a 12), iA cI Wa)] s.heap.size := ⟨_, rfl⟩
  rw [← hAe] at hD hA hS
  have FX : CallFix p m c cX1_drain 4 s ([.ref h, .int x, .int y] : List Value).toArray wsX1_drain RX1 := ⟨hx, hb, hml, hown, hts⟩
  have hl := lv_entry ([.ref h, .int x, .int y]) (n := 4) (Nat.le_of_ble_eq_true rfl)
  rw [lg_entry_eq]
  generalize (lg_sl ([.ref h, .int x, .int y]) ++ List.replicate (4 - (lg_sl ([.ref h, .int x, .int y])).length) Slot.unset).toArray = ls at hl ⊢
  have hl : lv_has ls 4 [(0, .ref h), (1, .int x), (2, .int y)] := hl
  refine wq (fun Q hQ => ?_)
  have hzc : 0 + 0 ≤ (headSpec wsX1_drain rmX1_drain_ok).room.cells := Nat.zero_le _
  have hzs : 0 + 0 ≤ (headSpec wsX1_drain rmX1_drain_ok).room.slots := Nat.zero_le _
  have hf10 := hts (.fieldLink RX1 10 "CanalCity" "now" "LCanalCity$City;") (by decide +kernel)
  have hinX0 : ∀ w ∈ u_ws RX0 TX0 13, w ∈ wsX1_drain := by decide +kernel
  have hinX1 : ∀ w ∈ u_ws RX1 TX1 2, w ∈ wsX1_drain := by decide +kernel
  obtain ⟨hpl, hc1, hc2⟩ := drain_0 hcd
  have hat := (plc_at hpl).1
  refine lv_iload_n hx hb dX1_drain_0 rfl (lv_at hl 1 rfl) ?_
  refine lv_iload_n hx hb dX1_drain_1 rfl (lv_at hl 2 rfl) ?_
  refine cr_i (va_runS (As := [.int x, .int y]) (rest := []) FX (c_X1_checkedNumber_ok l x y hpl) (va_cwS 2 hts gX1_drain_X1_checkedNumber rfl rfl rfl (by decide +kernel) ⟨Nat.le_of_ble_eq_true rfl, Nat.le_of_ble_eq_true rfl⟩) puS rfl rfl hl.1 rfl (lv_room (Nat.le_of_ble_eq_true rfl)) dX1_drain_2 ⟨hzc, hzs⟩) hS hP (fun H locs hP hS => ?_)
  refine lv_istore_n (lv' := [(3, .int (nI (pAt x y))), (0, .ref h), (1, .int x), (2, .int y)]) hx hb dX1_drain_5 rfl hl (by decide) rfl (fun ls hl => ?_)
  refine lv_aload_n hx hb dX1_drain_6 rfl (lv_at hl 1 rfl) ?_
  refine va_get (D := G) (ci := 1) (v := .ref (a 0)) (C := RX1) (T := TX1) (N := 2) hx hb hts hinX1 hown hK hP 0 rfl rfl 0 (by decide) hf10 (fun _ h9 => h9) rfl dX1_drain_7 ?_
  refine va_getN (host := "CanalCity") (D := G) (ci := 0) (v := .ref (a 3)) (C := RX0) (T := TX0) (N := 13) hx hb hts hinX0 hown hK hP 1 rfl rfl 3 (by decide) (va_Nw.use rfl (NW_at hN 1 rfl)) (fun _ h9 => h9) rfl dX1_drain_10 ?_
  refine lv_iload_n hx hb dX1_drain_13 rfl (lv_at hl 0 rfl) ?_
  refine va_iald hx hb hK hP 2 0 rfl rfl (vp_in_nI hat (by decide)) dX1_drain_14 ?_
  refine tpi (x' := K (pAt x y)) (congrArg K (nI_clamp (by omega))) ?_
  refine tpi (x' := k (pAt x y)) (hk _ hat) ?_
  refine lv_if_eq (tgt := 28) hx hb dX1_drain_15 (by decide) (fun _ => ?_) (fun c => absurd (hc1) c)
  refine lv_aload_n hx hb dX1_drain_28 rfl (lv_at hl 1 rfl) ?_
  refine lv_iconst (v := 2) hx hb dX1_drain_29 (by decide) ?_
  refine cr_v (va_runV (As := [.int 2]) (rest := []) FX (c_X1_checkCoins_ok l G cI h a t mo co le K Qa La Ha Ma Ba Ca Da Fa Wa k 2 hc2) (cwV 1 hts gX1_drain_X1_checkCoins rfl rfl rfl (by decide +kernel) ⟨Nat.le_of_ble_eq_true rfl, Nat.le_of_ble_eq_true rfl⟩) (rdV hK hP hN [0, 1, 2, 3, 4, 5, 6, 7, 8, 9, 10, 11] rfl (ci := 1) (q0 := 0) rfl rfl) rfl rfl hl.1 rfl (lv_room (Nat.le_of_ble_eq_true rfl)) dX1_drain_30 ⟨hzc, hzs⟩) hS hP (fun H locs hP hS => ?_)
  refine lv_aload_n hx hb dX1_drain_33 rfl (lv_at hl 1 rfl) ?_
  refine va_get (D := G) (ci := 1) (v := .ref (a 0)) (C := RX1) (T := TX1) (N := 2) hx hb hts hinX1 hown hK hP 0 rfl rfl 0 (by decide) hf10 (fun _ h9 => h9) rfl dX1_drain_34 ?_
  refine lv_iload_n hx hb dX1_drain_37 rfl (lv_at hl 0 rfl) ?_
  refine lv_iconst (v := 2) hx hb dX1_drain_38 (by decide) ?_
  refine lv_iconst (v := 2) hx hb dX1_drain_39 (by decide) ?_
  refine cw_v (wr := [(h, oX a t)]) (va_runV (As := [.int (nI (pAt x y)), .int 2, .int 2]) (rest := []) FX (c_X0_buy l G cI a mo co le K Qa La Ha Ma Ba Ca Da Fa Wa k (pAt x y) 2 2 hk hat (gate_upd hg (Or.inl (by rw [hc1]; decide))) _) (cwV 3 hts gX1_drain_X0_buy rfl rfl rfl (by decide +kernel) ⟨Nat.le_of_ble_eq_true rfl, Nat.le_of_ble_eq_true rfl⟩) (wrV hK hP hD hN [1, 2, 3, 4, 5, 6, 7, 8, 9, 10, 11] (by decide) rfl rfl (ci := 0) (q0 := 1) rfl rfl) rfl rfl hl.1 rfl (lv_room (Nat.le_of_ble_eq_true rfl)) dX1_drain_40 ⟨hzc, hzs⟩) hS hP hD hA [1, 2, 3, 4, 5, 6, 7, 8, 9, 10, 11] [0] rfl rfl (by decide) (by decide) (fun u H locs hw hP hD hS => ?_)
  obtain ⟨Q1, L1, H1, M1, B1, C1, D1, W1⟩ := u
  have hP := hP.sub (ws' := [(h, oX a t), ((a 0), oC a mo (co - 2) le), ((a 3), iA cI (upd K (pAt x y) 2)), ((a 4), iA cI Q1), ((a 5), iA cI L1), ((a 6), iA cI H1), ((a 7), iA cI M1), ((a 8), iA cI B1), ((a 9), iA cI C1), ((a 10), iA cI D1), ((a 11), iA cI Fa), ((a 12), iA cI W1)]) [0, 1, 2, 3, 4, 5, 6, 7, 8, 9, 10, 11] rfl
  have hD := hD.sub (ws' := [(h, oX a t), ((a 0), oC a mo (co - 2) le), ((a 3), iA cI (upd K (pAt x y) 2)), ((a 4), iA cI Q1), ((a 5), iA cI L1), ((a 6), iA cI H1), ((a 7), iA cI M1), ((a 8), iA cI B1), ((a 9), iA cI C1), ((a 10), iA cI D1), ((a 11), iA cI Fa), ((a 12), iA cI W1)]) [0, 1, 2, 3, 4, 5, 6, 7, 8, 9, 10, 11] (by decide) rfl
  refine lv_aload_n hx hb dX1_drain_43 rfl (lv_at hl 1 rfl) ?_
  refine va_get (D := G) (ci := 1) (v := .ref (a 0)) (C := RX1) (T := TX1) (N := 2) hx hb hts hinX1 hown hK hP 0 rfl rfl 0 (by decide) hf10 (fun _ h9 => h9) rfl dX1_drain_44 ?_
  refine va_getN (host := "CanalCity") (D := G) (ci := 0) (v := .int (co - 2)) (C := RX0) (T := TX0) (N := 13) hx hb hts hinX0 hown hK hP 1 rfl rfl 1 (by decide) (va_Nw.use rfl (NW_at hN 0 rfl)) (fun _ h9 => h9) rfl dX1_drain_47 ?_
  subst hQ
  subst hAe
  exact wr_i (Q1, L1, H1, M1, B1, C1, D1, W1) (⟨rfl, hw⟩) hx hb hr hP hD hS hlocks dX1_drain_50

def rmX1_dig_ok : Room := { frames := 6, cells := 0, slots := 0, locals := 140 }
set_option maxHeartbeats 4000000 in
set_option maxRecDepth 100000 in
theorem c_X1_dig_ok (l : Launch) (G : va_G) (cI : ClassId) (h : Nat) (a t : Nat → Nat) (mo co le : Int32) (K Qa La Ha Ma Ba Ca Da Fa Wa k : Nat → Int32) (x y : Int32) (hk : eqK K k) (hg : wtr (k 3) = true) (hcd : cdDig k co x y = 0) (sz : Nat) : Met l yX1_dig wsX1_dig rmX1_dig_ok (va_Pc [.ref h, .int x, .int y] (WrP G cI [(h, oX a t), ((a 0), oC a mo co le), ((a 3), iA cI K), ((a 4), iA cI Qa), ((a 5), iA cI La), ((a 6), iA cI Ha), ((a 7), iA cI Ma), ((a 8), iA cI Ba), ((a 9), iA cI Ca), ((a 10), iA cI Da), ((a 11), iA cI Fa), ((a 12), iA cI Wa)] sz)) (va_Qi (fun (r : Int32) (u : (Nat → Int32) × (Nat → Int32) × (Nat → Int32) × (Nat → Int32) × (Nat → Int32) × (Nat → Int32) × (Nat → Int32) × (Nat → Int32)) => r = co - 3 ∧ SVd (upd k (pAt x y) 1) (u.1) (u.2.1) (u.2.2.1) (u.2.2.2.1) (u.2.2.2.2.1) (u.2.2.2.2.2.1) (u.2.2.2.2.2.2.1)) (WrB G [(h, oX a t), ((a 0), oC a mo co le), ((a 3), iA cI K), ((a 4), iA cI Qa), ((a 5), iA cI La), ((a 6), iA cI Ha), ((a 7), iA cI Ma), ((a 8), iA cI Ba), ((a 9), iA cI Ca), ((a 10), iA cI Da), ((a 11), iA cI Fa), ((a 12), iA cI Wa)] sz (fun u => [(h, oX a t), (a 0, oC a mo (co - 3) le), (a 3, iA cI (upd K (pAt x y) 1)), (a 4, iA cI (u.1)), (a 5, iA cI (u.2.1)), (a 6, iA cI (u.2.2.1)), (a 7, iA cI (u.2.2.2.1)), (a 8, iA cI (u.2.2.2.2.1)), (a 9, iA cI (u.2.2.2.2.2.1)), (a 10, iA cI (u.2.2.2.2.2.2.1)), (a 11, iA cI Fa), (a 12, iA cI (u.2.2.2.2.2.2.2))])) (va_A [(h, oX a t), ((a 0), oC a mo co le), ((a 3), iA cI K), ((a 4), iA cI Qa), ((a 5), iA cI La), ((a 6), iA cI Ha), ((a 7), iA cI Ma), ((a 8), iA cI Ba), ((a 9), iA cI Ca), ((a 10), iA cI Da), ((a 11), iA cI Fa), ((a 12), iA cI Wa)] sz)) 0 0 (va_A [(h, oX a t), ((a 0), oC a mo co le), ((a 3), iA cI K), ((a 4), iA cI Qa), ((a 5), iA cI La), ((a 6), iA cI Ha), ((a 7), iA cI Ma), ((a 8), iA cI Ba), ((a 9), iA cI Ca), ((a 10), iA cI Da), ((a 11), iA cI Fa), ((a 12), iA cI Wa)] sz) := by
  refine Met.ofW (cc := cX1_dig) (maxL := 5) (ret := (some .int)) (by decide) rfl ?_
  intro p e s m args below meth c s₁ B hml hv
  obtain ⟨rfl, hsz, hP, hK, hD0, hN⟩ := hv
  have hx := B.exec
  have hb := B.bytes
  have hr := B.returns
  have hlocks := B.notSynchronized
  have hts := atoms_spec (ws := wsX1_dig) B.pre
  have hown : s.vm.findClass RX1 = some m.cls := findClass_of_methodNamed B.named
  subst hsz
  have hD := hD0.self (sz := s.heap.size)
  have hA : ∀ q : Nat, s.heap.size ≤ q → va_A [(h, oX a t), ((a 0), oC a mo co le), ((a 3), iA cI K), ((a 4), iA cI Qa), ((a 5), iA cI La), ((a 6), iA cI Ha), ((a 7), iA cI Ma), ((a 8), iA cI Ba), ((a 9), iA cI Ca), ((a 10), iA cI Da), ((a 11), iA cI Fa), ((a 12), iA cI Wa)] s.heap.size q := fun q h => Or.inr h
  have hS : va_S (va_A [(h, oX a t), ((a 0), oC a mo co le), ((a 3), iA cI K), ((a 4), iA cI Qa), ((a 5), iA cI La), ((a 6), iA cI Ha), ((a 7), iA cI Ma), ((a 8), iA cI Ba), ((a 9), iA cI Ca), ((a 10), iA cI Da), ((a 11), iA cI Fa), ((a 12), iA cI Wa)] s.heap.size) s.heap s.heap [] := va_S.rf
  obtain ⟨A, hAe⟩ : ∃ A, A = va_A [(h, oX a t), ((a 0), oC a mo co le), ((a 3), iA cI K), ((a 4), iA cI Qa), ((a 5), iA cI La), ((a 6), iA cI Ha), ((a 7), iA cI Ma), ((a 8), iA cI Ba), ((a 9), iA cI Ca), ((a 10), iA cI Da), ((a 11), iA cI Fa), ((a 12), iA cI Wa)] s.heap.size := ⟨_, rfl⟩
  rw [← hAe] at hD hA hS
  have FX : CallFix p m c cX1_dig 5 s ([.ref h, .int x, .int y] : List Value).toArray wsX1_dig RX1 := ⟨hx, hb, hml, hown, hts⟩
  have hl := lv_entry ([.ref h, .int x, .int y]) (n := 5) (Nat.le_of_ble_eq_true rfl)
  rw [lg_entry_eq]
  generalize (lg_sl ([.ref h, .int x, .int y]) ++ List.replicate (5 - (lg_sl ([.ref h, .int x, .int y])).length) Slot.unset).toArray = ls at hl ⊢
  have hl : lv_has ls 5 [(0, .ref h), (1, .int x), (2, .int y)] := hl
  refine wq (fun Q hQ => ?_)
  have hzc : 0 + 0 ≤ (headSpec wsX1_dig rmX1_dig_ok).room.cells := Nat.zero_le _
  have hzs : 0 + 0 ≤ (headSpec wsX1_dig rmX1_dig_ok).room.slots := Nat.zero_le _
  have hf10 := hts (.fieldLink RX1 10 "CanalCity" "now" "LCanalCity$City;") (by decide +kernel)
  have hinX0 : ∀ w ∈ u_ws RX0 TX0 13, w ∈ wsX1_dig := by decide +kernel
  have hinX1 : ∀ w ∈ u_ws RX1 TX1 2, w ∈ wsX1_dig := by decide +kernel
  obtain ⟨hpl, hc1, hc2⟩ := dig_0 hcd
  have hat := (plc_at hpl).1
  refine lv_iload_n hx hb dX1_dig_0 rfl (lv_at hl 1 rfl) ?_
  refine lv_iload_n hx hb dX1_dig_1 rfl (lv_at hl 2 rfl) ?_
  refine cr_i (va_runS (As := [.int x, .int y]) (rest := []) FX (c_X1_checkedNumber_ok l x y hpl) (va_cwS 2 hts gX1_dig_X1_checkedNumber rfl rfl rfl (by decide +kernel) ⟨Nat.le_of_ble_eq_true rfl, Nat.le_of_ble_eq_true rfl⟩) puS rfl rfl hl.1 rfl (lv_room (Nat.le_of_ble_eq_true rfl)) dX1_dig_2 ⟨hzc, hzs⟩) hS hP (fun H locs hP hS => ?_)
  refine lv_istore_n (lv' := [(3, .int (nI (pAt x y))), (0, .ref h), (1, .int x), (2, .int y)]) hx hb dX1_dig_5 rfl hl (by decide) rfl (fun ls hl => ?_)
  refine lv_aload_n hx hb dX1_dig_6 rfl (lv_at hl 1 rfl) ?_
  refine va_get (D := G) (ci := 1) (v := .ref (a 0)) (C := RX1) (T := TX1) (N := 2) hx hb hts hinX1 hown hK hP 0 rfl rfl 0 (by decide) hf10 (fun _ h9 => h9) rfl dX1_dig_7 ?_
  refine va_getN (host := "CanalCity") (D := G) (ci := 0) (v := .ref (a 3)) (C := RX0) (T := TX0) (N := 13) hx hb hts hinX0 hown hK hP 1 rfl rfl 3 (by decide) (va_Nw.use rfl (NW_at hN 1 rfl)) (fun _ h9 => h9) rfl dX1_dig_10 ?_
  refine lv_iload_n hx hb dX1_dig_13 rfl (lv_at hl 0 rfl) ?_
  refine va_iald hx hb hK hP 2 0 rfl rfl (vp_in_nI hat (by decide)) dX1_dig_14 ?_
  refine tpi (x' := K (pAt x y)) (congrArg K (nI_clamp (by omega))) ?_
  refine tpi (x' := k (pAt x y)) (hk _ hat) ?_
  refine lv_istore (lv' := [(4, .int (k (pAt x y))), (3, .int (nI (pAt x y))), (0, .ref h), (1, .int x), (2, .int y)]) hx hb dX1_dig_15 hl (by decide) rfl (fun ls hl => ?_)
  refine lv_iload hx hb dX1_dig_17 (lv_at hl 0 rfl) ?_
  refine lv_if_eq (tgt := 38) hx hb dX1_dig_19 (by decide) (fun c0 => ?_) (fun c0 => ?_)
  · skip
    refine lv_aload_n hx hb dX1_dig_38 rfl (lv_at hl 2 rfl) ?_
    refine lv_iconst (v := 3) hx hb dX1_dig_39 (by decide) ?_
    refine cr_v (va_runV (As := [.int 3]) (rest := []) FX (c_X1_checkCoins_ok l G cI h a t mo co le K Qa La Ha Ma Ba Ca Da Fa Wa k 3 hc2) (cwV 1 hts gX1_dig_X1_checkCoins rfl rfl rfl (by decide +kernel) ⟨Nat.le_of_ble_eq_true rfl, Nat.le_of_ble_eq_true rfl⟩) (rdV hK hP hN [0, 1, 2, 3, 4, 5, 6, 7, 8, 9, 10, 11] rfl (ci := 1) (q0 := 0) rfl rfl) rfl rfl hl.1 rfl (lv_room (Nat.le_of_ble_eq_true rfl)) dX1_dig_40 ⟨hzc, hzs⟩) hS hP (fun H locs hP hS => ?_)
    refine lv_aload_n hx hb dX1_dig_43 rfl (lv_at hl 2 rfl) ?_
    refine va_get (D := G) (ci := 1) (v := .ref (a 0)) (C := RX1) (T := TX1) (N := 2) hx hb hts hinX1 hown hK hP 0 rfl rfl 0 (by decide) hf10 (fun _ h9 => h9) rfl dX1_dig_44 ?_
    refine lv_iload_n hx hb dX1_dig_47 rfl (lv_at hl 1 rfl) ?_
    refine lv_iconst (v := 1) hx hb dX1_dig_48 (by decide) ?_
    refine lv_iconst (v := 3) hx hb dX1_dig_49 (by decide) ?_
    refine cw_v (wr := [(h, oX a t)]) (va_runV (As := [.int (nI (pAt x y)), .int 1, .int 3]) (rest := []) FX (c_X0_buy l G cI a mo co le K Qa La Ha Ma Ba Ca Da Fa Wa k (pAt x y) 1 3 hk hat (gate_upd hg (Or.inr (by decide))) _) (cwV 3 hts gX1_dig_X0_buy rfl rfl rfl (by decide +kernel) ⟨Nat.le_of_ble_eq_true rfl, Nat.le_of_ble_eq_true rfl⟩) (wrV hK hP hD hN [1, 2, 3, 4, 5, 6, 7, 8, 9, 10, 11] (by decide) rfl rfl (ci := 0) (q0 := 1) rfl rfl) rfl rfl hl.1 rfl (lv_room (Nat.le_of_ble_eq_true rfl)) dX1_dig_50 ⟨hzc, hzs⟩) hS hP hD hA [1, 2, 3, 4, 5, 6, 7, 8, 9, 10, 11] [0] rfl rfl (by decide) (by decide) (fun u H locs hw hP hD hS => ?_)
    obtain ⟨Q1, L1, H1, M1, B1, C1, D1, W1⟩ := u
    have hP := hP.sub (ws' := [(h, oX a t), ((a 0), oC a mo (co - 3) le), ((a 3), iA cI (upd K (pAt x y) 1)), ((a 4), iA cI Q1), ((a 5), iA cI L1), ((a 6), iA cI H1), ((a 7), iA cI M1), ((a 8), iA cI B1), ((a 9), iA cI C1), ((a 10), iA cI D1), ((a 11), iA cI Fa), ((a 12), iA cI W1)]) [0, 1, 2, 3, 4, 5, 6, 7, 8, 9, 10, 11] rfl
    have hD := hD.sub (ws' := [(h, oX a t), ((a 0), oC a mo (co - 3) le), ((a 3), iA cI (upd K (pAt x y) 1)), ((a 4), iA cI Q1), ((a 5), iA cI L1), ((a 6), iA cI H1), ((a 7), iA cI M1), ((a 8), iA cI B1), ((a 9), iA cI C1), ((a 10), iA cI D1), ((a 11), iA cI Fa), ((a 12), iA cI W1)]) [0, 1, 2, 3, 4, 5, 6, 7, 8, 9, 10, 11] (by decide) rfl
    refine lv_aload_n hx hb dX1_dig_53 rfl (lv_at hl 2 rfl) ?_
    refine va_get (D := G) (ci := 1) (v := .ref (a 0)) (C := RX1) (T := TX1) (N := 2) hx hb hts hinX1 hown hK hP 0 rfl rfl 0 (by decide) hf10 (fun _ h9 => h9) rfl dX1_dig_54 ?_
    refine va_getN (host := "CanalCity") (D := G) (ci := 0) (v := .int (co - 3)) (C := RX0) (T := TX0) (N := 13) hx hb hts hinX0 hown hK hP 1 rfl rfl 1 (by decide) (va_Nw.use rfl (NW_at hN 0 rfl)) (fun _ h9 => h9) rfl dX1_dig_57 ?_
    subst hQ
    subst hAe
    exact wr_i (Q1, L1, H1, M1, B1, C1, D1, W1) (⟨rfl, hw⟩) hx hb hr hP hD hS hlocks dX1_dig_60
  · skip
    refine lv_iload hx hb dX1_dig_22 (lv_at hl 0 rfl) ?_
    refine lv_iconst (v := 2) hx hb dX1_dig_24 (by decide) ?_
    refine lv_icmp_eq (tgt := 38) hx hb dX1_dig_25 (by decide) (fun _ => ?_) (fun c => absurd (hc1.elim (fun e => absurd e c0) (fun e => e)) c)
    refine lv_aload_n hx hb dX1_dig_38 rfl (lv_at hl 2 rfl) ?_
    refine lv_iconst (v := 3) hx hb dX1_dig_39 (by decide) ?_
    refine cr_v (va_runV (As := [.int 3]) (rest := []) FX (c_X1_checkCoins_ok l G cI h a t mo co le K Qa La Ha Ma Ba Ca Da Fa Wa k 3 hc2) (cwV 1 hts gX1_dig_X1_checkCoins rfl rfl rfl (by decide +kernel) ⟨Nat.le_of_ble_eq_true rfl, Nat.le_of_ble_eq_true rfl⟩) (rdV hK hP hN [0, 1, 2, 3, 4, 5, 6, 7, 8, 9, 10, 11] rfl (ci := 1) (q0 := 0) rfl rfl) rfl rfl hl.1 rfl (lv_room (Nat.le_of_ble_eq_true rfl)) dX1_dig_40 ⟨hzc, hzs⟩) hS hP (fun H locs hP hS => ?_)
    refine lv_aload_n hx hb dX1_dig_43 rfl (lv_at hl 2 rfl) ?_
    refine va_get (D := G) (ci := 1) (v := .ref (a 0)) (C := RX1) (T := TX1) (N := 2) hx hb hts hinX1 hown hK hP 0 rfl rfl 0 (by decide) hf10 (fun _ h9 => h9) rfl dX1_dig_44 ?_
    refine lv_iload_n hx hb dX1_dig_47 rfl (lv_at hl 1 rfl) ?_
    refine lv_iconst (v := 1) hx hb dX1_dig_48 (by decide) ?_
    refine lv_iconst (v := 3) hx hb dX1_dig_49 (by decide) ?_
    refine cw_v (wr := [(h, oX a t)]) (va_runV (As := [.int (nI (pAt x y)), .int 1, .int 3]) (rest := []) FX (c_X0_buy l G cI a mo co le K Qa La Ha Ma Ba Ca Da Fa Wa k (pAt x y) 1 3 hk hat (gate_upd hg (Or.inr (by decide))) _) (cwV 3 hts gX1_dig_X0_buy rfl rfl rfl (by decide +kernel) ⟨Nat.le_of_ble_eq_true rfl, Nat.le_of_ble_eq_true rfl⟩) (wrV hK hP hD hN [1, 2, 3, 4, 5, 6, 7, 8, 9, 10, 11] (by decide) rfl rfl (ci := 0) (q0 := 1) rfl rfl) rfl rfl hl.1 rfl (lv_room (Nat.le_of_ble_eq_true rfl)) dX1_dig_50 ⟨hzc, hzs⟩) hS hP hD hA [1, 2, 3, 4, 5, 6, 7, 8, 9, 10, 11] [0] rfl rfl (by decide) (by decide) (fun u H locs hw hP hD hS => ?_)
    obtain ⟨Q1, L1, H1, M1, B1, C1, D1, W1⟩ := u
    have hP := hP.sub (ws' := [(h, oX a t), ((a 0), oC a mo (co - 3) le), ((a 3), iA cI (upd K (pAt x y) 1)), ((a 4), iA cI Q1), ((a 5), iA cI L1), ((a 6), iA cI H1), ((a 7), iA cI M1), ((a 8), iA cI B1), ((a 9), iA cI C1), ((a 10), iA cI D1), ((a 11), iA cI Fa), ((a 12), iA cI W1)]) [0, 1, 2, 3, 4, 5, 6, 7, 8, 9, 10, 11] rfl
    have hD := hD.sub (ws' := [(h, oX a t), ((a 0), oC a mo (co - 3) le), ((a 3), iA cI (upd K (pAt x y) 1)), ((a 4), iA cI Q1), ((a 5), iA cI L1), ((a 6), iA cI H1), ((a 7), iA cI M1), ((a 8), iA cI B1), ((a 9), iA cI C1), ((a 10), iA cI D1), ((a 11), iA cI Fa), ((a 12), iA cI W1)]) [0, 1, 2, 3, 4, 5, 6, 7, 8, 9, 10, 11] (by decide) rfl
    refine lv_aload_n hx hb dX1_dig_53 rfl (lv_at hl 2 rfl) ?_
    refine va_get (D := G) (ci := 1) (v := .ref (a 0)) (C := RX1) (T := TX1) (N := 2) hx hb hts hinX1 hown hK hP 0 rfl rfl 0 (by decide) hf10 (fun _ h9 => h9) rfl dX1_dig_54 ?_
    refine va_getN (host := "CanalCity") (D := G) (ci := 0) (v := .int (co - 3)) (C := RX0) (T := TX0) (N := 13) hx hb hts hinX0 hown hK hP 1 rfl rfl 1 (by decide) (va_Nw.use rfl (NW_at hN 0 rfl)) (fun _ h9 => h9) rfl dX1_dig_57 ?_
    subst hQ
    subst hAe
    exact wr_i (Q1, L1, H1, M1, B1, C1, D1, W1) (⟨rfl, hw⟩) hx hb hr hP hD hS hlocks dX1_dig_60

def rmX1_build_ok : Room := { frames := 6, cells := 0, slots := 0, locals := 140 }
set_option maxHeartbeats 4000000 in
set_option maxRecDepth 100000 in
theorem c_X1_build_ok (l : Launch) (G : va_G) (cI : ClassId) (h : Nat) (a t : Nat → Nat) (mo co le : Int32) (K Qa La Ha Ma Ba Ca Da Fa Wa k : Nat → Int32) (x y v : Int32) (hk : eqK K k) (hg : wtr (k 3) = true) (hcd : cdBuild k co x y v = 0) (sz : Nat) : Met l yX1_build wsX1_build rmX1_build_ok (va_Pc [.ref h, .int x, .int y, .int v] (WrP G cI [(h, oX a t), ((a 0), oC a mo co le), ((a 3), iA cI K), ((a 4), iA cI Qa), ((a 5), iA cI La), ((a 6), iA cI Ha), ((a 7), iA cI Ma), ((a 8), iA cI Ba), ((a 9), iA cI Ca), ((a 10), iA cI Da), ((a 11), iA cI Fa), ((a 12), iA cI Wa)] sz)) (va_Qi (fun (r : Int32) (u : (Nat → Int32) × (Nat → Int32) × (Nat → Int32) × (Nat → Int32) × (Nat → Int32) × (Nat → Int32) × (Nat → Int32) × (Nat → Int32)) => r = co - cst v ∧ SVd (upd k (pAt x y) v) (u.1) (u.2.1) (u.2.2.1) (u.2.2.2.1) (u.2.2.2.2.1) (u.2.2.2.2.2.1) (u.2.2.2.2.2.2.1)) (WrB G [(h, oX a t), ((a 0), oC a mo co le), ((a 3), iA cI K), ((a 4), iA cI Qa), ((a 5), iA cI La), ((a 6), iA cI Ha), ((a 7), iA cI Ma), ((a 8), iA cI Ba), ((a 9), iA cI Ca), ((a 10), iA cI Da), ((a 11), iA cI Fa), ((a 12), iA cI Wa)] sz (fun u => [(h, oX a t), (a 0, oC a mo (co - (cst v)) le), (a 3, iA cI (upd K (pAt x y) v)), (a 4, iA cI (u.1)), (a 5, iA cI (u.2.1)), (a 6, iA cI (u.2.2.1)), (a 7, iA cI (u.2.2.2.1)), (a 8, iA cI (u.2.2.2.2.1)), (a 9, iA cI (u.2.2.2.2.2.1)), (a 10, iA cI (u.2.2.2.2.2.2.1)), (a 11, iA cI Fa), (a 12, iA cI (u.2.2.2.2.2.2.2))])) (va_A [(h, oX a t), ((a 0), oC a mo co le), ((a 3), iA cI K), ((a 4), iA cI Qa), ((a 5), iA cI La), ((a 6), iA cI Ha), ((a 7), iA cI Ma), ((a 8), iA cI Ba), ((a 9), iA cI Ca), ((a 10), iA cI Da), ((a 11), iA cI Fa), ((a 12), iA cI Wa)] sz)) 0 0 (va_A [(h, oX a t), ((a 0), oC a mo co le), ((a 3), iA cI K), ((a 4), iA cI Qa), ((a 5), iA cI La), ((a 6), iA cI Ha), ((a 7), iA cI Ma), ((a 8), iA cI Ba), ((a 9), iA cI Ca), ((a 10), iA cI Da), ((a 11), iA cI Fa), ((a 12), iA cI Wa)] sz) := by
  refine Met.ofW (cc := cX1_build) (maxL := 6) (ret := (some .int)) (by decide) rfl ?_
  intro p e s m args below meth c s₁ B hml hv
  obtain ⟨rfl, hsz, hP, hK, hD0, hN⟩ := hv
  have hx := B.exec
  have hb := B.bytes
  have hr := B.returns
  have hlocks := B.notSynchronized
  have hts := atoms_spec (ws := wsX1_build) B.pre
  have hown : s.vm.findClass RX1 = some m.cls := findClass_of_methodNamed B.named
  subst hsz
  have hD := hD0.self (sz := s.heap.size)
  have hA : ∀ q : Nat, s.heap.size ≤ q → va_A [(h, oX a t), ((a 0), oC a mo co le), ((a 3), iA cI K), ((a 4), iA cI Qa), ((a 5), iA cI La), ((a 6), iA cI Ha), ((a 7), iA cI Ma), ((a 8), iA cI Ba), ((a 9), iA cI Ca), ((a 10), iA cI Da), ((a 11), iA cI Fa), ((a 12), iA cI Wa)] s.heap.size q := fun q h => Or.inr h
  have hS : va_S (va_A [(h, oX a t), ((a 0), oC a mo co le), ((a 3), iA cI K), ((a 4), iA cI Qa), ((a 5), iA cI La), ((a 6), iA cI Ha), ((a 7), iA cI Ma), ((a 8), iA cI Ba), ((a 9), iA cI Ca), ((a 10), iA cI Da), ((a 11), iA cI Fa), ((a 12), iA cI Wa)] s.heap.size) s.heap s.heap [] := va_S.rf
  obtain ⟨A, hAe⟩ : ∃ A, A = va_A [(h, oX a t), ((a 0), oC a mo co le), ((a 3), iA cI K), ((a 4), iA cI Qa), ((a 5), iA cI La), ((a 6), iA cI Ha), ((a 7), iA cI Ma), ((a 8), iA cI Ba), ((a 9), iA cI Ca), ((a 10), iA cI Da), ((a 11), iA cI Fa), ((a 12), iA cI Wa)] s.heap.size := ⟨_, rfl⟩
  rw [← hAe] at hD hA hS
  have FX : CallFix p m c cX1_build 6 s ([.ref h, .int x, .int y, .int v] : List Value).toArray wsX1_build RX1 := ⟨hx, hb, hml, hown, hts⟩
  have hl := lv_entry ([.ref h, .int x, .int y, .int v]) (n := 6) (Nat.le_of_ble_eq_true rfl)
  rw [lg_entry_eq]
  generalize (lg_sl ([.ref h, .int x, .int y, .int v]) ++ List.replicate (6 - (lg_sl ([.ref h, .int x, .int y, .int v])).length) Slot.unset).toArray = ls at hl ⊢
  have hl : lv_has ls 6 [(0, .ref h), (1, .int x), (2, .int y), (3, .int v)] := hl
  refine wq (fun Q hQ => ?_)
  have hzc : 0 + 0 ≤ (headSpec wsX1_build rmX1_build_ok).room.cells := Nat.zero_le _
  have hzs : 0 + 0 ≤ (headSpec wsX1_build rmX1_build_ok).room.slots := Nat.zero_le _
  have hf10 := hts (.fieldLink RX1 10 "CanalCity" "now" "LCanalCity$City;") (by decide +kernel)
  have hinX0 : ∀ w ∈ u_ws RX0 TX0 13, w ∈ wsX1_build := by decide +kernel
  have hinX1 : ∀ w ∈ u_ws RX1 TX1 2, w ∈ wsX1_build := by decide +kernel
  obtain ⟨hpl, hin, hc1, hc2⟩ := build_0 hcd
  have hat := (plc_at hpl).1
  refine lv_iload_n hx hb dX1_build_0 rfl (lv_at hl 1 rfl) ?_
  refine lv_iload_n hx hb dX1_build_1 rfl (lv_at hl 2 rfl) ?_
  refine cr_i (va_runS (As := [.int x, .int y]) (rest := []) FX (c_X1_checkedNumber_ok l x y hpl) (va_cwS 2 hts gX1_build_X1_checkedNumber rfl rfl rfl (by decide +kernel) ⟨Nat.le_of_ble_eq_true rfl, Nat.le_of_ble_eq_true rfl⟩) puS rfl rfl hl.1 rfl (lv_room (Nat.le_of_ble_eq_true rfl)) dX1_build_2 ⟨hzc, hzs⟩) hS hP (fun H locs hP hS => ?_)
  refine lv_istore (lv' := [(4, .int (nI (pAt x y))), (0, .ref h), (1, .int x), (2, .int y), (3, .int v)]) hx hb dX1_build_5 hl (by decide) rfl (fun ls hl => ?_)
  refine lv_iload_n hx hb dX1_build_7 rfl (lv_at hl 4 rfl) ?_
  refine cr_v (va_runS (As := [.int v]) (rest := []) FX (c_X1_checkBuilding_ok l v hin) (va_cwS 1 hts gX1_build_X1_checkBuilding rfl rfl rfl (by decide +kernel) ⟨Nat.le_of_ble_eq_true rfl, Nat.le_of_ble_eq_true rfl⟩) puS rfl rfl hl.1 rfl (lv_room (Nat.le_of_ble_eq_true rfl)) dX1_build_8 ⟨hzc, hzs⟩) hS hP (fun H locs hP hS => ?_)
  refine lv_aload_n hx hb dX1_build_11 rfl (lv_at hl 1 rfl) ?_
  refine lv_iload hx hb dX1_build_12 (lv_at hl 0 rfl) ?_
  refine cr_v (va_runV (As := [.int (nI (pAt x y))]) (rest := []) FX (c_X1_checkDrained_ok l G cI h a t mo co le K Qa La Ha Ma Ba Ca Da Fa Wa k (pAt x y) hk hat hc1) (cwV 1 hts gX1_build_X1_checkDrained rfl rfl rfl (by decide +kernel) ⟨Nat.le_of_ble_eq_true rfl, Nat.le_of_ble_eq_true rfl⟩) (rdV hK hP hN [0, 1, 2, 3, 4, 5, 6, 7, 8, 9, 10, 11] rfl (ci := 1) (q0 := 0) rfl rfl) rfl rfl hl.1 rfl (lv_room (Nat.le_of_ble_eq_true rfl)) dX1_build_14 ⟨hzc, hzs⟩) hS hP (fun H locs hP hS => ?_)
  refine lv_iload_n hx hb dX1_build_17 rfl (lv_at hl 4 rfl) ?_
  refine cr_i (va_runS (As := [.int v]) (rest := []) FX (c_X1_costOf l v) (va_cwS 1 hts gX1_build_X1_costOf rfl rfl rfl (by decide +kernel) ⟨Nat.le_of_ble_eq_true rfl, Nat.le_of_ble_eq_true rfl⟩) puS rfl rfl hl.1 rfl (lv_room (Nat.le_of_ble_eq_true rfl)) dX1_build_18 ⟨hzc, hzs⟩) hS hP (fun H locs hP hS => ?_)
  refine lv_istore (lv' := [(5, .int (cst v)), (4, .int (nI (pAt x y))), (0, .ref h), (1, .int x), (2, .int y), (3, .int v)]) hx hb dX1_build_21 hl (by decide) rfl (fun ls hl => ?_)
  refine lv_aload_n hx hb dX1_build_23 rfl (lv_at hl 2 rfl) ?_
  refine lv_iload hx hb dX1_build_24 (lv_at hl 0 rfl) ?_
  refine cr_v (va_runV (As := [.int (cst v)]) (rest := []) FX (c_X1_checkCoins_ok l G cI h a t mo co le K Qa La Ha Ma Ba Ca Da Fa Wa k (cst v) hc2) (cwV 1 hts gX1_build_X1_checkCoins rfl rfl rfl (by decide +kernel) ⟨Nat.le_of_ble_eq_true rfl, Nat.le_of_ble_eq_true rfl⟩) (rdV hK hP hN [0, 1, 2, 3, 4, 5, 6, 7, 8, 9, 10, 11] rfl (ci := 1) (q0 := 0) rfl rfl) rfl rfl hl.1 rfl (lv_room (Nat.le_of_ble_eq_true rfl)) dX1_build_26 ⟨hzc, hzs⟩) hS hP (fun H locs hP hS => ?_)
  refine lv_aload_n hx hb dX1_build_29 rfl (lv_at hl 2 rfl) ?_
  refine va_get (D := G) (ci := 1) (v := .ref (a 0)) (C := RX1) (T := TX1) (N := 2) hx hb hts hinX1 hown hK hP 0 rfl rfl 0 (by decide) hf10 (fun _ h9 => h9) rfl dX1_build_30 ?_
  refine lv_iload hx hb dX1_build_33 (lv_at hl 1 rfl) ?_
  refine lv_iload_n hx hb dX1_build_35 rfl (lv_at hl 5 rfl) ?_
  refine lv_iload hx hb dX1_build_36 (lv_at hl 0 rfl) ?_
  refine cw_v (wr := [(h, oX a t)]) (va_runV (As := [.int (nI (pAt x y)), .int v, .int (cst v)]) (rest := []) FX (c_X0_buy l G cI a mo co le K Qa La Ha Ma Ba Ca Da Fa Wa k (pAt x y) v (cst v) hk hat (gate_upd hg (Or.inl (by rw [hc1]; decide))) _) (cwV 3 hts gX1_build_X0_buy rfl rfl rfl (by decide +kernel) ⟨Nat.le_of_ble_eq_true rfl, Nat.le_of_ble_eq_true rfl⟩) (wrV hK hP hD hN [1, 2, 3, 4, 5, 6, 7, 8, 9, 10, 11] (by decide) rfl rfl (ci := 0) (q0 := 1) rfl rfl) rfl rfl hl.1 rfl (lv_room (Nat.le_of_ble_eq_true rfl)) dX1_build_38 ⟨hzc, hzs⟩) hS hP hD hA [1, 2, 3, 4, 5, 6, 7, 8, 9, 10, 11] [0] rfl rfl (by decide) (by decide) (fun u H locs hw hP hD hS => ?_)
  obtain ⟨Q1, L1, H1, M1, B1, C1, D1, W1⟩ := u
  have hP := hP.sub (ws' := [(h, oX a t), ((a 0), oC a mo (co - (cst v)) le), ((a 3), iA cI (upd K (pAt x y) v)), ((a 4), iA cI Q1), ((a 5), iA cI L1), ((a 6), iA cI H1), ((a 7), iA cI M1), ((a 8), iA cI B1), ((a 9), iA cI C1), ((a 10), iA cI D1), ((a 11), iA cI Fa), ((a 12), iA cI W1)]) [0, 1, 2, 3, 4, 5, 6, 7, 8, 9, 10, 11] rfl
  have hD := hD.sub (ws' := [(h, oX a t), ((a 0), oC a mo (co - (cst v)) le), ((a 3), iA cI (upd K (pAt x y) v)), ((a 4), iA cI Q1), ((a 5), iA cI L1), ((a 6), iA cI H1), ((a 7), iA cI M1), ((a 8), iA cI B1), ((a 9), iA cI C1), ((a 10), iA cI D1), ((a 11), iA cI Fa), ((a 12), iA cI W1)]) [0, 1, 2, 3, 4, 5, 6, 7, 8, 9, 10, 11] (by decide) rfl
  refine lv_aload_n hx hb dX1_build_41 rfl (lv_at hl 2 rfl) ?_
  refine va_get (D := G) (ci := 1) (v := .ref (a 0)) (C := RX1) (T := TX1) (N := 2) hx hb hts hinX1 hown hK hP 0 rfl rfl 0 (by decide) hf10 (fun _ h9 => h9) rfl dX1_build_42 ?_
  refine va_getN (host := "CanalCity") (D := G) (ci := 0) (v := .int (co - (cst v))) (C := RX0) (T := TX0) (N := 13) hx hb hts hinX0 hown hK hP 1 rfl rfl 1 (by decide) (va_Nw.use rfl (NW_at hN 0 rfl)) (fun _ h9 => h9) rfl dX1_build_45 ?_
  subst hQ
  subst hAe
  exact wr_i (Q1, L1, H1, M1, B1, C1, D1, W1) (⟨rfl, hw⟩) hx hb hr hP hD hS hlocks dX1_build_48

def rmX1_bridge_ok : Room := { frames := 6, cells := 0, slots := 0, locals := 140 }
set_option maxHeartbeats 4000000 in
set_option maxRecDepth 100000 in
theorem c_X1_bridge_ok (l : Launch) (G : va_G) (cI : ClassId) (h : Nat) (a t : Nat → Nat) (mo co le : Int32) (K Qa La Ha Ma Ba Ca Da Fa Wa k : Nat → Int32) (x y : Int32) (hk : eqK K k) (hg : wtr (k 3) = true) (hcd : cdBridge k co x y = 0) (sz : Nat) : Met l yX1_bridge wsX1_bridge rmX1_bridge_ok (va_Pc [.ref h, .int x, .int y] (WrP G cI [(h, oX a t), ((a 0), oC a mo co le), ((a 3), iA cI K), ((a 4), iA cI Qa), ((a 5), iA cI La), ((a 6), iA cI Ha), ((a 7), iA cI Ma), ((a 8), iA cI Ba), ((a 9), iA cI Ca), ((a 10), iA cI Da), ((a 11), iA cI Fa), ((a 12), iA cI Wa)] sz)) (va_Qi (fun (r : Int32) (u : (Nat → Int32) × (Nat → Int32) × (Nat → Int32) × (Nat → Int32) × (Nat → Int32) × (Nat → Int32) × (Nat → Int32) × (Nat → Int32)) => r = lotsQ (upd k (pAt x y) 6) (pAt x y) ∧ SVd (upd k (pAt x y) 6) (u.1) (u.2.1) (u.2.2.1) (u.2.2.2.1) (u.2.2.2.2.1) (u.2.2.2.2.2.1) (u.2.2.2.2.2.2.1)) (WrB G [(h, oX a t), ((a 0), oC a mo co le), ((a 3), iA cI K), ((a 4), iA cI Qa), ((a 5), iA cI La), ((a 6), iA cI Ha), ((a 7), iA cI Ma), ((a 8), iA cI Ba), ((a 9), iA cI Ca), ((a 10), iA cI Da), ((a 11), iA cI Fa), ((a 12), iA cI Wa)] sz (fun u => [(h, oX a t), (a 0, oC a mo (co - 7) le), (a 3, iA cI (upd K (pAt x y) 6)), (a 4, iA cI (u.1)), (a 5, iA cI (u.2.1)), (a 6, iA cI (u.2.2.1)), (a 7, iA cI (u.2.2.2.1)), (a 8, iA cI (u.2.2.2.2.1)), (a 9, iA cI (u.2.2.2.2.2.1)), (a 10, iA cI (u.2.2.2.2.2.2.1)), (a 11, iA cI Fa), (a 12, iA cI (u.2.2.2.2.2.2.2))])) (va_A [(h, oX a t), ((a 0), oC a mo co le), ((a 3), iA cI K), ((a 4), iA cI Qa), ((a 5), iA cI La), ((a 6), iA cI Ha), ((a 7), iA cI Ma), ((a 8), iA cI Ba), ((a 9), iA cI Ca), ((a 10), iA cI Da), ((a 11), iA cI Fa), ((a 12), iA cI Wa)] sz)) 0 0 (va_A [(h, oX a t), ((a 0), oC a mo co le), ((a 3), iA cI K), ((a 4), iA cI Qa), ((a 5), iA cI La), ((a 6), iA cI Ha), ((a 7), iA cI Ma), ((a 8), iA cI Ba), ((a 9), iA cI Ca), ((a 10), iA cI Da), ((a 11), iA cI Fa), ((a 12), iA cI Wa)] sz) := by
  refine Met.ofW (cc := cX1_bridge) (maxL := 4) (ret := (some .int)) (by decide) rfl ?_
  intro p e s m args below meth c s₁ B hml hv
  obtain ⟨rfl, hsz, hP, hK, hD0, hN⟩ := hv
  have hx := B.exec
  have hb := B.bytes
  have hr := B.returns
  have hlocks := B.notSynchronized
  have hts := atoms_spec (ws := wsX1_bridge) B.pre
  have hown : s.vm.findClass RX1 = some m.cls := findClass_of_methodNamed B.named
  subst hsz
  have hD := hD0.self (sz := s.heap.size)
  have hA : ∀ q : Nat, s.heap.size ≤ q → va_A [(h, oX a t), ((a 0), oC a mo co le), ((a 3), iA cI K), ((a 4), iA cI Qa), ((a 5), iA cI La), ((a 6), iA cI Ha), ((a 7), iA cI Ma), ((a 8), iA cI Ba), ((a 9), iA cI Ca), ((a 10), iA cI Da), ((a 11), iA cI Fa), ((a 12), iA cI Wa)] s.heap.size q := fun q h => Or.inr h
  have hS : va_S (va_A [(h, oX a t), ((a 0), oC a mo co le), ((a 3), iA cI K), ((a 4), iA cI Qa), ((a 5), iA cI La), ((a 6), iA cI Ha), ((a 7), iA cI Ma), ((a 8), iA cI Ba), ((a 9), iA cI Ca), ((a 10), iA cI Da), ((a 11), iA cI Fa), ((a 12), iA cI Wa)] s.heap.size) s.heap s.heap [] := va_S.rf
  obtain ⟨A, hAe⟩ : ∃ A, A = va_A [(h, oX a t), ((a 0), oC a mo co le), ((a 3), iA cI K), ((a 4), iA cI Qa), ((a 5), iA cI La), ((a 6), iA cI Ha), ((a 7), iA cI Ma), ((a 8), iA cI Ba), ((a 9), iA cI Ca), ((a 10), iA cI Da), ((a 11), iA cI Fa), ((a 12), iA cI Wa)] s.heap.size := ⟨_, rfl⟩
  rw [← hAe] at hD hA hS
  have FX : CallFix p m c cX1_bridge 4 s ([.ref h, .int x, .int y] : List Value).toArray wsX1_bridge RX1 := ⟨hx, hb, hml, hown, hts⟩
  have hl := lv_entry ([.ref h, .int x, .int y]) (n := 4) (Nat.le_of_ble_eq_true rfl)
  rw [lg_entry_eq]
  generalize (lg_sl ([.ref h, .int x, .int y]) ++ List.replicate (4 - (lg_sl ([.ref h, .int x, .int y])).length) Slot.unset).toArray = ls at hl ⊢
  have hl : lv_has ls 4 [(0, .ref h), (1, .int x), (2, .int y)] := hl
  refine wq (fun Q hQ => ?_)
  have hzc : 0 + 0 ≤ (headSpec wsX1_bridge rmX1_bridge_ok).room.cells := Nat.zero_le _
  have hzs : 0 + 0 ≤ (headSpec wsX1_bridge rmX1_bridge_ok).room.slots := Nat.zero_le _
  have hf10 := hts (.fieldLink RX1 10 "CanalCity" "now" "LCanalCity$City;") (by decide +kernel)
  have hinX0 : ∀ w ∈ u_ws RX0 TX0 13, w ∈ wsX1_bridge := by decide +kernel
  have hinX1 : ∀ w ∈ u_ws RX1 TX1 2, w ∈ wsX1_bridge := by decide +kernel
  obtain ⟨hpl, hc1, hc2⟩ := bridge_0 hcd
  have hat := (plc_at hpl).1
  refine lv_iload_n hx hb dX1_bridge_0 rfl (lv_at hl 1 rfl) ?_
  refine lv_iload_n hx hb dX1_bridge_1 rfl (lv_at hl 2 rfl) ?_
  refine cr_i (va_runS (As := [.int x, .int y]) (rest := []) FX (c_X1_checkedNumber_ok l x y hpl) (va_cwS 2 hts gX1_bridge_X1_checkedNumber rfl rfl rfl (by decide +kernel) ⟨Nat.le_of_ble_eq_true rfl, Nat.le_of_ble_eq_true rfl⟩) puS rfl rfl hl.1 rfl (lv_room (Nat.le_of_ble_eq_true rfl)) dX1_bridge_2 ⟨hzc, hzs⟩) hS hP (fun H locs hP hS => ?_)
  refine lv_istore_n (lv' := [(3, .int (nI (pAt x y))), (0, .ref h), (1, .int x), (2, .int y)]) hx hb dX1_bridge_5 rfl hl (by decide) rfl (fun ls hl => ?_)
  refine lv_aload_n hx hb dX1_bridge_6 rfl (lv_at hl 1 rfl) ?_
  refine va_get (D := G) (ci := 1) (v := .ref (a 0)) (C := RX1) (T := TX1) (N := 2) hx hb hts hinX1 hown hK hP 0 rfl rfl 0 (by decide) hf10 (fun _ h9 => h9) rfl dX1_bridge_7 ?_
  refine va_getN (host := "CanalCity") (D := G) (ci := 0) (v := .ref (a 3)) (C := RX0) (T := TX0) (N := 13) hx hb hts hinX0 hown hK hP 1 rfl rfl 3 (by decide) (va_Nw.use rfl (NW_at hN 1 rfl)) (fun _ h9 => h9) rfl dX1_bridge_10 ?_
  refine lv_iload_n hx hb dX1_bridge_13 rfl (lv_at hl 0 rfl) ?_
  refine va_iald hx hb hK hP 2 0 rfl rfl (vp_in_nI hat (by decide)) dX1_bridge_14 ?_
  refine tpi (x' := K (pAt x y)) (congrArg K (nI_clamp (by omega))) ?_
  refine tpi (x' := k (pAt x y)) (hk _ hat) ?_
  refine lv_iconst (v := 1) hx hb dX1_bridge_15 (by decide) ?_
  refine lv_icmp_eq (tgt := 29) hx hb dX1_bridge_16 (by decide) (fun _ => ?_) (fun c => absurd (hc1) c)
  refine lv_aload_n hx hb dX1_bridge_29 rfl (lv_at hl 1 rfl) ?_
  refine lv_bipush (v := 7) hx hb dX1_bridge_30 (by decide) ?_
  refine cr_v (va_runV (As := [.int 7]) (rest := []) FX (c_X1_checkCoins_ok l G cI h a t mo co le K Qa La Ha Ma Ba Ca Da Fa Wa k 7 hc2) (cwV 1 hts gX1_bridge_X1_checkCoins rfl rfl rfl (by decide +kernel) ⟨Nat.le_of_ble_eq_true rfl, Nat.le_of_ble_eq_true rfl⟩) (rdV hK hP hN [0, 1, 2, 3, 4, 5, 6, 7, 8, 9, 10, 11] rfl (ci := 1) (q0 := 0) rfl rfl) rfl rfl hl.1 rfl (lv_room (Nat.le_of_ble_eq_true rfl)) dX1_bridge_32 ⟨hzc, hzs⟩) hS hP (fun H locs hP hS => ?_)
  refine lv_aload_n hx hb dX1_bridge_35 rfl (lv_at hl 1 rfl) ?_
  refine va_get (D := G) (ci := 1) (v := .ref (a 0)) (C := RX1) (T := TX1) (N := 2) hx hb hts hinX1 hown hK hP 0 rfl rfl 0 (by decide) hf10 (fun _ h9 => h9) rfl dX1_bridge_36 ?_
  refine lv_iload_n hx hb dX1_bridge_39 rfl (lv_at hl 0 rfl) ?_
  refine lv_bipush (v := 6) hx hb dX1_bridge_40 (by decide) ?_
  refine lv_bipush (v := 7) hx hb dX1_bridge_42 (by decide) ?_
  refine cw_v (wr := [(h, oX a t)]) (va_runV (As := [.int (nI (pAt x y)), .int 6, .int 7]) (rest := []) FX (c_X0_buy l G cI a mo co le K Qa La Ha Ma Ba Ca Da Fa Wa k (pAt x y) 6 7 hk hat (gate_upd hg (Or.inr (by decide))) _) (cwV 3 hts gX1_bridge_X0_buy rfl rfl rfl (by decide +kernel) ⟨Nat.le_of_ble_eq_true rfl, Nat.le_of_ble_eq_true rfl⟩) (wrV hK hP hD hN [1, 2, 3, 4, 5, 6, 7, 8, 9, 10, 11] (by decide) rfl rfl (ci := 0) (q0 := 1) rfl rfl) rfl rfl hl.1 rfl (lv_room (Nat.le_of_ble_eq_true rfl)) dX1_bridge_44 ⟨hzc, hzs⟩) hS hP hD hA [1, 2, 3, 4, 5, 6, 7, 8, 9, 10, 11] [0] rfl rfl (by decide) (by decide) (fun u H locs hw hP hD hS => ?_)
  obtain ⟨Q1, L1, H1, M1, B1, C1, D1, W1⟩ := u
  have hP := hP.sub (ws' := [(h, oX a t), ((a 0), oC a mo (co - 7) le), ((a 3), iA cI (upd K (pAt x y) 6)), ((a 4), iA cI Q1), ((a 5), iA cI L1), ((a 6), iA cI H1), ((a 7), iA cI M1), ((a 8), iA cI B1), ((a 9), iA cI C1), ((a 10), iA cI D1), ((a 11), iA cI Fa), ((a 12), iA cI W1)]) [0, 1, 2, 3, 4, 5, 6, 7, 8, 9, 10, 11] rfl
  have hD := hD.sub (ws' := [(h, oX a t), ((a 0), oC a mo (co - 7) le), ((a 3), iA cI (upd K (pAt x y) 6)), ((a 4), iA cI Q1), ((a 5), iA cI L1), ((a 6), iA cI H1), ((a 7), iA cI M1), ((a 8), iA cI B1), ((a 9), iA cI C1), ((a 10), iA cI D1), ((a 11), iA cI Fa), ((a 12), iA cI W1)]) [0, 1, 2, 3, 4, 5, 6, 7, 8, 9, 10, 11] (by decide) rfl
  refine lv_aload_n hx hb dX1_bridge_47 rfl (lv_at hl 1 rfl) ?_
  refine va_get (D := G) (ci := 1) (v := .ref (a 0)) (C := RX1) (T := TX1) (N := 2) hx hb hts hinX1 hown hK hP 0 rfl rfl 0 (by decide) hf10 (fun _ h9 => h9) rfl dX1_bridge_48 ?_
  refine lv_iload_n hx hb dX1_bridge_51 rfl (lv_at hl 0 rfl) ?_
  refine cr_i (va_runV (As := [.int (nI (pAt x y))]) (rest := []) FX (c_X0_lotsOfQuarter l G cI a mo (co - 7) le (upd K (pAt x y) 6) Q1 L1 H1 M1 B1 C1 D1 Fa W1 (upd k (pAt x y) 6) (pAt x y) hw.1 hw.2.1 hat) (cwV 1 hts gX1_bridge_X0_lotsOfQuarter rfl rfl rfl (by decide +kernel) ⟨Nat.le_of_ble_eq_true rfl, Nat.le_of_ble_eq_true rfl⟩) (rdV hK hP hN [1, 2, 3, 4, 5, 6, 7, 8, 9, 10, 11] rfl (ci := 0) (q0 := 1) rfl rfl) rfl rfl hl.1 rfl (lv_room (Nat.le_of_ble_eq_true rfl)) dX1_bridge_52 ⟨hzc, hzs⟩) hS hP (fun H locs hP hS => ?_)
  subst hQ
  subst hAe
  exact wr_i (Q1, L1, H1, M1, B1, C1, D1, W1) (⟨rfl, hw⟩) hx hb hr hP hD hS hlocks dX1_bridge_55

def rmX1_raze_ok : Room := { frames := 5, cells := 0, slots := 0, locals := 117 }
set_option maxHeartbeats 4000000 in
set_option maxRecDepth 100000 in
theorem c_X1_raze_ok (l : Launch) (G : va_G) (cI : ClassId) (h : Nat) (a t : Nat → Nat) (mo co le : Int32) (K Qa La Ha Ma Ba Ca Da Fa Wa k : Nat → Int32) (x y : Int32) (hk : eqK K k) (hg : wtr (k 3) = true) (hcd : cdRaze k x y = 0) (sz : Nat) : Met l yX1_raze wsX1_raze rmX1_raze_ok (va_Pc [.ref h, .int x, .int y] (WrP G cI [(h, oX a t), ((a 0), oC a mo co le), ((a 3), iA cI K), ((a 4), iA cI Qa), ((a 5), iA cI La), ((a 6), iA cI Ha), ((a 7), iA cI Ma), ((a 8), iA cI Ba), ((a 9), iA cI Ca), ((a 10), iA cI Da), ((a 11), iA cI Fa), ((a 12), iA cI Wa)] sz)) (va_Qi (fun (r : Int32) (u : (Nat → Int32) × (Nat → Int32) × (Nat → Int32) × (Nat → Int32) × (Nat → Int32) × (Nat → Int32) × (Nat → Int32) × (Nat → Int32)) => r = k (pAt x y) ∧ SVd (upd k (pAt x y) (rzV k x y)) (u.1) (u.2.1) (u.2.2.1) (u.2.2.2.1) (u.2.2.2.2.1) (u.2.2.2.2.2.1) (u.2.2.2.2.2.2.1)) (WrB G [(h, oX a t), ((a 0), oC a mo co le), ((a 3), iA cI K), ((a 4), iA cI Qa), ((a 5), iA cI La), ((a 6), iA cI Ha), ((a 7), iA cI Ma), ((a 8), iA cI Ba), ((a 9), iA cI Ca), ((a 10), iA cI Da), ((a 11), iA cI Fa), ((a 12), iA cI Wa)] sz (fun u => [(h, oX a t), (a 0, oC a mo co le), (a 3, iA cI (upd K (pAt x y) (rzV k x y))), (a 4, iA cI (u.1)), (a 5, iA cI (u.2.1)), (a 6, iA cI (u.2.2.1)), (a 7, iA cI (u.2.2.2.1)), (a 8, iA cI (u.2.2.2.2.1)), (a 9, iA cI (u.2.2.2.2.2.1)), (a 10, iA cI (u.2.2.2.2.2.2.1)), (a 11, iA cI Fa), (a 12, iA cI (u.2.2.2.2.2.2.2))])) (va_A [(h, oX a t), ((a 0), oC a mo co le), ((a 3), iA cI K), ((a 4), iA cI Qa), ((a 5), iA cI La), ((a 6), iA cI Ha), ((a 7), iA cI Ma), ((a 8), iA cI Ba), ((a 9), iA cI Ca), ((a 10), iA cI Da), ((a 11), iA cI Fa), ((a 12), iA cI Wa)] sz)) 0 0 (va_A [(h, oX a t), ((a 0), oC a mo co le), ((a 3), iA cI K), ((a 4), iA cI Qa), ((a 5), iA cI La), ((a 6), iA cI Ha), ((a 7), iA cI Ma), ((a 8), iA cI Ba), ((a 9), iA cI Ca), ((a 10), iA cI Da), ((a 11), iA cI Fa), ((a 12), iA cI Wa)] sz) := by
  refine Met.ofW (cc := cX1_raze) (maxL := 5) (ret := (some .int)) (by decide) rfl ?_
  intro p e s m args below meth c s₁ B hml hv
  obtain ⟨rfl, hsz, hP, hK, hD0, hN⟩ := hv
  have hx := B.exec
  have hb := B.bytes
  have hr := B.returns
  have hlocks := B.notSynchronized
  have hts := atoms_spec (ws := wsX1_raze) B.pre
  have hown : s.vm.findClass RX1 = some m.cls := findClass_of_methodNamed B.named
  subst hsz
  have hD := hD0.self (sz := s.heap.size)
  have hA : ∀ q : Nat, s.heap.size ≤ q → va_A [(h, oX a t), ((a 0), oC a mo co le), ((a 3), iA cI K), ((a 4), iA cI Qa), ((a 5), iA cI La), ((a 6), iA cI Ha), ((a 7), iA cI Ma), ((a 8), iA cI Ba), ((a 9), iA cI Ca), ((a 10), iA cI Da), ((a 11), iA cI Fa), ((a 12), iA cI Wa)] s.heap.size q := fun q h => Or.inr h
  have hS : va_S (va_A [(h, oX a t), ((a 0), oC a mo co le), ((a 3), iA cI K), ((a 4), iA cI Qa), ((a 5), iA cI La), ((a 6), iA cI Ha), ((a 7), iA cI Ma), ((a 8), iA cI Ba), ((a 9), iA cI Ca), ((a 10), iA cI Da), ((a 11), iA cI Fa), ((a 12), iA cI Wa)] s.heap.size) s.heap s.heap [] := va_S.rf
  obtain ⟨A, hAe⟩ : ∃ A, A = va_A [(h, oX a t), ((a 0), oC a mo co le), ((a 3), iA cI K), ((a 4), iA cI Qa), ((a 5), iA cI La), ((a 6), iA cI Ha), ((a 7), iA cI Ma), ((a 8), iA cI Ba), ((a 9), iA cI Ca), ((a 10), iA cI Da), ((a 11), iA cI Fa), ((a 12), iA cI Wa)] s.heap.size := ⟨_, rfl⟩
  rw [← hAe] at hD hA hS
  have FX : CallFix p m c cX1_raze 5 s ([.ref h, .int x, .int y] : List Value).toArray wsX1_raze RX1 := ⟨hx, hb, hml, hown, hts⟩
  have hl := lv_entry ([.ref h, .int x, .int y]) (n := 5) (Nat.le_of_ble_eq_true rfl)
  rw [lg_entry_eq]
  generalize (lg_sl ([.ref h, .int x, .int y]) ++ List.replicate (5 - (lg_sl ([.ref h, .int x, .int y])).length) Slot.unset).toArray = ls at hl ⊢
  have hl : lv_has ls 5 [(0, .ref h), (1, .int x), (2, .int y)] := hl
  refine wq (fun Q hQ => ?_)
  have hzc : 0 + 0 ≤ (headSpec wsX1_raze rmX1_raze_ok).room.cells := Nat.zero_le _
  have hzs : 0 + 0 ≤ (headSpec wsX1_raze rmX1_raze_ok).room.slots := Nat.zero_le _
  have hf10 := hts (.fieldLink RX1 10 "CanalCity" "now" "LCanalCity$City;") (by decide +kernel)
  have hinX0 : ∀ w ∈ u_ws RX0 TX0 13, w ∈ wsX1_raze := by decide +kernel
  have hinX1 : ∀ w ∈ u_ws RX1 TX1 2, w ∈ wsX1_raze := by decide +kernel
  obtain ⟨hpl, hin⟩ := raze_0 hcd
  have hat := (plc_at hpl).1
  refine lv_iload_n hx hb dX1_raze_0 rfl (lv_at hl 1 rfl) ?_
  refine lv_iload_n hx hb dX1_raze_1 rfl (lv_at hl 2 rfl) ?_
  refine cr_i (va_runS (As := [.int x, .int y]) (rest := []) FX (c_X1_checkedNumber_ok l x y hpl) (va_cwS 2 hts gX1_raze_X1_checkedNumber rfl rfl rfl (by decide +kernel) ⟨Nat.le_of_ble_eq_true rfl, Nat.le_of_ble_eq_true rfl⟩) puS rfl rfl hl.1 rfl (lv_room (Nat.le_of_ble_eq_true rfl)) dX1_raze_2 ⟨hzc, hzs⟩) hS hP (fun H locs hP hS => ?_)
  refine lv_istore_n (lv' := [(3, .int (nI (pAt x y))), (0, .ref h), (1, .int x), (2, .int y)]) hx hb dX1_raze_5 rfl hl (by decide) rfl (fun ls hl => ?_)
  refine lv_aload_n hx hb dX1_raze_6 rfl (lv_at hl 1 rfl) ?_
  refine va_get (D := G) (ci := 1) (v := .ref (a 0)) (C := RX1) (T := TX1) (N := 2) hx hb hts hinX1 hown hK hP 0 rfl rfl 0 (by decide) hf10 (fun _ h9 => h9) rfl dX1_raze_7 ?_
  refine va_getN (host := "CanalCity") (D := G) (ci := 0) (v := .ref (a 3)) (C := RX0) (T := TX0) (N := 13) hx hb hts hinX0 hown hK hP 1 rfl rfl 3 (by decide) (va_Nw.use rfl (NW_at hN 1 rfl)) (fun _ h9 => h9) rfl dX1_raze_10 ?_
  refine lv_iload_n hx hb dX1_raze_13 rfl (lv_at hl 0 rfl) ?_
  refine va_iald hx hb hK hP 2 0 rfl rfl (vp_in_nI hat (by decide)) dX1_raze_14 ?_
  refine tpi (x' := K (pAt x y)) (congrArg K (nI_clamp (by omega))) ?_
  refine tpi (x' := k (pAt x y)) (hk _ hat) ?_
  refine lv_istore (lv' := [(4, .int (k (pAt x y))), (3, .int (nI (pAt x y))), (0, .ref h), (1, .int x), (2, .int y)]) hx hb dX1_raze_15 hl (by decide) rfl (fun ls hl => ?_)
  refine lv_iload hx hb dX1_raze_17 (lv_at hl 0 rfl) ?_
  refine lv_iconst (v := 3) hx hb dX1_raze_19 (by decide) ?_
  refine lv_icmp_lt (tgt := 30) hx hb dX1_raze_20 (by decide) (fun c => absurd c (Int32.not_lt.mpr (inB_t hin).1)) (fun _ => ?_)
  refine lv_iload hx hb dX1_raze_23 (lv_at hl 0 rfl) ?_
  refine lv_bipush (v := 6) hx hb dX1_raze_25 (by decide) ?_
  refine lv_icmp_le (tgt := 40) hx hb dX1_raze_27 (by decide) (fun _ => ?_) (fun c => absurd ((inB_t hin).2) c)
  refine lv_aload_n hx hb dX1_raze_40 rfl (lv_at hl 2 rfl) ?_
  refine va_get (D := G) (ci := 1) (v := .ref (a 0)) (C := RX1) (T := TX1) (N := 2) hx hb hts hinX1 hown hK hP 0 rfl rfl 0 (by decide) hf10 (fun _ h9 => h9) rfl dX1_raze_41 ?_
  refine lv_iload_n hx hb dX1_raze_44 rfl (lv_at hl 1 rfl) ?_
  refine lv_iload hx hb dX1_raze_45 (lv_at hl 0 rfl) ?_
  refine lv_bipush (v := 6) hx hb dX1_raze_47 (by decide) ?_
  refine lv_icmp_ne (tgt := 56) hx hb dX1_raze_49 (by decide) (fun c6 => ?_) (fun c6 => ?_)
  · skip
    refine lv_iconst (v := 2) hx hb dX1_raze_56 (by decide) ?_
    refine tpi (x' := rzV k x y) (by unfold rzV; rw [if_neg c6]) ?_
    refine cw_v (wr := [(h, oX a t)]) (va_runV (As := [.int (nI (pAt x y)), .int (rzV k x y)]) (rest := []) FX (c_X0_change l G cI a mo co le K Qa La Ha Ma Ba Ca Da Fa Wa k (pAt x y) (rzV k x y) hk hat (rz_gate hg hin) _) (cwV 2 hts gX1_raze_X0_change rfl rfl rfl (by decide +kernel) ⟨Nat.le_of_ble_eq_true rfl, Nat.le_of_ble_eq_true rfl⟩) (wrV hK hP hD hN [1, 2, 3, 4, 5, 6, 7, 8, 9, 10, 11] (by decide) rfl rfl (ci := 0) (q0 := 1) rfl rfl) rfl rfl hl.1 rfl (lv_room (Nat.le_of_ble_eq_true rfl)) dX1_raze_57 ⟨hzc, hzs⟩) hS hP hD hA [1, 2, 3, 4, 5, 6, 7, 8, 9, 10, 11] [0] rfl rfl (by decide) (by decide) (fun u H locs hw hP hD hS => ?_)
    obtain ⟨Q1, L1, H1, M1, B1, C1, D1, W1⟩ := u
    have hP := hP.sub (ws' := [(h, oX a t), ((a 0), oC a mo co le), ((a 3), iA cI (upd K (pAt x y) (rzV k x y))), ((a 4), iA cI Q1), ((a 5), iA cI L1), ((a 6), iA cI H1), ((a 7), iA cI M1), ((a 8), iA cI B1), ((a 9), iA cI C1), ((a 10), iA cI D1), ((a 11), iA cI Fa), ((a 12), iA cI W1)]) [0, 1, 2, 3, 4, 5, 6, 7, 8, 9, 10, 11] rfl
    have hD := hD.sub (ws' := [(h, oX a t), ((a 0), oC a mo co le), ((a 3), iA cI (upd K (pAt x y) (rzV k x y))), ((a 4), iA cI Q1), ((a 5), iA cI L1), ((a 6), iA cI H1), ((a 7), iA cI M1), ((a 8), iA cI B1), ((a 9), iA cI C1), ((a 10), iA cI D1), ((a 11), iA cI Fa), ((a 12), iA cI W1)]) [0, 1, 2, 3, 4, 5, 6, 7, 8, 9, 10, 11] (by decide) rfl
    refine lv_iload hx hb dX1_raze_60 (lv_at hl 0 rfl) ?_
    subst hQ
    subst hAe
    exact wr_i (Q1, L1, H1, M1, B1, C1, D1, W1) (⟨rfl, hw⟩) hx hb hr hP hD hS hlocks dX1_raze_62
  · skip
    refine lv_iconst (v := 1) hx hb dX1_raze_52 (by decide) ?_
    refine lv_goto (tgt := 57) hx hb dX1_raze_53 (by decide) ?_
    refine tpi (x' := rzV k x y) (by unfold rzV; rw [if_pos c6]) ?_
    refine cw_v (wr := [(h, oX a t)]) (va_runV (As := [.int (nI (pAt x y)), .int (rzV k x y)]) (rest := []) FX (c_X0_change l G cI a mo co le K Qa La Ha Ma Ba Ca Da Fa Wa k (pAt x y) (rzV k x y) hk hat (rz_gate hg hin) _) (cwV 2 hts gX1_raze_X0_change rfl rfl rfl (by decide +kernel) ⟨Nat.le_of_ble_eq_true rfl, Nat.le_of_ble_eq_true rfl⟩) (wrV hK hP hD hN [1, 2, 3, 4, 5, 6, 7, 8, 9, 10, 11] (by decide) rfl rfl (ci := 0) (q0 := 1) rfl rfl) rfl rfl hl.1 rfl (lv_room (Nat.le_of_ble_eq_true rfl)) dX1_raze_57 ⟨hzc, hzs⟩) hS hP hD hA [1, 2, 3, 4, 5, 6, 7, 8, 9, 10, 11] [0] rfl rfl (by decide) (by decide) (fun u H locs hw hP hD hS => ?_)
    obtain ⟨Q1, L1, H1, M1, B1, C1, D1, W1⟩ := u
    have hP := hP.sub (ws' := [(h, oX a t), ((a 0), oC a mo co le), ((a 3), iA cI (upd K (pAt x y) (rzV k x y))), ((a 4), iA cI Q1), ((a 5), iA cI L1), ((a 6), iA cI H1), ((a 7), iA cI M1), ((a 8), iA cI B1), ((a 9), iA cI C1), ((a 10), iA cI D1), ((a 11), iA cI Fa), ((a 12), iA cI W1)]) [0, 1, 2, 3, 4, 5, 6, 7, 8, 9, 10, 11] rfl
    have hD := hD.sub (ws' := [(h, oX a t), ((a 0), oC a mo co le), ((a 3), iA cI (upd K (pAt x y) (rzV k x y))), ((a 4), iA cI Q1), ((a 5), iA cI L1), ((a 6), iA cI H1), ((a 7), iA cI M1), ((a 8), iA cI B1), ((a 9), iA cI C1), ((a 10), iA cI D1), ((a 11), iA cI Fa), ((a 12), iA cI W1)]) [0, 1, 2, 3, 4, 5, 6, 7, 8, 9, 10, 11] (by decide) rfl
    refine lv_iload hx hb dX1_raze_60 (lv_at hl 0 rfl) ?_
    subst hQ
    subst hAe
    exact wr_i (Q1, L1, H1, M1, B1, C1, D1, W1) (⟨rfl, hw⟩) hx hb hr hP hD hS hlocks dX1_raze_62

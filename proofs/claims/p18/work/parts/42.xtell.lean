def rmX1_lot_ok : Room := { frames := 3, cells := 0, slots := 0, locals := 69 }
set_option maxHeartbeats 4000000 in
set_option maxRecDepth 100000 in
theorem c_X1_lot_ok (l : Launch) (G : va_G) (cI : ClassId) (h : Nat) (a t : Nat → Nat) (mo co le : Int32) (K Qa La Ha Ma Ba Ca Da Fa Wa k : Nat → Int32) (x y w : Int32) (hk : eqK K k) (hS0 : SVd k Qa La Ha Ma Ba Ca Da) (hpl : (inB 0 7 x && inB 0 7 y) = true) (hin : inB 0 5 w = true) : Met l yX1_lot wsX1_lot rmX1_lot_ok (va_Pc [.ref h, .int x, .int y, .int w] (RdP G cI [(h, oX a t), ((a 0), oC a mo co le), ((a 3), iA cI K), ((a 4), iA cI Qa), ((a 5), iA cI La), ((a 6), iA cI Ha), ((a 7), iA cI Ma), ((a 8), iA cI Ba), ((a 9), iA cI Ca), ((a 10), iA cI Da), ((a 11), iA cI Fa), ((a 12), iA cI Wa)])) (RdQ (fct k (pAt x y) w)) 0 0 No := by
  refine Met.ofW (cc := cX1_lot) (maxL := 5) (ret := (some .int)) (by decide) rfl ?_
  intro p e s m args below meth c s₁ B hml hv
  obtain ⟨rfl, hP, hK, hN⟩ := hv
  have hx := B.exec
  have hb := B.bytes
  have hr := B.returns
  have hlocks := B.notSynchronized
  have hts := atoms_spec (ws := wsX1_lot) B.pre
  have hown : s.vm.findClass RX1 = some m.cls := findClass_of_methodNamed B.named
  have hS : va_S No s.heap s.heap [] := va_S.rf
  have FX : CallFix p m c cX1_lot 5 s ([.ref h, .int x, .int y, .int w] : List Value).toArray wsX1_lot RX1 := ⟨hx, hb, hml, hown, hts⟩
  have hl := lv_entry ([.ref h, .int x, .int y, .int w]) (n := 5) (Nat.le_of_ble_eq_true rfl)
  rw [lg_entry_eq]
  generalize (lg_sl ([.ref h, .int x, .int y, .int w]) ++ List.replicate (5 - (lg_sl ([.ref h, .int x, .int y, .int w])).length) Slot.unset).toArray = ls at hl ⊢
  have hl : lv_has ls 5 [(0, .ref h), (1, .int x), (2, .int y), (3, .int w)] := hl
  refine wq (fun Q hQ => ?_)
  have hzc : 0 + 0 ≤ (headSpec wsX1_lot rmX1_lot_ok).room.cells := Nat.zero_le _
  have hzs : 0 + 0 ≤ (headSpec wsX1_lot rmX1_lot_ok).room.slots := Nat.zero_le _
  have hf10 := hts (.fieldLink RX1 10 "CanalCity" "now" "LCanalCity$City;") (by decide +kernel)
  have hinX1 : ∀ w ∈ u_ws RX1 TX1 2, w ∈ wsX1_lot := by decide +kernel
  have hat := (plc_at hpl).1
  refine lv_iload_n hx hb dX1_lot_0 rfl (lv_at hl 1 rfl) ?_
  refine lv_iload_n hx hb dX1_lot_1 rfl (lv_at hl 2 rfl) ?_
  refine cr_i (va_runS (As := [.int x, .int y]) (rest := []) FX (c_X1_checkedNumber_ok l x y hpl) (va_cwS 2 hts gX1_lot_X1_checkedNumber rfl rfl rfl (by decide +kernel) ⟨Nat.le_of_ble_eq_true rfl, Nat.le_of_ble_eq_true rfl⟩) puS rfl rfl hl.1 rfl (lv_room (Nat.le_of_ble_eq_true rfl)) dX1_lot_2 ⟨hzc, hzs⟩) hS hP (fun H locs hP hS => ?_)
  refine lv_istore (lv' := [(4, .int (nI (pAt x y))), (0, .ref h), (1, .int x), (2, .int y), (3, .int w)]) hx hb dX1_lot_5 hl (by decide) rfl (fun ls hl => ?_)
  refine lv_iload_n hx hb dX1_lot_7 rfl (lv_at hl 4 rfl) ?_
  refine lv_if_lt (tgt := 16) hx hb dX1_lot_8 (by decide) (fun c => absurd c (Int32.not_lt.mpr (inB_t hin).1)) (fun _ => ?_)
  refine lv_iload_n hx hb dX1_lot_11 rfl (lv_at hl 4 rfl) ?_
  refine lv_iconst (v := 5) hx hb dX1_lot_12 (by decide) ?_
  refine lv_icmp_le (tgt := 26) hx hb dX1_lot_13 (by decide) (fun _ => ?_) (fun c => absurd ((inB_t hin).2) c)
  refine lv_aload_n hx hb dX1_lot_26 rfl (lv_at hl 1 rfl) ?_
  refine va_get (D := G) (ci := 1) (v := .ref (a 0)) (C := RX1) (T := TX1) (N := 2) hx hb hts hinX1 hown hK hP 0 rfl rfl 0 (by decide) hf10 (fun _ h9 => h9) rfl dX1_lot_27 ?_
  refine lv_iload hx hb dX1_lot_30 (lv_at hl 0 rfl) ?_
  refine lv_iload_n hx hb dX1_lot_32 rfl (lv_at hl 4 rfl) ?_
  refine cr_i (va_runV (As := [.int (nI (pAt x y)), .int w]) (rest := []) FX (c_X0_factOf l G cI a mo co le K Qa La Ha Ma Ba Ca Da Fa Wa k (pAt x y) w hk hS0.1 hS0.2.1 hS0.2.2.2.2.1 hS0.2.2.2.2.2.1 hS0.2.2.2.2.2.2 hat) (cwV 2 hts gX1_lot_X0_factOf rfl rfl rfl (by decide +kernel) ⟨Nat.le_of_ble_eq_true rfl, Nat.le_of_ble_eq_true rfl⟩) (rdV hK hP hN [1, 2, 3, 4, 5, 6, 7, 8, 9, 10, 11] rfl (ci := 0) (q0 := 1) rfl rfl) rfl rfl hl.1 rfl (lv_room (Nat.le_of_ble_eq_true rfl)) dX1_lot_33 ⟨hzc, hzs⟩) hS hP (fun H locs hP hS => ?_)
  subst hQ
  exact rd_i (rfl) hx hb hr hS hlocks dX1_lot_36

def rmX1_count_ok : Room := { frames := 3, cells := 0, slots := 0, locals := 63 }
set_option maxHeartbeats 4000000 in
set_option maxRecDepth 100000 in
theorem c_X1_count_ok (l : Launch) (G : va_G) (cI : ClassId) (h : Nat) (a t : Nat → Nat) (mo co le : Int32) (K Qa La Ha Ma Ba Ca Da Fa Wa k : Nat → Int32) (w : Int32) (hk : eqK K k) (hS0 : SVd k Qa La Ha Ma Ba Ca Da) (hin : inB 0 12 w = true) : Met l yX1_count wsX1_count rmX1_count_ok (va_Pc [.ref h, .int w] (RdP G cI [(h, oX a t), ((a 0), oC a mo co le), ((a 3), iA cI K), ((a 4), iA cI Qa), ((a 5), iA cI La), ((a 6), iA cI Ha), ((a 7), iA cI Ma), ((a 8), iA cI Ba), ((a 9), iA cI Ca), ((a 10), iA cI Da), ((a 11), iA cI Fa), ((a 12), iA cI Wa)])) (RdQ (tot k mo co le w)) 0 0 No := by
  refine Met.ofW (cc := cX1_count) (maxL := 2) (ret := (some .int)) (by decide) rfl ?_
  intro p e s m args below meth c s₁ B hml hv
  obtain ⟨rfl, hP, hK, hN⟩ := hv
  have hx := B.exec
  have hb := B.bytes
  have hr := B.returns
  have hlocks := B.notSynchronized
  have hts := atoms_spec (ws := wsX1_count) B.pre
  have hown : s.vm.findClass RX1 = some m.cls := findClass_of_methodNamed B.named
  have hS : va_S No s.heap s.heap [] := va_S.rf
  have FX : CallFix p m c cX1_count 2 s ([.ref h, .int w] : List Value).toArray wsX1_count RX1 := ⟨hx, hb, hml, hown, hts⟩
  have hl := lv_entry ([.ref h, .int w]) (n := 2) (Nat.le_of_ble_eq_true rfl)
  rw [lg_entry_eq]
  generalize (lg_sl ([.ref h, .int w]) ++ List.replicate (2 - (lg_sl ([.ref h, .int w])).length) Slot.unset).toArray = ls at hl ⊢
  have hl : lv_has ls 2 [(0, .ref h), (1, .int w)] := hl
  refine wq (fun Q hQ => ?_)
  have hzc : 0 + 0 ≤ (headSpec wsX1_count rmX1_count_ok).room.cells := Nat.zero_le _
  have hzs : 0 + 0 ≤ (headSpec wsX1_count rmX1_count_ok).room.slots := Nat.zero_le _
  have hf10 := hts (.fieldLink RX1 10 "CanalCity" "now" "LCanalCity$City;") (by decide +kernel)
  have hinX1 : ∀ w ∈ u_ws RX1 TX1 2, w ∈ wsX1_count := by decide +kernel
  refine lv_iload_n hx hb dX1_count_0 rfl (lv_at hl 1 rfl) ?_
  refine lv_if_lt (tgt := 10) hx hb dX1_count_1 (by decide) (fun c => absurd c (Int32.not_lt.mpr (inB_t hin).1)) (fun _ => ?_)
  refine lv_iload_n hx hb dX1_count_4 rfl (lv_at hl 1 rfl) ?_
  refine lv_bipush (v := 12) hx hb dX1_count_5 (by decide) ?_
  refine lv_icmp_le (tgt := 20) hx hb dX1_count_7 (by decide) (fun _ => ?_) (fun c => absurd ((inB_t hin).2) c)
  refine lv_aload_n hx hb dX1_count_20 rfl (lv_at hl 0 rfl) ?_
  refine va_get (D := G) (ci := 1) (v := .ref (a 0)) (C := RX1) (T := TX1) (N := 2) hx hb hts hinX1 hown hK hP 0 rfl rfl 0 (by decide) hf10 (fun _ h9 => h9) rfl dX1_count_21 ?_
  refine lv_iload_n hx hb dX1_count_24 rfl (lv_at hl 1 rfl) ?_
  refine cr_i (va_runV (As := [.int w]) (rest := []) FX (c_X0_total l G cI a mo co le K Qa La Ha Ma Ba Ca Da Fa Wa k w hk hS0.1 hS0.2.2.2.2.2.1 hS0.2.2.2.2.2.2) (cwV 1 hts gX1_count_X0_total rfl rfl rfl (by decide +kernel) ⟨Nat.le_of_ble_eq_true rfl, Nat.le_of_ble_eq_true rfl⟩) (rdV hK hP hN [1, 2, 3, 4, 5, 6, 7, 8, 9, 10, 11] rfl (ci := 0) (q0 := 1) rfl rfl) rfl rfl hl.1 rfl (lv_room (Nat.le_of_ble_eq_true rfl)) dX1_count_25 ⟨hzc, hzs⟩) hS hP (fun H locs hP hS => ?_)
  subst hQ
  exact rd_i (rfl) hx hb hr hS hlocks dX1_count_28

def rmX1_walk_ok : Room := { frames := 3, cells := 0, slots := 0, locals := 75 }
set_option maxHeartbeats 4000000 in
set_option maxRecDepth 100000 in
theorem c_X1_walk_ok (l : Launch) (G : va_G) (cI : ClassId) (h : Nat) (a t : Nat → Nat) (mo co le : Int32) (K Qa La Ha Ma Ba Ca Da Fa Wa k : Nat → Int32) (x y : Int32) (hk : eqK K k) (hin : inB 0 63 x = true) (hin2 : inB 0 63 y = true) (hl1 : lnd (k x.toNatClampNeg) = true) (hl2 : lnd (k y.toNatClampNeg) = true) (sz : Nat) : Met l yX1_walk wsX1_walk rmX1_walk_ok (va_Pc [.ref h, .int x, .int y] (WrP G cI [(h, oX a t), ((a 0), oC a mo co le), ((a 3), iA cI K), ((a 4), iA cI Qa), ((a 5), iA cI La), ((a 6), iA cI Ha), ((a 7), iA cI Ma), ((a 8), iA cI Ba), ((a 9), iA cI Ca), ((a 10), iA cI Da), ((a 11), iA cI Fa), ((a 12), iA cI Wa)] sz)) (va_Qi (fun (r : Int32) (u : (Nat → Int32) × (Nat → Int32)) => r = toI (dst (PB true k) x.toNatClampNeg y.toNatClampNeg)) (WrB G [(h, oX a t), ((a 0), oC a mo co le), ((a 3), iA cI K), ((a 4), iA cI Qa), ((a 5), iA cI La), ((a 6), iA cI Ha), ((a 7), iA cI Ma), ((a 8), iA cI Ba), ((a 9), iA cI Ca), ((a 10), iA cI Da), ((a 11), iA cI Fa), ((a 12), iA cI Wa)] sz (fun u => [(h, oX a t), (a 0, oC a mo co le), (a 3, iA cI K), (a 4, iA cI Qa), (a 5, iA cI La), (a 6, iA cI Ha), (a 7, iA cI Ma), (a 8, iA cI Ba), (a 9, iA cI Ca), (a 10, iA cI Da), (a 11, iA cI (u.1)), (a 12, iA cI (u.2))])) (va_A [(h, oX a t), ((a 0), oC a mo co le), ((a 3), iA cI K), ((a 4), iA cI Qa), ((a 5), iA cI La), ((a 6), iA cI Ha), ((a 7), iA cI Ma), ((a 8), iA cI Ba), ((a 9), iA cI Ca), ((a 10), iA cI Da), ((a 11), iA cI Fa), ((a 12), iA cI Wa)] sz)) 0 0 (va_A [(h, oX a t), ((a 0), oC a mo co le), ((a 3), iA cI K), ((a 4), iA cI Qa), ((a 5), iA cI La), ((a 6), iA cI Ha), ((a 7), iA cI Ma), ((a 8), iA cI Ba), ((a 9), iA cI Ca), ((a 10), iA cI Da), ((a 11), iA cI Fa), ((a 12), iA cI Wa)] sz) := by
  refine Met.ofW (cc := cX1_walk) (maxL := 3) (ret := (some .int)) (by decide) rfl ?_
  intro p e s m args below meth c s₁ B hml hv
  obtain ⟨rfl, hsz, hP, hK, hD0, hN⟩ := hv
  have hx := B.exec
  have hb := B.bytes
  have hr := B.returns
  have hlocks := B.notSynchronized
  have hts := atoms_spec (ws := wsX1_walk) B.pre
  have hown : s.vm.findClass RX1 = some m.cls := findClass_of_methodNamed B.named
  subst hsz
  have hD := hD0.self (sz := s.heap.size)
  have hA : ∀ q : Nat, s.heap.size ≤ q → va_A [(h, oX a t), ((a 0), oC a mo co le), ((a 3), iA cI K), ((a 4), iA cI Qa), ((a 5), iA cI La), ((a 6), iA cI Ha), ((a 7), iA cI Ma), ((a 8), iA cI Ba), ((a 9), iA cI Ca), ((a 10), iA cI Da), ((a 11), iA cI Fa), ((a 12), iA cI Wa)] s.heap.size q := fun q h => Or.inr h
  have hS : va_S (va_A [(h, oX a t), ((a 0), oC a mo co le), ((a 3), iA cI K), ((a 4), iA cI Qa), ((a 5), iA cI La), ((a 6), iA cI Ha), ((a 7), iA cI Ma), ((a 8), iA cI Ba), ((a 9), iA cI Ca), ((a 10), iA cI Da), ((a 11), iA cI Fa), ((a 12), iA cI Wa)] s.heap.size) s.heap s.heap [] := va_S.rf
  obtain ⟨A, hAe⟩ : ∃ A, A = va_A [(h, oX a t), ((a 0), oC a mo co le), ((a 3), iA cI K), ((a 4), iA cI Qa), ((a 5), iA cI La), ((a 6), iA cI Ha), ((a 7), iA cI Ma), ((a 8), iA cI Ba), ((a 9), iA cI Ca), ((a 10), iA cI Da), ((a 11), iA cI Fa), ((a 12), iA cI Wa)] s.heap.size := ⟨_, rfl⟩
  rw [← hAe] at hD hA hS
  have FX : CallFix p m c cX1_walk 3 s ([.ref h, .int x, .int y] : List Value).toArray wsX1_walk RX1 := ⟨hx, hb, hml, hown, hts⟩
  have hl := lv_entry ([.ref h, .int x, .int y]) (n := 3) (Nat.le_of_ble_eq_true rfl)
  rw [lg_entry_eq]
  generalize (lg_sl ([.ref h, .int x, .int y]) ++ List.replicate (3 - (lg_sl ([.ref h, .int x, .int y])).length) Slot.unset).toArray = ls at hl ⊢
  have hl : lv_has ls 3 [(0, .ref h), (1, .int x), (2, .int y)] := hl
  refine wq (fun Q hQ => ?_)
  have hzc : 0 + 0 ≤ (headSpec wsX1_walk rmX1_walk_ok).room.cells := Nat.zero_le _
  have hzs : 0 + 0 ≤ (headSpec wsX1_walk rmX1_walk_ok).room.slots := Nat.zero_le _
  have hf10 := hts (.fieldLink RX1 10 "CanalCity" "now" "LCanalCity$City;") (by decide +kernel)
  have hinX0 : ∀ w ∈ u_ws RX0 TX0 13, w ∈ wsX1_walk := by decide +kernel
  have hinX1 : ∀ w ∈ u_ws RX1 TX1 2, w ∈ wsX1_walk := by decide +kernel
  have hxa := num_at hin
  have hya := num_at hin2
  obtain ⟨xn, hxn⟩ : ∃ z, z = x.toNatClampNeg := ⟨_, rfl⟩
  obtain ⟨yn, hyn⟩ : ∃ z, z = y.toNatClampNeg := ⟨_, rfl⟩
  rw [← hxn] at hxa hl1
  rw [← hyn] at hya hl2
  refine lv_iload_n hx hb dX1_walk_0 rfl (lv_at hl 1 rfl) ?_
  refine cr_v (va_runS (As := [.int x]) (rest := []) FX (c_X1_checkNumber_ok l x hin) (va_cwS 1 hts gX1_walk_X1_checkNumber rfl rfl rfl (by decide +kernel) ⟨Nat.le_of_ble_eq_true rfl, Nat.le_of_ble_eq_true rfl⟩) puS rfl rfl hl.1 rfl (lv_room (Nat.le_of_ble_eq_true rfl)) dX1_walk_1 ⟨hzc, hzs⟩) hS hP (fun H locs hP hS => ?_)
  refine lv_iload_n hx hb dX1_walk_4 rfl (lv_at hl 2 rfl) ?_
  refine cr_v (va_runS (As := [.int y]) (rest := []) FX (c_X1_checkNumber_ok l y hin2) (va_cwS 1 hts gX1_walk_X1_checkNumber rfl rfl rfl (by decide +kernel) ⟨Nat.le_of_ble_eq_true rfl, Nat.le_of_ble_eq_true rfl⟩) puS rfl rfl hl.1 rfl (lv_room (Nat.le_of_ble_eq_true rfl)) dX1_walk_5 ⟨hzc, hzs⟩) hS hP (fun H locs hP hS => ?_)
  refine lv_aload_n hx hb dX1_walk_8 rfl (lv_at hl 0 rfl) ?_
  refine va_get (D := G) (ci := 1) (v := .ref (a 0)) (C := RX1) (T := TX1) (N := 2) hx hb hts hinX1 hown hK hP 0 rfl rfl 0 (by decide) hf10 (fun _ h9 => h9) rfl dX1_walk_9 ?_
  refine va_getN (host := "CanalCity") (D := G) (ci := 0) (v := .ref (a 3)) (C := RX0) (T := TX0) (N := 13) hx hb hts hinX0 hown hK hP 1 rfl rfl 3 (by decide) (va_Nw.use rfl (NW_at hN 1 rfl)) (fun _ h9 => h9) rfl dX1_walk_12 ?_
  refine lv_iload_n hx hb dX1_walk_15 rfl (lv_at hl 1 rfl) ?_
  refine tpi (x' := nI xn) (hxa.2) ?_
  refine va_iald hx hb hK hP 2 0 rfl rfl (vp_in_nI hxa.1 (by decide)) dX1_walk_16 ?_
  refine tpi (x' := K xn) (congrArg K (nI_clamp (by omega))) ?_
  refine tpi (x' := k xn) (hk _ hxa.1) ?_
  refine cr_i (va_runS (As := [.int (k xn)]) (rest := []) FX (c_X1_isLand l (k xn)) (va_cwS 1 hts gX1_walk_X1_isLand rfl rfl rfl (by decide +kernel) ⟨Nat.le_of_ble_eq_true rfl, Nat.le_of_ble_eq_true rfl⟩) puS rfl rfl hl.1 rfl (lv_room (Nat.le_of_ble_eq_true rfl)) dX1_walk_17 ⟨hzc, hzs⟩) hS hP (fun H locs hP hS => ?_)
  refine tpi (x' := 1) (by rw [hl1]; rfl) ?_
  refine lv_if_eq (tgt := 38) hx hb dX1_walk_20 (by decide) (fun c => absurd c (by decide)) (fun _ => ?_)
  refine lv_aload_n hx hb dX1_walk_23 rfl (lv_at hl 0 rfl) ?_
  refine va_get (D := G) (ci := 1) (v := .ref (a 0)) (C := RX1) (T := TX1) (N := 2) hx hb hts hinX1 hown hK hP 0 rfl rfl 0 (by decide) hf10 (fun _ h9 => h9) rfl dX1_walk_24 ?_
  refine va_getN (host := "CanalCity") (D := G) (ci := 0) (v := .ref (a 3)) (C := RX0) (T := TX0) (N := 13) hx hb hts hinX0 hown hK hP 1 rfl rfl 3 (by decide) (va_Nw.use rfl (NW_at hN 1 rfl)) (fun _ h9 => h9) rfl dX1_walk_27 ?_
  refine lv_iload_n hx hb dX1_walk_30 rfl (lv_at hl 2 rfl) ?_
  refine tpi (x' := nI yn) (hya.2) ?_
  refine va_iald hx hb hK hP 2 0 rfl rfl (vp_in_nI hya.1 (by decide)) dX1_walk_31 ?_
  refine tpi (x' := K yn) (congrArg K (nI_clamp (by omega))) ?_
  refine tpi (x' := k yn) (hk _ hya.1) ?_
  refine cr_i (va_runS (As := [.int (k yn)]) (rest := []) FX (c_X1_isLand l (k yn)) (va_cwS 1 hts gX1_walk_X1_isLand rfl rfl rfl (by decide +kernel) ⟨Nat.le_of_ble_eq_true rfl, Nat.le_of_ble_eq_true rfl⟩) puS rfl rfl hl.1 rfl (lv_room (Nat.le_of_ble_eq_true rfl)) dX1_walk_32 ⟨hzc, hzs⟩) hS hP (fun H locs hP hS => ?_)
  refine tpi (x' := 1) (by rw [hl2]; rfl) ?_
  refine lv_if_ne (tgt := 48) hx hb dX1_walk_35 (by decide) (fun _ => ?_) (fun c => absurd c (by decide))
  refine lv_aload_n hx hb dX1_walk_48 rfl (lv_at hl 0 rfl) ?_
  refine va_get (D := G) (ci := 1) (v := .ref (a 0)) (C := RX1) (T := TX1) (N := 2) hx hb hts hinX1 hown hK hP 0 rfl rfl 0 (by decide) hf10 (fun _ h9 => h9) rfl dX1_walk_49 ?_
  refine lv_iload_n hx hb dX1_walk_52 rfl (lv_at hl 1 rfl) ?_
  refine tpi (x' := nI xn) (hxa.2) ?_
  refine lv_iload_n hx hb dX1_walk_53 rfl (lv_at hl 2 rfl) ?_
  refine tpi (x' := nI yn) (hya.2) ?_
  refine cw_i (wr := [(h, oX a t)]) (va_runV (As := [.int (nI xn), .int (nI yn)]) (rest := []) FX (c_X0_stepsOnFoot l G cI a mo co le K Qa La Ha Ma Ba Ca Da Fa Wa k xn yn hk hxa.1 hya.1 _) (cwV 2 hts gX1_walk_X0_stepsOnFoot rfl rfl rfl (by decide +kernel) ⟨Nat.le_of_ble_eq_true rfl, Nat.le_of_ble_eq_true rfl⟩) (wrV hK hP hD hN [1, 2, 3, 4, 5, 6, 7, 8, 9, 10, 11] (by decide) rfl rfl (ci := 0) (q0 := 1) rfl rfl) rfl rfl hl.1 rfl (lv_room (Nat.le_of_ble_eq_true rfl)) dX1_walk_54 ⟨hzc, hzs⟩) hS hP hD hA [1, 2, 3, 4, 5, 6, 7, 8, 9, 10, 11] [0] rfl rfl (by decide) (by decide) (fun r9 u H locs hw hP hD hS => ?_)
  obtain ⟨F1, W1⟩ := u
  have hP := hP.sub (ws' := [(h, oX a t), ((a 0), oC a mo co le), ((a 3), iA cI K), ((a 4), iA cI Qa), ((a 5), iA cI La), ((a 6), iA cI Ha), ((a 7), iA cI Ma), ((a 8), iA cI Ba), ((a 9), iA cI Ca), ((a 10), iA cI Da), ((a 11), iA cI F1), ((a 12), iA cI W1)]) [0, 1, 2, 3, 4, 5, 6, 7, 8, 9, 10, 11] rfl
  have hD := hD.sub (ws' := [(h, oX a t), ((a 0), oC a mo co le), ((a 3), iA cI K), ((a 4), iA cI Qa), ((a 5), iA cI La), ((a 6), iA cI Ha), ((a 7), iA cI Ma), ((a 8), iA cI Ba), ((a 9), iA cI Ca), ((a 10), iA cI Da), ((a 11), iA cI F1), ((a 12), iA cI W1)]) [0, 1, 2, 3, 4, 5, 6, 7, 8, 9, 10, 11] (by decide) rfl
  subst hQ
  subst hAe
  exact wr_i (F1, W1) (by rw [← hxn, ← hyn]; exact hw) hx hb hr hP hD hS hlocks dX1_walk_57

def rmX1_sail_ok : Room := { frames := 2, cells := 0, slots := 0, locals := 40 }
set_option maxHeartbeats 4000000 in
set_option maxRecDepth 100000 in
theorem c_X1_sail_ok (l : Launch) (G : va_G) (cI : ClassId) (h : Nat) (a t : Nat → Nat) (mo co le : Int32) (K Qa La Ha Ma Ba Ca Da Fa Wa k : Nat → Int32) (x : Int32) (hk : eqK K k) (hS0 : SVd k Qa La Ha Ma Ba Ca Da) (hin : inB 0 63 x = true) (hl1 : wtr (k x.toNatClampNeg) = true) : Met l yX1_sail wsX1_sail rmX1_sail_ok (va_Pc [.ref h, .int x] (RdP G cI [(h, oX a t), ((a 0), oC a mo co le), ((a 3), iA cI K), ((a 4), iA cI Qa), ((a 5), iA cI La), ((a 6), iA cI Ha), ((a 7), iA cI Ma), ((a 8), iA cI Ba), ((a 9), iA cI Ca), ((a 10), iA cI Da), ((a 11), iA cI Fa), ((a 12), iA cI Wa)])) (RdQ (toI (dst (PB false k) 3 x.toNatClampNeg))) 0 0 No := by
  refine Met.ofW (cc := cX1_sail) (maxL := 2) (ret := (some .int)) (by decide) rfl ?_
  intro p e s m args below meth c s₁ B hml hv
  obtain ⟨rfl, hP, hK, hN⟩ := hv
  have hx := B.exec
  have hb := B.bytes
  have hr := B.returns
  have hlocks := B.notSynchronized
  have hts := atoms_spec (ws := wsX1_sail) B.pre
  have hown : s.vm.findClass RX1 = some m.cls := findClass_of_methodNamed B.named
  have hS : va_S No s.heap s.heap [] := va_S.rf
  have FX : CallFix p m c cX1_sail 2 s ([.ref h, .int x] : List Value).toArray wsX1_sail RX1 := ⟨hx, hb, hml, hown, hts⟩
  have hl := lv_entry ([.ref h, .int x]) (n := 2) (Nat.le_of_ble_eq_true rfl)
  rw [lg_entry_eq]
  generalize (lg_sl ([.ref h, .int x]) ++ List.replicate (2 - (lg_sl ([.ref h, .int x])).length) Slot.unset).toArray = ls at hl ⊢
  have hl : lv_has ls 2 [(0, .ref h), (1, .int x)] := hl
  refine wq (fun Q hQ => ?_)
  have hzc : 0 + 0 ≤ (headSpec wsX1_sail rmX1_sail_ok).room.cells := Nat.zero_le _
  have hzs : 0 + 0 ≤ (headSpec wsX1_sail rmX1_sail_ok).room.slots := Nat.zero_le _
  have hf10 := hts (.fieldLink RX1 10 "CanalCity" "now" "LCanalCity$City;") (by decide +kernel)
  have hinX0 : ∀ w ∈ u_ws RX0 TX0 13, w ∈ wsX1_sail := by decide +kernel
  have hinX1 : ∀ w ∈ u_ws RX1 TX1 2, w ∈ wsX1_sail := by decide +kernel
  have hxa := num_at hin
  obtain ⟨xn, hxn⟩ : ∃ z, z = x.toNatClampNeg := ⟨_, rfl⟩
  rw [← hxn] at hxa hl1
  refine lv_iload_n hx hb dX1_sail_0 rfl (lv_at hl 1 rfl) ?_
  refine cr_v (va_runS (As := [.int x]) (rest := []) FX (c_X1_checkNumber_ok l x hin) (va_cwS 1 hts gX1_sail_X1_checkNumber rfl rfl rfl (by decide +kernel) ⟨Nat.le_of_ble_eq_true rfl, Nat.le_of_ble_eq_true rfl⟩) puS rfl rfl hl.1 rfl (lv_room (Nat.le_of_ble_eq_true rfl)) dX1_sail_1 ⟨hzc, hzs⟩) hS hP (fun H locs hP hS => ?_)
  refine lv_aload_n hx hb dX1_sail_4 rfl (lv_at hl 0 rfl) ?_
  refine va_get (D := G) (ci := 1) (v := .ref (a 0)) (C := RX1) (T := TX1) (N := 2) hx hb hts hinX1 hown hK hP 0 rfl rfl 0 (by decide) hf10 (fun _ h9 => h9) rfl dX1_sail_5 ?_
  refine va_getN (host := "CanalCity") (D := G) (ci := 0) (v := .ref (a 3)) (C := RX0) (T := TX0) (N := 13) hx hb hts hinX0 hown hK hP 1 rfl rfl 3 (by decide) (va_Nw.use rfl (NW_at hN 1 rfl)) (fun _ h9 => h9) rfl dX1_sail_8 ?_
  refine lv_iload_n hx hb dX1_sail_11 rfl (lv_at hl 1 rfl) ?_
  refine tpi (x' := nI xn) (hxa.2) ?_
  refine va_iald hx hb hK hP 2 0 rfl rfl (vp_in_nI hxa.1 (by decide)) dX1_sail_12 ?_
  refine tpi (x' := K xn) (congrArg K (nI_clamp (by omega))) ?_
  refine tpi (x' := k xn) (hk _ hxa.1) ?_
  refine cr_i (va_runS (As := [.int (k xn)]) (rest := []) FX (c_X1_isWater l (k xn)) (va_cwS 1 hts gX1_sail_X1_isWater rfl rfl rfl (by decide +kernel) ⟨Nat.le_of_ble_eq_true rfl, Nat.le_of_ble_eq_true rfl⟩) puS rfl rfl hl.1 rfl (lv_room (Nat.le_of_ble_eq_true rfl)) dX1_sail_13 ⟨hzc, hzs⟩) hS hP (fun H locs hP hS => ?_)
  refine tpi (x' := 1) (by rw [hl1]; rfl) ?_
  refine lv_if_ne (tgt := 29) hx hb dX1_sail_16 (by decide) (fun _ => ?_) (fun c => absurd c (by decide))
  refine lv_aload_n hx hb dX1_sail_29 rfl (lv_at hl 0 rfl) ?_
  refine va_get (D := G) (ci := 1) (v := .ref (a 0)) (C := RX1) (T := TX1) (N := 2) hx hb hts hinX1 hown hK hP 0 rfl rfl 0 (by decide) hf10 (fun _ h9 => h9) rfl dX1_sail_30 ?_
  refine va_getN (host := "CanalCity") (D := G) (ci := 0) (v := .ref (a 8)) (C := RX0) (T := TX0) (N := 13) hx hb hts hinX0 hown hK hP 1 rfl rfl 8 (by decide) (va_Nw.use rfl (NW_at hN 2 rfl)) (fun _ h9 => h9) rfl dX1_sail_33 ?_
  refine lv_iload_n hx hb dX1_sail_36 rfl (lv_at hl 1 rfl) ?_
  refine tpi (x' := nI xn) (hxa.2) ?_
  refine va_iald hx hb hK hP 7 0 rfl rfl (vp_in_nI hxa.1 (by decide)) dX1_sail_37 ?_
  refine tpi (x' := Ba xn) (congrArg Ba (nI_clamp (by omega))) ?_
  subst hQ
  exact rd_i (by rw [← hxn]; exact hS0.2.2.2.2.1 _ hxa.1) hx hb hr hS hlocks dX1_sail_38

def rmX1_pass_ok : Room := { frames := 5, cells := 0, slots := 0, locals := 119 }
set_option maxHeartbeats 4000000 in
set_option maxRecDepth 100000 in
theorem c_X1_pass_ok (l : Launch) (G : va_G) (cI : ClassId) (h : Nat) (a t : Nat → Nat) (mo co le : Int32) (K Qa La Ha Ma Ba Ca Da Fa Wa k : Nat → Int32) (n9 : Int32) (hk : eqK K k) (hS0 : SVd k Qa La Ha Ma Ba Ca Da) (hg : wtr (k 3) = true) (hin : inB 1 60 n9 = true) (sz : Nat) : Met l yX1_pass wsX1_pass rmX1_pass_ok (va_Pc [.ref h, .int n9] (WrP G cI [(h, oX a t), ((a 0), oC a mo co le), ((a 3), iA cI K), ((a 4), iA cI Qa), ((a 5), iA cI La), ((a 6), iA cI Ha), ((a 7), iA cI Ma), ((a 8), iA cI Ba), ((a 9), iA cI Ca), ((a 10), iA cI Da), ((a 11), iA cI Fa), ((a 12), iA cI Wa)] sz)) (va_Qi (fun (r : Int32) (u : (Nat → Int32) × (Nat → Int32) × (Nat → Int32) × (Nat → Int32) × (Nat → Int32) × (Nat → Int32) × (Nat → Int32) × (Nat → Int32) × (Nat → Int32)) => r = incS k n9.toNatClampNeg ∧ eqK (u.1) (itK k n9.toNatClampNeg) ∧ SVd (itK k n9.toNatClampNeg) (u.2.1) (u.2.2.1) (u.2.2.2.1) (u.2.2.2.2.1) (u.2.2.2.2.2.1) (u.2.2.2.2.2.2.1) (u.2.2.2.2.2.2.2.1)) (WrB G [(h, oX a t), ((a 0), oC a mo co le), ((a 3), iA cI K), ((a 4), iA cI Qa), ((a 5), iA cI La), ((a 6), iA cI Ha), ((a 7), iA cI Ma), ((a 8), iA cI Ba), ((a 9), iA cI Ca), ((a 10), iA cI Da), ((a 11), iA cI Fa), ((a 12), iA cI Wa)] sz (fun u => [(h, oX a t), (a 0, oC a (mo + nI n9.toNatClampNeg) (co + incS k n9.toNatClampNeg) (le + lftS k n9.toNatClampNeg)), (a 3, iA cI (u.1)), (a 4, iA cI (u.2.1)), (a 5, iA cI (u.2.2.1)), (a 6, iA cI (u.2.2.2.1)), (a 7, iA cI (u.2.2.2.2.1)), (a 8, iA cI (u.2.2.2.2.2.1)), (a 9, iA cI (u.2.2.2.2.2.2.1)), (a 10, iA cI (u.2.2.2.2.2.2.2.1)), (a 11, iA cI Fa), (a 12, iA cI (u.2.2.2.2.2.2.2.2))])) (va_A [(h, oX a t), ((a 0), oC a mo co le), ((a 3), iA cI K), ((a 4), iA cI Qa), ((a 5), iA cI La), ((a 6), iA cI Ha), ((a 7), iA cI Ma), ((a 8), iA cI Ba), ((a 9), iA cI Ca), ((a 10), iA cI Da), ((a 11), iA cI Fa), ((a 12), iA cI Wa)] sz)) 0 0 (va_A [(h, oX a t), ((a 0), oC a mo co le), ((a 3), iA cI K), ((a 4), iA cI Qa), ((a 5), iA cI La), ((a 6), iA cI Ha), ((a 7), iA cI Ma), ((a 8), iA cI Ba), ((a 9), iA cI Ca), ((a 10), iA cI Da), ((a 11), iA cI Fa), ((a 12), iA cI Wa)] sz) := by
  refine Met.ofW (cc := cX1_pass) (maxL := 2) (ret := (some .int)) (by decide) rfl ?_
  intro p e s m args below meth c s₁ B hml hv
  obtain ⟨rfl, hsz, hP, hK, hD0, hN⟩ := hv
  have hx := B.exec
  have hb := B.bytes
  have hr := B.returns
  have hlocks := B.notSynchronized
  have hts := atoms_spec (ws := wsX1_pass) B.pre
  have hown : s.vm.findClass RX1 = some m.cls := findClass_of_methodNamed B.named
  subst hsz
  have hD := hD0.self (sz := s.heap.size)
  have hA : ∀ q : Nat, s.heap.size ≤ q → va_A [(h, oX a t), ((a 0), oC a mo co le), ((a 3), iA cI K), ((a 4), iA cI Qa), ((a 5), iA cI La), ((a 6), iA cI Ha), ((a 7), iA cI Ma), ((a 8), iA cI Ba), ((a 9), iA cI Ca), ((a 10), iA cI Da), ((a 11), iA cI Fa), ((a 12), iA cI Wa)] s.heap.size q := fun q h => Or.inr h
  have hS : va_S (va_A [(h, oX a t), ((a 0), oC a mo co le), ((a 3), iA cI K), ((a 4), iA cI Qa), ((a 5), iA cI La), ((a 6), iA cI Ha), ((a 7), iA cI Ma), ((a 8), iA cI Ba), ((a 9), iA cI Ca), ((a 10), iA cI Da), ((a 11), iA cI Fa), ((a 12), iA cI Wa)] s.heap.size) s.heap s.heap [] := va_S.rf
  obtain ⟨A, hAe⟩ : ∃ A, A = va_A [(h, oX a t), ((a 0), oC a mo co le), ((a 3), iA cI K), ((a 4), iA cI Qa), ((a 5), iA cI La), ((a 6), iA cI Ha), ((a 7), iA cI Ma), ((a 8), iA cI Ba), ((a 9), iA cI Ca), ((a 10), iA cI Da), ((a 11), iA cI Fa), ((a 12), iA cI Wa)] s.heap.size := ⟨_, rfl⟩
  rw [← hAe] at hD hA hS
  have FX : CallFix p m c cX1_pass 2 s ([.ref h, .int n9] : List Value).toArray wsX1_pass RX1 := ⟨hx, hb, hml, hown, hts⟩
  have hl := lv_entry ([.ref h, .int n9]) (n := 2) (Nat.le_of_ble_eq_true rfl)
  rw [lg_entry_eq]
  generalize (lg_sl ([.ref h, .int n9]) ++ List.replicate (2 - (lg_sl ([.ref h, .int n9])).length) Slot.unset).toArray = ls at hl ⊢
  have hl : lv_has ls 2 [(0, .ref h), (1, .int n9)] := hl
  refine wq (fun Q hQ => ?_)
  have hzc : 0 + 0 ≤ (headSpec wsX1_pass rmX1_pass_ok).room.cells := Nat.zero_le _
  have hzs : 0 + 0 ≤ (headSpec wsX1_pass rmX1_pass_ok).room.slots := Nat.zero_le _
  have hf10 := hts (.fieldLink RX1 10 "CanalCity" "now" "LCanalCity$City;") (by decide +kernel)
  have hinX1 : ∀ w ∈ u_ws RX1 TX1 2, w ∈ wsX1_pass := by decide +kernel
  have hma := mon_at hin
  obtain ⟨mn, hmn⟩ : ∃ z, z = n9.toNatClampNeg := ⟨_, rfl⟩
  rw [← hmn] at hma
  refine lv_iload_n hx hb dX1_pass_0 rfl (lv_at hl 1 rfl) ?_
  refine cr_v (va_runS (As := [.int n9]) (rest := []) FX (c_X1_checkMonths_ok l n9 hin) (va_cwS 1 hts gX1_pass_X1_checkMonths rfl rfl rfl (by decide +kernel) ⟨Nat.le_of_ble_eq_true rfl, Nat.le_of_ble_eq_true rfl⟩) puS rfl rfl hl.1 rfl (lv_room (Nat.le_of_ble_eq_true rfl)) dX1_pass_1 ⟨hzc, hzs⟩) hS hP (fun H locs hP hS => ?_)
  refine lv_aload_n hx hb dX1_pass_4 rfl (lv_at hl 0 rfl) ?_
  refine va_get (D := G) (ci := 1) (v := .ref (a 0)) (C := RX1) (T := TX1) (N := 2) hx hb hts hinX1 hown hK hP 0 rfl rfl 0 (by decide) hf10 (fun _ h9 => h9) rfl dX1_pass_5 ?_
  refine lv_iload_n hx hb dX1_pass_8 rfl (lv_at hl 1 rfl) ?_
  refine tpi (x' := nI mn) (hma.2) ?_
  refine cw_i (wr := [(h, oX a t)]) (va_runV (As := [.int (nI mn)]) (rest := []) FX (c_X0_live l G cI a mo co le K Qa La Ha Ma Ba Ca Da Fa Wa k mn hk hS0 hg (by omega) _) (cwV 1 hts gX1_pass_X0_live rfl rfl rfl (by decide +kernel) ⟨Nat.le_of_ble_eq_true rfl, Nat.le_of_ble_eq_true rfl⟩) (wrV hK hP hD hN [1, 2, 3, 4, 5, 6, 7, 8, 9, 10, 11] (by decide) rfl rfl (ci := 0) (q0 := 1) rfl rfl) rfl rfl hl.1 rfl (lv_room (Nat.le_of_ble_eq_true rfl)) dX1_pass_9 ⟨hzc, hzs⟩) hS hP hD hA [1, 2, 3, 4, 5, 6, 7, 8, 9, 10, 11] [0] rfl rfl (by decide) (by decide) (fun r9 u H locs hw hP hD hS => ?_)
  obtain ⟨K1, Q1, L1, H1, M1, B1, C1, D1, W1⟩ := u
  have hP := hP.sub (ws' := [(h, oX a t), ((a 0), oC a (mo + nI mn) (co + incS k mn) (le + lftS k mn)), ((a 3), iA cI K1), ((a 4), iA cI Q1), ((a 5), iA cI L1), ((a 6), iA cI H1), ((a 7), iA cI M1), ((a 8), iA cI B1), ((a 9), iA cI C1), ((a 10), iA cI D1), ((a 11), iA cI Fa), ((a 12), iA cI W1)]) [0, 1, 2, 3, 4, 5, 6, 7, 8, 9, 10, 11] rfl
  have hD := hD.sub (ws' := [(h, oX a t), ((a 0), oC a (mo + nI mn) (co + incS k mn) (le + lftS k mn)), ((a 3), iA cI K1), ((a 4), iA cI Q1), ((a 5), iA cI L1), ((a 6), iA cI H1), ((a 7), iA cI M1), ((a 8), iA cI B1), ((a 9), iA cI C1), ((a 10), iA cI D1), ((a 11), iA cI Fa), ((a 12), iA cI W1)]) [0, 1, 2, 3, 4, 5, 6, 7, 8, 9, 10, 11] (by decide) rfl
  subst hQ
  subst hAe
  rw [← hmn]
  exact wr_i (K1, Q1, L1, H1, M1, B1, C1, D1, W1) hw hx hb hr hP hD hS hlocks dX1_pass_12

def rmX1_foresee_ok : Room := { frames := 5, cells := 0, slots := 0, locals := 119 }
set_option maxHeartbeats 4000000 in
set_option maxRecDepth 100000 in
theorem c_X1_foresee_ok (l : Launch) (G : va_G) (cI : ClassId) (h : Nat) (a t : Nat → Nat) (mo co le : Int32) (K Qa La Ha Ma Ba Ca Da Fa Wa k : Nat → Int32) (tm tc tl : Int32) (TK TQ TL TH TM TB TC TD TF TW : Nat → Int32) (n9 w : Int32) (hk : eqK K k) (hg : wtr (k 3) = true) (hin : inB 1 60 n9 = true) (hin2 : inB 1 12 w = true) (sz : Nat) : Met l yX1_foresee wsX1_foresee rmX1_foresee_ok (va_Pc [.ref h, .int n9, .int w] (WrP G cI [(h, oX a t), ((a 0), oC a mo co le), ((a 3), iA cI K), ((a 4), iA cI Qa), ((a 5), iA cI La), ((a 6), iA cI Ha), ((a 7), iA cI Ma), ((a 8), iA cI Ba), ((a 9), iA cI Ca), ((a 10), iA cI Da), ((a 11), iA cI Fa), ((a 12), iA cI Wa), ((t 0), oC t tm tc tl), ((t 3), iA cI TK), ((t 4), iA cI TQ), ((t 5), iA cI TL), ((t 6), iA cI TH), ((t 7), iA cI TM), ((t 8), iA cI TB), ((t 9), iA cI TC), ((t 10), iA cI TD), ((t 11), iA cI TF), ((t 12), iA cI TW)] sz)) (va_Qi (fun (r : Int32) (u : (Nat → Int32) × (Nat → Int32) × (Nat → Int32) × (Nat → Int32) × (Nat → Int32) × (Nat → Int32) × (Nat → Int32) × (Nat → Int32) × (Nat → Int32)) => r = tot (itK k n9.toNatClampNeg) (mo + nI n9.toNatClampNeg) (co + incS k n9.toNatClampNeg) (le + lftS k n9.toNatClampNeg) w) (WrB G [(h, oX a t), ((a 0), oC a mo co le), ((a 3), iA cI K), ((a 4), iA cI Qa), ((a 5), iA cI La), ((a 6), iA cI Ha), ((a 7), iA cI Ma), ((a 8), iA cI Ba), ((a 9), iA cI Ca), ((a 10), iA cI Da), ((a 11), iA cI Fa), ((a 12), iA cI Wa), ((t 0), oC t tm tc tl), ((t 3), iA cI TK), ((t 4), iA cI TQ), ((t 5), iA cI TL), ((t 6), iA cI TH), ((t 7), iA cI TM), ((t 8), iA cI TB), ((t 9), iA cI TC), ((t 10), iA cI TD), ((t 11), iA cI TF), ((t 12), iA cI TW)] sz (fun u => [(h, oX a t), (a 0, oC a mo co le), (a 3, iA cI K), (a 4, iA cI Qa), (a 5, iA cI La), (a 6, iA cI Ha), (a 7, iA cI Ma), (a 8, iA cI Ba), (a 9, iA cI Ca), (a 10, iA cI Da), (a 11, iA cI Fa), (a 12, iA cI Wa), (t 0, oC t (mo + nI n9.toNatClampNeg) (co + incS k n9.toNatClampNeg) (le + lftS k n9.toNatClampNeg)), (t 3, iA cI (u.1)), (t 4, iA cI (u.2.1)), (t 5, iA cI (u.2.2.1)), (t 6, iA cI (u.2.2.2.1)), (t 7, iA cI (u.2.2.2.2.1)), (t 8, iA cI (u.2.2.2.2.2.1)), (t 9, iA cI (u.2.2.2.2.2.2.1)), (t 10, iA cI (u.2.2.2.2.2.2.2.1)), (t 11, iA cI TF), (t 12, iA cI (u.2.2.2.2.2.2.2.2))])) (va_A [(h, oX a t), ((a 0), oC a mo co le), ((a 3), iA cI K), ((a 4), iA cI Qa), ((a 5), iA cI La), ((a 6), iA cI Ha), ((a 7), iA cI Ma), ((a 8), iA cI Ba), ((a 9), iA cI Ca), ((a 10), iA cI Da), ((a 11), iA cI Fa), ((a 12), iA cI Wa), ((t 0), oC t tm tc tl), ((t 3), iA cI TK), ((t 4), iA cI TQ), ((t 5), iA cI TL), ((t 6), iA cI TH), ((t 7), iA cI TM), ((t 8), iA cI TB), ((t 9), iA cI TC), ((t 10), iA cI TD), ((t 11), iA cI TF), ((t 12), iA cI TW)] sz)) 0 0 (va_A [(h, oX a t), ((a 0), oC a mo co le), ((a 3), iA cI K), ((a 4), iA cI Qa), ((a 5), iA cI La), ((a 6), iA cI Ha), ((a 7), iA cI Ma), ((a 8), iA cI Ba), ((a 9), iA cI Ca), ((a 10), iA cI Da), ((a 11), iA cI Fa), ((a 12), iA cI Wa), ((t 0), oC t tm tc tl), ((t 3), iA cI TK), ((t 4), iA cI TQ), ((t 5), iA cI TL), ((t 6), iA cI TH), ((t 7), iA cI TM), ((t 8), iA cI TB), ((t 9), iA cI TC), ((t 10), iA cI TD), ((t 11), iA cI TF), ((t 12), iA cI TW)] sz) := by
  refine Met.ofW (cc := cX1_foresee) (maxL := 3) (ret := (some .int)) (by decide) rfl ?_
  intro p e s m args below meth c s₁ B hml hv
  obtain ⟨rfl, hsz, hP, hK, hD0, hN⟩ := hv
  have hx := B.exec
  have hb := B.bytes
  have hr := B.returns
  have hlocks := B.notSynchronized
  have hts := atoms_spec (ws := wsX1_foresee) B.pre
  have hown : s.vm.findClass RX1 = some m.cls := findClass_of_methodNamed B.named
  subst hsz
  have hD := hD0.self (sz := s.heap.size)
  have hA : ∀ q : Nat, s.heap.size ≤ q → va_A [(h, oX a t), ((a 0), oC a mo co le), ((a 3), iA cI K), ((a 4), iA cI Qa), ((a 5), iA cI La), ((a 6), iA cI Ha), ((a 7), iA cI Ma), ((a 8), iA cI Ba), ((a 9), iA cI Ca), ((a 10), iA cI Da), ((a 11), iA cI Fa), ((a 12), iA cI Wa), ((t 0), oC t tm tc tl), ((t 3), iA cI TK), ((t 4), iA cI TQ), ((t 5), iA cI TL), ((t 6), iA cI TH), ((t 7), iA cI TM), ((t 8), iA cI TB), ((t 9), iA cI TC), ((t 10), iA cI TD), ((t 11), iA cI TF), ((t 12), iA cI TW)] s.heap.size q := fun q h => Or.inr h
  have hS : va_S (va_A [(h, oX a t), ((a 0), oC a mo co le), ((a 3), iA cI K), ((a 4), iA cI Qa), ((a 5), iA cI La), ((a 6), iA cI Ha), ((a 7), iA cI Ma), ((a 8), iA cI Ba), ((a 9), iA cI Ca), ((a 10), iA cI Da), ((a 11), iA cI Fa), ((a 12), iA cI Wa), ((t 0), oC t tm tc tl), ((t 3), iA cI TK), ((t 4), iA cI TQ), ((t 5), iA cI TL), ((t 6), iA cI TH), ((t 7), iA cI TM), ((t 8), iA cI TB), ((t 9), iA cI TC), ((t 10), iA cI TD), ((t 11), iA cI TF), ((t 12), iA cI TW)] s.heap.size) s.heap s.heap [] := va_S.rf
  obtain ⟨A, hAe⟩ : ∃ A, A = va_A [(h, oX a t), ((a 0), oC a mo co le), ((a 3), iA cI K), ((a 4), iA cI Qa), ((a 5), iA cI La), ((a 6), iA cI Ha), ((a 7), iA cI Ma), ((a 8), iA cI Ba), ((a 9), iA cI Ca), ((a 10), iA cI Da), ((a 11), iA cI Fa), ((a 12), iA cI Wa), ((t 0), oC t tm tc tl), ((t 3), iA cI TK), ((t 4), iA cI TQ), ((t 5), iA cI TL), ((t 6), iA cI TH), ((t 7), iA cI TM), ((t 8), iA cI TB), ((t 9), iA cI TC), ((t 10), iA cI TD), ((t 11), iA cI TF), ((t 12), iA cI TW)] s.heap.size := ⟨_, rfl⟩
  rw [← hAe] at hD hA hS
  have FX : CallFix p m c cX1_foresee 3 s ([.ref h, .int n9, .int w] : List Value).toArray wsX1_foresee RX1 := ⟨hx, hb, hml, hown, hts⟩
  have hl := lv_entry ([.ref h, .int n9, .int w]) (n := 3) (Nat.le_of_ble_eq_true rfl)
  rw [lg_entry_eq]
  generalize (lg_sl ([.ref h, .int n9, .int w]) ++ List.replicate (3 - (lg_sl ([.ref h, .int n9, .int w])).length) Slot.unset).toArray = ls at hl ⊢
  have hl : lv_has ls 3 [(0, .ref h), (1, .int n9), (2, .int w)] := hl
  refine wq (fun Q hQ => ?_)
  have hzc : 0 + 0 ≤ (headSpec wsX1_foresee rmX1_foresee_ok).room.cells := Nat.zero_le _
  have hzs : 0 + 0 ≤ (headSpec wsX1_foresee rmX1_foresee_ok).room.slots := Nat.zero_le _
  have hf10 := hts (.fieldLink RX1 10 "CanalCity" "now" "LCanalCity$City;") (by decide +kernel)
  have hf16 := hts (.fieldLink RX1 16 "CanalCity" "trial" "LCanalCity$City;") (by decide +kernel)
  have hinX1 : ∀ w ∈ u_ws RX1 TX1 2, w ∈ wsX1_foresee := by decide +kernel
  have hma := mon_at hin
  obtain ⟨mn, hmn⟩ : ∃ z, z = n9.toNatClampNeg := ⟨_, rfl⟩
  rw [← hmn] at hma
  refine lv_iload_n hx hb dX1_foresee_0 rfl (lv_at hl 1 rfl) ?_
  refine cr_v (va_runS (As := [.int n9]) (rest := []) FX (c_X1_checkMonths_ok l n9 hin) (va_cwS 1 hts gX1_foresee_X1_checkMonths rfl rfl rfl (by decide +kernel) ⟨Nat.le_of_ble_eq_true rfl, Nat.le_of_ble_eq_true rfl⟩) puS rfl rfl hl.1 rfl (lv_room (Nat.le_of_ble_eq_true rfl)) dX1_foresee_1 ⟨hzc, hzs⟩) hS hP (fun H locs hP hS => ?_)
  refine lv_iload_n hx hb dX1_foresee_4 rfl (lv_at hl 2 rfl) ?_
  refine lv_iconst (v := 1) hx hb dX1_foresee_5 (by decide) ?_
  refine lv_icmp_lt (tgt := 15) hx hb dX1_foresee_6 (by decide) (fun c => absurd c (Int32.not_lt.mpr (inB_t hin2).1)) (fun _ => ?_)
  refine lv_iload_n hx hb dX1_foresee_9 rfl (lv_at hl 2 rfl) ?_
  refine lv_bipush (v := 12) hx hb dX1_foresee_10 (by decide) ?_
  refine lv_icmp_le (tgt := 25) hx hb dX1_foresee_12 (by decide) (fun _ => ?_) (fun c => absurd ((inB_t hin2).2) c)
  refine lv_aload_n hx hb dX1_foresee_25 rfl (lv_at hl 0 rfl) ?_
  refine va_get (D := G) (ci := 1) (v := .ref (t 0)) (C := RX1) (T := TX1) (N := 2) hx hb hts hinX1 hown hK hP 0 rfl rfl 1 (by decide) hf16 (fun _ h9 => h9) rfl dX1_foresee_26 ?_
  refine lv_aload_n hx hb dX1_foresee_29 rfl (lv_at hl 0 rfl) ?_
  refine va_get (D := G) (ci := 1) (v := .ref (a 0)) (C := RX1) (T := TX1) (N := 2) hx hb hts hinX1 hown hK hP 0 rfl rfl 0 (by decide) hf10 (fun _ h9 => h9) rfl dX1_foresee_30 ?_
  refine cw_v (wr := [(h, oX a t), ((a 4), iA cI Qa), ((a 5), iA cI La), ((a 6), iA cI Ha), ((a 7), iA cI Ma), ((a 8), iA cI Ba), ((a 9), iA cI Ca), ((a 10), iA cI Da), ((a 11), iA cI Fa), ((a 12), iA cI Wa), ((t 4), iA cI TQ), ((t 5), iA cI TL), ((t 6), iA cI TH), ((t 7), iA cI TM), ((t 8), iA cI TB), ((t 9), iA cI TC), ((t 10), iA cI TD), ((t 11), iA cI TF), ((t 12), iA cI TW)]) (va_runV (As := [.ref (a 0)]) (rest := []) FX (c_X0_become l G cI t a tm tc tl mo co le TK K _) (cwV 1 hts gX1_foresee_X0_become rfl rfl rfl (by decide +kernel) ⟨Nat.le_of_ble_eq_true rfl, Nat.le_of_ble_eq_true rfl⟩) (wrV hK hP hD hN [12, 13, 1, 2] (by decide) rfl rfl (ci := 0) (q0 := 12) rfl rfl) rfl rfl hl.1 rfl (lv_room (Nat.le_of_ble_eq_true rfl)) dX1_foresee_33 ⟨hzc, hzs⟩) hS hP hD hA [12, 13, 1, 2] [0, 3, 4, 5, 6, 7, 8, 9, 10, 11, 14, 15, 16, 17, 18, 19, 20, 21, 22] rfl rfl (by decide) (by decide) (fun u H locs hw hP hD hS => ?_)
  obtain ⟨K5, hu9⟩ : ∃ z, z = u := ⟨_, rfl⟩
  subst hu9
  have hP := hP.sub (ws' := [(h, oX a t), ((a 0), oC a mo co le), ((a 3), iA cI K), ((a 4), iA cI Qa), ((a 5), iA cI La), ((a 6), iA cI Ha), ((a 7), iA cI Ma), ((a 8), iA cI Ba), ((a 9), iA cI Ca), ((a 10), iA cI Da), ((a 11), iA cI Fa), ((a 12), iA cI Wa), ((t 0), oC t mo co le), ((t 3), iA cI K5), ((t 4), iA cI TQ), ((t 5), iA cI TL), ((t 6), iA cI TH), ((t 7), iA cI TM), ((t 8), iA cI TB), ((t 9), iA cI TC), ((t 10), iA cI TD), ((t 11), iA cI TF), ((t 12), iA cI TW)]) [0, 21, 22, 1, 2, 3, 4, 5, 6, 7, 8, 9, 19, 20, 10, 11, 12, 13, 14, 15, 16, 17, 18] rfl
  have hD := hD.sub (ws' := [(h, oX a t), ((a 0), oC a mo co le), ((a 3), iA cI K), ((a 4), iA cI Qa), ((a 5), iA cI La), ((a 6), iA cI Ha), ((a 7), iA cI Ma), ((a 8), iA cI Ba), ((a 9), iA cI Ca), ((a 10), iA cI Da), ((a 11), iA cI Fa), ((a 12), iA cI Wa), ((t 0), oC t mo co le), ((t 3), iA cI K5), ((t 4), iA cI TQ), ((t 5), iA cI TL), ((t 6), iA cI TH), ((t 7), iA cI TM), ((t 8), iA cI TB), ((t 9), iA cI TC), ((t 10), iA cI TD), ((t 11), iA cI TF), ((t 12), iA cI TW)]) [0, 21, 22, 1, 2, 3, 4, 5, 6, 7, 8, 9, 19, 20, 10, 11, 12, 13, 14, 15, 16, 17, 18] (by decide) rfl
  have hk5 : eqK K5 k := eqK_trans hw hk
  refine lv_aload_n hx hb dX1_foresee_36 rfl (lv_at hl 0 rfl) ?_
  refine va_get (D := G) (ci := 1) (v := .ref (t 0)) (C := RX1) (T := TX1) (N := 2) hx hb hts hinX1 hown hK hP 0 rfl rfl 1 (by decide) hf16 (fun _ h9 => h9) rfl dX1_foresee_37 ?_
  refine cw_v (wr := [(h, oX a t), ((a 0), oC a mo co le), ((a 3), iA cI K), ((a 4), iA cI Qa), ((a 5), iA cI La), ((a 6), iA cI Ha), ((a 7), iA cI Ma), ((a 8), iA cI Ba), ((a 9), iA cI Ca), ((a 10), iA cI Da), ((a 11), iA cI Fa), ((a 12), iA cI Wa)]) (va_runV (As := []) (rest := []) FX (c_X0_survey l G cI t mo co le K5 TQ TL TH TM TB TC TD TF TW k hk5 hg _) (cwV 0 hts gX1_foresee_X0_survey rfl rfl rfl (by decide +kernel) ⟨Nat.le_of_ble_eq_true rfl, Nat.le_of_ble_eq_true rfl⟩) (wrV hK hP hD hN [12, 13, 14, 15, 16, 17, 18, 19, 20, 21, 22] (by decide) rfl rfl (ci := 0) (q0 := 12) rfl rfl) rfl rfl hl.1 rfl (lv_room (Nat.le_of_ble_eq_true rfl)) dX1_foresee_40 ⟨hzc, hzs⟩) hS hP hD hA [12, 13, 14, 15, 16, 17, 18, 19, 20, 21, 22] [0, 1, 2, 3, 4, 5, 6, 7, 8, 9, 10, 11] rfl rfl (by decide) (by decide) (fun u H locs hw hP hD hS => ?_)
  obtain ⟨Q1, L1, H1, M1, B1, C1, D1, W1⟩ := u
  have hP := hP.sub (ws' := [(h, oX a t), ((a 0), oC a mo co le), ((a 3), iA cI K), ((a 4), iA cI Qa), ((a 5), iA cI La), ((a 6), iA cI Ha), ((a 7), iA cI Ma), ((a 8), iA cI Ba), ((a 9), iA cI Ca), ((a 10), iA cI Da), ((a 11), iA cI Fa), ((a 12), iA cI Wa), ((t 0), oC t mo co le), ((t 3), iA cI K5), ((t 4), iA cI Q1), ((t 5), iA cI L1), ((t 6), iA cI H1), ((t 7), iA cI M1), ((t 8), iA cI B1), ((t 9), iA cI C1), ((t 10), iA cI D1), ((t 11), iA cI TF), ((t 12), iA cI W1)]) [0, 1, 2, 3, 4, 5, 6, 7, 8, 9, 10, 11, 12, 13, 14, 15, 16, 17, 18, 19, 20, 21, 22] rfl
  have hD := hD.sub (ws' := [(h, oX a t), ((a 0), oC a mo co le), ((a 3), iA cI K), ((a 4), iA cI Qa), ((a 5), iA cI La), ((a 6), iA cI Ha), ((a 7), iA cI Ma), ((a 8), iA cI Ba), ((a 9), iA cI Ca), ((a 10), iA cI Da), ((a 11), iA cI Fa), ((a 12), iA cI Wa), ((t 0), oC t mo co le), ((t 3), iA cI K5), ((t 4), iA cI Q1), ((t 5), iA cI L1), ((t 6), iA cI H1), ((t 7), iA cI M1), ((t 8), iA cI B1), ((t 9), iA cI C1), ((t 10), iA cI D1), ((t 11), iA cI TF), ((t 12), iA cI W1)]) [0, 1, 2, 3, 4, 5, 6, 7, 8, 9, 10, 11, 12, 13, 14, 15, 16, 17, 18, 19, 20, 21, 22] (by decide) rfl
  have hs6 := hw
  refine lv_aload_n hx hb dX1_foresee_43 rfl (lv_at hl 0 rfl) ?_
  refine va_get (D := G) (ci := 1) (v := .ref (t 0)) (C := RX1) (T := TX1) (N := 2) hx hb hts hinX1 hown hK hP 0 rfl rfl 1 (by decide) hf16 (fun _ h9 => h9) rfl dX1_foresee_44 ?_
  refine lv_iload_n hx hb dX1_foresee_47 rfl (lv_at hl 1 rfl) ?_
  refine tpi (x' := nI mn) (hma.2) ?_
  refine cw_i (wr := [(h, oX a t), ((a 0), oC a mo co le), ((a 3), iA cI K), ((a 4), iA cI Qa), ((a 5), iA cI La), ((a 6), iA cI Ha), ((a 7), iA cI Ma), ((a 8), iA cI Ba), ((a 9), iA cI Ca), ((a 10), iA cI Da), ((a 11), iA cI Fa), ((a 12), iA cI Wa)]) (va_runV (As := [.int (nI mn)]) (rest := []) FX (c_X0_live l G cI t mo co le K5 Q1 L1 H1 M1 B1 C1 D1 TF W1 k mn hk5 hs6 hg (by omega) _) (cwV 1 hts gX1_foresee_X0_live rfl rfl rfl (by decide +kernel) ⟨Nat.le_of_ble_eq_true rfl, Nat.le_of_ble_eq_true rfl⟩) (wrV hK hP hD hN [12, 13, 14, 15, 16, 17, 18, 19, 20, 21, 22] (by decide) rfl rfl (ci := 0) (q0 := 12) rfl rfl) rfl rfl hl.1 rfl (lv_room (Nat.le_of_ble_eq_true rfl)) dX1_foresee_48 ⟨hzc, hzs⟩) hS hP hD hA [12, 13, 14, 15, 16, 17, 18, 19, 20, 21, 22] [0, 1, 2, 3, 4, 5, 6, 7, 8, 9, 10, 11] rfl rfl (by decide) (by decide) (fun r9 u H locs hw hP hD hS => ?_)
  obtain ⟨K2, Q2, L2, H2, M2, B2, C2, D2, W2⟩ := u
  obtain ⟨hr9, hk2, hs2⟩ := hw
  have hP := hP.sub (ws' := [(h, oX a t), ((a 0), oC a mo co le), ((a 3), iA cI K), ((a 4), iA cI Qa), ((a 5), iA cI La), ((a 6), iA cI Ha), ((a 7), iA cI Ma), ((a 8), iA cI Ba), ((a 9), iA cI Ca), ((a 10), iA cI Da), ((a 11), iA cI Fa), ((a 12), iA cI Wa), ((t 0), oC t (mo + nI mn) (co + incS k mn) (le + lftS k mn)), ((t 3), iA cI K2), ((t 4), iA cI Q2), ((t 5), iA cI L2), ((t 6), iA cI H2), ((t 7), iA cI M2), ((t 8), iA cI B2), ((t 9), iA cI C2), ((t 10), iA cI D2), ((t 11), iA cI TF), ((t 12), iA cI W2)]) [0, 1, 2, 3, 4, 5, 6, 7, 8, 9, 10, 11, 12, 13, 14, 15, 16, 17, 18, 19, 20, 21, 22] rfl
  have hD := hD.sub (ws' := [(h, oX a t), ((a 0), oC a mo co le), ((a 3), iA cI K), ((a 4), iA cI Qa), ((a 5), iA cI La), ((a 6), iA cI Ha), ((a 7), iA cI Ma), ((a 8), iA cI Ba), ((a 9), iA cI Ca), ((a 10), iA cI Da), ((a 11), iA cI Fa), ((a 12), iA cI Wa), ((t 0), oC t (mo + nI mn) (co + incS k mn) (le + lftS k mn)), ((t 3), iA cI K2), ((t 4), iA cI Q2), ((t 5), iA cI L2), ((t 6), iA cI H2), ((t 7), iA cI M2), ((t 8), iA cI B2), ((t 9), iA cI C2), ((t 10), iA cI D2), ((t 11), iA cI TF), ((t 12), iA cI W2)]) [0, 1, 2, 3, 4, 5, 6, 7, 8, 9, 10, 11, 12, 13, 14, 15, 16, 17, 18, 19, 20, 21, 22] (by decide) rfl
  refine lv_pop hx hb dX1_foresee_51 rfl ?_
  refine lv_aload_n hx hb dX1_foresee_52 rfl (lv_at hl 0 rfl) ?_
  refine va_get (D := G) (ci := 1) (v := .ref (t 0)) (C := RX1) (T := TX1) (N := 2) hx hb hts hinX1 hown hK hP 0 rfl rfl 1 (by decide) hf16 (fun _ h9 => h9) rfl dX1_foresee_53 ?_
  refine lv_iload_n hx hb dX1_foresee_56 rfl (lv_at hl 2 rfl) ?_
  refine cr_i (va_runV (As := [.int w]) (rest := []) FX (c_X0_total l G cI t (mo + nI mn) (co + incS k mn) (le + lftS k mn) K2 Q2 L2 H2 M2 B2 C2 D2 TF W2 (itK k mn) w hk2 hs2.1 hs2.2.2.2.2.2.1 hs2.2.2.2.2.2.2) (cwV 1 hts gX1_foresee_X0_total rfl rfl rfl (by decide +kernel) ⟨Nat.le_of_ble_eq_true rfl, Nat.le_of_ble_eq_true rfl⟩) (rdV hK hP hN [12, 13, 14, 15, 16, 17, 18, 19, 20, 21, 22] rfl (ci := 0) (q0 := 12) rfl rfl) rfl rfl hl.1 rfl (lv_room (Nat.le_of_ble_eq_true rfl)) dX1_foresee_57 ⟨hzc, hzs⟩) hS hP (fun H locs hP hS => ?_)
  subst hQ
  subst hAe
  rw [← hmn]
  exact wr_i (K2, Q2, L2, H2, M2, B2, C2, D2, W2) rfl hx hb hr hP hD hS hlocks dX1_foresee_60

def rmX1_duesWith : Room := { frames := 5, cells := 0, slots := 0, locals := 117 }
set_option maxHeartbeats 4000000 in
set_option maxRecDepth 100000 in
theorem c_X1_duesWith (l : Launch) (G : va_G) (cI : ClassId) (h : Nat) (a t : Nat → Nat) (mo co le : Int32) (K Qa La Ha Ma Ba Ca Da Fa Wa k : Nat → Int32) (tm tc tl : Int32) (TK TQ TL TH TM TB TC TD TF TW : Nat → Int32) (pt : Nat) (v : Int32) (hk : eqK K k) (hpt : pt < 64) (hgv : wtr (upd k pt v 3) = true) (sz : Nat) : Met l yX1_duesWith wsX1_duesWith rmX1_duesWith (va_Pc [.ref h, .int (nI pt), .int v] (WrP G cI [(h, oX a t), ((a 0), oC a mo co le), ((a 3), iA cI K), ((a 4), iA cI Qa), ((a 5), iA cI La), ((a 6), iA cI Ha), ((a 7), iA cI Ma), ((a 8), iA cI Ba), ((a 9), iA cI Ca), ((a 10), iA cI Da), ((a 11), iA cI Fa), ((a 12), iA cI Wa), ((t 0), oC t tm tc tl), ((t 3), iA cI TK), ((t 4), iA cI TQ), ((t 5), iA cI TL), ((t 6), iA cI TH), ((t 7), iA cI TM), ((t 8), iA cI TB), ((t 9), iA cI TC), ((t 10), iA cI TD), ((t 11), iA cI TF), ((t 12), iA cI TW)] sz)) (va_Qi (fun (r : Int32) (u : (Nat → Int32) × (Nat → Int32) × (Nat → Int32) × (Nat → Int32) × (Nat → Int32) × (Nat → Int32) × (Nat → Int32) × (Nat → Int32) × (Nat → Int32)) => r = dall (upd k pt v)) (WrB G [(h, oX a t), ((a 0), oC a mo co le), ((a 3), iA cI K), ((a 4), iA cI Qa), ((a 5), iA cI La), ((a 6), iA cI Ha), ((a 7), iA cI Ma), ((a 8), iA cI Ba), ((a 9), iA cI Ca), ((a 10), iA cI Da), ((a 11), iA cI Fa), ((a 12), iA cI Wa), ((t 0), oC t tm tc tl), ((t 3), iA cI TK), ((t 4), iA cI TQ), ((t 5), iA cI TL), ((t 6), iA cI TH), ((t 7), iA cI TM), ((t 8), iA cI TB), ((t 9), iA cI TC), ((t 10), iA cI TD), ((t 11), iA cI TF), ((t 12), iA cI TW)] sz (fun u => [(h, oX a t), (a 0, oC a mo co le), (a 3, iA cI K), (a 4, iA cI Qa), (a 5, iA cI La), (a 6, iA cI Ha), (a 7, iA cI Ma), (a 8, iA cI Ba), (a 9, iA cI Ca), (a 10, iA cI Da), (a 11, iA cI Fa), (a 12, iA cI Wa), (t 0, oC t mo co le), (t 3, iA cI (u.1)), (t 4, iA cI (u.2.1)), (t 5, iA cI (u.2.2.1)), (t 6, iA cI (u.2.2.2.1)), (t 7, iA cI (u.2.2.2.2.1)), (t 8, iA cI (u.2.2.2.2.2.1)), (t 9, iA cI (u.2.2.2.2.2.2.1)), (t 10, iA cI (u.2.2.2.2.2.2.2.1)), (t 11, iA cI TF), (t 12, iA cI (u.2.2.2.2.2.2.2.2))])) (va_A [(h, oX a t), ((a 0), oC a mo co le), ((a 3), iA cI K), ((a 4), iA cI Qa), ((a 5), iA cI La), ((a 6), iA cI Ha), ((a 7), iA cI Ma), ((a 8), iA cI Ba), ((a 9), iA cI Ca), ((a 10), iA cI Da), ((a 11), iA cI Fa), ((a 12), iA cI Wa), ((t 0), oC t tm tc tl), ((t 3), iA cI TK), ((t 4), iA cI TQ), ((t 5), iA cI TL), ((t 6), iA cI TH), ((t 7), iA cI TM), ((t 8), iA cI TB), ((t 9), iA cI TC), ((t 10), iA cI TD), ((t 11), iA cI TF), ((t 12), iA cI TW)] sz)) 0 0 (va_A [(h, oX a t), ((a 0), oC a mo co le), ((a 3), iA cI K), ((a 4), iA cI Qa), ((a 5), iA cI La), ((a 6), iA cI Ha), ((a 7), iA cI Ma), ((a 8), iA cI Ba), ((a 9), iA cI Ca), ((a 10), iA cI Da), ((a 11), iA cI Fa), ((a 12), iA cI Wa), ((t 0), oC t tm tc tl), ((t 3), iA cI TK), ((t 4), iA cI TQ), ((t 5), iA cI TL), ((t 6), iA cI TH), ((t 7), iA cI TM), ((t 8), iA cI TB), ((t 9), iA cI TC), ((t 10), iA cI TD), ((t 11), iA cI TF), ((t 12), iA cI TW)] sz) := by
  refine Met.ofW (cc := cX1_duesWith) (maxL := 3) (ret := (some .int)) (by decide) rfl ?_
  intro p e s m args below meth c s₁ B hml hv
  obtain ⟨rfl, hsz, hP, hK, hD0, hN⟩ := hv
  have hx := B.exec
  have hb := B.bytes
  have hr := B.returns
  have hlocks := B.notSynchronized
  have hts := atoms_spec (ws := wsX1_duesWith) B.pre
  have hown : s.vm.findClass RX1 = some m.cls := findClass_of_methodNamed B.named
  subst hsz
  have hD := hD0.self (sz := s.heap.size)
  have hA : ∀ q : Nat, s.heap.size ≤ q → va_A [(h, oX a t), ((a 0), oC a mo co le), ((a 3), iA cI K), ((a 4), iA cI Qa), ((a 5), iA cI La), ((a 6), iA cI Ha), ((a 7), iA cI Ma), ((a 8), iA cI Ba), ((a 9), iA cI Ca), ((a 10), iA cI Da), ((a 11), iA cI Fa), ((a 12), iA cI Wa), ((t 0), oC t tm tc tl), ((t 3), iA cI TK), ((t 4), iA cI TQ), ((t 5), iA cI TL), ((t 6), iA cI TH), ((t 7), iA cI TM), ((t 8), iA cI TB), ((t 9), iA cI TC), ((t 10), iA cI TD), ((t 11), iA cI TF), ((t 12), iA cI TW)] s.heap.size q := fun q h => Or.inr h
  have hS : va_S (va_A [(h, oX a t), ((a 0), oC a mo co le), ((a 3), iA cI K), ((a 4), iA cI Qa), ((a 5), iA cI La), ((a 6), iA cI Ha), ((a 7), iA cI Ma), ((a 8), iA cI Ba), ((a 9), iA cI Ca), ((a 10), iA cI Da), ((a 11), iA cI Fa), ((a 12), iA cI Wa), ((t 0), oC t tm tc tl), ((t 3), iA cI TK), ((t 4), iA cI TQ), ((t 5), iA cI TL), ((t 6), iA cI TH), ((t 7), iA cI TM), ((t 8), iA cI TB), ((t 9), iA cI TC), ((t 10), iA cI TD), ((t 11), iA cI TF), ((t 12), iA cI TW)] s.heap.size) s.heap s.heap [] := va_S.rf
  obtain ⟨A, hAe⟩ : ∃ A, A = va_A [(h, oX a t), ((a 0), oC a mo co le), ((a 3), iA cI K), ((a 4), iA cI Qa), ((a 5), iA cI La), ((a 6), iA cI Ha), ((a 7), iA cI Ma), ((a 8), iA cI Ba), ((a 9), iA cI Ca), ((a 10), iA cI Da), ((a 11), iA cI Fa), ((a 12), iA cI Wa), ((t 0), oC t tm tc tl), ((t 3), iA cI TK), ((t 4), iA cI TQ), ((t 5), iA cI TL), ((t 6), iA cI TH), ((t 7), iA cI TM), ((t 8), iA cI TB), ((t 9), iA cI TC), ((t 10), iA cI TD), ((t 11), iA cI TF), ((t 12), iA cI TW)] s.heap.size := ⟨_, rfl⟩
  rw [← hAe] at hD hA hS
  have FX : CallFix p m c cX1_duesWith 3 s ([.ref h, .int (nI pt), .int v] : List Value).toArray wsX1_duesWith RX1 := ⟨hx, hb, hml, hown, hts⟩
  have hl := lv_entry ([.ref h, .int (nI pt), .int v]) (n := 3) (Nat.le_of_ble_eq_true rfl)
  rw [lg_entry_eq]
  generalize (lg_sl ([.ref h, .int (nI pt), .int v]) ++ List.replicate (3 - (lg_sl ([.ref h, .int (nI pt), .int v])).length) Slot.unset).toArray = ls at hl ⊢
  have hl : lv_has ls 3 [(0, .ref h), (1, .int (nI pt)), (2, .int v)] := hl
  refine wq (fun Q hQ => ?_)
  have hzc : 0 + 0 ≤ (headSpec wsX1_duesWith rmX1_duesWith).room.cells := Nat.zero_le _
  have hzs : 0 + 0 ≤ (headSpec wsX1_duesWith rmX1_duesWith).room.slots := Nat.zero_le _
  have hf10 := hts (.fieldLink RX1 10 "CanalCity" "now" "LCanalCity$City;") (by decide +kernel)
  have hf16 := hts (.fieldLink RX1 16 "CanalCity" "trial" "LCanalCity$City;") (by decide +kernel)
  have hinX1 : ∀ w ∈ u_ws RX1 TX1 2, w ∈ wsX1_duesWith := by decide +kernel
  refine lv_aload_n hx hb dX1_duesWith_0 rfl (lv_at hl 0 rfl) ?_
  refine va_get (D := G) (ci := 1) (v := .ref (t 0)) (C := RX1) (T := TX1) (N := 2) hx hb hts hinX1 hown hK hP 0 rfl rfl 1 (by decide) hf16 (fun _ h9 => h9) rfl dX1_duesWith_1 ?_
  refine lv_aload_n hx hb dX1_duesWith_4 rfl (lv_at hl 0 rfl) ?_
  refine va_get (D := G) (ci := 1) (v := .ref (a 0)) (C := RX1) (T := TX1) (N := 2) hx hb hts hinX1 hown hK hP 0 rfl rfl 0 (by decide) hf10 (fun _ h9 => h9) rfl dX1_duesWith_5 ?_
  refine cw_v (wr := [(h, oX a t), ((a 4), iA cI Qa), ((a 5), iA cI La), ((a 6), iA cI Ha), ((a 7), iA cI Ma), ((a 8), iA cI Ba), ((a 9), iA cI Ca), ((a 10), iA cI Da), ((a 11), iA cI Fa), ((a 12), iA cI Wa), ((t 4), iA cI TQ), ((t 5), iA cI TL), ((t 6), iA cI TH), ((t 7), iA cI TM), ((t 8), iA cI TB), ((t 9), iA cI TC), ((t 10), iA cI TD), ((t 11), iA cI TF), ((t 12), iA cI TW)]) (va_runV (As := [.ref (a 0)]) (rest := []) FX (c_X0_become l G cI t a tm tc tl mo co le TK K _) (cwV 1 hts gX1_duesWith_X0_become rfl rfl rfl (by decide +kernel) ⟨Nat.le_of_ble_eq_true rfl, Nat.le_of_ble_eq_true rfl⟩) (wrV hK hP hD hN [12, 13, 1, 2] (by decide) rfl rfl (ci := 0) (q0 := 12) rfl rfl) rfl rfl hl.1 rfl (lv_room (Nat.le_of_ble_eq_true rfl)) dX1_duesWith_8 ⟨hzc, hzs⟩) hS hP hD hA [12, 13, 1, 2] [0, 3, 4, 5, 6, 7, 8, 9, 10, 11, 14, 15, 16, 17, 18, 19, 20, 21, 22] rfl rfl (by decide) (by decide) (fun u H locs hw hP hD hS => ?_)
  obtain ⟨K5, hu9⟩ : ∃ z, z = u := ⟨_, rfl⟩
  subst hu9
  have hP := hP.sub (ws' := [(h, oX a t), ((a 0), oC a mo co le), ((a 3), iA cI K), ((a 4), iA cI Qa), ((a 5), iA cI La), ((a 6), iA cI Ha), ((a 7), iA cI Ma), ((a 8), iA cI Ba), ((a 9), iA cI Ca), ((a 10), iA cI Da), ((a 11), iA cI Fa), ((a 12), iA cI Wa), ((t 0), oC t mo co le), ((t 3), iA cI K5), ((t 4), iA cI TQ), ((t 5), iA cI TL), ((t 6), iA cI TH), ((t 7), iA cI TM), ((t 8), iA cI TB), ((t 9), iA cI TC), ((t 10), iA cI TD), ((t 11), iA cI TF), ((t 12), iA cI TW)]) [0, 21, 22, 1, 2, 3, 4, 5, 6, 7, 8, 9, 19, 20, 10, 11, 12, 13, 14, 15, 16, 17, 18] rfl
  have hD := hD.sub (ws' := [(h, oX a t), ((a 0), oC a mo co le), ((a 3), iA cI K), ((a 4), iA cI Qa), ((a 5), iA cI La), ((a 6), iA cI Ha), ((a 7), iA cI Ma), ((a 8), iA cI Ba), ((a 9), iA cI Ca), ((a 10), iA cI Da), ((a 11), iA cI Fa), ((a 12), iA cI Wa), ((t 0), oC t mo co le), ((t 3), iA cI K5), ((t 4), iA cI TQ), ((t 5), iA cI TL), ((t 6), iA cI TH), ((t 7), iA cI TM), ((t 8), iA cI TB), ((t 9), iA cI TC), ((t 10), iA cI TD), ((t 11), iA cI TF), ((t 12), iA cI TW)]) [0, 21, 22, 1, 2, 3, 4, 5, 6, 7, 8, 9, 19, 20, 10, 11, 12, 13, 14, 15, 16, 17, 18] (by decide) rfl
  have hk5 : eqK K5 k := eqK_trans hw hk
  refine lv_aload_n hx hb dX1_duesWith_11 rfl (lv_at hl 0 rfl) ?_
  refine va_get (D := G) (ci := 1) (v := .ref (t 0)) (C := RX1) (T := TX1) (N := 2) hx hb hts hinX1 hown hK hP 0 rfl rfl 1 (by decide) hf16 (fun _ h9 => h9) rfl dX1_duesWith_12 ?_
  refine lv_iload_n hx hb dX1_duesWith_15 rfl (lv_at hl 1 rfl) ?_
  refine lv_iload_n hx hb dX1_duesWith_16 rfl (lv_at hl 2 rfl) ?_
  refine cw_v (wr := [(h, oX a t), ((a 0), oC a mo co le), ((a 3), iA cI K), ((a 4), iA cI Qa), ((a 5), iA cI La), ((a 6), iA cI Ha), ((a 7), iA cI Ma), ((a 8), iA cI Ba), ((a 9), iA cI Ca), ((a 10), iA cI Da), ((a 11), iA cI Fa), ((a 12), iA cI Wa)]) (va_runV (As := [.int (nI pt), .int v]) (rest := []) FX (c_X0_change l G cI t mo co le K5 TQ TL TH TM TB TC TD TF TW k pt v hk5 hpt hgv _) (cwV 2 hts gX1_duesWith_X0_change rfl rfl rfl (by decide +kernel) ⟨Nat.le_of_ble_eq_true rfl, Nat.le_of_ble_eq_true rfl⟩) (wrV hK hP hD hN [12, 13, 14, 15, 16, 17, 18, 19, 20, 21, 22] (by decide) rfl rfl (ci := 0) (q0 := 12) rfl rfl) rfl rfl hl.1 rfl (lv_room (Nat.le_of_ble_eq_true rfl)) dX1_duesWith_17 ⟨hzc, hzs⟩) hS hP hD hA [12, 13, 14, 15, 16, 17, 18, 19, 20, 21, 22] [0, 1, 2, 3, 4, 5, 6, 7, 8, 9, 10, 11] rfl rfl (by decide) (by decide) (fun u H locs hw hP hD hS => ?_)
  obtain ⟨Q1, L1, H1, M1, B1, C1, D1, W1⟩ := u
  have hP := hP.sub (ws' := [(h, oX a t), ((a 0), oC a mo co le), ((a 3), iA cI K), ((a 4), iA cI Qa), ((a 5), iA cI La), ((a 6), iA cI Ha), ((a 7), iA cI Ma), ((a 8), iA cI Ba), ((a 9), iA cI Ca), ((a 10), iA cI Da), ((a 11), iA cI Fa), ((a 12), iA cI Wa), ((t 0), oC t mo co le), ((t 3), iA cI (upd K5 pt v)), ((t 4), iA cI Q1), ((t 5), iA cI L1), ((t 6), iA cI H1), ((t 7), iA cI M1), ((t 8), iA cI B1), ((t 9), iA cI C1), ((t 10), iA cI D1), ((t 11), iA cI TF), ((t 12), iA cI W1)]) [0, 1, 2, 3, 4, 5, 6, 7, 8, 9, 10, 11, 12, 13, 14, 15, 16, 17, 18, 19, 20, 21, 22] rfl
  have hD := hD.sub (ws' := [(h, oX a t), ((a 0), oC a mo co le), ((a 3), iA cI K), ((a 4), iA cI Qa), ((a 5), iA cI La), ((a 6), iA cI Ha), ((a 7), iA cI Ma), ((a 8), iA cI Ba), ((a 9), iA cI Ca), ((a 10), iA cI Da), ((a 11), iA cI Fa), ((a 12), iA cI Wa), ((t 0), oC t mo co le), ((t 3), iA cI (upd K5 pt v)), ((t 4), iA cI Q1), ((t 5), iA cI L1), ((t 6), iA cI H1), ((t 7), iA cI M1), ((t 8), iA cI B1), ((t 9), iA cI C1), ((t 10), iA cI D1), ((t 11), iA cI TF), ((t 12), iA cI W1)]) [0, 1, 2, 3, 4, 5, 6, 7, 8, 9, 10, 11, 12, 13, 14, 15, 16, 17, 18, 19, 20, 21, 22] (by decide) rfl
  have hs6 := hw
  refine lv_aload_n hx hb dX1_duesWith_20 rfl (lv_at hl 0 rfl) ?_
  refine va_get (D := G) (ci := 1) (v := .ref (t 0)) (C := RX1) (T := TX1) (N := 2) hx hb hts hinX1 hown hK hP 0 rfl rfl 1 (by decide) hf16 (fun _ h9 => h9) rfl dX1_duesWith_21 ?_
  refine cr_i (va_runV (As := []) (rest := []) FX (c_X0_duesOfAll l G cI t mo co le (upd K5 pt v) Q1 L1 H1 M1 B1 C1 D1 TF W1 (upd k pt v) hs6.2.2.2.2.2.2) (cwV 0 hts gX1_duesWith_X0_duesOfAll rfl rfl rfl (by decide +kernel) ⟨Nat.le_of_ble_eq_true rfl, Nat.le_of_ble_eq_true rfl⟩) (rdV hK hP hN [12, 13, 14, 15, 16, 17, 18, 19, 20, 21, 22] rfl (ci := 0) (q0 := 12) rfl rfl) rfl rfl hl.1 rfl (lv_room (Nat.le_of_ble_eq_true rfl)) dX1_duesWith_24 ⟨hzc, hzs⟩) hS hP (fun H locs hP hS => ?_)
  subst hQ
  subst hAe
  exact wr_i (upd K5 pt v, Q1, L1, H1, M1, B1, C1, D1, W1) (rfl) hx hb hr hP hD hS hlocks dX1_duesWith_27

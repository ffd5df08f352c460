def rmX1_checkedNumber_ok : Room := { frames := 0, cells := 0, slots := 0, locals := 0 }
set_option maxHeartbeats 4000000 in
set_option maxRecDepth 100000 in
theorem c_X1_checkedNumber_ok (l : Launch) (x y : Int32) (hpl : (inB 0 7 x && inB 0 7 y) = true) : Met l yX1_checkedNumber wsX1_checkedNumber rmX1_checkedNumber_ok (va_Pc [.int x, .int y] (fun _ => True)) (RdQ (nI (pAt x y))) 0 0 No := by
  refine Met.ofW (cc := cX1_checkedNumber) (maxL := 2) (ret := (some .int)) (by decide) rfl ?_
  intro p e s m args below meth c s₁ B hml hv
  obtain ⟨rfl, -⟩ := hv
  have hx := B.exec
  have hb := B.bytes
  have hr := B.returns
  have hlocks := B.notSynchronized
  have hts := atoms_spec (ws := wsX1_checkedNumber) B.pre
  have hown : s.vm.findClass RX1 = some m.cls := findClass_of_methodNamed B.named
  have hS : va_S No s.heap s.heap [] := va_S.rf
  have FX : CallFix p m c cX1_checkedNumber 2 s ([.int x, .int y] : List Value).toArray wsX1_checkedNumber RX1 := ⟨hx, hb, hml, hown, hts⟩
  have hl := lv_entry ([.int x, .int y]) (n := 2) (Nat.le_of_ble_eq_true rfl)
  rw [lg_entry_eq]
  generalize (lg_sl ([.int x, .int y]) ++ List.replicate (2 - (lg_sl ([.int x, .int y])).length) Slot.unset).toArray = ls at hl ⊢
  have hl : lv_has ls 2 [(0, .int x), (1, .int y)] := hl
  refine wq (fun Q hQ => ?_)
  have hzc : 0 + 0 ≤ (headSpec wsX1_checkedNumber rmX1_checkedNumber_ok).room.cells := Nat.zero_le _
  have hzs : 0 + 0 ≤ (headSpec wsX1_checkedNumber rmX1_checkedNumber_ok).room.slots := Nat.zero_le _
  refine lv_iload_n hx hb dX1_checkedNumber_0 rfl (lv_at hl 0 rfl) ?_
  have hat := plc_at hpl
  have hxy := plc_t hpl
  refine lv_if_lt (tgt := 20) hx hb dX1_checkedNumber_1 (by decide) (fun c => absurd c (Int32.not_lt.mpr hxy.1.1)) (fun _ => ?_)
  refine lv_iload_n hx hb dX1_checkedNumber_4 rfl (lv_at hl 0 rfl) ?_
  refine lv_bipush (v := 8) hx hb dX1_checkedNumber_5 (by decide) ?_
  refine lv_icmp_ge (tgt := 20) hx hb dX1_checkedNumber_7 (by decide) (fun c => absurd c (Int32.not_le.mpr (le7.mp hxy.1.2))) (fun _ => ?_)
  refine lv_iload_n hx hb dX1_checkedNumber_10 rfl (lv_at hl 1 rfl) ?_
  refine lv_if_lt (tgt := 20) hx hb dX1_checkedNumber_11 (by decide) (fun c => absurd c (Int32.not_lt.mpr hxy.2.1)) (fun _ => ?_)
  refine lv_iload_n hx hb dX1_checkedNumber_14 rfl (lv_at hl 1 rfl) ?_
  refine lv_bipush (v := 8) hx hb dX1_checkedNumber_15 (by decide) ?_
  refine lv_icmp_lt (tgt := 30) hx hb dX1_checkedNumber_17 (by decide) (fun _ => ?_) (fun c => absurd (le7.mp hxy.2.2) c)
  refine lv_bipush (v := 8) hx hb dX1_checkedNumber_30 (by decide) ?_
  refine lv_iload_n hx hb dX1_checkedNumber_32 rfl (lv_at hl 1 rfl) ?_
  refine lv_imul hx hb dX1_checkedNumber_33 ?_
  refine lv_iload_n hx hb dX1_checkedNumber_34 rfl (lv_at hl 0 rfl) ?_
  refine lv_iadd hx hb dX1_checkedNumber_35 ?_
  refine tpi (x' := nI (pAt x y)) (hat.2) ?_
  subst hQ
  exact rd_i (rfl) hx hb hr hS hlocks dX1_checkedNumber_36

def rmX1_checkNumber_ok : Room := { frames := 1, cells := 0, slots := 0, locals := 20 }
set_option maxHeartbeats 4000000 in
set_option maxRecDepth 100000 in
theorem c_X1_checkNumber_ok (l : Launch) (x : Int32) (hin : inB 0 63 x = true) : Met l yX1_checkNumber wsX1_checkNumber rmX1_checkNumber_ok (va_Pc [.int x] (fun _ => True)) RdV 0 0 No := by
  refine Met.ofW (cc := cX1_checkNumber) (maxL := 1) (ret := none) (by decide) rfl ?_
  intro p e s m args below meth c s₁ B hml hv
  obtain ⟨rfl, -⟩ := hv
  have hx := B.exec
  have hb := B.bytes
  have hr := B.returns
  have hlocks := B.notSynchronized
  have hts := atoms_spec (ws := wsX1_checkNumber) B.pre
  have hown : s.vm.findClass RX1 = some m.cls := findClass_of_methodNamed B.named
  have hS : va_S No s.heap s.heap [] := va_S.rf
  have FX : CallFix p m c cX1_checkNumber 1 s ([.int x] : List Value).toArray wsX1_checkNumber RX1 := ⟨hx, hb, hml, hown, hts⟩
  have hl := lv_entry ([.int x]) (n := 1) (Nat.le_of_ble_eq_true rfl)
  rw [lg_entry_eq]
  generalize (lg_sl ([.int x]) ++ List.replicate (1 - (lg_sl ([.int x])).length) Slot.unset).toArray = ls at hl ⊢
  have hl : lv_has ls 1 [(0, .int x)] := hl
  refine wq (fun Q hQ => ?_)
  have hzc : 0 + 0 ≤ (headSpec wsX1_checkNumber rmX1_checkNumber_ok).room.cells := Nat.zero_le _
  have hzs : 0 + 0 ≤ (headSpec wsX1_checkNumber rmX1_checkNumber_ok).room.slots := Nat.zero_le _
  refine lv_iload_n hx hb dX1_checkNumber_0 rfl (lv_at hl 0 rfl) ?_
  refine cr_p (va_runS (As := [.int x]) (rest := []) FX (c_X1_isLot l x) (va_cwS 1 hts gX1_checkNumber_X1_isLot rfl rfl rfl (by decide +kernel) ⟨Nat.le_of_ble_eq_true rfl, Nat.le_of_ble_eq_true rfl⟩) puS rfl rfl hl.1 rfl (lv_room (Nat.le_of_ble_eq_true rfl)) dX1_checkNumber_1 ⟨hzc, hzs⟩) hS (fun H locs hS => ?_)
  refine tpi (x' := 1) (by rw [isLot_b, hin]; rfl) ?_
  refine lv_if_ne (tgt := 17) hx hb dX1_checkNumber_4 (by decide) (fun _ => ?_) (fun c => absurd c (by decide))
  subst hQ
  exact rd_v hx hb hr hS hlocks dX1_checkNumber_17

def rmX1_checkBuilding_ok : Room := { frames := 0, cells := 0, slots := 0, locals := 0 }
set_option maxHeartbeats 4000000 in
set_option maxRecDepth 100000 in
theorem c_X1_checkBuilding_ok (l : Launch) (x : Int32) (hin : inB 3 5 x = true) : Met l yX1_checkBuilding wsX1_checkBuilding rmX1_checkBuilding_ok (va_Pc [.int x] (fun _ => True)) RdV 0 0 No := by
  refine Met.ofW (cc := cX1_checkBuilding) (maxL := 1) (ret := none) (by decide) rfl ?_
  intro p e s m args below meth c s₁ B hml hv
  obtain ⟨rfl, -⟩ := hv
  have hx := B.exec
  have hb := B.bytes
  have hr := B.returns
  have hlocks := B.notSynchronized
  have hts := atoms_spec (ws := wsX1_checkBuilding) B.pre
  have hown : s.vm.findClass RX1 = some m.cls := findClass_of_methodNamed B.named
  have hS : va_S No s.heap s.heap [] := va_S.rf
  have FX : CallFix p m c cX1_checkBuilding 1 s ([.int x] : List Value).toArray wsX1_checkBuilding RX1 := ⟨hx, hb, hml, hown, hts⟩
  have hl := lv_entry ([.int x]) (n := 1) (Nat.le_of_ble_eq_true rfl)
  rw [lg_entry_eq]
  generalize (lg_sl ([.int x]) ++ List.replicate (1 - (lg_sl ([.int x])).length) Slot.unset).toArray = ls at hl ⊢
  have hl : lv_has ls 1 [(0, .int x)] := hl
  refine wq (fun Q hQ => ?_)
  have hzc : 0 + 0 ≤ (headSpec wsX1_checkBuilding rmX1_checkBuilding_ok).room.cells := Nat.zero_le _
  have hzs : 0 + 0 ≤ (headSpec wsX1_checkBuilding rmX1_checkBuilding_ok).room.slots := Nat.zero_le _
  refine lv_iload_n hx hb dX1_checkBuilding_0 rfl (lv_at hl 0 rfl) ?_
  refine lv_iconst (v := 3) hx hb dX1_checkBuilding_1 (by decide) ?_
  refine lv_icmp_lt (tgt := 10) hx hb dX1_checkBuilding_2 (by decide) (fun c => absurd c (Int32.not_lt.mpr (inB_t hin).1)) (fun _ => ?_)
  refine lv_iload_n hx hb dX1_checkBuilding_5 rfl (lv_at hl 0 rfl) ?_
  refine lv_iconst (v := 5) hx hb dX1_checkBuilding_6 (by decide) ?_
  refine lv_icmp_le (tgt := 20) hx hb dX1_checkBuilding_7 (by decide) (fun _ => ?_) (fun c => absurd ((inB_t hin).2) c)
  subst hQ
  exact rd_v hx hb hr hS hlocks dX1_checkBuilding_20

def rmX1_checkMonths_ok : Room := { frames := 0, cells := 0, slots := 0, locals := 0 }
set_option maxHeartbeats 4000000 in
set_option maxRecDepth 100000 in
theorem c_X1_checkMonths_ok (l : Launch) (x : Int32) (hin : inB 1 60 x = true) : Met l yX1_checkMonths wsX1_checkMonths rmX1_checkMonths_ok (va_Pc [.int x] (fun _ => True)) RdV 0 0 No := by
  refine Met.ofW (cc := cX1_checkMonths) (maxL := 1) (ret := none) (by decide) rfl ?_
  intro p e s m args below meth c s₁ B hml hv
  obtain ⟨rfl, -⟩ := hv
  have hx := B.exec
  have hb := B.bytes
  have hr := B.returns
  have hlocks := B.notSynchronized
  have hts := atoms_spec (ws := wsX1_checkMonths) B.pre
  have hown : s.vm.findClass RX1 = some m.cls := findClass_of_methodNamed B.named
  have hS : va_S No s.heap s.heap [] := va_S.rf
  have FX : CallFix p m c cX1_checkMonths 1 s ([.int x] : List Value).toArray wsX1_checkMonths RX1 := ⟨hx, hb, hml, hown, hts⟩
  have hl := lv_entry ([.int x]) (n := 1) (Nat.le_of_ble_eq_true rfl)
  rw [lg_entry_eq]
  generalize (lg_sl ([.int x]) ++ List.replicate (1 - (lg_sl ([.int x])).length) Slot.unset).toArray = ls at hl ⊢
  have hl : lv_has ls 1 [(0, .int x)] := hl
  refine wq (fun Q hQ => ?_)
  have hzc : 0 + 0 ≤ (headSpec wsX1_checkMonths rmX1_checkMonths_ok).room.cells := Nat.zero_le _
  have hzs : 0 + 0 ≤ (headSpec wsX1_checkMonths rmX1_checkMonths_ok).room.slots := Nat.zero_le _
  refine lv_iload_n hx hb dX1_checkMonths_0 rfl (lv_at hl 0 rfl) ?_
  refine lv_iconst (v := 1) hx hb dX1_checkMonths_1 (by decide) ?_
  refine lv_icmp_lt (tgt := 11) hx hb dX1_checkMonths_2 (by decide) (fun c => absurd c (Int32.not_lt.mpr (inB_t hin).1)) (fun _ => ?_)
  refine lv_iload_n hx hb dX1_checkMonths_5 rfl (lv_at hl 0 rfl) ?_
  refine lv_bipush (v := 60) hx hb dX1_checkMonths_6 (by decide) ?_
  refine lv_icmp_le (tgt := 21) hx hb dX1_checkMonths_8 (by decide) (fun _ => ?_) (fun c => absurd ((inB_t hin).2) c)
  subst hQ
  exact rd_v hx hb hr hS hlocks dX1_checkMonths_21

def rmX1_checkDrained_ok : Room := { frames := 0, cells := 0, slots := 0, locals := 0 }
set_option maxHeartbeats 4000000 in
set_option maxRecDepth 100000 in
theorem c_X1_checkDrained_ok (l : Launch) (G : va_G) (cI : ClassId) (h : Nat) (a t : Nat → Nat) (mo co le : Int32) (K Qa La Ha Ma Ba Ca Da Fa Wa k : Nat → Int32) (pt : Nat) (hk : eqK K k) (hpt : pt < 64) (h2 : k pt = 2) : Met l yX1_checkDrained wsX1_checkDrained rmX1_checkDrained_ok (va_Pc [.ref h, .int (nI pt)] (RdP G cI [(h, oX a t), ((a 0), oC a mo co le), ((a 3), iA cI K), ((a 4), iA cI Qa), ((a 5), iA cI La), ((a 6), iA cI Ha), ((a 7), iA cI Ma), ((a 8), iA cI Ba), ((a 9), iA cI Ca), ((a 10), iA cI Da), ((a 11), iA cI Fa), ((a 12), iA cI Wa)])) RdV 0 0 No := by
  refine Met.ofW (cc := cX1_checkDrained) (maxL := 2) (ret := none) (by decide) rfl ?_
  intro p e s m args below meth c s₁ B hml hv
  obtain ⟨rfl, hP, hK, hN⟩ := hv
  have hx := B.exec
  have hb := B.bytes
  have hr := B.returns
  have hlocks := B.notSynchronized
  have hts := atoms_spec (ws := wsX1_checkDrained) B.pre
  have hown : s.vm.findClass RX1 = some m.cls := findClass_of_methodNamed B.named
  have hS : va_S No s.heap s.heap [] := va_S.rf
  have FX : CallFix p m c cX1_checkDrained 2 s ([.ref h, .int (nI pt)] : List Value).toArray wsX1_checkDrained RX1 := ⟨hx, hb, hml, hown, hts⟩
  have hl := lv_entry ([.ref h, .int (nI pt)]) (n := 2) (Nat.le_of_ble_eq_true rfl)
  rw [lg_entry_eq]
  generalize (lg_sl ([.ref h, .int (nI pt)]) ++ List.replicate (2 - (lg_sl ([.ref h, .int (nI pt)])).length) Slot.unset).toArray = ls at hl ⊢
  have hl : lv_has ls 2 [(0, .ref h), (1, .int (nI pt))] := hl
  refine wq (fun Q hQ => ?_)
  have hzc : 0 + 0 ≤ (headSpec wsX1_checkDrained rmX1_checkDrained_ok).room.cells := Nat.zero_le _
  have hzs : 0 + 0 ≤ (headSpec wsX1_checkDrained rmX1_checkDrained_ok).room.slots := Nat.zero_le _
  have hf10 := hts (.fieldLink RX1 10 "CanalCity" "now" "LCanalCity$City;") (by decide +kernel)
  have hinX0 : ∀ w ∈ u_ws RX0 TX0 13, w ∈ wsX1_checkDrained := by decide +kernel
  have hinX1 : ∀ w ∈ u_ws RX1 TX1 2, w ∈ wsX1_checkDrained := by decide +kernel
  refine lv_aload_n hx hb dX1_checkDrained_0 rfl (lv_at hl 0 rfl) ?_
  refine va_get (D := G) (ci := 1) (v := .ref (a 0)) (C := RX1) (T := TX1) (N := 2) hx hb hts hinX1 hown hK hP 0 rfl rfl 0 (by decide) hf10 (fun _ h9 => h9) rfl dX1_checkDrained_1 ?_
  refine va_getN (host := "CanalCity") (D := G) (ci := 0) (v := .ref (a 3)) (C := RX0) (T := TX0) (N := 13) hx hb hts hinX0 hown hK hP 1 rfl rfl 3 (by decide) (va_Nw.use rfl (NW_at hN 1 rfl)) (fun _ h9 => h9) rfl dX1_checkDrained_4 ?_
  refine lv_iload_n hx hb dX1_checkDrained_7 rfl (lv_at hl 1 rfl) ?_
  refine va_iald hx hb hK hP 2 0 rfl rfl (vp_in_nI hpt (by decide)) dX1_checkDrained_8 ?_
  refine tpi (x' := K pt) (congrArg K (nI_clamp (by omega))) ?_
  refine tpi (x' := 2) ((hk pt hpt).trans h2) ?_
  refine lv_iconst (v := 2) hx hb dX1_checkDrained_9 (by decide) ?_
  refine lv_icmp_eq (tgt := 23) hx hb dX1_checkDrained_10 (by decide) (fun _ => ?_) (fun c => absurd (rfl) c)
  subst hQ
  exact rd_v hx hb hr hS hlocks dX1_checkDrained_23

def rmX1_checkCoins_ok : Room := { frames := 0, cells := 0, slots := 0, locals := 0 }
set_option maxHeartbeats 4000000 in
set_option maxRecDepth 100000 in
theorem c_X1_checkCoins_ok (l : Launch) (G : va_G) (cI : ClassId) (h : Nat) (a t : Nat → Nat) (mo co le : Int32) (K Qa La Ha Ma Ba Ca Da Fa Wa k : Nat → Int32) (cs : Int32) (hcs : cs ≤ co) : Met l yX1_checkCoins wsX1_checkCoins rmX1_checkCoins_ok (va_Pc [.ref h, .int cs] (RdP G cI [(h, oX a t), ((a 0), oC a mo co le), ((a 3), iA cI K), ((a 4), iA cI Qa), ((a 5), iA cI La), ((a 6), iA cI Ha), ((a 7), iA cI Ma), ((a 8), iA cI Ba), ((a 9), iA cI Ca), ((a 10), iA cI Da), ((a 11), iA cI Fa), ((a 12), iA cI Wa)])) RdV 0 0 No := by
  refine Met.ofW (cc := cX1_checkCoins) (maxL := 2) (ret := none) (by decide) rfl ?_
  intro p e s m args below meth c s₁ B hml hv
  obtain ⟨rfl, hP, hK, hN⟩ := hv
  have hx := B.exec
  have hb := B.bytes
  have hr := B.returns
  have hlocks := B.notSynchronized
  have hts := atoms_spec (ws := wsX1_checkCoins) B.pre
  have hown : s.vm.findClass RX1 = some m.cls := findClass_of_methodNamed B.named
  have hS : va_S No s.heap s.heap [] := va_S.rf
  have FX : CallFix p m c cX1_checkCoins 2 s ([.ref h, .int cs] : List Value).toArray wsX1_checkCoins RX1 := ⟨hx, hb, hml, hown, hts⟩
  have hl := lv_entry ([.ref h, .int cs]) (n := 2) (Nat.le_of_ble_eq_true rfl)
  rw [lg_entry_eq]
  generalize (lg_sl ([.ref h, .int cs]) ++ List.replicate (2 - (lg_sl ([.ref h, .int cs])).length) Slot.unset).toArray = ls at hl ⊢
  have hl : lv_has ls 2 [(0, .ref h), (1, .int cs)] := hl
  refine wq (fun Q hQ => ?_)
  have hzc : 0 + 0 ≤ (headSpec wsX1_checkCoins rmX1_checkCoins_ok).room.cells := Nat.zero_le _
  have hzs : 0 + 0 ≤ (headSpec wsX1_checkCoins rmX1_checkCoins_ok).room.slots := Nat.zero_le _
  have hf10 := hts (.fieldLink RX1 10 "CanalCity" "now" "LCanalCity$City;") (by decide +kernel)
  have hinX0 : ∀ w ∈ u_ws RX0 TX0 13, w ∈ wsX1_checkCoins := by decide +kernel
  have hinX1 : ∀ w ∈ u_ws RX1 TX1 2, w ∈ wsX1_checkCoins := by decide +kernel
  refine lv_aload_n hx hb dX1_checkCoins_0 rfl (lv_at hl 0 rfl) ?_
  refine va_get (D := G) (ci := 1) (v := .ref (a 0)) (C := RX1) (T := TX1) (N := 2) hx hb hts hinX1 hown hK hP 0 rfl rfl 0 (by decide) hf10 (fun _ h9 => h9) rfl dX1_checkCoins_1 ?_
  refine va_getN (host := "CanalCity") (D := G) (ci := 0) (v := .int co) (C := RX0) (T := TX0) (N := 13) hx hb hts hinX0 hown hK hP 1 rfl rfl 1 (by decide) (va_Nw.use rfl (NW_at hN 0 rfl)) (fun _ h9 => h9) rfl dX1_checkCoins_4 ?_
  refine lv_iload_n hx hb dX1_checkCoins_7 rfl (lv_at hl 1 rfl) ?_
  refine lv_icmp_ge (tgt := 21) hx hb dX1_checkCoins_8 (by decide) (fun _ => ?_) (fun c => absurd (hcs) c)
  subst hQ
  exact rd_v hx hb hr hS hlocks dX1_checkCoins_21

def rmX1_checkedNumber_no : Room := { frames := 6, cells := 1, slots := 6, locals := 90 }
set_option maxHeartbeats 4000000 in
set_option maxRecDepth 100000 in
theorem c_X1_checkedNumber_no (l : Launch) (G : va_G) (cI : ClassId) (hst : l.stackTraces = false) (x y : Int32) (hpl : (inB 0 7 x && inB 0 7 y) = false) : vx_Met l yX1_checkedNumber wsX1_checkedNumber rmX1_checkedNumber_no (va_Pc [.int x, .int y] (XrP G cI [])) (va_Qi (fun (_ : Int32) (_ : Unit) => False) (fun _ _ => True) No) (vx_X (fun _ : Unit => True) (fun E _ _ => E = "java/lang/IndexOutOfBoundsException") No) 1 6 No := by
  refine vx_ofW (cc := cX1_checkedNumber) (maxL := 2) (ret := (some .int)) (by decide) rfl ?_
  intro p e s m args below meth c s₁ B hml htb hv
  obtain ⟨rfl, ⟨hP, hK, hN⟩, hE, hX, hZ⟩ := hv
  have hx := B.exec
  have hb := B.bytes
  have hr := B.returns
  have hlocks := B.notSynchronized
  have hts := atoms_spec (ws := wsX1_checkedNumber) B.pre
  have hown : s.vm.findClass RX1 = some m.cls := findClass_of_methodNamed B.named
  have hS : va_S No s.heap s.heap [] := va_S.rf
  have FX : CallFix p m c cX1_checkedNumber 2 s ([.int x, .int y] : List Value).toArray wsX1_checkedNumber RX1 := ⟨hx, hb, hml, hown, hts⟩
  have hl := lv_entry ([.int x, .int y]) (n := 2) (Nat.le_of_ble_eq_true rfl)
  rw [lg_entry_eq]
  generalize (lg_sl ([.int x, .int y]) ++ List.replicate (2 - (lg_sl ([.int x, .int y])).length) Slot.unset).toArray = ls at hl ⊢
  have hl : lv_has ls 2 [(0, .int x), (1, .int y)] := hl
  refine wq (fun Q hQ => ?_)
  have hzc : 0 + 0 ≤ (headSpec wsX1_checkedNumber rmX1_checkedNumber_no).room.cells := Nat.zero_le _
  have hzs : 0 + 0 ≤ (headSpec wsX1_checkedNumber rmX1_checkedNumber_no).room.slots := Nat.zero_le _
  refine lv_iload_n hx hb dX1_checkedNumber_0 rfl (lv_at hl 0 rfl) ?_
  refine lv_if_lt (tgt := 20) hx hb dX1_checkedNumber_1 (by decide) (fun c1 => ?_) (fun c1 => ?_)
  · skip
    obtain ⟨sa, hstr⟩ := hE.1
    subst hQ
    exact vx_throwS (A := No) (names := ["java/lang/RuntimeException", "java/lang/Exception"]) hx hb hst hown (by decide +kernel) (by decide +kernel) (hts (.classLink RX1 69 "java/lang/IndexOutOfBoundsException") (by decide +kernel)) (hts (.initialized "java/lang/IndexOutOfBoundsException") (by decide +kernel)) hstr (nong hX atI_ng (fun w9 hw9 => hts w9 (by first | exact List.mem_cons_of_mem _ (List.mem_append_right _ hw9) | exact List.mem_cons_of_mem _ (List.mem_append_left _ (List.mem_append_right _ hw9)) | exact List.mem_cons_of_mem _ (List.mem_append_left _ (List.mem_append_left _ (List.mem_append_right _ hw9))) | exact List.mem_cons_of_mem _ (List.mem_append_left _ (List.mem_append_left _ (List.mem_append_left _ (List.mem_append_right _ hw9))))))) goI hZ.1 hZ.2 hS (hl.1.trans hml.symm) dX1_checkedNumber_20 dX1_checkedNumber_23 dX1_checkedNumber_24 dX1_checkedNumber_26 dX1_checkedNumber_29 (fun x9 hx9 => (htb x9 hx9).elim) (by decide) (Nat.le_of_ble_eq_true rfl) (Nat.le_of_ble_eq_true rfl) (Nat.le_of_ble_eq_true rfl) hlocks (fun t9 ht9 hz9 hk9 => ⟨(), trivial, rfl, Nat.le_trans hS.1 hz9, fun q9 hq9 hn9 => (hk9 q9 (Nat.lt_of_lt_of_le hq9 hS.1)).trans (hS.2.1 q9 hq9 hn9)⟩) hS.2.2 (Nat.le_of_ble_eq_true rfl) (Nat.le_of_ble_eq_true rfl)
  · skip
    refine lv_iload_n hx hb dX1_checkedNumber_4 rfl (lv_at hl 0 rfl) ?_
    refine lv_bipush (v := 8) hx hb dX1_checkedNumber_5 (by decide) ?_
    refine lv_icmp_ge (tgt := 20) hx hb dX1_checkedNumber_7 (by decide) (fun c2 => ?_) (fun c2 => ?_)
    · skip
      obtain ⟨sa, hstr⟩ := hE.1
      subst hQ
      exact vx_throwS (A := No) (names := ["java/lang/RuntimeException", "java/lang/Exception"]) hx hb hst hown (by decide +kernel) (by decide +kernel) (hts (.classLink RX1 69 "java/lang/IndexOutOfBoundsException") (by decide +kernel)) (hts (.initialized "java/lang/IndexOutOfBoundsException") (by decide +kernel)) hstr (nong hX atI_ng (fun w9 hw9 => hts w9 (by first | exact List.mem_cons_of_mem _ (List.mem_append_right _ hw9) | exact List.mem_cons_of_mem _ (List.mem_append_left _ (List.mem_append_right _ hw9)) | exact List.mem_cons_of_mem _ (List.mem_append_left _ (List.mem_append_left _ (List.mem_append_right _ hw9))) | exact List.mem_cons_of_mem _ (List.mem_append_left _ (List.mem_append_left _ (List.mem_append_left _ (List.mem_append_right _ hw9))))))) goI hZ.1 hZ.2 hS (hl.1.trans hml.symm) dX1_checkedNumber_20 dX1_checkedNumber_23 dX1_checkedNumber_24 dX1_checkedNumber_26 dX1_checkedNumber_29 (fun x9 hx9 => (htb x9 hx9).elim) (by decide) (Nat.le_of_ble_eq_true rfl) (Nat.le_of_ble_eq_true rfl) (Nat.le_of_ble_eq_true rfl) hlocks (fun t9 ht9 hz9 hk9 => ⟨(), trivial, rfl, Nat.le_trans hS.1 hz9, fun q9 hq9 hn9 => (hk9 q9 (Nat.lt_of_lt_of_le hq9 hS.1)).trans (hS.2.1 q9 hq9 hn9)⟩) hS.2.2 (Nat.le_of_ble_eq_true rfl) (Nat.le_of_ble_eq_true rfl)
    · skip
      refine lv_iload_n hx hb dX1_checkedNumber_10 rfl (lv_at hl 1 rfl) ?_
      refine lv_if_lt (tgt := 20) hx hb dX1_checkedNumber_11 (by decide) (fun c3 => ?_) (fun c3 => ?_)
      · skip
        obtain ⟨sa, hstr⟩ := hE.1
        subst hQ
        exact vx_throwS (A := No) (names := ["java/lang/RuntimeException", "java/lang/Exception"]) hx hb hst hown (by decide +kernel) (by decide +kernel) (hts (.classLink RX1 69 "java/lang/IndexOutOfBoundsException") (by decide +kernel)) (hts (.initialized "java/lang/IndexOutOfBoundsException") (by decide +kernel)) hstr (nong hX atI_ng (fun w9 hw9 => hts w9 (by first | exact List.mem_cons_of_mem _ (List.mem_append_right _ hw9) | exact List.mem_cons_of_mem _ (List.mem_append_left _ (List.mem_append_right _ hw9)) | exact List.mem_cons_of_mem _ (List.mem_append_left _ (List.mem_append_left _ (List.mem_append_right _ hw9))) | exact List.mem_cons_of_mem _ (List.mem_append_left _ (List.mem_append_left _ (List.mem_append_left _ (List.mem_append_right _ hw9))))))) goI hZ.1 hZ.2 hS (hl.1.trans hml.symm) dX1_checkedNumber_20 dX1_checkedNumber_23 dX1_checkedNumber_24 dX1_checkedNumber_26 dX1_checkedNumber_29 (fun x9 hx9 => (htb x9 hx9).elim) (by decide) (Nat.le_of_ble_eq_true rfl) (Nat.le_of_ble_eq_true rfl) (Nat.le_of_ble_eq_true rfl) hlocks (fun t9 ht9 hz9 hk9 => ⟨(), trivial, rfl, Nat.le_trans hS.1 hz9, fun q9 hq9 hn9 => (hk9 q9 (Nat.lt_of_lt_of_le hq9 hS.1)).trans (hS.2.1 q9 hq9 hn9)⟩) hS.2.2 (Nat.le_of_ble_eq_true rfl) (Nat.le_of_ble_eq_true rfl)
      · skip
        refine lv_iload_n hx hb dX1_checkedNumber_14 rfl (lv_at hl 1 rfl) ?_
        refine lv_bipush (v := 8) hx hb dX1_checkedNumber_15 (by decide) ?_
        refine lv_icmp_lt (tgt := 30) hx hb dX1_checkedNumber_17 (by decide) (fun c => absurd c (fun c4 => absurd hpl (by rw [show inB 0 7 x = true from by unfold inB; rw [decide_eq_true (Int32.not_lt.mp c1), decide_eq_true (le7.mpr (Int32.not_le.mp c2))]; rfl, show inB 0 7 y = true from by unfold inB; rw [decide_eq_true (Int32.not_lt.mp c3), decide_eq_true (le7.mpr c4)]; rfl]; decide))) (fun _ => ?_)
        obtain ⟨sa, hstr⟩ := hE.1
        subst hQ
        exact vx_throwS (A := No) (names := ["java/lang/RuntimeException", "java/lang/Exception"]) hx hb hst hown (by decide +kernel) (by decide +kernel) (hts (.classLink RX1 69 "java/lang/IndexOutOfBoundsException") (by decide +kernel)) (hts (.initialized "java/lang/IndexOutOfBoundsException") (by decide +kernel)) hstr (nong hX atI_ng (fun w9 hw9 => hts w9 (by first | exact List.mem_cons_of_mem _ (List.mem_append_right _ hw9) | exact List.mem_cons_of_mem _ (List.mem_append_left _ (List.mem_append_right _ hw9)) | exact List.mem_cons_of_mem _ (List.mem_append_left _ (List.mem_append_left _ (List.mem_append_right _ hw9))) | exact List.mem_cons_of_mem _ (List.mem_append_left _ (List.mem_append_left _ (List.mem_append_left _ (List.mem_append_right _ hw9))))))) goI hZ.1 hZ.2 hS (hl.1.trans hml.symm) dX1_checkedNumber_20 dX1_checkedNumber_23 dX1_checkedNumber_24 dX1_checkedNumber_26 dX1_checkedNumber_29 (fun x9 hx9 => (htb x9 hx9).elim) (by decide) (Nat.le_of_ble_eq_true rfl) (Nat.le_of_ble_eq_true rfl) (Nat.le_of_ble_eq_true rfl) hlocks (fun t9 ht9 hz9 hk9 => ⟨(), trivial, rfl, Nat.le_trans hS.1 hz9, fun q9 hq9 hn9 => (hk9 q9 (Nat.lt_of_lt_of_le hq9 hS.1)).trans (hS.2.1 q9 hq9 hn9)⟩) hS.2.2 (Nat.le_of_ble_eq_true rfl) (Nat.le_of_ble_eq_true rfl)

def rmX1_checkNumber_no : Room := { frames := 6, cells := 1, slots := 6, locals := 90 }
set_option maxHeartbeats 4000000 in
set_option maxRecDepth 100000 in
theorem c_X1_checkNumber_no (l : Launch) (G : va_G) (cI : ClassId) (hst : l.stackTraces = false) (x : Int32) (hin : inB 0 63 x = false) : vx_Met l yX1_checkNumber wsX1_checkNumber rmX1_checkNumber_no (va_Pc [.int x] (XrP G cI [])) (va_Qv (fun (_ : Unit) => False) (fun _ _ => True) No) (vx_X (fun _ : Unit => True) (fun E _ _ => E = "java/lang/IndexOutOfBoundsException") No) 1 6 No := by
  refine vx_ofW (cc := cX1_checkNumber) (maxL := 1) (ret := none) (by decide) rfl ?_
  intro p e s m args below meth c s₁ B hml htb hv
  obtain ⟨rfl, ⟨hP, hK, hN⟩, hE, hX, hZ⟩ := hv
  have hx := B.exec
  have hb := B.bytes
  have hr := B.returns
  have hlocks := B.notSynchronized
  have hts := atoms_spec (ws := wsX1_checkNumber) B.pre
  have hown : s.vm.findClass RX1 = some m.cls := findClass_of_methodNamed B.named
  have hS : va_S No s.heap s.heap [] := va_S.rf
  have FX : CallFix p m c cX1_checkNumber 1 s ([.int x] : List Value).toArray wsX1_checkNumber RX1 := ⟨hx, hb, hml, hown, hts⟩
  have hl := lv_entry ([.int x]) (n := 1) (Nat.le_of_ble_eq_true rfl)
  rw [lg_entry_eq]
  generalize (lg_sl ([.int x]) ++ List.replicate (1 - (lg_sl ([.int x])).length) Slot.unset).toArray = ls at hl ⊢
  have hl : lv_has ls 1 [(0, .int x)] := hl
  refine wq (fun Q hQ => ?_)
  have hzc : 0 + 0 ≤ (headSpec wsX1_checkNumber rmX1_checkNumber_no).room.cells := Nat.zero_le _
  have hzs : 0 + 0 ≤ (headSpec wsX1_checkNumber rmX1_checkNumber_no).room.slots := Nat.zero_le _
  refine lv_iload_n hx hb dX1_checkNumber_0 rfl (lv_at hl 0 rfl) ?_
  refine cr_i (va_runS (As := [.int x]) (rest := []) FX (c_X1_isLot l x) (va_cwS 1 hts gX1_checkNumber_X1_isLot rfl rfl rfl (by decide +kernel) ⟨Nat.le_of_ble_eq_true rfl, Nat.le_of_ble_eq_true rfl⟩) puS rfl rfl hl.1 rfl (lv_room (Nat.le_of_ble_eq_true rfl)) dX1_checkNumber_1 ⟨hzc, hzs⟩) hS hP (fun H locs hP hS => ?_)
  refine tpi (x' := 0) (by rw [isLot_b, hin]; rfl) ?_
  refine lv_if_ne (tgt := 17) hx hb dX1_checkNumber_4 (by decide) (fun c => absurd (rfl) c) (fun _ => ?_)
  obtain ⟨sa, hstr⟩ := hE.2.1
  subst hQ
  exact vx_throwS (A := No) (names := ["java/lang/RuntimeException", "java/lang/Exception"]) hx hb hst hown (by decide +kernel) (by decide +kernel) (hts (.classLink RX1 69 "java/lang/IndexOutOfBoundsException") (by decide +kernel)) (hts (.initialized "java/lang/IndexOutOfBoundsException") (by decide +kernel)) hstr (nong hX atI_ng (fun w9 hw9 => hts w9 (by first | exact List.mem_cons_of_mem _ (List.mem_append_right _ hw9) | exact List.mem_cons_of_mem _ (List.mem_append_left _ (List.mem_append_right _ hw9)) | exact List.mem_cons_of_mem _ (List.mem_append_left _ (List.mem_append_left _ (List.mem_append_right _ hw9))) | exact List.mem_cons_of_mem _ (List.mem_append_left _ (List.mem_append_left _ (List.mem_append_left _ (List.mem_append_right _ hw9))))))) goI hZ.1 hZ.2 hS (hl.1.trans hml.symm) dX1_checkNumber_7 dX1_checkNumber_10 dX1_checkNumber_11 dX1_checkNumber_13 dX1_checkNumber_16 (fun x9 hx9 => (htb x9 hx9).elim) (by decide) (Nat.le_of_ble_eq_true rfl) (Nat.le_of_ble_eq_true rfl) (Nat.le_of_ble_eq_true rfl) hlocks (fun t9 ht9 hz9 hk9 => ⟨(), trivial, rfl, Nat.le_trans hS.1 hz9, fun q9 hq9 hn9 => (hk9 q9 (Nat.lt_of_lt_of_le hq9 hS.1)).trans (hS.2.1 q9 hq9 hn9)⟩) hS.2.2 (Nat.le_of_ble_eq_true rfl) (Nat.le_of_ble_eq_true rfl)

def rmX1_checkBuilding_no : Room := { frames := 6, cells := 1, slots := 6, locals := 90 }
set_option maxHeartbeats 4000000 in
set_option maxRecDepth 100000 in
theorem c_X1_checkBuilding_no (l : Launch) (G : va_G) (cI : ClassId) (hst : l.stackTraces = false) (x : Int32) (hin : inB 3 5 x = false) : vx_Met l yX1_checkBuilding wsX1_checkBuilding rmX1_checkBuilding_no (va_Pc [.int x] (XrP G cI [])) (va_Qv (fun (_ : Unit) => False) (fun _ _ => True) No) (vx_X (fun _ : Unit => True) (fun E _ _ => E = "java/lang/IllegalArgumentException") No) 1 6 No := by
  refine vx_ofW (cc := cX1_checkBuilding) (maxL := 1) (ret := none) (by decide) rfl ?_
  intro p e s m args below meth c s₁ B hml htb hv
  obtain ⟨rfl, ⟨hP, hK, hN⟩, hE, hX, hZ⟩ := hv
  have hx := B.exec
  have hb := B.bytes
  have hr := B.returns
  have hlocks := B.notSynchronized
  have hts := atoms_spec (ws := wsX1_checkBuilding) B.pre
  have hown : s.vm.findClass RX1 = some m.cls := findClass_of_methodNamed B.named
  have hS : va_S No s.heap s.heap [] := va_S.rf
  have FX : CallFix p m c cX1_checkBuilding 1 s ([.int x] : List Value).toArray wsX1_checkBuilding RX1 := ⟨hx, hb, hml, hown, hts⟩
  have hl := lv_entry ([.int x]) (n := 1) (Nat.le_of_ble_eq_true rfl)
  rw [lg_entry_eq]
  generalize (lg_sl ([.int x]) ++ List.replicate (1 - (lg_sl ([.int x])).length) Slot.unset).toArray = ls at hl ⊢
  have hl : lv_has ls 1 [(0, .int x)] := hl
  refine wq (fun Q hQ => ?_)
  have hzc : 0 + 0 ≤ (headSpec wsX1_checkBuilding rmX1_checkBuilding_no).room.cells := Nat.zero_le _
  have hzs : 0 + 0 ≤ (headSpec wsX1_checkBuilding rmX1_checkBuilding_no).room.slots := Nat.zero_le _
  refine lv_iload_n hx hb dX1_checkBuilding_0 rfl (lv_at hl 0 rfl) ?_
  refine lv_iconst (v := 3) hx hb dX1_checkBuilding_1 (by decide) ?_
  refine lv_icmp_lt (tgt := 10) hx hb dX1_checkBuilding_2 (by decide) (fun c1 => ?_) (fun c1 => ?_)
  · skip
    obtain ⟨sa, hstr⟩ := hE.2.2.1
    subst hQ
    exact vx_throwS (A := No) (names := ["java/lang/RuntimeException", "java/lang/Exception"]) hx hb hst hown (by decide +kernel) (by decide +kernel) (hts (.classLink RX1 141 "java/lang/IllegalArgumentException") (by decide +kernel)) (hts (.initialized "java/lang/IllegalArgumentException") (by decide +kernel)) hstr (nong hX atA_ng (fun w9 hw9 => hts w9 (by first | exact List.mem_cons_of_mem _ (List.mem_append_right _ hw9) | exact List.mem_cons_of_mem _ (List.mem_append_left _ (List.mem_append_right _ hw9)) | exact List.mem_cons_of_mem _ (List.mem_append_left _ (List.mem_append_left _ (List.mem_append_right _ hw9))) | exact List.mem_cons_of_mem _ (List.mem_append_left _ (List.mem_append_left _ (List.mem_append_left _ (List.mem_append_right _ hw9))))))) goA hZ.1 hZ.2 hS (hl.1.trans hml.symm) dX1_checkBuilding_10 dX1_checkBuilding_13 dX1_checkBuilding_14 dX1_checkBuilding_16 dX1_checkBuilding_19 (fun x9 hx9 => (htb x9 hx9).elim) (by decide) (Nat.le_of_ble_eq_true rfl) (Nat.le_of_ble_eq_true rfl) (Nat.le_of_ble_eq_true rfl) hlocks (fun t9 ht9 hz9 hk9 => ⟨(), trivial, rfl, Nat.le_trans hS.1 hz9, fun q9 hq9 hn9 => (hk9 q9 (Nat.lt_of_lt_of_le hq9 hS.1)).trans (hS.2.1 q9 hq9 hn9)⟩) hS.2.2 (Nat.le_of_ble_eq_true rfl) (Nat.le_of_ble_eq_true rfl)
  · skip
    refine lv_iload_n hx hb dX1_checkBuilding_5 rfl (lv_at hl 0 rfl) ?_
    refine lv_iconst (v := 5) hx hb dX1_checkBuilding_6 (by decide) ?_
    refine lv_icmp_le (tgt := 20) hx hb dX1_checkBuilding_7 (by decide) (fun c => absurd c (inB_n hin (Int32.not_lt.mp c1))) (fun _ => ?_)
    obtain ⟨sa, hstr⟩ := hE.2.2.1
    subst hQ
    exact vx_throwS (A := No) (names := ["java/lang/RuntimeException", "java/lang/Exception"]) hx hb hst hown (by decide +kernel) (by decide +kernel) (hts (.classLink RX1 141 "java/lang/IllegalArgumentException") (by decide +kernel)) (hts (.initialized "java/lang/IllegalArgumentException") (by decide +kernel)) hstr (nong hX atA_ng (fun w9 hw9 => hts w9 (by first | exact List.mem_cons_of_mem _ (List.mem_append_right _ hw9) | exact List.mem_cons_of_mem _ (List.mem_append_left _ (List.mem_append_right _ hw9)) | exact List.mem_cons_of_mem _ (List.mem_append_left _ (List.mem_append_left _ (List.mem_append_right _ hw9))) | exact List.mem_cons_of_mem _ (List.mem_append_left _ (List.mem_append_left _ (List.mem_append_left _ (List.mem_append_right _ hw9))))))) goA hZ.1 hZ.2 hS (hl.1.trans hml.symm) dX1_checkBuilding_10 dX1_checkBuilding_13 dX1_checkBuilding_14 dX1_checkBuilding_16 dX1_checkBuilding_19 (fun x9 hx9 => (htb x9 hx9).elim) (by decide) (Nat.le_of_ble_eq_true rfl) (Nat.le_of_ble_eq_true rfl) (Nat.le_of_ble_eq_true rfl) hlocks (fun t9 ht9 hz9 hk9 => ⟨(), trivial, rfl, Nat.le_trans hS.1 hz9, fun q9 hq9 hn9 => (hk9 q9 (Nat.lt_of_lt_of_le hq9 hS.1)).trans (hS.2.1 q9 hq9 hn9)⟩) hS.2.2 (Nat.le_of_ble_eq_true rfl) (Nat.le_of_ble_eq_true rfl)

def rmX1_checkMonths_no : Room := { frames := 6, cells := 1, slots := 6, locals := 90 }
set_option maxHeartbeats 4000000 in
set_option maxRecDepth 100000 in
theorem c_X1_checkMonths_no (l : Launch) (G : va_G) (cI : ClassId) (hst : l.stackTraces = false) (x : Int32) (hin : inB 1 60 x = false) : vx_Met l yX1_checkMonths wsX1_checkMonths rmX1_checkMonths_no (va_Pc [.int x] (XrP G cI [])) (va_Qv (fun (_ : Unit) => False) (fun _ _ => True) No) (vx_X (fun _ : Unit => True) (fun E _ _ => E = "java/lang/IllegalArgumentException") No) 1 6 No := by
  refine vx_ofW (cc := cX1_checkMonths) (maxL := 1) (ret := none) (by decide) rfl ?_
  intro p e s m args below meth c s₁ B hml htb hv
  obtain ⟨rfl, ⟨hP, hK, hN⟩, hE, hX, hZ⟩ := hv
  have hx := B.exec
  have hb := B.bytes
  have hr := B.returns
  have hlocks := B.notSynchronized
  have hts := atoms_spec (ws := wsX1_checkMonths) B.pre
  have hown : s.vm.findClass RX1 = some m.cls := findClass_of_methodNamed B.named
  have hS : va_S No s.heap s.heap [] := va_S.rf
  have FX : CallFix p m c cX1_checkMonths 1 s ([.int x] : List Value).toArray wsX1_checkMonths RX1 := ⟨hx, hb, hml, hown, hts⟩
  have hl := lv_entry ([.int x]) (n := 1) (Nat.le_of_ble_eq_true rfl)
  rw [lg_entry_eq]
  generalize (lg_sl ([.int x]) ++ List.replicate (1 - (lg_sl ([.int x])).length) Slot.unset).toArray = ls at hl ⊢
  have hl : lv_has ls 1 [(0, .int x)] := hl
  refine wq (fun Q hQ => ?_)
  have hzc : 0 + 0 ≤ (headSpec wsX1_checkMonths rmX1_checkMonths_no).room.cells := Nat.zero_le _
  have hzs : 0 + 0 ≤ (headSpec wsX1_checkMonths rmX1_checkMonths_no).room.slots := Nat.zero_le _
  refine lv_iload_n hx hb dX1_checkMonths_0 rfl (lv_at hl 0 rfl) ?_
  refine lv_iconst (v := 1) hx hb dX1_checkMonths_1 (by decide) ?_
  refine lv_icmp_lt (tgt := 11) hx hb dX1_checkMonths_2 (by decide) (fun c1 => ?_) (fun c1 => ?_)
  · skip
    obtain ⟨sa, hstr⟩ := hE.2.2.2.1
    subst hQ
    exact vx_throwS (A := No) (names := ["java/lang/RuntimeException", "java/lang/Exception"]) hx hb hst hown (by decide +kernel) (by decide +kernel) (hts (.classLink RX1 141 "java/lang/IllegalArgumentException") (by decide +kernel)) (hts (.initialized "java/lang/IllegalArgumentException") (by decide +kernel)) hstr (nong hX atA_ng (fun w9 hw9 => hts w9 (by first | exact List.mem_cons_of_mem _ (List.mem_append_right _ hw9) | exact List.mem_cons_of_mem _ (List.mem_append_left _ (List.mem_append_right _ hw9)) | exact List.mem_cons_of_mem _ (List.mem_append_left _ (List.mem_append_left _ (List.mem_append_right _ hw9))) | exact List.mem_cons_of_mem _ (List.mem_append_left _ (List.mem_append_left _ (List.mem_append_left _ (List.mem_append_right _ hw9))))))) goA hZ.1 hZ.2 hS (hl.1.trans hml.symm) dX1_checkMonths_11 dX1_checkMonths_14 dX1_checkMonths_15 dX1_checkMonths_17 dX1_checkMonths_20 (fun x9 hx9 => (htb x9 hx9).elim) (by decide) (Nat.le_of_ble_eq_true rfl) (Nat.le_of_ble_eq_true rfl) (Nat.le_of_ble_eq_true rfl) hlocks (fun t9 ht9 hz9 hk9 => ⟨(), trivial, rfl, Nat.le_trans hS.1 hz9, fun q9 hq9 hn9 => (hk9 q9 (Nat.lt_of_lt_of_le hq9 hS.1)).trans (hS.2.1 q9 hq9 hn9)⟩) hS.2.2 (Nat.le_of_ble_eq_true rfl) (Nat.le_of_ble_eq_true rfl)
  · skip
    refine lv_iload_n hx hb dX1_checkMonths_5 rfl (lv_at hl 0 rfl) ?_
    refine lv_bipush (v := 60) hx hb dX1_checkMonths_6 (by decide) ?_
    refine lv_icmp_le (tgt := 21) hx hb dX1_checkMonths_8 (by decide) (fun c => absurd c (inB_n hin (Int32.not_lt.mp c1))) (fun _ => ?_)
    obtain ⟨sa, hstr⟩ := hE.2.2.2.1
    subst hQ
    exact vx_throwS (A := No) (names := ["java/lang/RuntimeException", "java/lang/Exception"]) hx hb hst hown (by decide +kernel) (by decide +kernel) (hts (.classLink RX1 141 "java/lang/IllegalArgumentException") (by decide +kernel)) (hts (.initialized "java/lang/IllegalArgumentException") (by decide +kernel)) hstr (nong hX atA_ng (fun w9 hw9 => hts w9 (by first | exact List.mem_cons_of_mem _ (List.mem_append_right _ hw9) | exact List.mem_cons_of_mem _ (List.mem_append_left _ (List.mem_append_right _ hw9)) | exact List.mem_cons_of_mem _ (List.mem_append_left _ (List.mem_append_left _ (List.mem_append_right _ hw9))) | exact List.mem_cons_of_mem _ (List.mem_append_left _ (List.mem_append_left _ (List.mem_append_left _ (List.mem_append_right _ hw9))))))) goA hZ.1 hZ.2 hS (hl.1.trans hml.symm) dX1_checkMonths_11 dX1_checkMonths_14 dX1_checkMonths_15 dX1_checkMonths_17 dX1_checkMonths_20 (fun x9 hx9 => (htb x9 hx9).elim) (by decide) (Nat.le_of_ble_eq_true rfl) (Nat.le_of_ble_eq_true rfl) (Nat.le_of_ble_eq_true rfl) hlocks (fun t9 ht9 hz9 hk9 => ⟨(), trivial, rfl, Nat.le_trans hS.1 hz9, fun q9 hq9 hn9 => (hk9 q9 (Nat.lt_of_lt_of_le hq9 hS.1)).trans (hS.2.1 q9 hq9 hn9)⟩) hS.2.2 (Nat.le_of_ble_eq_true rfl) (Nat.le_of_ble_eq_true rfl)

def rmX1_checkDrained_no : Room := { frames := 6, cells := 1, slots := 6, locals := 90 }
set_option maxHeartbeats 4000000 in
set_option maxRecDepth 100000 in
theorem c_X1_checkDrained_no (l : Launch) (G : va_G) (cI : ClassId) (hst : l.stackTraces = false) (h : Nat) (a t : Nat → Nat) (mo co le : Int32) (K Qa La Ha Ma Ba Ca Da Fa Wa k : Nat → Int32) (pt : Nat) (hk : eqK K k) (hpt : pt < 64) (h2 : ¬ k pt = 2) : vx_Met l yX1_checkDrained wsX1_checkDrained rmX1_checkDrained_no (va_Pc [.ref h, .int (nI pt)] (XrP G cI [(h, oX a t), ((a 0), oC a mo co le), ((a 3), iA cI K), ((a 4), iA cI Qa), ((a 5), iA cI La), ((a 6), iA cI Ha), ((a 7), iA cI Ma), ((a 8), iA cI Ba), ((a 9), iA cI Ca), ((a 10), iA cI Da), ((a 11), iA cI Fa), ((a 12), iA cI Wa)])) (va_Qv (fun (_ : Unit) => False) (fun _ _ => True) No) (vx_X (fun _ : Unit => True) (fun E _ _ => E = "java/lang/IllegalStateException") No) 1 6 No := by
  refine vx_ofW (cc := cX1_checkDrained) (maxL := 2) (ret := none) (by decide) rfl ?_
  intro p e s m args below meth c s₁ B hml htb hv
  obtain ⟨rfl, ⟨hP, hK, hN⟩, hE, hX, hZ⟩ := hv
  have hx := B.exec
  have hb := B.bytes
  have hr := B.returns
  have hlocks := B.notSynchronized
  have hts := atoms_spec (ws := wsX1_checkDrained) B.pre
  have hown : s.vm.findClass RX1 = some m.cls := findClass_of_methodNamed B.named
  have hS : va_S No s.heap s.heap [] := va_S.rf
  have FX : CallFix p m c cX1_checkDrained 2 s ([.ref h, .int (nI pt)] : List Value).toArray wsX1_checkDrained RX1 := ⟨hx, hb, hml, hown, hts⟩
  have hl := lv_entry ([.ref h, .int (nI pt)]) (n := 2) (Nat.le_of_ble_eq_true rfl)
  rw [lg_entry_eq]
  generalize (lg_sl ([.ref h, .int (nI pt)]) ++ List.replicate (2 - (lg_sl ([.ref h, .int (nI pt)])).length) Slot.unset).toArray = ls at hl ⊢
  have hl : lv_has ls 2 [(0, .ref h), (1, .int (nI pt))] := hl
  refine wq (fun Q hQ => ?_)
  have hzc : 0 + 0 ≤ (headSpec wsX1_checkDrained rmX1_checkDrained_no).room.cells := Nat.zero_le _
  have hzs : 0 + 0 ≤ (headSpec wsX1_checkDrained rmX1_checkDrained_no).room.slots := Nat.zero_le _
  have hf10 := hts (.fieldLink RX1 10 "CanalCity" "now" "LCanalCity$City;") (by decide +kernel)
  have hinX0 : ∀ w ∈ u_ws RX0 TX0 13, w ∈ wsX1_checkDrained := by decide +kernel
  have hinX1 : ∀ w ∈ u_ws RX1 TX1 2, w ∈ wsX1_checkDrained := by decide +kernel
  refine lv_aload_n hx hb dX1_checkDrained_0 rfl (lv_at hl 0 rfl) ?_
  refine va_get (D := G) (ci := 1) (v := .ref (a 0)) (C := RX1) (T := TX1) (N := 2) hx hb hts hinX1 hown hK hP 0 rfl rfl 0 (by decide) hf10 (fun _ h9 => h9) rfl dX1_checkDrained_1 ?_
  refine va_getN (host := "CanalCity") (D := G) (ci := 0) (v := .ref (a 3)) (C := RX0) (T := TX0) (N := 13) hx hb hts hinX0 hown hK hP 1 rfl rfl 3 (by decide) (va_Nw.use rfl (NW_at hN 1 rfl)) (fun _ h9 => h9) rfl dX1_checkDrained_4 ?_
  refine lv_iload_n hx hb dX1_checkDrained_7 rfl (lv_at hl 1 rfl) ?_
  refine va_iald hx hb hK hP 2 0 rfl rfl (vp_in_nI hpt (by decide)) dX1_checkDrained_8 ?_
  refine tpi (x' := K pt) (congrArg K (nI_clamp (by omega))) ?_
  refine tpi (x' := k pt) (hk pt hpt) ?_
  refine lv_iconst (v := 2) hx hb dX1_checkDrained_9 (by decide) ?_
  refine lv_icmp_eq (tgt := 23) hx hb dX1_checkDrained_10 (by decide) (fun c => absurd c (h2)) (fun _ => ?_)
  obtain ⟨sa, hstr⟩ := hE.2.2.2.2.1
  subst hQ
  exact vx_throwS (A := No) (names := ["java/lang/RuntimeException", "java/lang/Exception"]) hx hb hst hown (by decide +kernel) (by decide +kernel) (hts (.classLink RX1 27 "java/lang/IllegalStateException") (by decide +kernel)) (hts (.initialized "java/lang/IllegalStateException") (by decide +kernel)) hstr (nong hX atS_ng (fun w9 hw9 => hts w9 (by first | exact List.mem_cons_of_mem _ (List.mem_append_right _ hw9) | exact List.mem_cons_of_mem _ (List.mem_append_left _ (List.mem_append_right _ hw9)) | exact List.mem_cons_of_mem _ (List.mem_append_left _ (List.mem_append_left _ (List.mem_append_right _ hw9))) | exact List.mem_cons_of_mem _ (List.mem_append_left _ (List.mem_append_left _ (List.mem_append_left _ (List.mem_append_right _ hw9))))))) goS hZ.1 hZ.2 hS (hl.1.trans hml.symm) dX1_checkDrained_13 dX1_checkDrained_16 dX1_checkDrained_17 dX1_checkDrained_19 dX1_checkDrained_22 (fun x9 hx9 => (htb x9 hx9).elim) (by decide) (Nat.le_of_ble_eq_true rfl) (Nat.le_of_ble_eq_true rfl) (Nat.le_of_ble_eq_true rfl) hlocks (fun t9 ht9 hz9 hk9 => ⟨(), trivial, rfl, Nat.le_trans hS.1 hz9, fun q9 hq9 hn9 => (hk9 q9 (Nat.lt_of_lt_of_le hq9 hS.1)).trans (hS.2.1 q9 hq9 hn9)⟩) hS.2.2 (Nat.le_of_ble_eq_true rfl) (Nat.le_of_ble_eq_true rfl)

def rmX1_checkCoins_no : Room := { frames := 6, cells := 1, slots := 6, locals := 90 }
set_option maxHeartbeats 4000000 in
set_option maxRecDepth 100000 in
theorem c_X1_checkCoins_no (l : Launch) (G : va_G) (cI : ClassId) (hst : l.stackTraces = false) (h : Nat) (a t : Nat → Nat) (mo co le : Int32) (K Qa La Ha Ma Ba Ca Da Fa Wa k : Nat → Int32) (cs : Int32) (hcs : ¬ cs ≤ co) : vx_Met l yX1_checkCoins wsX1_checkCoins rmX1_checkCoins_no (va_Pc [.ref h, .int cs] (XrP G cI [(h, oX a t), ((a 0), oC a mo co le), ((a 3), iA cI K), ((a 4), iA cI Qa), ((a 5), iA cI La), ((a 6), iA cI Ha), ((a 7), iA cI Ma), ((a 8), iA cI Ba), ((a 9), iA cI Ca), ((a 10), iA cI Da), ((a 11), iA cI Fa), ((a 12), iA cI Wa)])) (va_Qv (fun (_ : Unit) => False) (fun _ _ => True) No) (vx_X (fun _ : Unit => True) (fun E _ _ => E = "java/lang/IllegalStateException") No) 1 6 No := by
  refine vx_ofW (cc := cX1_checkCoins) (maxL := 2) (ret := none) (by decide) rfl ?_
  intro p e s m args below meth c s₁ B hml htb hv
  obtain ⟨rfl, ⟨hP, hK, hN⟩, hE, hX, hZ⟩ := hv
  have hx := B.exec
  have hb := B.bytes
  have hr := B.returns
  have hlocks := B.notSynchronized
  have hts := atoms_spec (ws := wsX1_checkCoins) B.pre
  have hown : s.vm.findClass RX1 = some m.cls := findClass_of_methodNamed B.named
  have hS : va_S No s.heap s.heap [] := va_S.rf
  have FX : CallFix p m c cX1_checkCoins 2 s ([.ref h, .int cs] : List Value).toArray wsX1_checkCoins RX1 := ⟨hx, hb, hml, hown, hts⟩
  have hl := lv_entry ([.ref h, .int cs]) (n := 2) (Nat.le_of_ble_eq_true rfl)
  rw [lg_entry_eq]
  generalize (lg_sl ([.ref h, .int cs]) ++ List.replicate (2 - (lg_sl ([.ref h, .int cs])).length) Slot.unset).toArray = ls at hl ⊢
  have hl : lv_has ls 2 [(0, .ref h), (1, .int cs)] := hl
  refine wq (fun Q hQ => ?_)
  have hzc : 0 + 0 ≤ (headSpec wsX1_checkCoins rmX1_checkCoins_no).room.cells := Nat.zero_le _
  have hzs : 0 + 0 ≤ (headSpec wsX1_checkCoins rmX1_checkCoins_no).room.slots := Nat.zero_le _
  have hf10 := hts (.fieldLink RX1 10 "CanalCity" "now" "LCanalCity$City;") (by decide +kernel)
  have hinX0 : ∀ w ∈ u_ws RX0 TX0 13, w ∈ wsX1_checkCoins := by decide +kernel
  have hinX1 : ∀ w ∈ u_ws RX1 TX1 2, w ∈ wsX1_checkCoins := by decide +kernel
  refine lv_aload_n hx hb dX1_checkCoins_0 rfl (lv_at hl 0 rfl) ?_
  refine va_get (D := G) (ci := 1) (v := .ref (a 0)) (C := RX1) (T := TX1) (N := 2) hx hb hts hinX1 hown hK hP 0 rfl rfl 0 (by decide) hf10 (fun _ h9 => h9) rfl dX1_checkCoins_1 ?_
  refine va_getN (host := "CanalCity") (D := G) (ci := 0) (v := .int co) (C := RX0) (T := TX0) (N := 13) hx hb hts hinX0 hown hK hP 1 rfl rfl 1 (by decide) (va_Nw.use rfl (NW_at hN 0 rfl)) (fun _ h9 => h9) rfl dX1_checkCoins_4 ?_
  refine lv_iload_n hx hb dX1_checkCoins_7 rfl (lv_at hl 1 rfl) ?_
  refine lv_icmp_ge (tgt := 21) hx hb dX1_checkCoins_8 (by decide) (fun c => absurd c (hcs)) (fun _ => ?_)
  obtain ⟨sa, hstr⟩ := hE.2.2.2.2.2.1
  subst hQ
  exact vx_throwS (A := No) (names := ["java/lang/RuntimeException", "java/lang/Exception"]) hx hb hst hown (by decide +kernel) (by decide +kernel) (hts (.classLink RX1 27 "java/lang/IllegalStateException") (by decide +kernel)) (hts (.initialized "java/lang/IllegalStateException") (by decide +kernel)) hstr (nong hX atS_ng (fun w9 hw9 => hts w9 (by first | exact List.mem_cons_of_mem _ (List.mem_append_right _ hw9) | exact List.mem_cons_of_mem _ (List.mem_append_left _ (List.mem_append_right _ hw9)) | exact List.mem_cons_of_mem _ (List.mem_append_left _ (List.mem_append_left _ (List.mem_append_right _ hw9))) | exact List.mem_cons_of_mem _ (List.mem_append_left _ (List.mem_append_left _ (List.mem_append_left _ (List.mem_append_right _ hw9))))))) goS hZ.1 hZ.2 hS (hl.1.trans hml.symm) dX1_checkCoins_11 dX1_checkCoins_14 dX1_checkCoins_15 dX1_checkCoins_17 dX1_checkCoins_20 (fun x9 hx9 => (htb x9 hx9).elim) (by decide) (Nat.le_of_ble_eq_true rfl) (Nat.le_of_ble_eq_true rfl) (Nat.le_of_ble_eq_true rfl) hlocks (fun t9 ht9 hz9 hk9 => ⟨(), trivial, rfl, Nat.le_trans hS.1 hz9, fun q9 hq9 hn9 => (hk9 q9 (Nat.lt_of_lt_of_le hq9 hS.1)).trans (hS.2.1 q9 hq9 hn9)⟩) hS.2.2 (Nat.le_of_ble_eq_true rfl) (Nat.le_of_ble_eq_true rfl)

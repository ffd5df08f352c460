def rmX2_isIn : Room := { frames := 0, cells := 0, slots := 0, locals := 0 }
set_option maxHeartbeats 4000000 in
set_option maxRecDepth 100000 in
/-- between -/
theorem c_X2_isIn (l : Launch) (x lo hi : Int32)  : Met l yX2_isIn wsX2_isIn rmX2_isIn (va_Pc [.int x, .int lo, .int hi] (fun _ => True)) (RdQ (b2i (inB lo hi x))) 0 0 No := by
  refine Met.ofW (cc := cX2_isIn) (maxL := 3) (ret := (some .boolean)) (by decide) rfl ?_
  intro p e s m args below meth c s₁ B hml hv
  obtain ⟨rfl, -⟩ := hv
  have hx := B.exec
  have hb := B.bytes
  have hr := B.returns
  have hlocks := B.notSynchronized
  have hts := atoms_spec (ws := wsX2_isIn) B.pre
  have hown : s.vm.findClass RX2 = some m.cls := findClass_of_methodNamed B.named
  have hS : va_S No s.heap s.heap [] := va_S.rf
  have FX : CallFix p m c cX2_isIn 3 s ([.int x, .int lo, .int hi] : List Value).toArray wsX2_isIn RX2 := ⟨hx, hb, hml, hown, hts⟩
  have hl := lv_entry ([.int x, .int lo, .int hi]) (n := 3) (Nat.le_of_ble_eq_true rfl)
  rw [lg_entry_eq]
  generalize (lg_sl ([.int x, .int lo, .int hi]) ++ List.replicate (3 - (lg_sl ([.int x, .int lo, .int hi])).length) Slot.unset).toArray = ls at hl ⊢
  have hl : lv_has ls 3 [(0, .int x), (1, .int lo), (2, .int hi)] := hl
  refine wq (fun Q hQ => ?_)
  have hzc : 0 + 0 ≤ (headSpec wsX2_isIn rmX2_isIn).room.cells := Nat.zero_le _
  have hzs : 0 + 0 ≤ (headSpec wsX2_isIn rmX2_isIn).room.slots := Nat.zero_le _
  refine lv_iload_n hx hb dX2_isIn_0 rfl (lv_at hl 0 rfl) ?_
  refine lv_iload_n hx hb dX2_isIn_1 rfl (lv_at hl 1 rfl) ?_
  refine lv_icmp_lt (tgt := 14) hx hb dX2_isIn_2 (by decide) (fun c1 => ?_) (fun c1 => ?_)
  · skip
    refine lv_iconst (v := 0) hx hb dX2_isIn_14 (by decide) ?_
    subst hQ
    exact rd_z (by unfold inB; rw [show decide (lo ≤ x) = false from decide_eq_false (Int32.not_le.mpr c1)]; rfl) hx hb hr (b2i_nar _) hS hlocks dX2_isIn_15
  · skip
    refine lv_iload_n hx hb dX2_isIn_5 rfl (lv_at hl 0 rfl) ?_
    refine lv_iload_n hx hb dX2_isIn_6 rfl (lv_at hl 2 rfl) ?_
    refine lv_icmp_gt (tgt := 14) hx hb dX2_isIn_7 (by decide) (fun c2 => ?_) (fun c2 => ?_)
    · skip
      refine lv_iconst (v := 0) hx hb dX2_isIn_14 (by decide) ?_
      subst hQ
      exact rd_z (by unfold inB; rw [show decide (x ≤ hi) = false from decide_eq_false (Int32.not_le.mpr c2), Bool.and_false]; rfl) hx hb hr (b2i_nar _) hS hlocks dX2_isIn_15
    · skip
      refine lv_iconst (v := 1) hx hb dX2_isIn_10 (by decide) ?_
      refine lv_goto (tgt := 15) hx hb dX2_isIn_11 (by decide) ?_
      subst hQ
      exact rd_z (by unfold inB; rw [show decide (x ≤ hi) = true from decide_eq_true (Int32.not_lt.mp c2), show decide (lo ≤ x) = true from decide_eq_true (Int32.not_lt.mp c1)]; rfl) hx hb hr (b2i_nar _) hS hlocks dX2_isIn_15

def rmX2_isPlace : Room := { frames := 1, cells := 0, slots := 0, locals := 22 }
set_option maxHeartbeats 4000000 in
set_option maxRecDepth 100000 in
/-- a place -/
theorem c_X2_isPlace (l : Launch) (x y : Int32)  : Met l yX2_isPlace wsX2_isPlace rmX2_isPlace (va_Pc [.int x, .int y] (fun _ => True)) (RdQ (b2i (inB 0 7 x && inB 0 7 y))) 0 0 No := by
  refine Met.ofW (cc := cX2_isPlace) (maxL := 2) (ret := (some .boolean)) (by decide) rfl ?_
  intro p e s m args below meth c s₁ B hml hv
  obtain ⟨rfl, -⟩ := hv
  have hx := B.exec
  have hb := B.bytes
  have hr := B.returns
  have hlocks := B.notSynchronized
  have hts := atoms_spec (ws := wsX2_isPlace) B.pre
  have hown : s.vm.findClass RX2 = some m.cls := findClass_of_methodNamed B.named
  have hS : va_S No s.heap s.heap [] := va_S.rf
  have FX : CallFix p m c cX2_isPlace 2 s ([.int x, .int y] : List Value).toArray wsX2_isPlace RX2 := ⟨hx, hb, hml, hown, hts⟩
  have hl := lv_entry ([.int x, .int y]) (n := 2) (Nat.le_of_ble_eq_true rfl)
  rw [lg_entry_eq]
  generalize (lg_sl ([.int x, .int y]) ++ List.replicate (2 - (lg_sl ([.int x, .int y])).length) Slot.unset).toArray = ls at hl ⊢
  have hl : lv_has ls 2 [(0, .int x), (1, .int y)] := hl
  refine wq (fun Q hQ => ?_)
  have hzc : 0 + 0 ≤ (headSpec wsX2_isPlace rmX2_isPlace).room.cells := Nat.zero_le _
  have hzs : 0 + 0 ≤ (headSpec wsX2_isPlace rmX2_isPlace).room.slots := Nat.zero_le _
  refine lv_iload_n hx hb dX2_isPlace_0 rfl (lv_at hl 0 rfl) ?_
  refine lv_iconst (v := 0) hx hb dX2_isPlace_1 (by decide) ?_
  refine lv_bipush (v := 7) hx hb dX2_isPlace_2 (by decide) ?_
  refine cr_p (va_runS (As := [.int x, .int 0, .int 7]) (rest := []) FX (c_X2_isIn l x 0 7) (va_cwS 3 hts gX2_isPlace_X2_isIn rfl rfl rfl (by decide +kernel) ⟨Nat.le_of_ble_eq_true rfl, Nat.le_of_ble_eq_true rfl⟩) puS rfl rfl hl.1 rfl (lv_room (Nat.le_of_ble_eq_true rfl)) dX2_isPlace_4 ⟨hzc, hzs⟩) hS (fun H locs hS => ?_)
  rcases hx9 : inB 0 7 x with _ | _
  · skip
    refine tpi (x' := 0) (rfl) ?_
    refine lv_if_eq (tgt := 24) hx hb dX2_isPlace_7 (by decide) (fun _ => ?_) (fun c => absurd (rfl) c)
    refine lv_iconst (v := 0) hx hb dX2_isPlace_24 (by decide) ?_
    subst hQ
    exact rd_z (by rw [hx9]; rfl) hx hb hr (b2i_nar _) hS hlocks dX2_isPlace_25
  · skip
    refine tpi (x' := 1) (rfl) ?_
    refine lv_if_eq (tgt := 24) hx hb dX2_isPlace_7 (by decide) (fun c => absurd c (by decide)) (fun _ => ?_)
    refine lv_iload_n hx hb dX2_isPlace_10 rfl (lv_at hl 1 rfl) ?_
    refine lv_iconst (v := 0) hx hb dX2_isPlace_11 (by decide) ?_
    refine lv_bipush (v := 7) hx hb dX2_isPlace_12 (by decide) ?_
    refine cr_p (va_runS (As := [.int y, .int 0, .int 7]) (rest := []) FX (c_X2_isIn l y 0 7) (va_cwS 3 hts gX2_isPlace_X2_isIn rfl rfl rfl (by decide +kernel) ⟨Nat.le_of_ble_eq_true rfl, Nat.le_of_ble_eq_true rfl⟩) puS rfl rfl hl.1 rfl (lv_room (Nat.le_of_ble_eq_true rfl)) dX2_isPlace_14 ⟨hzc, hzs⟩) hS (fun H locs hS => ?_)
    rcases hy9 : inB 0 7 y with _ | _
    · skip
      refine tpi (x' := 0) (rfl) ?_
      refine lv_if_eq (tgt := 24) hx hb dX2_isPlace_17 (by decide) (fun _ => ?_) (fun c => absurd (rfl) c)
      refine lv_iconst (v := 0) hx hb dX2_isPlace_24 (by decide) ?_
      subst hQ
      exact rd_z (by rw [hx9, hy9]; rfl) hx hb hr (b2i_nar _) hS hlocks dX2_isPlace_25
    · skip
      refine tpi (x' := 1) (rfl) ?_
      refine lv_if_eq (tgt := 24) hx hb dX2_isPlace_17 (by decide) (fun c => absurd c (by decide)) (fun _ => ?_)
      refine lv_iconst (v := 1) hx hb dX2_isPlace_20 (by decide) ?_
      refine lv_goto (tgt := 25) hx hb dX2_isPlace_21 (by decide) ?_
      subst hQ
      exact rd_z (by rw [hx9, hy9]; rfl) hx hb hr (b2i_nar _) hS hlocks dX2_isPlace_25

def rmX2_isLand : Room := { frames := 0, cells := 0, slots := 0, locals := 0 }
set_option maxHeartbeats 4000000 in
set_option maxRecDepth 100000 in
/-- land -/
theorem c_X2_isLand (l : Launch) (x : Int32)  : Met l yX2_isLand wsX2_isLand rmX2_isLand (va_Pc [.int x] (fun _ => True)) (RdQ (b2i (decide (2 ≤ x)))) 0 0 No := by
  refine Met.ofW (cc := cX2_isLand) (maxL := 1) (ret := (some .boolean)) (by decide) rfl ?_
  intro p e s m args below meth c s₁ B hml hv
  obtain ⟨rfl, -⟩ := hv
  have hx := B.exec
  have hb := B.bytes
  have hr := B.returns
  have hlocks := B.notSynchronized
  have hts := atoms_spec (ws := wsX2_isLand) B.pre
  have hown : s.vm.findClass RX2 = some m.cls := findClass_of_methodNamed B.named
  have hS : va_S No s.heap s.heap [] := va_S.rf
  have FX : CallFix p m c cX2_isLand 1 s ([.int x] : List Value).toArray wsX2_isLand RX2 := ⟨hx, hb, hml, hown, hts⟩
  have hl := lv_entry ([.int x]) (n := 1) (Nat.le_of_ble_eq_true rfl)
  rw [lg_entry_eq]
  generalize (lg_sl ([.int x]) ++ List.replicate (1 - (lg_sl ([.int x])).length) Slot.unset).toArray = ls at hl ⊢
  have hl : lv_has ls 1 [(0, .int x)] := hl
  refine wq (fun Q hQ => ?_)
  have hzc : 0 + 0 ≤ (headSpec wsX2_isLand rmX2_isLand).room.cells := Nat.zero_le _
  have hzs : 0 + 0 ≤ (headSpec wsX2_isLand rmX2_isLand).room.slots := Nat.zero_le _
  refine lv_iload_n hx hb dX2_isLand_0 rfl (lv_at hl 0 rfl) ?_
  refine lv_iconst (v := 2) hx hb dX2_isLand_1 (by decide) ?_
  refine lv_icmp_lt (tgt := 9) hx hb dX2_isLand_2 (by decide) (fun c1 => ?_) (fun c1 => ?_)
  · skip
    refine lv_iconst (v := 0) hx hb dX2_isLand_9 (by decide) ?_
    subst hQ
    exact rd_z (by rw [decide_eq_false (Int32.not_le.mpr c1)]; rfl) hx hb hr (b2i_nar _) hS hlocks dX2_isLand_10
  · skip
    refine lv_iconst (v := 1) hx hb dX2_isLand_5 (by decide) ?_
    refine lv_goto (tgt := 10) hx hb dX2_isLand_6 (by decide) ?_
    subst hQ
    exact rd_z (by rw [decide_eq_true (Int32.not_lt.mp c1)]; rfl) hx hb hr (b2i_nar _) hS hlocks dX2_isLand_10

def rmX2_isWater : Room := { frames := 0, cells := 0, slots := 0, locals := 0 }
set_option maxHeartbeats 4000000 in
set_option maxRecDepth 100000 in
/-- water -/
theorem c_X2_isWater (l : Launch) (x : Int32)  : Met l yX2_isWater wsX2_isWater rmX2_isWater (va_Pc [.int x] (fun _ => True)) (RdQ (b2i (wtr x))) 0 0 No := by
  refine Met.ofW (cc := cX2_isWater) (maxL := 1) (ret := (some .boolean)) (by decide) rfl ?_
  intro p e s m args below meth c s₁ B hml hv
  obtain ⟨rfl, -⟩ := hv
  have hx := B.exec
  have hb := B.bytes
  have hr := B.returns
  have hlocks := B.notSynchronized
  have hts := atoms_spec (ws := wsX2_isWater) B.pre
  have hown : s.vm.findClass RX2 = some m.cls := findClass_of_methodNamed B.named
  have hS : va_S No s.heap s.heap [] := va_S.rf
  have FX : CallFix p m c cX2_isWater 1 s ([.int x] : List Value).toArray wsX2_isWater RX2 := ⟨hx, hb, hml, hown, hts⟩
  have hl := lv_entry ([.int x]) (n := 1) (Nat.le_of_ble_eq_true rfl)
  rw [lg_entry_eq]
  generalize (lg_sl ([.int x]) ++ List.replicate (1 - (lg_sl ([.int x])).length) Slot.unset).toArray = ls at hl ⊢
  have hl : lv_has ls 1 [(0, .int x)] := hl
  refine wq (fun Q hQ => ?_)
  have hzc : 0 + 0 ≤ (headSpec wsX2_isWater rmX2_isWater).room.cells := Nat.zero_le _
  have hzs : 0 + 0 ≤ (headSpec wsX2_isWater rmX2_isWater).room.slots := Nat.zero_le _
  refine lv_iload_n hx hb dX2_isWater_0 rfl (lv_at hl 0 rfl) ?_
  refine lv_iconst (v := 1) hx hb dX2_isWater_1 (by decide) ?_
  refine lv_icmp_eq (tgt := 11) hx hb dX2_isWater_2 (by decide) (fun c1 => ?_) (fun c1 => ?_)
  · skip
    refine lv_iconst (v := 1) hx hb dX2_isWater_11 (by decide) ?_
    refine lv_goto (tgt := 16) hx hb dX2_isWater_12 (by decide) ?_
    subst hQ
    exact rd_z (by unfold wtr; rw [show decide (x = 1) = true from decide_eq_true c1]; rfl) hx hb hr (b2i_nar _) hS hlocks dX2_isWater_16
  · skip
    refine lv_iload_n hx hb dX2_isWater_5 rfl (lv_at hl 0 rfl) ?_
    refine lv_bipush (v := 6) hx hb dX2_isWater_6 (by decide) ?_
    refine lv_icmp_ne (tgt := 15) hx hb dX2_isWater_8 (by decide) (fun c2 => ?_) (fun c2 => ?_)
    · skip
      refine lv_iconst (v := 0) hx hb dX2_isWater_15 (by decide) ?_
      subst hQ
      exact rd_z (by unfold wtr; rw [show decide (x = 6) = false from decide_eq_false c2, show decide (x = 1) = false from decide_eq_false c1]; rfl) hx hb hr (b2i_nar _) hS hlocks dX2_isWater_16
    · skip
      refine lv_iconst (v := 1) hx hb dX2_isWater_11 (by decide) ?_
      refine lv_goto (tgt := 16) hx hb dX2_isWater_12 (by decide) ?_
      subst hQ
      exact rd_z (by unfold wtr; rw [show decide (x = 6) = true from decide_eq_true c2, Bool.or_true]; rfl) hx hb hr (b2i_nar _) hS hlocks dX2_isWater_16

def rmX2_beside : Room := { frames := 2, cells := 0, slots := 0, locals := 43 }
set_option maxHeartbeats 4000000 in
set_option maxRecDepth 100000 in
/-- the neighbour at a side -/
theorem c_X2_beside (l : Launch) (pt sd : Nat) (hpt : pt < 64) (hsd : sd < 4) : Met l yX2_beside wsX2_beside rmX2_beside (va_Pc [.int (nI pt), .int (nI sd)] (fun _ => True)) (RdQ (toI (nbR pt sd))) 0 0 No := by
  refine Met.ofW (cc := cX2_beside) (maxL := 4) (ret := (some .int)) (by decide) rfl ?_
  intro p e s m args below meth c s₁ B hml hv
  obtain ⟨rfl, -⟩ := hv
  have hx := B.exec
  have hb := B.bytes
  have hr := B.returns
  have hlocks := B.notSynchronized
  have hts := atoms_spec (ws := wsX2_beside) B.pre
  have hown : s.vm.findClass RX2 = some m.cls := findClass_of_methodNamed B.named
  have hS : va_S No s.heap s.heap [] := va_S.rf
  have FX : CallFix p m c cX2_beside 4 s ([.int (nI pt), .int (nI sd)] : List Value).toArray wsX2_beside RX2 := ⟨hx, hb, hml, hown, hts⟩
  have hl := lv_entry ([.int (nI pt), .int (nI sd)]) (n := 4) (Nat.le_of_ble_eq_true rfl)
  rw [lg_entry_eq]
  generalize (lg_sl ([.int (nI pt), .int (nI sd)]) ++ List.replicate (4 - (lg_sl ([.int (nI pt), .int (nI sd)])).length) Slot.unset).toArray = ls at hl ⊢
  have hl : lv_has ls 4 [(0, .int (nI pt)), (1, .int (nI sd))] := hl
  refine wq (fun Q hQ => ?_)
  have hzc : 0 + 0 ≤ (headSpec wsX2_beside rmX2_beside).room.cells := Nat.zero_le _
  have hzs : 0 + 0 ≤ (headSpec wsX2_beside rmX2_beside).room.slots := Nat.zero_le _
  refine lv_iload_n hx hb dX2_beside_0 rfl (lv_at hl 0 rfl) ?_
  refine lv_bipush (v := 8) hx hb dX2_beside_1 (by decide) ?_
  refine lv_irem hx hb dX2_beside_3 (by decide) ?_
  refine tpi (x' := nI (pt % 8)) (pk_rem (a := pt) (d := 8) (by omega) (by omega) (by omega)) ?_
  refine lv_iload_n hx hb dX2_beside_4 rfl (lv_at hl 1 rfl) ?_
  rcases (show sd = 0 ∨ sd = 1 ∨ sd = 2 ∨ sd = 3 by omega) with rfl | rfl | rfl | rfl
  · skip
    refine lv_if_ne (tgt := 12) hx hb dX2_beside_5 (by decide) (fun c => absurd (rfl) c) (fun _ => ?_)
    refine lv_iconst (v := 1) hx hb dX2_beside_8 (by decide) ?_
    refine lv_goto (tgt := 22) hx hb dX2_beside_9 (by decide) ?_
    refine lv_iadd hx hb dX2_beside_22 ?_
    refine tpi (x' := nI (pt % 8 + 1)) (nI_1 _) ?_
    refine lv_istore_n (lv' := [(2, .int (nI (pt % 8 + 1))), (0, .int (nI pt)), (1, .int (nI 0))]) hx hb dX2_beside_23 rfl hl (by decide) rfl (fun ls hl => ?_)
    refine lv_iload_n hx hb dX2_beside_24 rfl (lv_at hl 1 rfl) ?_
    refine lv_bipush (v := 8) hx hb dX2_beside_25 (by decide) ?_
    refine lv_idiv hx hb dX2_beside_27 (by decide) ?_
    refine tpi (x' := nI (pt / 8)) (pk_div (a := pt) (d := 8) (by omega) (by omega) (by omega)) ?_
    refine lv_iload_n hx hb dX2_beside_28 rfl (lv_at hl 2 rfl) ?_
    refine lv_iconst (v := 2) hx hb dX2_beside_29 (by decide) ?_
    refine lv_icmp_ne (tgt := 37) hx hb dX2_beside_30 (by decide) (fun _ => ?_) (fun c => absurd c (by decide))
    refine lv_iload_n hx hb dX2_beside_37 rfl (lv_at hl 2 rfl) ?_
    refine lv_iconst (v := 3) hx hb dX2_beside_38 (by decide) ?_
    refine lv_icmp_ne (tgt := 46) hx hb dX2_beside_39 (by decide) (fun _ => ?_) (fun c => absurd c (by decide))
    refine lv_iconst (v := 0) hx hb dX2_beside_46 (by decide) ?_
    refine lv_iadd hx hb dX2_beside_47 ?_
    refine tpi (x' := nI (pt / 8)) (Int32.add_zero _) ?_
    refine lv_istore_n (lv' := [(3, .int (nI (pt / 8))), (2, .int (nI (pt % 8 + 1))), (0, .int (nI pt)), (1, .int (nI 0))]) hx hb dX2_beside_48 rfl hl (by decide) rfl (fun ls hl => ?_)
    refine lv_iload_n hx hb dX2_beside_49 rfl (lv_at hl 1 rfl) ?_
    refine lv_iload_n hx hb dX2_beside_50 rfl (lv_at hl 0 rfl) ?_
    refine cr_p (va_runS (As := [.int (nI (pt % 8 + 1)), .int (nI (pt / 8))]) (rest := []) FX (c_X2_isPlace l (nI (pt % 8 + 1)) (nI (pt / 8))) (va_cwS 2 hts gX2_beside_X2_isPlace rfl rfl rfl (by decide +kernel) ⟨Nat.le_of_ble_eq_true rfl, Nat.le_of_ble_eq_true rfl⟩) puS rfl rfl hl.1 rfl (lv_room (Nat.le_of_ble_eq_true rfl)) dX2_beside_51 ⟨hzc, hzs⟩) hS (fun H locs hS => ?_)
    rcases Nat.lt_or_ge (pt % 8) 7 with g | g
    · skip
      refine tpi (x' := 1) (by rw [inB_nI (by omega), inB_nI (by omega)]; rfl) ?_
      refine lv_if_eq (tgt := 66) hx hb dX2_beside_54 (by decide) (fun c => absurd c (by decide)) (fun _ => ?_)
      refine lv_bipush (v := 8) hx hb dX2_beside_57 (by decide) ?_
      refine lv_iload_n hx hb dX2_beside_59 rfl (lv_at hl 0 rfl) ?_
      refine lv_imul hx hb dX2_beside_60 ?_
      refine lv_iload_n hx hb dX2_beside_61 rfl (lv_at hl 1 rfl) ?_
      refine lv_iadd hx hb dX2_beside_62 ?_
      refine tpi (x' := nI (pt + 1)) (by rw [show (8 : Int32) * nI (pt / 8) = nI (8 * (pt / 8)) from pk_mul 8 _, nI_add]; congr 1; omega) ?_
      refine lv_goto (tgt := 67) hx hb dX2_beside_63 (by decide) ?_
      subst hQ
      exact rd_i (by show _ = toI (nbC pt 2); simp only [nbC]; rw [if_pos (by omega)]; rfl) hx hb hr hS hlocks dX2_beside_67
    · skip
      refine tpi (x' := 0) (by rw [inB_big (n := pt % 8 + 1) (by omega) (by omega)]; rfl) ?_
      refine lv_if_eq (tgt := 66) hx hb dX2_beside_54 (by decide) (fun _ => ?_) (fun c => absurd (rfl) c)
      refine lv_iconst (v := (-1)) hx hb dX2_beside_66 (by decide) ?_
      subst hQ
      exact rd_i (by show _ = toI (nbC pt 2); simp only [nbC]; rw [if_neg (by omega)]; rfl) hx hb hr hS hlocks dX2_beside_67
  · skip
    refine lv_if_ne (tgt := 12) hx hb dX2_beside_5 (by decide) (fun _ => ?_) (fun c => absurd c (by decide))
    refine lv_iload_n hx hb dX2_beside_12 rfl (lv_at hl 1 rfl) ?_
    refine lv_iconst (v := 1) hx hb dX2_beside_13 (by decide) ?_
    refine lv_icmp_ne (tgt := 21) hx hb dX2_beside_14 (by decide) (fun c => absurd (rfl) c) (fun _ => ?_)
    refine lv_iconst (v := (-1)) hx hb dX2_beside_17 (by decide) ?_
    refine lv_goto (tgt := 22) hx hb dX2_beside_18 (by decide) ?_
    refine lv_iadd hx hb dX2_beside_22 ?_
    refine tpi (x' := nI (pt % 8) + (-1)) (rfl) ?_
    refine lv_istore_n (lv' := [(2, .int (nI (pt % 8) + (-1))), (0, .int (nI pt)), (1, .int (nI 1))]) hx hb dX2_beside_23 rfl hl (by decide) rfl (fun ls hl => ?_)
    refine lv_iload_n hx hb dX2_beside_24 rfl (lv_at hl 1 rfl) ?_
    refine lv_bipush (v := 8) hx hb dX2_beside_25 (by decide) ?_
    refine lv_idiv hx hb dX2_beside_27 (by decide) ?_
    refine tpi (x' := nI (pt / 8)) (pk_div (a := pt) (d := 8) (by omega) (by omega) (by omega)) ?_
    refine lv_iload_n hx hb dX2_beside_28 rfl (lv_at hl 2 rfl) ?_
    refine lv_iconst (v := 2) hx hb dX2_beside_29 (by decide) ?_
    refine lv_icmp_ne (tgt := 37) hx hb dX2_beside_30 (by decide) (fun _ => ?_) (fun c => absurd c (by decide))
    refine lv_iload_n hx hb dX2_beside_37 rfl (lv_at hl 2 rfl) ?_
    refine lv_iconst (v := 3) hx hb dX2_beside_38 (by decide) ?_
    refine lv_icmp_ne (tgt := 46) hx hb dX2_beside_39 (by decide) (fun _ => ?_) (fun c => absurd c (by decide))
    refine lv_iconst (v := 0) hx hb dX2_beside_46 (by decide) ?_
    refine lv_iadd hx hb dX2_beside_47 ?_
    refine tpi (x' := nI (pt / 8)) (Int32.add_zero _) ?_
    refine lv_istore_n (lv' := [(3, .int (nI (pt / 8))), (2, .int (nI (pt % 8) + (-1))), (0, .int (nI pt)), (1, .int (nI 1))]) hx hb dX2_beside_48 rfl hl (by decide) rfl (fun ls hl => ?_)
    refine lv_iload_n hx hb dX2_beside_49 rfl (lv_at hl 1 rfl) ?_
    refine lv_iload_n hx hb dX2_beside_50 rfl (lv_at hl 0 rfl) ?_
    refine cr_p (va_runS (As := [.int (nI (pt % 8) + (-1)), .int (nI (pt / 8))]) (rest := []) FX (c_X2_isPlace l (nI (pt % 8) + (-1)) (nI (pt / 8))) (va_cwS 2 hts gX2_beside_X2_isPlace rfl rfl rfl (by decide +kernel) ⟨Nat.le_of_ble_eq_true rfl, Nat.le_of_ble_eq_true rfl⟩) puS rfl rfl hl.1 rfl (lv_room (Nat.le_of_ble_eq_true rfl)) dX2_beside_51 ⟨hzc, hzs⟩) hS (fun H locs hS => ?_)
    rcases Nat.eq_zero_or_pos (pt % 8) with g | g
    · skip
      refine tpi (x' := 0) (by rw [g]; rfl) ?_
      refine lv_if_eq (tgt := 66) hx hb dX2_beside_54 (by decide) (fun _ => ?_) (fun c => absurd (rfl) c)
      refine lv_iconst (v := (-1)) hx hb dX2_beside_66 (by decide) ?_
      subst hQ
      exact rd_i (by show _ = toI (nbC pt 1); simp only [nbC]; rw [if_neg (by omega)]; rfl) hx hb hr hS hlocks dX2_beside_67
    · skip
      have hm1 : nI (pt % 8) + (-1) = nI (pt % 8 - 1) := sb_m1 g
      refine tpi (x' := 1) (by rw [hm1, inB_nI (by omega), inB_nI (by omega)]; rfl) ?_
      refine lv_if_eq (tgt := 66) hx hb dX2_beside_54 (by decide) (fun c => absurd c (by decide)) (fun _ => ?_)
      refine lv_bipush (v := 8) hx hb dX2_beside_57 (by decide) ?_
      refine lv_iload_n hx hb dX2_beside_59 rfl (lv_at hl 0 rfl) ?_
      refine lv_imul hx hb dX2_beside_60 ?_
      refine lv_iload_n hx hb dX2_beside_61 rfl (lv_at hl 1 rfl) ?_
      refine lv_iadd hx hb dX2_beside_62 ?_
      refine tpi (x' := nI (pt - 1)) (by rw [hm1]; rw [show (8 : Int32) * nI (pt / 8) = nI (8 * (pt / 8)) from pk_mul 8 _, nI_add]; congr 1; omega) ?_
      refine lv_goto (tgt := 67) hx hb dX2_beside_63 (by decide) ?_
      subst hQ
      exact rd_i (by show _ = toI (nbC pt 1); simp only [nbC]; rw [if_pos (by omega)]; rfl) hx hb hr hS hlocks dX2_beside_67
  · skip
    refine lv_if_ne (tgt := 12) hx hb dX2_beside_5 (by decide) (fun _ => ?_) (fun c => absurd c (by decide))
    refine lv_iload_n hx hb dX2_beside_12 rfl (lv_at hl 1 rfl) ?_
    refine lv_iconst (v := 1) hx hb dX2_beside_13 (by decide) ?_
    refine lv_icmp_ne (tgt := 21) hx hb dX2_beside_14 (by decide) (fun _ => ?_) (fun c => absurd c (by decide))
    refine lv_iconst (v := 0) hx hb dX2_beside_21 (by decide) ?_
    refine lv_iadd hx hb dX2_beside_22 ?_
    refine tpi (x' := nI (pt % 8)) (Int32.add_zero _) ?_
    refine lv_istore_n (lv' := [(2, .int (nI (pt % 8))), (0, .int (nI pt)), (1, .int (nI 2))]) hx hb dX2_beside_23 rfl hl (by decide) rfl (fun ls hl => ?_)
    refine lv_iload_n hx hb dX2_beside_24 rfl (lv_at hl 1 rfl) ?_
    refine lv_bipush (v := 8) hx hb dX2_beside_25 (by decide) ?_
    refine lv_idiv hx hb dX2_beside_27 (by decide) ?_
    refine tpi (x' := nI (pt / 8)) (pk_div (a := pt) (d := 8) (by omega) (by omega) (by omega)) ?_
    refine lv_iload_n hx hb dX2_beside_28 rfl (lv_at hl 2 rfl) ?_
    refine lv_iconst (v := 2) hx hb dX2_beside_29 (by decide) ?_
    refine lv_icmp_ne (tgt := 37) hx hb dX2_beside_30 (by decide) (fun c => absurd (rfl) c) (fun _ => ?_)
    refine lv_iconst (v := 1) hx hb dX2_beside_33 (by decide) ?_
    refine lv_goto (tgt := 47) hx hb dX2_beside_34 (by decide) ?_
    refine lv_iadd hx hb dX2_beside_47 ?_
    refine tpi (x' := nI (pt / 8 + 1)) (nI_1 _) ?_
    refine lv_istore_n (lv' := [(3, .int (nI (pt / 8 + 1))), (2, .int (nI (pt % 8))), (0, .int (nI pt)), (1, .int (nI 2))]) hx hb dX2_beside_48 rfl hl (by decide) rfl (fun ls hl => ?_)
    refine lv_iload_n hx hb dX2_beside_49 rfl (lv_at hl 1 rfl) ?_
    refine lv_iload_n hx hb dX2_beside_50 rfl (lv_at hl 0 rfl) ?_
    refine cr_p (va_runS (As := [.int (nI (pt % 8)), .int (nI (pt / 8 + 1))]) (rest := []) FX (c_X2_isPlace l (nI (pt % 8)) (nI (pt / 8 + 1))) (va_cwS 2 hts gX2_beside_X2_isPlace rfl rfl rfl (by decide +kernel) ⟨Nat.le_of_ble_eq_true rfl, Nat.le_of_ble_eq_true rfl⟩) puS rfl rfl hl.1 rfl (lv_room (Nat.le_of_ble_eq_true rfl)) dX2_beside_51 ⟨hzc, hzs⟩) hS (fun H locs hS => ?_)
    rcases Nat.lt_or_ge (pt / 8) 7 with g | g
    · skip
      refine tpi (x' := 1) (by rw [inB_nI (by omega), inB_nI (by omega)]; rfl) ?_
      refine lv_if_eq (tgt := 66) hx hb dX2_beside_54 (by decide) (fun c => absurd c (by decide)) (fun _ => ?_)
      refine lv_bipush (v := 8) hx hb dX2_beside_57 (by decide) ?_
      refine lv_iload_n hx hb dX2_beside_59 rfl (lv_at hl 0 rfl) ?_
      refine lv_imul hx hb dX2_beside_60 ?_
      refine lv_iload_n hx hb dX2_beside_61 rfl (lv_at hl 1 rfl) ?_
      refine lv_iadd hx hb dX2_beside_62 ?_
      refine tpi (x' := nI (pt + 8)) (by rw [show (8 : Int32) * nI (pt / 8 + 1) = nI (8 * (pt / 8 + 1)) from pk_mul 8 _, nI_add]; congr 1; omega) ?_
      refine lv_goto (tgt := 67) hx hb dX2_beside_63 (by decide) ?_
      subst hQ
      exact rd_i (by show _ = toI (nbC pt 3); simp only [nbC]; rw [if_pos (by omega)]; rfl) hx hb hr hS hlocks dX2_beside_67
    · skip
      refine tpi (x' := 0) (by rw [inB_big (n := pt / 8 + 1) (by omega) (by omega), Bool.and_false]; rfl) ?_
      refine lv_if_eq (tgt := 66) hx hb dX2_beside_54 (by decide) (fun _ => ?_) (fun c => absurd (rfl) c)
      refine lv_iconst (v := (-1)) hx hb dX2_beside_66 (by decide) ?_
      subst hQ
      exact rd_i (by show _ = toI (nbC pt 3); simp only [nbC]; rw [if_neg (by omega)]; rfl) hx hb hr hS hlocks dX2_beside_67
  · skip
    refine lv_if_ne (tgt := 12) hx hb dX2_beside_5 (by decide) (fun _ => ?_) (fun c => absurd c (by decide))
    refine lv_iload_n hx hb dX2_beside_12 rfl (lv_at hl 1 rfl) ?_
    refine lv_iconst (v := 1) hx hb dX2_beside_13 (by decide) ?_
    refine lv_icmp_ne (tgt := 21) hx hb dX2_beside_14 (by decide) (fun _ => ?_) (fun c => absurd c (by decide))
    refine lv_iconst (v := 0) hx hb dX2_beside_21 (by decide) ?_
    refine lv_iadd hx hb dX2_beside_22 ?_
    refine tpi (x' := nI (pt % 8)) (Int32.add_zero _) ?_
    refine lv_istore_n (lv' := [(2, .int (nI (pt % 8))), (0, .int (nI pt)), (1, .int (nI 3))]) hx hb dX2_beside_23 rfl hl (by decide) rfl (fun ls hl => ?_)
    refine lv_iload_n hx hb dX2_beside_24 rfl (lv_at hl 1 rfl) ?_
    refine lv_bipush (v := 8) hx hb dX2_beside_25 (by decide) ?_
    refine lv_idiv hx hb dX2_beside_27 (by decide) ?_
    refine tpi (x' := nI (pt / 8)) (pk_div (a := pt) (d := 8) (by omega) (by omega) (by omega)) ?_
    refine lv_iload_n hx hb dX2_beside_28 rfl (lv_at hl 2 rfl) ?_
    refine lv_iconst (v := 2) hx hb dX2_beside_29 (by decide) ?_
    refine lv_icmp_ne (tgt := 37) hx hb dX2_beside_30 (by decide) (fun _ => ?_) (fun c => absurd c (by decide))
    refine lv_iload_n hx hb dX2_beside_37 rfl (lv_at hl 2 rfl) ?_
    refine lv_iconst (v := 3) hx hb dX2_beside_38 (by decide) ?_
    refine lv_icmp_ne (tgt := 46) hx hb dX2_beside_39 (by decide) (fun c => absurd (rfl) c) (fun _ => ?_)
    refine lv_iconst (v := (-1)) hx hb dX2_beside_42 (by decide) ?_
    refine lv_goto (tgt := 47) hx hb dX2_beside_43 (by decide) ?_
    refine lv_iadd hx hb dX2_beside_47 ?_
    refine tpi (x' := nI (pt / 8) + (-1)) (rfl) ?_
    refine lv_istore_n (lv' := [(3, .int (nI (pt / 8) + (-1))), (2, .int (nI (pt % 8))), (0, .int (nI pt)), (1, .int (nI 3))]) hx hb dX2_beside_48 rfl hl (by decide) rfl (fun ls hl => ?_)
    refine lv_iload_n hx hb dX2_beside_49 rfl (lv_at hl 1 rfl) ?_
    refine lv_iload_n hx hb dX2_beside_50 rfl (lv_at hl 0 rfl) ?_
    refine cr_p (va_runS (As := [.int (nI (pt % 8)), .int (nI (pt / 8) + (-1))]) (rest := []) FX (c_X2_isPlace l (nI (pt % 8)) (nI (pt / 8) + (-1))) (va_cwS 2 hts gX2_beside_X2_isPlace rfl rfl rfl (by decide +kernel) ⟨Nat.le_of_ble_eq_true rfl, Nat.le_of_ble_eq_true rfl⟩) puS rfl rfl hl.1 rfl (lv_room (Nat.le_of_ble_eq_true rfl)) dX2_beside_51 ⟨hzc, hzs⟩) hS (fun H locs hS => ?_)
    rcases Nat.eq_zero_or_pos (pt / 8) with g | g
    · skip
      refine tpi (x' := 0) (by rw [g, show inB 0 7 (nI 0 + (-1)) = false by decide, Bool.and_false]; rfl) ?_
      refine lv_if_eq (tgt := 66) hx hb dX2_beside_54 (by decide) (fun _ => ?_) (fun c => absurd (rfl) c)
      refine lv_iconst (v := (-1)) hx hb dX2_beside_66 (by decide) ?_
      subst hQ
      exact rd_i (by show _ = toI (nbC pt 0); simp only [nbC]; rw [if_neg (by omega)]; rfl) hx hb hr hS hlocks dX2_beside_67
    · skip
      have hm1 : nI (pt / 8) + (-1) = nI (pt / 8 - 1) := sb_m1 g
      refine tpi (x' := 1) (by rw [hm1, inB_nI (by omega), inB_nI (by omega)]; rfl) ?_
      refine lv_if_eq (tgt := 66) hx hb dX2_beside_54 (by decide) (fun c => absurd c (by decide)) (fun _ => ?_)
      refine lv_bipush (v := 8) hx hb dX2_beside_57 (by decide) ?_
      refine lv_iload_n hx hb dX2_beside_59 rfl (lv_at hl 0 rfl) ?_
      refine lv_imul hx hb dX2_beside_60 ?_
      refine lv_iload_n hx hb dX2_beside_61 rfl (lv_at hl 1 rfl) ?_
      refine lv_iadd hx hb dX2_beside_62 ?_
      refine tpi (x' := nI (pt - 8)) (by rw [hm1]; rw [show (8 : Int32) * nI (pt / 8 - 1) = nI (8 * (pt / 8 - 1)) from pk_mul 8 _, nI_add]; congr 1; omega) ?_
      refine lv_goto (tgt := 67) hx hb dX2_beside_63 (by decide) ?_
      subst hQ
      exact rd_i (by show _ = toI (nbC pt 0); simp only [nbC]; rw [if_pos (by omega)]; rfl) hx hb hr hS hlocks dX2_beside_67

def rmX2_besideOf : Room := { frames := 3, cells := 0, slots := 0, locals := 66 }
set_option maxHeartbeats 4000000 in
set_option maxRecDepth 100000 in
/-- neighbours of a kind -/
theorem c_X2_besideOf (l : Launch) (G : va_G) (cI : ClassId) (r : Nat) (X k : Nat → Int32) (pt : Nat) (v : Int32) (hk : eqK X k) (hpt : pt < 64) : Met l yX2_besideOf wsX2_besideOf rmX2_besideOf (va_Pc [.ref r, .int (nI pt), .int v] (RdP G cI [(r, iA cI X)])) (RdQ (nbk k v pt)) 0 0 No := by
  refine Met.ofW (cc := cX2_besideOf) (maxL := 5) (ret := (some .int)) (by decide) rfl ?_
  intro p e s m args below meth c s₁ B hml hv
  obtain ⟨rfl, hP, hK, hN⟩ := hv
  have hx := B.exec
  have hb := B.bytes
  have hr := B.returns
  have hlocks := B.notSynchronized
  have hts := atoms_spec (ws := wsX2_besideOf) B.pre
  have hown : s.vm.findClass RX2 = some m.cls := findClass_of_methodNamed B.named
  have hS : va_S No s.heap s.heap [] := va_S.rf
  have FX : CallFix p m c cX2_besideOf 5 s ([.ref r, .int (nI pt), .int v] : List Value).toArray wsX2_besideOf RX2 := ⟨hx, hb, hml, hown, hts⟩
  have hl := lv_entry ([.ref r, .int (nI pt), .int v]) (n := 5) (Nat.le_of_ble_eq_true rfl)
  rw [lg_entry_eq]
  generalize (lg_sl ([.ref r, .int (nI pt), .int v]) ++ List.replicate (5 - (lg_sl ([.ref r, .int (nI pt), .int v])).length) Slot.unset).toArray = ls at hl ⊢
  have hl : lv_has ls 5 [(0, .ref r), (1, .int (nI pt)), (2, .int v)] := hl
  refine wq (fun Q hQ => ?_)
  have hzc : 0 + 0 ≤ (headSpec wsX2_besideOf rmX2_besideOf).room.cells := Nat.zero_le _
  have hzs : 0 + 0 ≤ (headSpec wsX2_besideOf rmX2_besideOf).room.slots := Nat.zero_le _
  refine lv_iconst (v := 0) hx hb dX2_besideOf_0 (by decide) ?_
  refine lv_istore_n (lv' := [(3, .int 0), (0, .ref r), (1, .int (nI pt)), (2, .int v)]) hx hb dX2_besideOf_1 rfl hl (by decide) rfl (fun ls hl => ?_)
  refine lv_iconst (v := 0) hx hb dX2_besideOf_2 (by decide) ?_
  refine lv_istore (lv' := [(4, .int 0), (3, .int 0), (0, .ref r), (1, .int (nI pt)), (2, .int v)]) hx hb dX2_besideOf_3 hl (by decide) rfl (fun ls hl => ?_)
  have lp : ∀ (n : Nat) (sd : Nat), (hsd : sd ≤ 4) → (4 - sd) < n → ∀ (H : Heap) (locs : List Loc) (ls : Array Slot), va_P G vwCl [(r, iA cI X)] H → va_S No s.heap H locs → lv_has ls 5 [(0, .ref r), (1, .int (nI pt)), (2, .int v), (3, .int (nbS nbR k v pt sd)), (4, .int (nI sd))] → W p l e (headSpec wsX2_besideOf rmX2_besideOf).room s m ([.ref r, .int (nI pt), .int v] : List Value).toArray below meth c H locs 0 0 Q (F0 m 5 ls []) := by
    intro n
    induction n with
    | zero => intro sd hsd hn; exact absurd hn (by omega)
    | succ n ih_lp =>
      intro sd hsd hn H locs ls hP hS hl
      refine lv_iload hx hb dX2_besideOf_5 (lv_at hl 4 rfl) ?_
      refine lv_iconst (v := 4) hx hb dX2_besideOf_7 (by decide) ?_
      rcases Nat.lt_or_ge sd 4 with g | g
      · skip
        refine lv_icmp_ge (tgt := 47) hx hb dX2_besideOf_8 (by decide) (fun c => absurd c (lt_n (n := 4) g (by decide))) (fun _ => ?_)
        refine lv_iload_n hx hb dX2_besideOf_11 rfl (lv_at hl 3 rfl) ?_
        refine lv_iload_n hx hb dX2_besideOf_12 rfl (lv_at hl 1 rfl) ?_
        refine lv_iload hx hb dX2_besideOf_13 (lv_at hl 4 rfl) ?_
        refine cr_i (va_runS (As := [.int (nI pt), .int (nI sd)]) (rest := [.int (nbS nbR k v pt sd)]) FX (c_X2_beside l pt sd hpt g) (va_cwS 2 hts gX2_besideOf_X2_beside rfl rfl rfl (by decide +kernel) ⟨Nat.le_of_ble_eq_true rfl, Nat.le_of_ble_eq_true rfl⟩) puS rfl rfl hl.1 rfl (lv_room (Nat.le_of_ble_eq_true rfl)) dX2_besideOf_15 ⟨hzc, hzs⟩) hS hP (fun H locs hP hS => ?_)
        rcases hn : nbR pt sd with _ | q
        · skip
          refine tpi (x' := -1) (rfl) ?_
          refine lv_iconst (v := (-1)) hx hb dX2_besideOf_18 (by decide) ?_
          refine lv_icmp_eq (tgt := 38) hx hb dX2_besideOf_19 (by decide) (fun _ => ?_) (fun c => absurd (rfl) c)
          refine lv_iconst (v := 0) hx hb dX2_besideOf_38 (by decide) ?_
          refine lv_iadd hx hb dX2_besideOf_39 ?_
          refine tpi (x' := nbS nbR k v pt (sd + 1)) (by show _ = nbS nbR k v pt sd + tel k v (nbR pt sd); rw [hn]; rfl) ?_
          refine lv_istore_n (lv' := [(3, .int (nbS nbR k v pt (sd + 1))), (0, .ref r), (1, .int (nI pt)), (2, .int v), (4, .int (nI sd))]) hx hb dX2_besideOf_40 rfl hl (by decide) rfl (fun ls hl => ?_)
          refine lv_iinc (v := nI (sd + 1)) (lv' := [(4, .int (nI (sd + 1))), (3, .int (nbS nbR k v pt (sd + 1))), (0, .ref r), (1, .int (nI pt)), (2, .int v)]) hx hb dX2_besideOf_41 hl (k := 4) rfl (nI_inc sd) (by decide) rfl (fun ls hl => ?_)
          refine lv_goto (tgt := 5) hx hb dX2_besideOf_44 (by decide) ?_
          exact ih_lp (sd + 1) (by omega) (by omega) _ _ _ hP hS (lv_sub hl [2, 3, 4, 1, 0] (rfl))
        · skip
          have hq : q < 64 := nbR_lt hpt hn
          refine tpi (x' := nI q) (rfl) ?_
          refine lv_iconst (v := (-1)) hx hb dX2_besideOf_18 (by decide) ?_
          refine lv_icmp_eq (tgt := 38) hx hb dX2_besideOf_19 (by decide) (fun c => absurd c (nI_m1 (by omega))) (fun _ => ?_)
          refine lv_aload_n hx hb dX2_besideOf_22 rfl (lv_at hl 0 rfl) ?_
          refine lv_iload_n hx hb dX2_besideOf_23 rfl (lv_at hl 1 rfl) ?_
          refine lv_iload hx hb dX2_besideOf_24 (lv_at hl 4 rfl) ?_
          refine cr_i (va_runS (As := [.int (nI pt), .int (nI sd)]) (rest := [.ref r, .int (nbS nbR k v pt sd)]) FX (c_X2_beside l pt sd hpt g) (va_cwS 2 hts gX2_besideOf_X2_beside rfl rfl rfl (by decide +kernel) ⟨Nat.le_of_ble_eq_true rfl, Nat.le_of_ble_eq_true rfl⟩) puS rfl rfl hl.1 rfl (lv_room (Nat.le_of_ble_eq_true rfl)) dX2_besideOf_26 ⟨hzc, hzs⟩) hS hP (fun H locs hP hS => ?_)
          refine tpi (x' := nI q) (by rw [hn]; rfl) ?_
          refine va_iald hx hb hK hP 0 0 rfl rfl (vp_in_nI hq (by decide)) dX2_besideOf_29 ?_
          refine tpi (x' := X q) (congrArg X (nI_clamp (by omega))) ?_
          refine tpi (x' := k q) (hk q hq) ?_
          refine lv_iload_n hx hb dX2_besideOf_30 rfl (lv_at hl 2 rfl) ?_
          refine lv_icmp_ne (tgt := 38) hx hb dX2_besideOf_31 (by decide) (fun c9 => ?_) (fun c9 => ?_)
          · skip
            refine lv_iconst (v := 0) hx hb dX2_besideOf_38 (by decide) ?_
            refine lv_iadd hx hb dX2_besideOf_39 ?_
            refine tpi (x' := nbS nbR k v pt (sd + 1)) (by show _ = nbS nbR k v pt sd + tel k v (nbR pt sd); rw [hn]; show _ = nbS nbR k v pt sd + (if k q = v then 1 else 0); rw [if_neg c9]) ?_
            refine lv_istore_n (lv' := [(3, .int (nbS nbR k v pt (sd + 1))), (0, .ref r), (1, .int (nI pt)), (2, .int v), (4, .int (nI sd))]) hx hb dX2_besideOf_40 rfl hl (by decide) rfl (fun ls hl => ?_)
            refine lv_iinc (v := nI (sd + 1)) (lv' := [(4, .int (nI (sd + 1))), (3, .int (nbS nbR k v pt (sd + 1))), (0, .ref r), (1, .int (nI pt)), (2, .int v)]) hx hb dX2_besideOf_41 hl (k := 4) rfl (nI_inc sd) (by decide) rfl (fun ls hl => ?_)
            refine lv_goto (tgt := 5) hx hb dX2_besideOf_44 (by decide) ?_
            exact ih_lp (sd + 1) (by omega) (by omega) _ _ _ hP hS (lv_sub hl [2, 3, 4, 1, 0] (rfl))
          · skip
            refine lv_iconst (v := 1) hx hb dX2_besideOf_34 (by decide) ?_
            refine lv_goto (tgt := 39) hx hb dX2_besideOf_35 (by decide) ?_
            refine lv_iadd hx hb dX2_besideOf_39 ?_
            refine tpi (x' := nbS nbR k v pt (sd + 1)) (by show _ = nbS nbR k v pt sd + tel k v (nbR pt sd); rw [hn]; show _ = nbS nbR k v pt sd + (if k q = v then 1 else 0); rw [if_pos c9]) ?_
            refine lv_istore_n (lv' := [(3, .int (nbS nbR k v pt (sd + 1))), (0, .ref r), (1, .int (nI pt)), (2, .int v), (4, .int (nI sd))]) hx hb dX2_besideOf_40 rfl hl (by decide) rfl (fun ls hl => ?_)
            refine lv_iinc (v := nI (sd + 1)) (lv' := [(4, .int (nI (sd + 1))), (3, .int (nbS nbR k v pt (sd + 1))), (0, .ref r), (1, .int (nI pt)), (2, .int v)]) hx hb dX2_besideOf_41 hl (k := 4) rfl (nI_inc sd) (by decide) rfl (fun ls hl => ?_)
            refine lv_goto (tgt := 5) hx hb dX2_besideOf_44 (by decide) ?_
            exact ih_lp (sd + 1) (by omega) (by omega) _ _ _ hP hS (lv_sub hl [2, 3, 4, 1, 0] (rfl))
      · skip
        have g9 : 4 = sd := by omega
        subst g9
        refine lv_icmp_ge (tgt := 47) hx hb dX2_besideOf_8 (by decide) (fun _ => ?_) (fun c => absurd (le_n (n := 4) (i := 4) (by decide) (by decide)) c)
        refine lv_iload_n hx hb dX2_besideOf_47 rfl (lv_at hl 3 rfl) ?_
        subst hQ
        exact rd_i (nbk_R k v pt) hx hb hr hS hlocks dX2_besideOf_48
  exact lp (_ + 1) 0 (by omega) (Nat.lt_succ_self _) _ _ _ hP hS (lv_sub hl [2, 3, 4, 1, 0] rfl)

def rmX2_isByBoat : Room := { frames := 3, cells := 0, slots := 0, locals := 66 }
set_option maxHeartbeats 4000000 in
set_option maxRecDepth 100000 in
/-- by boat -/
theorem c_X2_isByBoat (l : Launch) (G : va_G) (cI : ClassId) (b : Nat → Nat) (ac : Nat) (th mo co le : Int32) (X Qm Op Lm Hm Mm Rw St k : Nat → Int32) (pt : Nat) (hk : eqK X k) (hkd : ∀ x, x < 64 → kd (k x)) (hOp : ∀ x, x < 64 → Op x = b2i (opn k x)) (hpt : pt < 64) : Met l yX2_isByBoat wsX2_isByBoat rmX2_isByBoat (va_Pc [.ref (b 0), .ref ac, .int (nI pt)] (RdP G cI [((b 0), oM b th mo co le), (ac, iA cI X), ((b 7), iA cI Qm), ((b 8), iA cI Op), ((b 9), iA cI Lm), ((b 10), iA cI Hm), ((b 11), iA cI Mm), ((b 12), iA cI Rw), ((b 13), iA cI St)])) (RdQ (b2i (byB k pt))) 0 0 No := by
  refine Met.ofW (cc := cX2_isByBoat) (maxL := 4) (ret := (some .boolean)) (by decide) rfl ?_
  intro p e s m args below meth c s₁ B hml hv
  obtain ⟨rfl, hP, hK, hN⟩ := hv
  have hx := B.exec
  have hb := B.bytes
  have hr := B.returns
  have hlocks := B.notSynchronized
  have hts := atoms_spec (ws := wsX2_isByBoat) B.pre
  have hown : s.vm.findClass RX2 = some m.cls := findClass_of_methodNamed B.named
  have hS : va_S No s.heap s.heap [] := va_S.rf
  have FX : CallFix p m c cX2_isByBoat 4 s ([.ref (b 0), .ref ac, .int (nI pt)] : List Value).toArray wsX2_isByBoat RX2 := ⟨hx, hb, hml, hown, hts⟩
  have hl := lv_entry ([.ref (b 0), .ref ac, .int (nI pt)]) (n := 4) (Nat.le_of_ble_eq_true rfl)
  rw [lg_entry_eq]
  generalize (lg_sl ([.ref (b 0), .ref ac, .int (nI pt)]) ++ List.replicate (4 - (lg_sl ([.ref (b 0), .ref ac, .int (nI pt)])).length) Slot.unset).toArray = ls at hl ⊢
  have hl : lv_has ls 4 [(0, .ref (b 0)), (1, .ref ac), (2, .int (nI pt))] := hl
  refine wq (fun Q hQ => ?_)
  have hzc : 0 + 0 ≤ (headSpec wsX2_isByBoat rmX2_isByBoat).room.cells := Nat.zero_le _
  have hzs : 0 + 0 ≤ (headSpec wsX2_isByBoat rmX2_isByBoat).room.slots := Nat.zero_le _
  have hf26 := hts (.fieldLink RX2 26 "CanalCityModel" "open" "[I") (by decide +kernel)
  have hinX2 : ∀ w ∈ u_ws RX2 TX2 14, w ∈ wsX2_isByBoat := by decide +kernel
  refine lv_aload_n hx hb dX2_isByBoat_0 rfl (lv_at hl 1 rfl) ?_
  refine lv_iload_n hx hb dX2_isByBoat_1 rfl (lv_at hl 2 rfl) ?_
  refine va_iald hx hb hK hP 1 0 rfl rfl (vp_in_nI hpt (by decide)) dX2_isByBoat_2 ?_
  refine tpi (x' := X pt) (congrArg X (nI_clamp (by omega))) ?_
  refine tpi (x' := k pt) (hk pt hpt) ?_
  refine cr_i (va_runS (As := [.int (k pt)]) (rest := []) FX (c_X2_isLand l (k pt)) (va_cwS 1 hts gX2_isByBoat_X2_isLand rfl rfl rfl (by decide +kernel) ⟨Nat.le_of_ble_eq_true rfl, Nat.le_of_ble_eq_true rfl⟩) puS rfl rfl hl.1 rfl (lv_room (Nat.le_of_ble_eq_true rfl)) dX2_isByBoat_3 ⟨hzc, hzs⟩) hS hP (fun H locs hP hS => ?_)
  refine tpi (x' := b2i (lnd (k pt))) (by rw [lnd_ge (hkd pt hpt)]) ?_
  rcases hln : lnd (k pt) with _ | _
  · skip
    refine tpi (x' := 0) (rfl) ?_
    refine lv_if_eq (tgt := 17) hx hb dX2_isByBoat_6 (by decide) (fun _ => ?_) (fun c => absurd (rfl) c)
    refine lv_iconst (v := 0) hx hb dX2_isByBoat_17 (by decide) ?_
    subst hQ
    exact rd_z (by unfold byB; rw [hln]; rfl) hx hb hr (b2i_nar _) hS hlocks dX2_isByBoat_18
  · skip
    refine tpi (x' := 1) (rfl) ?_
    refine lv_if_eq (tgt := 17) hx hb dX2_isByBoat_6 (by decide) (fun c => absurd c (by decide)) (fun _ => ?_)
    refine lv_aload_n hx hb dX2_isByBoat_9 rfl (lv_at hl 1 rfl) ?_
    refine lv_iload_n hx hb dX2_isByBoat_10 rfl (lv_at hl 2 rfl) ?_
    refine va_iald hx hb hK hP 1 0 rfl rfl (vp_in_nI hpt (by decide)) dX2_isByBoat_11 ?_
    refine tpi (x' := X pt) (congrArg X (nI_clamp (by omega))) ?_
    refine tpi (x' := k pt) (hk pt hpt) ?_
    refine lv_bipush (v := 6) hx hb dX2_isByBoat_12 (by decide) ?_
    refine lv_icmp_ne (tgt := 19) hx hb dX2_isByBoat_14 (by decide) (fun c6 => ?_) (fun c6 => ?_)
    · skip
      refine lv_iconst (v := 0) hx hb dX2_isByBoat_19 (by decide) ?_
      refine lv_istore_n (lv' := [(3, .int 0), (0, .ref (b 0)), (1, .ref ac), (2, .int (nI pt))]) hx hb dX2_isByBoat_20 rfl hl (by decide) rfl (fun ls hl => ?_)
      have lp : ∀ (n : Nat) (sd : Nat), (hsd : sd ≤ 4) → (hno : ∀ s, s < sd → opo k (nbR pt s) = false) → (4 - sd) < n → ∀ (H : Heap) (locs : List Loc) (ls : Array Slot), va_P G vwCl [((b 0), oM b th mo co le), (ac, iA cI X), ((b 7), iA cI Qm), ((b 8), iA cI Op), ((b 9), iA cI Lm), ((b 10), iA cI Hm), ((b 11), iA cI Mm), ((b 12), iA cI Rw), ((b 13), iA cI St)] H → va_S No s.heap H locs → lv_has ls 4 [(0, .ref (b 0)), (1, .ref ac), (2, .int (nI pt)), (3, .int (nI sd))] → W p l e (headSpec wsX2_isByBoat rmX2_isByBoat).room s m ([.ref (b 0), .ref ac, .int (nI pt)] : List Value).toArray below meth c H locs 0 0 Q (F0 m 21 ls []) := by
        intro n
        induction n with
        | zero => intro sd hsd hno hn; exact absurd hn (by omega)
        | succ n ih_lp =>
          intro sd hsd hno hn H locs ls hP hS hl
          refine lv_iload_n hx hb dX2_isByBoat_21 rfl (lv_at hl 3 rfl) ?_
          refine lv_iconst (v := 4) hx hb dX2_isByBoat_22 (by decide) ?_
          rcases Nat.lt_or_ge sd 4 with g | g
          · skip
            refine lv_icmp_ge (tgt := 57) hx hb dX2_isByBoat_23 (by decide) (fun c => absurd c (lt_n (n := 4) g (by decide))) (fun _ => ?_)
            refine lv_iload_n hx hb dX2_isByBoat_26 rfl (lv_at hl 2 rfl) ?_
            refine lv_iload_n hx hb dX2_isByBoat_27 rfl (lv_at hl 3 rfl) ?_
            refine cr_i (va_runS (As := [.int (nI pt), .int (nI sd)]) (rest := []) FX (c_X2_beside l pt sd hpt g) (va_cwS 2 hts gX2_isByBoat_X2_beside rfl rfl rfl (by decide +kernel) ⟨Nat.le_of_ble_eq_true rfl, Nat.le_of_ble_eq_true rfl⟩) puS rfl rfl hl.1 rfl (lv_room (Nat.le_of_ble_eq_true rfl)) dX2_isByBoat_28 ⟨hzc, hzs⟩) hS hP (fun H locs hP hS => ?_)
            rcases hn : nbR pt sd with _ | q
            · skip
              refine tpi (x' := -1) (rfl) ?_
              refine lv_iconst (v := (-1)) hx hb dX2_isByBoat_31 (by decide) ?_
              refine lv_icmp_eq (tgt := 51) hx hb dX2_isByBoat_32 (by decide) (fun _ => ?_) (fun c => absurd (rfl) c)
              refine lv_iinc (v := nI (sd + 1)) (lv' := [(3, .int (nI (sd + 1))), (0, .ref (b 0)), (1, .ref ac), (2, .int (nI pt))]) hx hb dX2_isByBoat_51 hl (k := 3) rfl (nI_inc sd) (by decide) rfl (fun ls hl => ?_)
              refine lv_goto (tgt := 21) hx hb dX2_isByBoat_54 (by decide) ?_
              exact ih_lp (sd + 1) (by omega) (fun s hs => by rcases Nat.lt_or_ge s sd with g1 | g1; exact hno s g1; rw [show s = sd by omega, hn]; rfl) (by omega) _ _ _ hP hS (lv_sub hl [1, 2, 3, 0] (rfl))
            · skip
              have hq : q < 64 := nbR_lt hpt hn
              refine tpi (x' := nI q) (rfl) ?_
              refine lv_iconst (v := (-1)) hx hb dX2_isByBoat_31 (by decide) ?_
              refine lv_icmp_eq (tgt := 51) hx hb dX2_isByBoat_32 (by decide) (fun c => absurd c (nI_m1 (by omega))) (fun _ => ?_)
              refine lv_aload_n hx hb dX2_isByBoat_35 rfl (lv_at hl 0 rfl) ?_
              refine va_get (D := G) (ci := 2) (v := .ref (b 8)) (C := RX2) (T := TX2) (N := 14) hx hb hts hinX2 hown hK hP 0 rfl rfl 8 (by decide) hf26 (fun _ h9 => h9) rfl dX2_isByBoat_36 ?_
              refine lv_iload_n hx hb dX2_isByBoat_39 rfl (lv_at hl 2 rfl) ?_
              refine lv_iload_n hx hb dX2_isByBoat_40 rfl (lv_at hl 3 rfl) ?_
              refine cr_i (va_runS (As := [.int (nI pt), .int (nI sd)]) (rest := [.ref (b 8)]) FX (c_X2_beside l pt sd hpt g) (va_cwS 2 hts gX2_isByBoat_X2_beside rfl rfl rfl (by decide +kernel) ⟨Nat.le_of_ble_eq_true rfl, Nat.le_of_ble_eq_true rfl⟩) puS rfl rfl hl.1 rfl (lv_room (Nat.le_of_ble_eq_true rfl)) dX2_isByBoat_41 ⟨hzc, hzs⟩) hS hP (fun H locs hP hS => ?_)
              refine tpi (x' := nI q) (by rw [hn]; rfl) ?_
              refine va_iald hx hb hK hP 3 0 rfl rfl (vp_in_nI hq (by decide)) dX2_isByBoat_44 ?_
              refine tpi (x' := Op q) (congrArg Op (nI_clamp (by omega))) ?_
              refine tpi (x' := b2i (opn k q)) (hOp q hq) ?_
              rcases ho : opn k q with _ | _
              · skip
                refine tpi (x' := 0) (rfl) ?_
                refine lv_iconst (v := 1) hx hb dX2_isByBoat_45 (by decide) ?_
                refine lv_icmp_ne (tgt := 51) hx hb dX2_isByBoat_46 (by decide) (fun _ => ?_) (fun c => absurd c (by decide))
                refine lv_iinc (v := nI (sd + 1)) (lv' := [(3, .int (nI (sd + 1))), (0, .ref (b 0)), (1, .ref ac), (2, .int (nI pt))]) hx hb dX2_isByBoat_51 hl (k := 3) rfl (nI_inc sd) (by decide) rfl (fun ls hl => ?_)
                refine lv_goto (tgt := 21) hx hb dX2_isByBoat_54 (by decide) ?_
                exact ih_lp (sd + 1) (by omega) (fun s hs => by rcases Nat.lt_or_ge s sd with g1 | g1; exact hno s g1; rw [show s = sd by omega, hn]; exact ho) (by omega) _ _ _ hP hS (lv_sub hl [1, 2, 3, 0] (rfl))
              · skip
                refine tpi (x' := 1) (rfl) ?_
                refine lv_iconst (v := 1) hx hb dX2_isByBoat_45 (by decide) ?_
                refine lv_icmp_ne (tgt := 51) hx hb dX2_isByBoat_46 (by decide) (fun c => absurd (rfl) c) (fun _ => ?_)
                refine lv_iconst (v := 1) hx hb dX2_isByBoat_49 (by decide) ?_
                subst hQ
                exact rd_z (by unfold byB; rw [hln, decide_eq_false c6, opo4R g (by rw [hn]; exact ho)]; rfl) hx hb hr (b2i_nar _) hS hlocks dX2_isByBoat_50
          · skip
            have g9 : 4 = sd := by omega
            subst g9
            refine lv_icmp_ge (tgt := 57) hx hb dX2_isByBoat_23 (by decide) (fun _ => ?_) (fun c => absurd (le_n (n := 4) (i := 4) (by decide) (by decide)) c)
            refine lv_iconst (v := 0) hx hb dX2_isByBoat_57 (by decide) ?_
            subst hQ
            exact rd_z (by unfold byB; rw [show opo k (nbC pt 0) = false from hno 3 (by decide), show opo k (nbC pt 1) = false from hno 1 (by decide), show opo k (nbC pt 2) = false from hno 0 (by decide), show opo k (nbC pt 3) = false from hno 2 (by decide)]; cases (lnd (k pt) && !decide (k pt = 6)) <;> rfl) hx hb hr (b2i_nar _) hS hlocks dX2_isByBoat_58
      exact lp (_ + 1) 0 (by omega) (fun s hs => absurd hs (Nat.not_lt_zero _)) (Nat.lt_succ_self _) _ _ _ hP hS (lv_sub hl [1, 2, 3, 0] rfl)
    · skip
      refine lv_iconst (v := 0) hx hb dX2_isByBoat_17 (by decide) ?_
      subst hQ
      exact rd_z (by unfold byB; rw [show decide (k pt = 6) = true from decide_eq_true c6, hln]; rfl) hx hb hr (b2i_nar _) hS hlocks dX2_isByBoat_18

def rmX2_complaints : Room := { frames := 4, cells := 0, slots := 0, locals := 90 }
set_option maxHeartbeats 4000000 in
set_option maxRecDepth 100000 in
/-- complaints -/
theorem c_X2_complaints (l : Launch) (G : va_G) (cI : ClassId) (b : Nat → Nat) (ac : Nat) (th mo co le : Int32) (X Qm Op Lm Hm Mm Rw St k : Nat → Int32) (pt : Nat) (hk : eqK X k) (hkd : ∀ x, x < 64 → kd (k x)) (hLK : LK k Qm Op Lm Hm Mm) (hpt : pt < 64) : Met l yX2_complaints wsX2_complaints rmX2_complaints (va_Pc [.ref (b 0), .ref ac, .int (nI pt)] (RdP G cI [((b 0), oM b th mo co le), (ac, iA cI X), ((b 7), iA cI Qm), ((b 8), iA cI Op), ((b 9), iA cI Lm), ((b 10), iA cI Hm), ((b 11), iA cI Mm), ((b 12), iA cI Rw), ((b 13), iA cI St)])) (RdQ (cpl k pt)) 0 0 No := by
  refine Met.ofW (cc := cX2_complaints) (maxL := 3) (ret := (some .int)) (by decide) rfl ?_
  intro p e s m args below meth c s₁ B hml hv
  obtain ⟨rfl, hP, hK, hN⟩ := hv
  have hx := B.exec
  have hb := B.bytes
  have hr := B.returns
  have hlocks := B.notSynchronized
  have hts := atoms_spec (ws := wsX2_complaints) B.pre
  have hown : s.vm.findClass RX2 = some m.cls := findClass_of_methodNamed B.named
  have hS : va_S No s.heap s.heap [] := va_S.rf
  have FX : CallFix p m c cX2_complaints 3 s ([.ref (b 0), .ref ac, .int (nI pt)] : List Value).toArray wsX2_complaints RX2 := ⟨hx, hb, hml, hown, hts⟩
  have hl := lv_entry ([.ref (b 0), .ref ac, .int (nI pt)]) (n := 3) (Nat.le_of_ble_eq_true rfl)
  rw [lg_entry_eq]
  generalize (lg_sl ([.ref (b 0), .ref ac, .int (nI pt)]) ++ List.replicate (3 - (lg_sl ([.ref (b 0), .ref ac, .int (nI pt)])).length) Slot.unset).toArray = ls at hl ⊢
  have hl : lv_has ls 3 [(0, .ref (b 0)), (1, .ref ac), (2, .int (nI pt))] := hl
  refine wq (fun Q hQ => ?_)
  have hzc : 0 + 0 ≤ (headSpec wsX2_complaints rmX2_complaints).room.cells := Nat.zero_le _
  have hzs : 0 + 0 ≤ (headSpec wsX2_complaints rmX2_complaints).room.slots := Nat.zero_le _
  have hf23 := hts (.fieldLink RX2 23 "CanalCityModel" "quarter" "[I") (by decide +kernel)
  have hf35 := hts (.fieldLink RX2 35 "CanalCityModel" "markets" "[I") (by decide +kernel)
  have hinX2 : ∀ w ∈ u_ws RX2 TX2 14, w ∈ wsX2_complaints := by decide +kernel
  refine lv_aload_n hx hb dX2_complaints_0 rfl (lv_at hl 1 rfl) ?_
  refine lv_iload_n hx hb dX2_complaints_1 rfl (lv_at hl 2 rfl) ?_
  refine va_iald hx hb hK hP 1 0 rfl rfl (vp_in_nI hpt (by decide)) dX2_complaints_2 ?_
  refine tpi (x' := X pt) (congrArg X (nI_clamp (by omega))) ?_
  refine tpi (x' := k pt) (hk pt hpt) ?_
  refine lv_iconst (v := 3) hx hb dX2_complaints_3 (by decide) ?_
  refine lv_icmp_eq (tgt := 9) hx hb dX2_complaints_4 (by decide) (fun c3 => ?_) (fun c3 => ?_)
  · skip
    obtain ⟨j, hj⟩ := qrt_land (k := k) (x := pt) (by rw [c3]; decide)
    have hj64 : j < 64 := Nat.lt_of_le_of_lt (qrt_le hj) hpt
    refine lv_aload_n hx hb dX2_complaints_9 rfl (lv_at hl 0 rfl) ?_
    refine va_get (D := G) (ci := 2) (v := .ref (b 11)) (C := RX2) (T := TX2) (N := 14) hx hb hts hinX2 hown hK hP 0 rfl rfl 11 (by decide) hf35 (fun _ h9 => h9) rfl dX2_complaints_10 ?_
    refine lv_aload_n hx hb dX2_complaints_13 rfl (lv_at hl 0 rfl) ?_
    refine va_get (D := G) (ci := 2) (v := .ref (b 7)) (C := RX2) (T := TX2) (N := 14) hx hb hts hinX2 hown hK hP 0 rfl rfl 7 (by decide) hf23 (fun _ h9 => h9) rfl dX2_complaints_14 ?_
    refine lv_iload_n hx hb dX2_complaints_17 rfl (lv_at hl 2 rfl) ?_
    refine va_iald hx hb hK hP 2 0 rfl rfl (vp_in_nI hpt (by decide)) dX2_complaints_18 ?_
    refine tpi (x' := Qm pt) (congrArg Qm (nI_clamp (by omega))) ?_
    refine tpi (x' := nI j) (by rw [hLK.1 pt hpt, hj]; rfl) ?_
    refine va_iald hx hb hK hP 6 0 rfl rfl (vp_in_nI hj64 (by decide)) dX2_complaints_19 ?_
    refine tpi (x' := Mm j) (congrArg Mm (nI_clamp (by omega))) ?_
    refine tpi (x' := kindQ k 5 pt) (by rw [hLK.2.2.2.2 j hj64 (qrt_idem hpt hj)]; unfold kindQ; rw [hj]) ?_
    refine lv_if_ne (tgt := 27) hx hb dX2_complaints_20 (by decide) (fun c5 => ?_) (fun c5 => ?_)
    · skip
      refine lv_iconst (v := 0) hx hb dX2_complaints_27 (by decide) ?_
      refine lv_aload_n hx hb dX2_complaints_28 rfl (lv_at hl 1 rfl) ?_
      refine lv_iload_n hx hb dX2_complaints_29 rfl (lv_at hl 2 rfl) ?_
      refine lv_iconst (v := 4) hx hb dX2_complaints_30 (by decide) ?_
      refine cr_i (va_runS (As := [.ref ac, .int (nI pt), .int 4]) (rest := [.int 0]) FX (c_X2_besideOf l G cI ac X k pt 4 hk hpt) (va_cwS 3 hts gX2_complaints_X2_besideOf rfl rfl rfl (by decide +kernel) ⟨Nat.le_of_ble_eq_true rfl, Nat.le_of_ble_eq_true rfl⟩) (rdS hK hP hN [1] rfl) rfl rfl hl.1 rfl (lv_room (Nat.le_of_ble_eq_true rfl)) dX2_complaints_31 ⟨hzc, hzs⟩) hS hP (fun H locs hP hS => ?_)
      refine lv_iadd hx hb dX2_complaints_34 ?_
      refine lv_aload_n hx hb dX2_complaints_35 rfl (lv_at hl 0 rfl) ?_
      refine lv_aload_n hx hb dX2_complaints_36 rfl (lv_at hl 1 rfl) ?_
      refine lv_iload_n hx hb dX2_complaints_37 rfl (lv_at hl 2 rfl) ?_
      refine cr_i (va_runV (As := [.ref ac, .int (nI pt)]) (rest := [.int (0 + (nbk k 4 pt))]) FX (c_X2_isByBoat l G cI b ac th mo co le X Qm Op Lm Hm Mm Rw St k pt hk hkd hLK.2.1 hpt) (cwV 2 hts gX2_complaints_X2_isByBoat rfl rfl rfl (by decide +kernel) ⟨Nat.le_of_ble_eq_true rfl, Nat.le_of_ble_eq_true rfl⟩) (rdV hK hP hN [0, 1, 2, 3, 4, 5, 6, 7, 8] rfl (ci := 2) (q0 := 0) rfl rfl) rfl rfl hl.1 rfl (lv_room (Nat.le_of_ble_eq_true rfl)) dX2_complaints_38 ⟨hzc, hzs⟩) hS hP (fun H locs hP hS => ?_)
      rcases ho : byB k pt with _ | _
      · skip
        refine tpi (x' := 0) (rfl) ?_
        refine lv_if_eq (tgt := 48) hx hb dX2_complaints_41 (by decide) (fun _ => ?_) (fun c => absurd (rfl) c)
        refine lv_iconst (v := 1) hx hb dX2_complaints_48 (by decide) ?_
        refine lv_iadd hx hb dX2_complaints_49 ?_
        subst hQ
        exact rd_i (by unfold cpl; rw [if_pos c3, if_neg c5, ho]; rfl) hx hb hr hS hlocks dX2_complaints_50
      · skip
        refine tpi (x' := 1) (rfl) ?_
        refine lv_if_eq (tgt := 48) hx hb dX2_complaints_41 (by decide) (fun c => absurd c (by decide)) (fun _ => ?_)
        refine lv_iconst (v := 0) hx hb dX2_complaints_44 (by decide) ?_
        refine lv_goto (tgt := 49) hx hb dX2_complaints_45 (by decide) ?_
        refine lv_iadd hx hb dX2_complaints_49 ?_
        subst hQ
        exact rd_i (by unfold cpl; rw [if_pos c3, if_neg c5, ho]; rfl) hx hb hr hS hlocks dX2_complaints_50
    · skip
      refine lv_iconst (v := 2) hx hb dX2_complaints_23 (by decide) ?_
      refine lv_goto (tgt := 28) hx hb dX2_complaints_24 (by decide) ?_
      refine lv_aload_n hx hb dX2_complaints_28 rfl (lv_at hl 1 rfl) ?_
      refine lv_iload_n hx hb dX2_complaints_29 rfl (lv_at hl 2 rfl) ?_
      refine lv_iconst (v := 4) hx hb dX2_complaints_30 (by decide) ?_
      refine cr_i (va_runS (As := [.ref ac, .int (nI pt), .int 4]) (rest := [.int 2]) FX (c_X2_besideOf l G cI ac X k pt 4 hk hpt) (va_cwS 3 hts gX2_complaints_X2_besideOf rfl rfl rfl (by decide +kernel) ⟨Nat.le_of_ble_eq_true rfl, Nat.le_of_ble_eq_true rfl⟩) (rdS hK hP hN [1] rfl) rfl rfl hl.1 rfl (lv_room (Nat.le_of_ble_eq_true rfl)) dX2_complaints_31 ⟨hzc, hzs⟩) hS hP (fun H locs hP hS => ?_)
      refine lv_iadd hx hb dX2_complaints_34 ?_
      refine lv_aload_n hx hb dX2_complaints_35 rfl (lv_at hl 0 rfl) ?_
      refine lv_aload_n hx hb dX2_complaints_36 rfl (lv_at hl 1 rfl) ?_
      refine lv_iload_n hx hb dX2_complaints_37 rfl (lv_at hl 2 rfl) ?_
      refine cr_i (va_runV (As := [.ref ac, .int (nI pt)]) (rest := [.int (2 + (nbk k 4 pt))]) FX (c_X2_isByBoat l G cI b ac th mo co le X Qm Op Lm Hm Mm Rw St k pt hk hkd hLK.2.1 hpt) (cwV 2 hts gX2_complaints_X2_isByBoat rfl rfl rfl (by decide +kernel) ⟨Nat.le_of_ble_eq_true rfl, Nat.le_of_ble_eq_true rfl⟩) (rdV hK hP hN [0, 1, 2, 3, 4, 5, 6, 7, 8] rfl (ci := 2) (q0 := 0) rfl rfl) rfl rfl hl.1 rfl (lv_room (Nat.le_of_ble_eq_true rfl)) dX2_complaints_38 ⟨hzc, hzs⟩) hS hP (fun H locs hP hS => ?_)
      rcases ho : byB k pt with _ | _
      · skip
        refine tpi (x' := 0) (rfl) ?_
        refine lv_if_eq (tgt := 48) hx hb dX2_complaints_41 (by decide) (fun _ => ?_) (fun c => absurd (rfl) c)
        refine lv_iconst (v := 1) hx hb dX2_complaints_48 (by decide) ?_
        refine lv_iadd hx hb dX2_complaints_49 ?_
        subst hQ
        exact rd_i (by unfold cpl; rw [if_pos c3, if_pos c5, ho]; rfl) hx hb hr hS hlocks dX2_complaints_50
      · skip
        refine tpi (x' := 1) (rfl) ?_
        refine lv_if_eq (tgt := 48) hx hb dX2_complaints_41 (by decide) (fun c => absurd c (by decide)) (fun _ => ?_)
        refine lv_iconst (v := 0) hx hb dX2_complaints_44 (by decide) ?_
        refine lv_goto (tgt := 49) hx hb dX2_complaints_45 (by decide) ?_
        refine lv_iadd hx hb dX2_complaints_49 ?_
        subst hQ
        exact rd_i (by unfold cpl; rw [if_pos c3, if_pos c5, ho]; rfl) hx hb hr hS hlocks dX2_complaints_50
  · skip
    refine lv_iconst (v := 0) hx hb dX2_complaints_7 (by decide) ?_
    subst hQ
    exact rd_i (by unfold cpl; rw [if_neg c3]) hx hb hr hS hlocks dX2_complaints_8

def rmX2_dues : Room := { frames := 5, cells := 0, slots := 0, locals := 112 }
set_option maxHeartbeats 4000000 in
set_option maxRecDepth 100000 in
/-- dues -/
theorem c_X2_dues (l : Launch) (G : va_G) (cI : ClassId) (b : Nat → Nat) (ac : Nat) (th mo co le : Int32) (X Qm Op Lm Hm Mm Rw St k : Nat → Int32) (pt : Nat) (hk : eqK X k) (hkd : ∀ x, x < 64 → kd (k x)) (hLK : LK k Qm Op Lm Hm Mm) (hpt : pt < 64) : Met l yX2_dues wsX2_dues rmX2_dues (va_Pc [.ref (b 0), .ref ac, .int (nI pt)] (RdP G cI [((b 0), oM b th mo co le), (ac, iA cI X), ((b 7), iA cI Qm), ((b 8), iA cI Op), ((b 9), iA cI Lm), ((b 10), iA cI Hm), ((b 11), iA cI Mm), ((b 12), iA cI Rw), ((b 13), iA cI St)])) (RdQ (due k pt)) 0 0 No := by
  refine Met.ofW (cc := cX2_dues) (maxL := 3) (ret := (some .int)) (by decide) rfl ?_
  intro p e s m args below meth c s₁ B hml hv
  obtain ⟨rfl, hP, hK, hN⟩ := hv
  have hx := B.exec
  have hb := B.bytes
  have hr := B.returns
  have hlocks := B.notSynchronized
  have hts := atoms_spec (ws := wsX2_dues) B.pre
  have hown : s.vm.findClass RX2 = some m.cls := findClass_of_methodNamed B.named
  have hS : va_S No s.heap s.heap [] := va_S.rf
  have FX : CallFix p m c cX2_dues 3 s ([.ref (b 0), .ref ac, .int (nI pt)] : List Value).toArray wsX2_dues RX2 := ⟨hx, hb, hml, hown, hts⟩
  have hl := lv_entry ([.ref (b 0), .ref ac, .int (nI pt)]) (n := 3) (Nat.le_of_ble_eq_true rfl)
  rw [lg_entry_eq]
  generalize (lg_sl ([.ref (b 0), .ref ac, .int (nI pt)]) ++ List.replicate (3 - (lg_sl ([.ref (b 0), .ref ac, .int (nI pt)])).length) Slot.unset).toArray = ls at hl ⊢
  have hl : lv_has ls 3 [(0, .ref (b 0)), (1, .ref ac), (2, .int (nI pt))] := hl
  refine wq (fun Q hQ => ?_)
  have hzc : 0 + 0 ≤ (headSpec wsX2_dues rmX2_dues).room.cells := Nat.zero_le _
  have hzs : 0 + 0 ≤ (headSpec wsX2_dues rmX2_dues).room.slots := Nat.zero_le _
  have hf23 := hts (.fieldLink RX2 23 "CanalCityModel" "quarter" "[I") (by decide +kernel)
  have hf32 := hts (.fieldLink RX2 32 "CanalCityModel" "houses" "[I") (by decide +kernel)
  have hinX2 : ∀ w ∈ u_ws RX2 TX2 14, w ∈ wsX2_dues := by decide +kernel
  refine lv_aload_n hx hb dX2_dues_0 rfl (lv_at hl 1 rfl) ?_
  refine lv_iload_n hx hb dX2_dues_1 rfl (lv_at hl 2 rfl) ?_
  refine va_iald hx hb hK hP 1 0 rfl rfl (vp_in_nI hpt (by decide)) dX2_dues_2 ?_
  refine tpi (x' := X pt) (congrArg X (nI_clamp (by omega))) ?_
  refine tpi (x' := k pt) (hk pt hpt) ?_
  rcases (show k pt = 3 ∨ k pt = 4 ∨ k pt = 5 ∨ (k pt ≠ 3 ∧ k pt ≠ 4 ∧ k pt ≠ 5) by by_cases h3 : k pt = 3; exact Or.inl h3; by_cases h4 : k pt = 4; exact Or.inr (Or.inl h4); by_cases h5 : k pt = 5; exact Or.inr (Or.inr (Or.inl h5)); exact Or.inr (Or.inr (Or.inr ⟨h3, h4, h5⟩))) with h3 | h4 | h5 | ⟨h3, h4, h5⟩
  · skip
    refine tpi (x' := 3) (h3) ?_
    refine lv_tableIn (off := 25) (tgt := 28) hx hb dX2_dues_3 (by decide +kernel) (by decide +kernel) (by decide +kernel) (by decide) ?_
    refine lv_iconst (v := 0) hx hb dX2_dues_28 (by decide) ?_
    refine lv_iconst (v := 4) hx hb dX2_dues_29 (by decide) ?_
    refine lv_aload_n hx hb dX2_dues_30 rfl (lv_at hl 0 rfl) ?_
    refine lv_aload_n hx hb dX2_dues_31 rfl (lv_at hl 1 rfl) ?_
    refine lv_iload_n hx hb dX2_dues_32 rfl (lv_at hl 2 rfl) ?_
    refine cr_i (va_runV (As := [.ref ac, .int (nI pt)]) (rest := [.int 4, .int 0]) FX (c_X2_complaints l G cI b ac th mo co le X Qm Op Lm Hm Mm Rw St k pt hk hkd hLK hpt) (cwV 2 hts gX2_dues_X2_complaints rfl rfl rfl (by decide +kernel) ⟨Nat.le_of_ble_eq_true rfl, Nat.le_of_ble_eq_true rfl⟩) (rdV hK hP hN [0, 1, 2, 3, 4, 5, 6, 7, 8] rfl (ci := 2) (q0 := 0) rfl rfl) rfl rfl hl.1 rfl (lv_room (Nat.le_of_ble_eq_true rfl)) dX2_dues_33 ⟨hzc, hzs⟩) hS hP (fun H locs hP hS => ?_)
    refine lv_isub hx hb dX2_dues_36 ?_
    refine va_mmax hx hb (hml.trans hl.1.symm) hown (hts (.methodLink RX2 82 Lib.Math.max.name) (by decide +kernel)) (hts (.static Lib.Math.max.name) (by decide +kernel)) (hts (.initialized "java/lang/Math") (by decide +kernel)) (hts (.code Lib.Math.max.name Lib.Math.max.code 2 (some .int)) (by decide +kernel)) (Nat.le_of_ble_eq_true rfl) (Nat.le_of_ble_eq_true rfl) (Nat.zero_le _) (Nat.zero_le _) dX2_dues_37 ?_
    subst hQ
    exact rd_i (by unfold due; rw [if_pos h3]) hx hb hr hS hlocks dX2_dues_40
  · skip
    refine tpi (x' := 4) (h4) ?_
    refine lv_tableIn (off := 38) (tgt := 41) hx hb dX2_dues_3 (by decide +kernel) (by decide +kernel) (by decide +kernel) (by decide) ?_
    refine lv_aload_n hx hb dX2_dues_41 rfl (lv_at hl 0 rfl) ?_
    refine lv_aload_n hx hb dX2_dues_42 rfl (lv_at hl 1 rfl) ?_
    refine lv_iload_n hx hb dX2_dues_43 rfl (lv_at hl 2 rfl) ?_
    refine cr_i (va_runV (As := [.ref ac, .int (nI pt)]) (rest := []) FX (c_X2_isByBoat l G cI b ac th mo co le X Qm Op Lm Hm Mm Rw St k pt hk hkd hLK.2.1 hpt) (cwV 2 hts gX2_dues_X2_isByBoat rfl rfl rfl (by decide +kernel) ⟨Nat.le_of_ble_eq_true rfl, Nat.le_of_ble_eq_true rfl⟩) (rdV hK hP hN [0, 1, 2, 3, 4, 5, 6, 7, 8] rfl (ci := 2) (q0 := 0) rfl rfl) rfl rfl hl.1 rfl (lv_room (Nat.le_of_ble_eq_true rfl)) dX2_dues_44 ⟨hzc, hzs⟩) hS hP (fun H locs hP hS => ?_)
    rcases ho : byB k pt with _ | _
    · skip
      refine tpi (x' := 0) (rfl) ?_
      refine lv_if_eq (tgt := 54) hx hb dX2_dues_47 (by decide) (fun _ => ?_) (fun c => absurd (rfl) c)
      refine lv_iconst (v := 2) hx hb dX2_dues_54 (by decide) ?_
      subst hQ
      exact rd_i (by unfold due; rw [if_neg (by rw [h4]; decide), if_pos h4, ho]; rfl) hx hb hr hS hlocks dX2_dues_55
    · skip
      refine tpi (x' := 1) (rfl) ?_
      refine lv_if_eq (tgt := 54) hx hb dX2_dues_47 (by decide) (fun c => absurd c (by decide)) (fun _ => ?_)
      refine lv_iconst (v := 5) hx hb dX2_dues_50 (by decide) ?_
      refine lv_goto (tgt := 55) hx hb dX2_dues_51 (by decide) ?_
      subst hQ
      exact rd_i (by unfold due; rw [if_neg (by rw [h4]; decide), if_pos h4, ho]; rfl) hx hb hr hS hlocks dX2_dues_55
  · skip
    obtain ⟨j, hj⟩ := qrt_land (k := k) (x := pt) (by rw [h5]; decide)
    have hj64 : j < 64 := Nat.lt_of_le_of_lt (qrt_le hj) hpt
    refine tpi (x' := 5) (h5) ?_
    refine lv_tableIn (off := 53) (tgt := 56) hx hb dX2_dues_3 (by decide +kernel) (by decide +kernel) (by decide +kernel) (by decide) ?_
    refine lv_aload_n hx hb dX2_dues_56 rfl (lv_at hl 0 rfl) ?_
    refine va_get (D := G) (ci := 2) (v := .ref (b 10)) (C := RX2) (T := TX2) (N := 14) hx hb hts hinX2 hown hK hP 0 rfl rfl 10 (by decide) hf32 (fun _ h9 => h9) rfl dX2_dues_57 ?_
    refine lv_aload_n hx hb dX2_dues_60 rfl (lv_at hl 0 rfl) ?_
    refine va_get (D := G) (ci := 2) (v := .ref (b 7)) (C := RX2) (T := TX2) (N := 14) hx hb hts hinX2 hown hK hP 0 rfl rfl 7 (by decide) hf23 (fun _ h9 => h9) rfl dX2_dues_61 ?_
    refine lv_iload_n hx hb dX2_dues_64 rfl (lv_at hl 2 rfl) ?_
    refine va_iald hx hb hK hP 2 0 rfl rfl (vp_in_nI hpt (by decide)) dX2_dues_65 ?_
    refine tpi (x' := Qm pt) (congrArg Qm (nI_clamp (by omega))) ?_
    refine tpi (x' := nI j) (by rw [hLK.1 pt hpt, hj]; rfl) ?_
    refine va_iald hx hb hK hP 5 0 rfl rfl (vp_in_nI hj64 (by decide)) dX2_dues_66 ?_
    refine tpi (x' := Hm j) (congrArg Hm (nI_clamp (by omega))) ?_
    refine tpi (x' := kindQ k 3 pt) (by rw [hLK.2.2.2.1 j hj64 (qrt_idem hpt hj)]; unfold kindQ; rw [hj]) ?_
    refine lv_iconst (v := 2) hx hb dX2_dues_67 (by decide) ?_
    refine lv_idiv hx hb dX2_dues_68 (by decide) ?_
    subst hQ
    exact rd_i (by unfold due; rw [if_neg (by rw [h5]; decide), if_neg (by rw [h5]; decide), if_pos h5]) hx hb hr hS hlocks dX2_dues_69
  · skip
    refine lv_tableOut (tgt := 70) hx hb dX2_dues_3 (tbl345 h3 h4 h5) (by decide) ?_
    refine lv_iconst (v := 0) hx hb dX2_dues_70 (by decide) ?_
    subst hQ
    exact rd_i (by unfold due; rw [if_neg h3, if_neg h4, if_neg h5]) hx hb hr hS hlocks dX2_dues_71

def rmX2_sum : Room := { frames := 6, cells := 0, slots := 0, locals := 134 }
set_option maxHeartbeats 4000000 in
set_option maxRecDepth 100000 in
/-- dues or complaints of all -/
theorem c_X2_sum (l : Launch) (G : va_G) (cI : ClassId) (b : Nat → Nat) (ac : Nat) (th mo co le : Int32) (X Qm Op Lm Hm Mm Rw St k : Nat → Int32) (du : Bool) (hk : eqK X k) (hkd : ∀ x, x < 64 → kd (k x)) (hLK : LK k Qm Op Lm Hm Mm) : Met l yX2_sum wsX2_sum rmX2_sum (va_Pc [.ref (b 0), .ref ac, .int (b2i du)] (RdP G cI [((b 0), oM b th mo co le), (ac, iA cI X), ((b 7), iA cI Qm), ((b 8), iA cI Op), ((b 9), iA cI Lm), ((b 10), iA cI Hm), ((b 11), iA cI Mm), ((b 12), iA cI Rw), ((b 13), iA cI St)])) (RdQ (csum (fun x => if du then due k x else cpl k x) 64)) 0 0 No := by
  refine Met.ofW (cc := cX2_sum) (maxL := 5) (ret := (some .int)) (by decide) rfl ?_
  intro p e s m args below meth c s₁ B hml hv
  obtain ⟨rfl, hP, hK, hN⟩ := hv
  have hx := B.exec
  have hb := B.bytes
  have hr := B.returns
  have hlocks := B.notSynchronized
  have hts := atoms_spec (ws := wsX2_sum) B.pre
  have hown : s.vm.findClass RX2 = some m.cls := findClass_of_methodNamed B.named
  have hS : va_S No s.heap s.heap [] := va_S.rf
  have FX : CallFix p m c cX2_sum 5 s ([.ref (b 0), .ref ac, .int (b2i du)] : List Value).toArray wsX2_sum RX2 := ⟨hx, hb, hml, hown, hts⟩
  have hl := lv_entry ([.ref (b 0), .ref ac, .int (b2i du)]) (n := 5) (Nat.le_of_ble_eq_true rfl)
  rw [lg_entry_eq]
  generalize (lg_sl ([.ref (b 0), .ref ac, .int (b2i du)]) ++ List.replicate (5 - (lg_sl ([.ref (b 0), .ref ac, .int (b2i du)])).length) Slot.unset).toArray = ls at hl ⊢
  have hl : lv_has ls 5 [(0, .ref (b 0)), (1, .ref ac), (2, .int (b2i du))] := hl
  refine wq (fun Q hQ => ?_)
  have hzc : 0 + 0 ≤ (headSpec wsX2_sum rmX2_sum).room.cells := Nat.zero_le _
  have hzs : 0 + 0 ≤ (headSpec wsX2_sum rmX2_sum).room.slots := Nat.zero_le _
  refine lv_iconst (v := 0) hx hb dX2_sum_0 (by decide) ?_
  refine lv_istore_n (lv' := [(3, .int 0), (0, .ref (b 0)), (1, .ref ac), (2, .int (b2i du))]) hx hb dX2_sum_1 rfl hl (by decide) rfl (fun ls hl => ?_)
  refine lv_iconst (v := 0) hx hb dX2_sum_2 (by decide) ?_
  refine lv_istore (lv' := [(4, .int 0), (3, .int 0), (0, .ref (b 0)), (1, .ref ac), (2, .int (b2i du))]) hx hb dX2_sum_3 hl (by decide) rfl (fun ls hl => ?_)
  have lp : ∀ (n : Nat) (i : Nat), (hi : i ≤ 64) → (64 - i) < n → ∀ (H : Heap) (locs : List Loc) (ls : Array Slot), va_P G vwCl [((b 0), oM b th mo co le), (ac, iA cI X), ((b 7), iA cI Qm), ((b 8), iA cI Op), ((b 9), iA cI Lm), ((b 10), iA cI Hm), ((b 11), iA cI Mm), ((b 12), iA cI Rw), ((b 13), iA cI St)] H → va_S No s.heap H locs → lv_has ls 5 [(0, .ref (b 0)), (1, .ref ac), (2, .int (b2i du)), (3, .int (csum (fun x => if du then due k x else cpl k x) i)), (4, .int (nI i))] → W p l e (headSpec wsX2_sum rmX2_sum).room s m ([.ref (b 0), .ref ac, .int (b2i du)] : List Value).toArray below meth c H locs 0 0 Q (F0 m 5 ls []) := by
    intro n
    induction n with
    | zero => intro i hi hn; exact absurd hn (by omega)
    | succ n ih_lp =>
      intro i hi hn H locs ls hP hS hl
      refine lv_iload hx hb dX2_sum_5 (lv_at hl 4 rfl) ?_
      refine lv_bipush (v := 64) hx hb dX2_sum_7 (by decide) ?_
      rcases Nat.lt_or_ge i 64 with g | g
      · skip
        refine lv_icmp_ge (tgt := 42) hx hb dX2_sum_9 (by decide) (fun c => absurd c (lt_n (n := 64) g (by decide))) (fun _ => ?_)
        refine lv_iload_n hx hb dX2_sum_12 rfl (lv_at hl 3 rfl) ?_
        refine lv_iload_n hx hb dX2_sum_13 rfl (lv_at hl 2 rfl) ?_
        by_cases hdu : du = true
        · skip
          refine tpi (x' := 1) (by rw [hdu]; rfl) ?_
          refine lv_if_eq (tgt := 27) hx hb dX2_sum_14 (by decide) (fun c => absurd c (by decide)) (fun _ => ?_)
          refine lv_aload_n hx hb dX2_sum_17 rfl (lv_at hl 0 rfl) ?_
          refine lv_aload_n hx hb dX2_sum_18 rfl (lv_at hl 1 rfl) ?_
          refine lv_iload hx hb dX2_sum_19 (lv_at hl 4 rfl) ?_
          refine cr_i (va_runV (As := [.ref ac, .int (nI i)]) (rest := [.int (csum (fun x => if du then due k x else cpl k x) i)]) FX (c_X2_dues l G cI b ac th mo co le X Qm Op Lm Hm Mm Rw St k i hk hkd hLK g) (cwV 2 hts gX2_sum_X2_dues rfl rfl rfl (by decide +kernel) ⟨Nat.le_of_ble_eq_true rfl, Nat.le_of_ble_eq_true rfl⟩) (rdV hK hP hN [0, 1, 2, 3, 4, 5, 6, 7, 8] rfl (ci := 2) (q0 := 0) rfl rfl) rfl rfl hl.1 rfl (lv_room (Nat.le_of_ble_eq_true rfl)) dX2_sum_21 ⟨hzc, hzs⟩) hS hP (fun H locs hP hS => ?_)
          refine lv_goto (tgt := 34) hx hb dX2_sum_24 (by decide) ?_
          refine lv_iadd hx hb dX2_sum_34 ?_
          refine tpi (x' := csum (fun x => if du then due k x else cpl k x) (i + 1)) (by rw [csum]; rw [if_pos hdu]) ?_
          refine lv_istore_n (lv' := [(3, .int (csum (fun x => if du then due k x else cpl k x) (i + 1))), (0, .ref (b 0)), (1, .ref ac), (2, .int (b2i du)), (4, .int (nI i))]) hx hb dX2_sum_35 rfl hl (by decide) rfl (fun ls hl => ?_)
          refine lv_iinc (v := nI (i + 1)) (lv' := [(4, .int (nI (i + 1))), (3, .int (csum (fun x => if du then due k x else cpl k x) (i + 1))), (0, .ref (b 0)), (1, .ref ac), (2, .int (b2i du))]) hx hb dX2_sum_36 hl (k := 4) rfl (nI_inc i) (by decide) rfl (fun ls hl => ?_)
          refine lv_goto (tgt := 5) hx hb dX2_sum_39 (by decide) ?_
          exact ih_lp (i + 1) (by omega) (by omega) _ _ _ hP hS (lv_sub hl [2, 3, 4, 1, 0] (rfl))
        · skip
          refine tpi (x' := 0) (by rw [Bool.eq_false_iff.mpr hdu]; rfl) ?_
          refine lv_if_eq (tgt := 27) hx hb dX2_sum_14 (by decide) (fun _ => ?_) (fun c => absurd (rfl) c)
          refine lv_aload_n hx hb dX2_sum_27 rfl (lv_at hl 0 rfl) ?_
          refine lv_aload_n hx hb dX2_sum_28 rfl (lv_at hl 1 rfl) ?_
          refine lv_iload hx hb dX2_sum_29 (lv_at hl 4 rfl) ?_
          refine cr_i (va_runV (As := [.ref ac, .int (nI i)]) (rest := [.int (csum (fun x => if du then due k x else cpl k x) i)]) FX (c_X2_complaints l G cI b ac th mo co le X Qm Op Lm Hm Mm Rw St k i hk hkd hLK g) (cwV 2 hts gX2_sum_X2_complaints rfl rfl rfl (by decide +kernel) ⟨Nat.le_of_ble_eq_true rfl, Nat.le_of_ble_eq_true rfl⟩) (rdV hK hP hN [0, 1, 2, 3, 4, 5, 6, 7, 8] rfl (ci := 2) (q0 := 0) rfl rfl) rfl rfl hl.1 rfl (lv_room (Nat.le_of_ble_eq_true rfl)) dX2_sum_31 ⟨hzc, hzs⟩) hS hP (fun H locs hP hS => ?_)
          refine lv_iadd hx hb dX2_sum_34 ?_
          refine tpi (x' := csum (fun x => if du then due k x else cpl k x) (i + 1)) (by rw [csum]; rw [if_neg hdu]) ?_
          refine lv_istore_n (lv' := [(3, .int (csum (fun x => if du then due k x else cpl k x) (i + 1))), (0, .ref (b 0)), (1, .ref ac), (2, .int (b2i du)), (4, .int (nI i))]) hx hb dX2_sum_35 rfl hl (by decide) rfl (fun ls hl => ?_)
          refine lv_iinc (v := nI (i + 1)) (lv' := [(4, .int (nI (i + 1))), (3, .int (csum (fun x => if du then due k x else cpl k x) (i + 1))), (0, .ref (b 0)), (1, .ref ac), (2, .int (b2i du))]) hx hb dX2_sum_36 hl (k := 4) rfl (nI_inc i) (by decide) rfl (fun ls hl => ?_)
          refine lv_goto (tgt := 5) hx hb dX2_sum_39 (by decide) ?_
          exact ih_lp (i + 1) (by omega) (by omega) _ _ _ hP hS (lv_sub hl [2, 3, 4, 1, 0] (rfl))
      · skip
        have g9 : 64 = i := by omega
        subst g9
        refine lv_icmp_ge (tgt := 42) hx hb dX2_sum_9 (by decide) (fun _ => ?_) (fun c => absurd (le_n (n := 64) (i := 64) (by decide) (by decide)) c)
        refine lv_iload_n hx hb dX2_sum_42 rfl (lv_at hl 3 rfl) ?_
        subst hQ
        exact rd_i (rfl) hx hb hr hS hlocks dX2_sum_43
  exact lp (_ + 1) 0 (by omega) (Nat.lt_succ_self _) _ _ _ hP hS (lv_sub hl [2, 3, 4, 1, 0] rfl)

def rmX2_many : Room := { frames := 0, cells := 0, slots := 0, locals := 0 }
set_option maxHeartbeats 4000000 in
set_option maxRecDepth 100000 in
/-- lots of a kind -/
theorem c_X2_many (l : Launch) (G : va_G) (cI : ClassId) (r : Nat) (X k : Nat → Int32) (v : Int32) (hk : eqK X k) : Met l yX2_many wsX2_many rmX2_many (va_Pc [.ref r, .int v] (RdP G cI [(r, iA cI X)])) (RdQ (many k v)) 0 0 No := by
  refine Met.ofW (cc := cX2_many) (maxL := 7) (ret := (some .int)) (by decide) rfl ?_
  intro p e s m args below meth c s₁ B hml hv
  obtain ⟨rfl, hP, hK, hN⟩ := hv
  have hx := B.exec
  have hb := B.bytes
  have hr := B.returns
  have hlocks := B.notSynchronized
  have hts := atoms_spec (ws := wsX2_many) B.pre
  have hown : s.vm.findClass RX2 = some m.cls := findClass_of_methodNamed B.named
  have hS : va_S No s.heap s.heap [] := va_S.rf
  have FX : CallFix p m c cX2_many 7 s ([.ref r, .int v] : List Value).toArray wsX2_many RX2 := ⟨hx, hb, hml, hown, hts⟩
  have hl := lv_entry ([.ref r, .int v]) (n := 7) (Nat.le_of_ble_eq_true rfl)
  rw [lg_entry_eq]
  generalize (lg_sl ([.ref r, .int v]) ++ List.replicate (7 - (lg_sl ([.ref r, .int v])).length) Slot.unset).toArray = ls at hl ⊢
  have hl : lv_has ls 7 [(0, .ref r), (1, .int v)] := hl
  refine wq (fun Q hQ => ?_)
  have hzc : 0 + 0 ≤ (headSpec wsX2_many rmX2_many).room.cells := Nat.zero_le _
  have hzs : 0 + 0 ≤ (headSpec wsX2_many rmX2_many).room.slots := Nat.zero_le _
  refine lv_iconst (v := 0) hx hb dX2_many_0 (by decide) ?_
  refine lv_istore_n (lv' := [(2, .int 0), (0, .ref r), (1, .int v)]) hx hb dX2_many_1 rfl hl (by decide) rfl (fun ls hl => ?_)
  refine lv_aload_n hx hb dX2_many_2 rfl (lv_at hl 1 rfl) ?_
  refine lv_astore_n (lv' := [(3, .ref r), (2, .int 0), (0, .ref r), (1, .int v)]) hx hb dX2_many_3 rfl hl (by decide) rfl (fun ls hl => ?_)
  refine lv_aload_n hx hb dX2_many_4 rfl (lv_at hl 0 rfl) ?_
  refine va_alen hx hb hK hP 0 0 rfl rfl (v := 64) rfl dX2_many_5 ?_
  refine tpi (x' := nI 64) (rfl) ?_
  refine lv_istore (lv' := [(4, .int (nI 64)), (3, .ref r), (2, .int 0), (0, .ref r), (1, .int v)]) hx hb dX2_many_6 hl (by decide) rfl (fun ls hl => ?_)
  refine lv_iconst (v := 0) hx hb dX2_many_8 (by decide) ?_
  refine tpi (x' := nI 0) (rfl) ?_
  refine lv_istore (lv' := [(5, .int (nI 0)), (4, .int (nI 64)), (3, .ref r), (2, .int 0), (0, .ref r), (1, .int v)]) hx hb dX2_many_9 hl (by decide) rfl (fun ls hl => ?_)
  have lp : ∀ (n : Nat) (i : Nat), (hi : i ≤ 64) → (64 - i) < n → ∀ (H : Heap) (locs : List Loc) (ls : Array Slot), va_P G vwCl [(r, iA cI X)] H → va_S No s.heap H locs → lv_has ls 7 [(1, .int v), (2, .int (csum (fun p => if k p = v then 1 else 0) i)), (3, .ref r), (4, .int (nI 64)), (5, .int (nI i))] → W p l e (headSpec wsX2_many rmX2_many).room s m ([.ref r, .int v] : List Value).toArray below meth c H locs 0 0 Q (F0 m 11 ls []) := by
    intro n
    induction n with
    | zero => intro i hi hn; exact absurd hn (by omega)
    | succ n ih_lp =>
      intro i hi hn H locs ls hP hS hl
      refine lv_iload hx hb dX2_many_11 (lv_at hl 4 rfl) ?_
      refine lv_iload hx hb dX2_many_13 (lv_at hl 3 rfl) ?_
      rcases Nat.lt_or_ge i 64 with g | g
      · skip
        refine lv_icmp_ge (tgt := 44) hx hb dX2_many_15 (by decide) (fun c => absurd c (lt_n (n := 64) g (by decide))) (fun _ => ?_)
        refine lv_aload_n hx hb dX2_many_18 rfl (lv_at hl 2 rfl) ?_
        refine lv_iload hx hb dX2_many_19 (lv_at hl 4 rfl) ?_
        refine va_iald hx hb hK hP 0 0 rfl rfl (vp_in_nI g (by decide)) dX2_many_21 ?_
        refine tpi (x' := X i) (congrArg X (nI_clamp (by omega))) ?_
        refine tpi (x' := k i) (hk i g) ?_
        refine lv_istore (lv' := [(6, .int (k i)), (1, .int v), (2, .int (csum (fun p => if k p = v then 1 else 0) i)), (3, .ref r), (4, .int (nI 64)), (5, .int (nI i))]) hx hb dX2_many_22 hl (by decide) rfl (fun ls hl => ?_)
        refine lv_iload_n hx hb dX2_many_24 rfl (lv_at hl 2 rfl) ?_
        refine lv_iload hx hb dX2_many_25 (lv_at hl 0 rfl) ?_
        refine lv_iload_n hx hb dX2_many_27 rfl (lv_at hl 1 rfl) ?_
        refine lv_icmp_ne (tgt := 35) hx hb dX2_many_28 (by decide) (fun c9 => ?_) (fun c9 => ?_)
        · skip
          refine lv_iconst (v := 0) hx hb dX2_many_35 (by decide) ?_
          refine lv_iadd hx hb dX2_many_36 ?_
          refine tpi (x' := csum (fun p => if k p = v then 1 else 0) (i + 1)) (by rw [csum]; rw [if_neg c9]) ?_
          refine lv_istore_n (lv' := [(2, .int (csum (fun p => if k p = v then 1 else 0) (i + 1))), (6, .int (k i)), (1, .int v), (3, .ref r), (4, .int (nI 64)), (5, .int (nI i))]) hx hb dX2_many_37 rfl hl (by decide) rfl (fun ls hl => ?_)
          refine lv_iinc (v := nI (i + 1)) (lv' := [(5, .int (nI (i + 1))), (2, .int (csum (fun p => if k p = v then 1 else 0) (i + 1))), (6, .int (k i)), (1, .int v), (3, .ref r), (4, .int (nI 64))]) hx hb dX2_many_38 hl (k := 5) rfl (nI_inc i) (by decide) rfl (fun ls hl => ?_)
          refine lv_goto (tgt := 11) hx hb dX2_many_41 (by decide) ?_
          exact ih_lp (i + 1) (by omega) (by omega) _ _ _ hP hS (lv_sub hl [3, 1, 4, 5, 0] (rfl))
        · skip
          refine lv_iconst (v := 1) hx hb dX2_many_31 (by decide) ?_
          refine lv_goto (tgt := 36) hx hb dX2_many_32 (by decide) ?_
          refine lv_iadd hx hb dX2_many_36 ?_
          refine tpi (x' := csum (fun p => if k p = v then 1 else 0) (i + 1)) (by rw [csum]; rw [if_pos c9]) ?_
          refine lv_istore_n (lv' := [(2, .int (csum (fun p => if k p = v then 1 else 0) (i + 1))), (6, .int (k i)), (1, .int v), (3, .ref r), (4, .int (nI 64)), (5, .int (nI i))]) hx hb dX2_many_37 rfl hl (by decide) rfl (fun ls hl => ?_)
          refine lv_iinc (v := nI (i + 1)) (lv' := [(5, .int (nI (i + 1))), (2, .int (csum (fun p => if k p = v then 1 else 0) (i + 1))), (6, .int (k i)), (1, .int v), (3, .ref r), (4, .int (nI 64))]) hx hb dX2_many_38 hl (k := 5) rfl (nI_inc i) (by decide) rfl (fun ls hl => ?_)
          refine lv_goto (tgt := 11) hx hb dX2_many_41 (by decide) ?_
          exact ih_lp (i + 1) (by omega) (by omega) _ _ _ hP hS (lv_sub hl [3, 1, 4, 5, 0] (rfl))
      · skip
        have g9 : 64 = i := by omega
        subst g9
        refine lv_icmp_ge (tgt := 44) hx hb dX2_many_15 (by decide) (fun _ => ?_) (fun c => absurd (le_n (n := 64) (i := 64) (by decide) (by decide)) c)
        refine lv_iload_n hx hb dX2_many_44 rfl (lv_at hl 1 rfl) ?_
        subst hQ
        exact rd_i (rfl) hx hb hr hS hlocks dX2_many_45
  exact lp (_ + 1) 0 (by omega) (Nat.lt_succ_self _) _ _ _ hP hS (lv_sub hl [5, 3, 2, 1, 0] rfl)

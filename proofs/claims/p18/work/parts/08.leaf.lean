def rmX1_isLot : Room := { frames := 0, cells := 0, slots := 0, locals := 0 }
set_option maxHeartbeats 4000000 in
set_option maxRecDepth 100000 in
/-- a number of a lot -/
theorem c_X1_isLot (l : Launch) (x : Int32)  : Met l yX1_isLot wsX1_isLot rmX1_isLot (va_Pc [.int x] (fun _ => True)) (RdQ (b2i (decide (0 ≤ x) && decide (x < 64)))) 0 0 No := by
  refine Met.ofW (cc := cX1_isLot) (maxL := 1) (ret := (some .boolean)) (by decide) rfl ?_
  intro p e s m args below meth c s₁ B hml hv
  obtain ⟨rfl, -⟩ := hv
  have hx := B.exec
  have hb := B.bytes
  have hr := B.returns
  have hlocks := B.notSynchronized
  have hts := atoms_spec (ws := wsX1_isLot) B.pre
  have hown : s.vm.findClass RX1 = some m.cls := findClass_of_methodNamed B.named
  have hS : va_S No s.heap s.heap [] := va_S.rf
  have FX : CallFix p m c cX1_isLot 1 s ([.int x] : List Value).toArray wsX1_isLot RX1 := ⟨hx, hb, hml, hown, hts⟩
  have hl := lv_entry ([.int x]) (n := 1) (Nat.le_of_ble_eq_true rfl)
  rw [lg_entry_eq]
  generalize (lg_sl ([.int x]) ++ List.replicate (1 - (lg_sl ([.int x])).length) Slot.unset).toArray = ls at hl ⊢
  have hl : lv_has ls 1 [(0, .int x)] := hl
  refine wq (fun Q hQ => ?_)
  have hzc : 0 + 0 ≤ (headSpec wsX1_isLot rmX1_isLot).room.cells := Nat.zero_le _
  have hzs : 0 + 0 ≤ (headSpec wsX1_isLot rmX1_isLot).room.slots := Nat.zero_le _
  refine lv_iload_n hx hb dX1_isLot_0 rfl (lv_at hl 0 rfl) ?_
  refine lv_if_lt (tgt := 14) hx hb dX1_isLot_1 (by decide) (fun c1 => ?_) (fun c1 => ?_)
  · skip
    refine lv_iconst (v := 0) hx hb dX1_isLot_14 (by decide) ?_
    subst hQ
    exact rd_z (by rw [show decide (0 ≤ x) = false from decide_eq_false (Int32.not_le.mpr c1)]; rfl) hx hb hr (b2i_nar _) hS hlocks dX1_isLot_15
  · skip
    refine lv_iload_n hx hb dX1_isLot_4 rfl (lv_at hl 0 rfl) ?_
    refine lv_bipush (v := 64) hx hb dX1_isLot_5 (by decide) ?_
    refine lv_icmp_ge (tgt := 14) hx hb dX1_isLot_7 (by decide) (fun c2 => ?_) (fun c2 => ?_)
    · skip
      refine lv_iconst (v := 0) hx hb dX1_isLot_14 (by decide) ?_
      subst hQ
      exact rd_z (by rw [show decide (x < 64) = false from decide_eq_false (Int32.not_lt.mpr c2), Bool.and_false]; rfl) hx hb hr (b2i_nar _) hS hlocks dX1_isLot_15
    · skip
      refine lv_iconst (v := 1) hx hb dX1_isLot_10 (by decide) ?_
      refine lv_goto (tgt := 15) hx hb dX1_isLot_11 (by decide) ?_
      subst hQ
      exact rd_z (by rw [show decide (x < 64) = true from decide_eq_true (Int32.not_le.mp c2), show decide (0 ≤ x) = true from decide_eq_true (Int32.not_lt.mp c1)]; rfl) hx hb hr (b2i_nar _) hS hlocks dX1_isLot_15

def rmX1_isLand : Room := { frames := 0, cells := 0, slots := 0, locals := 0 }
set_option maxHeartbeats 4000000 in
set_option maxRecDepth 100000 in
/-- land -/
theorem c_X1_isLand (l : Launch) (x : Int32)  : Met l yX1_isLand wsX1_isLand rmX1_isLand (va_Pc [.int x] (fun _ => True)) (RdQ (b2i (lnd x))) 0 0 No := by
  refine Met.ofW (cc := cX1_isLand) (maxL := 1) (ret := (some .boolean)) (by decide) rfl ?_
  intro p e s m args below meth c s₁ B hml hv
  obtain ⟨rfl, -⟩ := hv
  have hx := B.exec
  have hb := B.bytes
  have hr := B.returns
  have hlocks := B.notSynchronized
  have hts := atoms_spec (ws := wsX1_isLand) B.pre
  have hown : s.vm.findClass RX1 = some m.cls := findClass_of_methodNamed B.named
  have hS : va_S No s.heap s.heap [] := va_S.rf
  have FX : CallFix p m c cX1_isLand 1 s ([.int x] : List Value).toArray wsX1_isLand RX1 := ⟨hx, hb, hml, hown, hts⟩
  have hl := lv_entry ([.int x]) (n := 1) (Nat.le_of_ble_eq_true rfl)
  rw [lg_entry_eq]
  generalize (lg_sl ([.int x]) ++ List.replicate (1 - (lg_sl ([.int x])).length) Slot.unset).toArray = ls at hl ⊢
  have hl : lv_has ls 1 [(0, .int x)] := hl
  refine wq (fun Q hQ => ?_)
  have hzc : 0 + 0 ≤ (headSpec wsX1_isLand rmX1_isLand).room.cells := Nat.zero_le _
  have hzs : 0 + 0 ≤ (headSpec wsX1_isLand rmX1_isLand).room.slots := Nat.zero_le _
  refine lv_iload_n hx hb dX1_isLand_0 rfl (lv_at hl 0 rfl) ?_
  refine lv_iconst (v := 2) hx hb dX1_isLand_1 (by decide) ?_
  refine lv_icmp_lt (tgt := 15) hx hb dX1_isLand_2 (by decide) (fun c1 => ?_) (fun c1 => ?_)
  · skip
    refine lv_iconst (v := 0) hx hb dX1_isLand_15 (by decide) ?_
    subst hQ
    exact rd_z (by unfold lnd; rw [show decide (2 ≤ x) = false from decide_eq_false (Int32.not_le.mpr c1)]; rfl) hx hb hr (b2i_nar _) hS hlocks dX1_isLand_16
  · skip
    refine lv_iload_n hx hb dX1_isLand_5 rfl (lv_at hl 0 rfl) ?_
    refine lv_bipush (v := 6) hx hb dX1_isLand_6 (by decide) ?_
    refine lv_icmp_gt (tgt := 15) hx hb dX1_isLand_8 (by decide) (fun c2 => ?_) (fun c2 => ?_)
    · skip
      refine lv_iconst (v := 0) hx hb dX1_isLand_15 (by decide) ?_
      subst hQ
      exact rd_z (by unfold lnd; rw [show decide (x ≤ 6) = false from decide_eq_false (Int32.not_le.mpr c2), Bool.and_false]; rfl) hx hb hr (b2i_nar _) hS hlocks dX1_isLand_16
    · skip
      refine lv_iconst (v := 1) hx hb dX1_isLand_11 (by decide) ?_
      refine lv_goto (tgt := 16) hx hb dX1_isLand_12 (by decide) ?_
      subst hQ
      exact rd_z (by unfold lnd; rw [show decide (x ≤ 6) = true from decide_eq_true (Int32.not_lt.mp c2), show decide (2 ≤ x) = true from decide_eq_true (Int32.not_lt.mp c1)]; rfl) hx hb hr (b2i_nar _) hS hlocks dX1_isLand_16

def rmX1_isWater : Room := { frames := 0, cells := 0, slots := 0, locals := 0 }
set_option maxHeartbeats 4000000 in
set_option maxRecDepth 100000 in
/-- water -/
theorem c_X1_isWater (l : Launch) (x : Int32)  : Met l yX1_isWater wsX1_isWater rmX1_isWater (va_Pc [.int x] (fun _ => True)) (RdQ (b2i (wtr x))) 0 0 No := by
  refine Met.ofW (cc := cX1_isWater) (maxL := 1) (ret := (some .boolean)) (by decide) rfl ?_
  intro p e s m args below meth c s₁ B hml hv
  obtain ⟨rfl, -⟩ := hv
  have hx := B.exec
  have hb := B.bytes
  have hr := B.returns
  have hlocks := B.notSynchronized
  have hts := atoms_spec (ws := wsX1_isWater) B.pre
  have hown : s.vm.findClass RX1 = some m.cls := findClass_of_methodNamed B.named
  have hS : va_S No s.heap s.heap [] := va_S.rf
  have FX : CallFix p m c cX1_isWater 1 s ([.int x] : List Value).toArray wsX1_isWater RX1 := ⟨hx, hb, hml, hown, hts⟩
  have hl := lv_entry ([.int x]) (n := 1) (Nat.le_of_ble_eq_true rfl)
  rw [lg_entry_eq]
  generalize (lg_sl ([.int x]) ++ List.replicate (1 - (lg_sl ([.int x])).length) Slot.unset).toArray = ls at hl ⊢
  have hl : lv_has ls 1 [(0, .int x)] := hl
  refine wq (fun Q hQ => ?_)
  have hzc : 0 + 0 ≤ (headSpec wsX1_isWater rmX1_isWater).room.cells := Nat.zero_le _
  have hzs : 0 + 0 ≤ (headSpec wsX1_isWater rmX1_isWater).room.slots := Nat.zero_le _
  refine lv_iload_n hx hb dX1_isWater_0 rfl (lv_at hl 0 rfl) ?_
  refine lv_iconst (v := 1) hx hb dX1_isWater_1 (by decide) ?_
  refine lv_icmp_eq (tgt := 11) hx hb dX1_isWater_2 (by decide) (fun c1 => ?_) (fun c1 => ?_)
  · skip
    refine lv_iconst (v := 1) hx hb dX1_isWater_11 (by decide) ?_
    refine lv_goto (tgt := 16) hx hb dX1_isWater_12 (by decide) ?_
    subst hQ
    exact rd_z (by unfold wtr; rw [show decide (x = 1) = true from decide_eq_true c1]; rfl) hx hb hr (b2i_nar _) hS hlocks dX1_isWater_16
  · skip
    refine lv_iload_n hx hb dX1_isWater_5 rfl (lv_at hl 0 rfl) ?_
    refine lv_bipush (v := 6) hx hb dX1_isWater_6 (by decide) ?_
    refine lv_icmp_ne (tgt := 15) hx hb dX1_isWater_8 (by decide) (fun c2 => ?_) (fun c2 => ?_)
    · skip
      refine lv_iconst (v := 0) hx hb dX1_isWater_15 (by decide) ?_
      subst hQ
      exact rd_z (by unfold wtr; rw [show decide (x = 6) = false from decide_eq_false c2, show decide (x = 1) = false from decide_eq_false c1]; rfl) hx hb hr (b2i_nar _) hS hlocks dX1_isWater_16
    · skip
      refine lv_iconst (v := 1) hx hb dX1_isWater_11 (by decide) ?_
      refine lv_goto (tgt := 16) hx hb dX1_isWater_12 (by decide) ?_
      subst hQ
      exact rd_z (by unfold wtr; rw [show decide (x = 6) = true from decide_eq_true c2, Bool.or_true]; rfl) hx hb hr (b2i_nar _) hS hlocks dX1_isWater_16

def rmX1_neighbour : Room := { frames := 0, cells := 0, slots := 0, locals := 0 }
set_option maxHeartbeats 4000000 in
set_option maxRecDepth 100000 in
/-- the neighbour on a side -/
theorem c_X1_neighbour (l : Launch) (pt sd : Nat) (hpt : pt < 64) (hsd : sd < 4) : Met l yX1_neighbour wsX1_neighbour rmX1_neighbour (va_Pc [.int (nI pt), .int (nI sd)] (fun _ => True)) (RdQ (toI (nbC pt sd))) 0 0 No := by
  refine Met.ofW (cc := cX1_neighbour) (maxL := 4) (ret := (some .int)) (by decide) rfl ?_
  intro p e s m args below meth c s₁ B hml hv
  obtain ⟨rfl, -⟩ := hv
  have hx := B.exec
  have hb := B.bytes
  have hr := B.returns
  have hlocks := B.notSynchronized
  have hts := atoms_spec (ws := wsX1_neighbour) B.pre
  have hown : s.vm.findClass RX1 = some m.cls := findClass_of_methodNamed B.named
  have hS : va_S No s.heap s.heap [] := va_S.rf
  have FX : CallFix p m c cX1_neighbour 4 s ([.int (nI pt), .int (nI sd)] : List Value).toArray wsX1_neighbour RX1 := ⟨hx, hb, hml, hown, hts⟩
  have hl := lv_entry ([.int (nI pt), .int (nI sd)]) (n := 4) (Nat.le_of_ble_eq_true rfl)
  rw [lg_entry_eq]
  generalize (lg_sl ([.int (nI pt), .int (nI sd)]) ++ List.replicate (4 - (lg_sl ([.int (nI pt), .int (nI sd)])).length) Slot.unset).toArray = ls at hl ⊢
  have hl : lv_has ls 4 [(0, .int (nI pt)), (1, .int (nI sd))] := hl
  refine wq (fun Q hQ => ?_)
  have hzc : 0 + 0 ≤ (headSpec wsX1_neighbour rmX1_neighbour).room.cells := Nat.zero_le _
  have hzs : 0 + 0 ≤ (headSpec wsX1_neighbour rmX1_neighbour).room.slots := Nat.zero_le _
  refine lv_iload_n hx hb dX1_neighbour_0 rfl (lv_at hl 0 rfl) ?_
  refine lv_bipush (v := 8) hx hb dX1_neighbour_1 (by decide) ?_
  refine lv_irem hx hb dX1_neighbour_3 (by decide) ?_
  refine tpi (x' := nI (pt % 8)) (pk_rem (a := pt) (d := 8) (by omega) (by omega) (by omega)) ?_
  refine lv_istore_n (lv' := [(2, .int (nI (pt % 8))), (0, .int (nI pt)), (1, .int (nI sd))]) hx hb dX1_neighbour_4 rfl hl (by decide) rfl (fun ls hl => ?_)
  refine lv_iload_n hx hb dX1_neighbour_5 rfl (lv_at hl 1 rfl) ?_
  refine lv_bipush (v := 8) hx hb dX1_neighbour_6 (by decide) ?_
  refine lv_idiv hx hb dX1_neighbour_8 (by decide) ?_
  refine tpi (x' := nI (pt / 8)) (pk_div (a := pt) (d := 8) (by omega) (by omega) (by omega)) ?_
  refine lv_istore_n (lv' := [(3, .int (nI (pt / 8))), (2, .int (nI (pt % 8))), (0, .int (nI pt)), (1, .int (nI sd))]) hx hb dX1_neighbour_9 rfl hl (by decide) rfl (fun ls hl => ?_)
  refine lv_iload_n hx hb dX1_neighbour_10 rfl (lv_at hl 3 rfl) ?_
  rcases (show sd = 0 ∨ sd = 1 ∨ sd = 2 ∨ sd = 3 by omega) with rfl | rfl | rfl | rfl
  · skip
    refine lv_tableIn (off := 25) (tgt := 36) hx hb dX1_neighbour_11 (by decide +kernel) (by decide +kernel) (by decide +kernel) (by decide) ?_
    refine lv_iload_n hx hb dX1_neighbour_36 rfl (lv_at hl 0 rfl) ?_
    rcases Nat.eq_zero_or_pos (pt / 8) with g | g
    · skip
      refine lv_if_le (tgt := 47) hx hb dX1_neighbour_37 (by decide) (fun _ => ?_) (fun c => absurd (by rw [g]; decide) c)
      refine lv_iconst (v := (-1)) hx hb dX1_neighbour_47 (by decide) ?_
      subst hQ
      exact rd_i (by simp only [nbC]; rw [if_neg (by omega)]; rfl) hx hb hr hS hlocks dX1_neighbour_48
    · skip
      refine lv_if_le (tgt := 47) hx hb dX1_neighbour_37 (by decide) (fun c => absurd c (nI_nle g (by omega))) (fun _ => ?_)
      refine lv_iload_n hx hb dX1_neighbour_40 rfl (lv_at hl 2 rfl) ?_
      refine lv_bipush (v := 8) hx hb dX1_neighbour_41 (by decide) ?_
      refine lv_isub hx hb dX1_neighbour_43 ?_
      refine lv_goto (tgt := 48) hx hb dX1_neighbour_44 (by decide) ?_
      subst hQ
      exact rd_i (by simp only [nbC]; rw [if_pos (by omega)]; exact pk_sub (b := 8) (by omega)) hx hb hr hS hlocks dX1_neighbour_48
  · skip
    refine lv_tableIn (off := 38) (tgt := 49) hx hb dX1_neighbour_11 (by decide +kernel) (by decide +kernel) (by decide +kernel) (by decide) ?_
    refine lv_iload_n hx hb dX1_neighbour_49 rfl (lv_at hl 1 rfl) ?_
    rcases Nat.eq_zero_or_pos (pt % 8) with g | g
    · skip
      refine lv_if_le (tgt := 59) hx hb dX1_neighbour_50 (by decide) (fun _ => ?_) (fun c => absurd (by rw [g]; decide) c)
      refine lv_iconst (v := (-1)) hx hb dX1_neighbour_59 (by decide) ?_
      subst hQ
      exact rd_i (by simp only [nbC]; rw [if_neg (by omega)]; rfl) hx hb hr hS hlocks dX1_neighbour_60
    · skip
      refine lv_if_le (tgt := 59) hx hb dX1_neighbour_50 (by decide) (fun c => absurd c (nI_nle g (by omega))) (fun _ => ?_)
      refine lv_iload_n hx hb dX1_neighbour_53 rfl (lv_at hl 2 rfl) ?_
      refine lv_iconst (v := 1) hx hb dX1_neighbour_54 (by decide) ?_
      refine lv_isub hx hb dX1_neighbour_55 ?_
      refine lv_goto (tgt := 60) hx hb dX1_neighbour_56 (by decide) ?_
      subst hQ
      exact rd_i (by simp only [nbC]; rw [if_pos (by omega)]; exact pk_sub (b := 1) (by omega)) hx hb hr hS hlocks dX1_neighbour_60
  · skip
    refine lv_tableIn (off := 50) (tgt := 61) hx hb dX1_neighbour_11 (by decide +kernel) (by decide +kernel) (by decide +kernel) (by decide) ?_
    refine lv_iload_n hx hb dX1_neighbour_61 rfl (lv_at hl 1 rfl) ?_
    refine lv_bipush (v := 7) hx hb dX1_neighbour_62 (by decide) ?_
    rcases Nat.lt_or_ge (pt % 8) 7 with g | g
    · skip
      refine lv_icmp_ge (tgt := 73) hx hb dX1_neighbour_64 (by decide) (fun c => absurd c (lt_n (n := 7) g (by decide))) (fun _ => ?_)
      refine lv_iload_n hx hb dX1_neighbour_67 rfl (lv_at hl 2 rfl) ?_
      refine lv_iconst (v := 1) hx hb dX1_neighbour_68 (by decide) ?_
      refine lv_iadd hx hb dX1_neighbour_69 ?_
      refine lv_goto (tgt := 74) hx hb dX1_neighbour_70 (by decide) ?_
      subst hQ
      exact rd_i (by simp only [nbC]; rw [if_pos (by omega)]; exact nI_1 pt) hx hb hr hS hlocks dX1_neighbour_74
    · skip
      refine lv_icmp_ge (tgt := 73) hx hb dX1_neighbour_64 (by decide) (fun _ => ?_) (fun c => absurd (le_n g (by omega)) c)
      refine lv_iconst (v := (-1)) hx hb dX1_neighbour_73 (by decide) ?_
      subst hQ
      exact rd_i (by simp only [nbC]; rw [if_neg (by omega)]; rfl) hx hb hr hS hlocks dX1_neighbour_74
  · skip
    refine lv_tableOut (tgt := 75) hx hb dX1_neighbour_11 (by decide +kernel) (by decide) ?_
    refine lv_iload_n hx hb dX1_neighbour_75 rfl (lv_at hl 0 rfl) ?_
    refine lv_bipush (v := 7) hx hb dX1_neighbour_76 (by decide) ?_
    rcases Nat.lt_or_ge (pt / 8) 7 with g | g
    · skip
      refine lv_icmp_ge (tgt := 88) hx hb dX1_neighbour_78 (by decide) (fun c => absurd c (lt_n (n := 7) g (by decide))) (fun _ => ?_)
      refine lv_iload_n hx hb dX1_neighbour_81 rfl (lv_at hl 2 rfl) ?_
      refine lv_bipush (v := 8) hx hb dX1_neighbour_82 (by decide) ?_
      refine lv_iadd hx hb dX1_neighbour_84 ?_
      refine lv_goto (tgt := 89) hx hb dX1_neighbour_85 (by decide) ?_
      subst hQ
      exact rd_i (by simp only [nbC]; rw [if_pos (by omega)]; exact nI_add pt 8) hx hb hr hS hlocks dX1_neighbour_89
    · skip
      refine lv_icmp_ge (tgt := 88) hx hb dX1_neighbour_78 (by decide) (fun _ => ?_) (fun c => absurd (le_n g (by omega)) c)
      refine lv_iconst (v := (-1)) hx hb dX1_neighbour_88 (by decide) ?_
      subst hQ
      exact rd_i (by simp only [nbC]; rw [if_neg (by omega)]; rfl) hx hb hr hS hlocks dX1_neighbour_89

def rmX1_costOf : Room := { frames := 0, cells := 0, slots := 0, locals := 0 }
set_option maxHeartbeats 4000000 in
set_option maxRecDepth 100000 in
/-- what building costs -/
theorem c_X1_costOf (l : Launch) (x : Int32)  : Met l yX1_costOf wsX1_costOf rmX1_costOf (va_Pc [.int x] (fun _ => True)) (RdQ (cst x)) 0 0 No := by
  refine Met.ofW (cc := cX1_costOf) (maxL := 1) (ret := (some .int)) (by decide) rfl ?_
  intro p e s m args below meth c s₁ B hml hv
  obtain ⟨rfl, -⟩ := hv
  have hx := B.exec
  have hb := B.bytes
  have hr := B.returns
  have hlocks := B.notSynchronized
  have hts := atoms_spec (ws := wsX1_costOf) B.pre
  have hown : s.vm.findClass RX1 = some m.cls := findClass_of_methodNamed B.named
  have hS : va_S No s.heap s.heap [] := va_S.rf
  have FX : CallFix p m c cX1_costOf 1 s ([.int x] : List Value).toArray wsX1_costOf RX1 := ⟨hx, hb, hml, hown, hts⟩
  have hl := lv_entry ([.int x]) (n := 1) (Nat.le_of_ble_eq_true rfl)
  rw [lg_entry_eq]
  generalize (lg_sl ([.int x]) ++ List.replicate (1 - (lg_sl ([.int x])).length) Slot.unset).toArray = ls at hl ⊢
  have hl : lv_has ls 1 [(0, .int x)] := hl
  refine wq (fun Q hQ => ?_)
  have hzc : 0 + 0 ≤ (headSpec wsX1_costOf rmX1_costOf).room.cells := Nat.zero_le _
  have hzs : 0 + 0 ≤ (headSpec wsX1_costOf rmX1_costOf).room.slots := Nat.zero_le _
  refine lv_iload_n hx hb dX1_costOf_0 rfl (lv_at hl 0 rfl) ?_
  rcases (show x = 3 ∨ x = 4 ∨ (x ≠ 3 ∧ x ≠ 4) by by_cases h3 : x = 3; exact Or.inl h3; by_cases h4 : x = 4; exact Or.inr (Or.inl h4); exact Or.inr (Or.inr ⟨h3, h4⟩)) with rfl | rfl | ⟨h3, h4⟩
  · skip
    refine lv_lookup (off := 27) (tgt := 28) hx hb dX1_costOf_1 (by decide) (by decide) (by decide) ?_
    refine lv_iconst (v := 4) hx hb dX1_costOf_28 (by decide) ?_
    subst hQ
    exact rd_i (by decide) hx hb hr hS hlocks dX1_costOf_29
  · skip
    refine lv_lookup (off := 29) (tgt := 30) hx hb dX1_costOf_1 (by decide) (by decide) (by decide) ?_
    refine lv_bipush (v := 6) hx hb dX1_costOf_30 (by decide) ?_
    subst hQ
    exact rd_i (by decide) hx hb hr hS hlocks dX1_costOf_32
  · skip
    refine lv_lookup (off := 32) (tgt := 33) hx hb dX1_costOf_1 (by decide) ((lv_osw h3 (by decide)).trans ((lv_osw h4 (by decide)).trans rfl)) (by decide) ?_
    refine lv_iconst (v := 5) hx hb dX1_costOf_33 (by decide) ?_
    subst hQ
    exact rd_i (by unfold cst; rw [if_neg h3, if_neg h4]) hx hb hr hS hlocks dX1_costOf_34

def rmX0_neighboursOfKind : Room := { frames := 1, cells := 0, slots := 0, locals := 23 }
set_option maxHeartbeats 4000000 in
set_option maxRecDepth 100000 in
/-- how many neighbours are of a kind -/
theorem c_X0_neighboursOfKind (l : Launch) (G : va_G) (cI : ClassId) (a : Nat → Nat) (mo co le : Int32) (K Qa La Ha Ma Ba Ca Da Fa Wa k : Nat → Int32) (pt : Nat) (v : Int32) (hk : eqK K k) (hpt : pt < 64) : Met l yX0_neighboursOfKind wsX0_neighboursOfKind rmX0_neighboursOfKind (va_Pc [.ref (a 0), .int (nI pt), .int v] (RdP G cI [((a 0), oC a mo co le), ((a 3), iA cI K), ((a 4), iA cI Qa), ((a 5), iA cI La), ((a 6), iA cI Ha), ((a 7), iA cI Ma), ((a 8), iA cI Ba), ((a 9), iA cI Ca), ((a 10), iA cI Da), ((a 11), iA cI Fa), ((a 12), iA cI Wa)])) (RdQ (nbk k v pt)) 0 0 No := by
  refine Met.ofW (cc := cX0_neighboursOfKind) (maxL := 6) (ret := (some .int)) (by decide) rfl ?_
  intro p e s m args below meth c s₁ B hml hv
  obtain ⟨rfl, hP, hK, hN⟩ := hv
  have hx := B.exec
  have hb := B.bytes
  have hr := B.returns
  have hlocks := B.notSynchronized
  have hts := atoms_spec (ws := wsX0_neighboursOfKind) B.pre
  have hown : s.vm.findClass RX0 = some m.cls := findClass_of_methodNamed B.named
  have hS : va_S No s.heap s.heap [] := va_S.rf
  have FX : CallFix p m c cX0_neighboursOfKind 6 s ([.ref (a 0), .int (nI pt), .int v] : List Value).toArray wsX0_neighboursOfKind RX0 := ⟨hx, hb, hml, hown, hts⟩
  have hl := lv_entry ([.ref (a 0), .int (nI pt), .int v]) (n := 6) (Nat.le_of_ble_eq_true rfl)
  rw [lg_entry_eq]
  generalize (lg_sl ([.ref (a 0), .int (nI pt), .int v]) ++ List.replicate (6 - (lg_sl ([.ref (a 0), .int (nI pt), .int v])).length) Slot.unset).toArray = ls at hl ⊢
  have hl : lv_has ls 6 [(0, .ref (a 0)), (1, .int (nI pt)), (2, .int v)] := hl
  refine wq (fun Q hQ => ?_)
  have hzc : 0 + 0 ≤ (headSpec wsX0_neighboursOfKind rmX0_neighboursOfKind).room.cells := Nat.zero_le _
  have hzs : 0 + 0 ≤ (headSpec wsX0_neighboursOfKind rmX0_neighboursOfKind).room.slots := Nat.zero_le _
  have hf21 := hts (.fieldLink RX0 21 "CanalCity$City" "kinds" "[I") (by decide +kernel)
  have hinX0 : ∀ w ∈ u_ws RX0 TX0 13, w ∈ wsX0_neighboursOfKind := by decide +kernel
  have hiniX1 := hts (.initialized RX1) (by decide +kernel)
  have hstX1_isLot := hts (.static yX1_isLot) (by decide +kernel)
  have hstX1_neighbour := hts (.static yX1_neighbour) (by decide +kernel)
  refine lv_iconst (v := 0) hx hb dX0_neighboursOfKind_0 (by decide) ?_
  refine lv_istore_n (lv' := [(3, .int 0), (0, .ref (a 0)), (1, .int (nI pt)), (2, .int v)]) hx hb dX0_neighboursOfKind_1 rfl hl (by decide) rfl (fun ls hl => ?_)
  refine lv_iconst (v := 0) hx hb dX0_neighboursOfKind_2 (by decide) ?_
  refine lv_istore (lv' := [(4, .int 0), (3, .int 0), (0, .ref (a 0)), (1, .int (nI pt)), (2, .int v)]) hx hb dX0_neighboursOfKind_3 hl (by decide) rfl (fun ls hl => ?_)
  have lp : ∀ (n : Nat) (sd : Nat), (hsd : sd ≤ 4) → (4 - sd) < n → ∀ (H : Heap) (locs : List Loc) (ls : Array Slot), va_P G vwCl [((a 0), oC a mo co le), ((a 3), iA cI K), ((a 4), iA cI Qa), ((a 5), iA cI La), ((a 6), iA cI Ha), ((a 7), iA cI Ma), ((a 8), iA cI Ba), ((a 9), iA cI Ca), ((a 10), iA cI Da), ((a 11), iA cI Fa), ((a 12), iA cI Wa)] H → va_S No s.heap H locs → lv_has ls 6 [(0, .ref (a 0)), (1, .int (nI pt)), (2, .int v), (3, .int (nbS nbC k v pt sd)), (4, .int (nI sd))] → W p l e (headSpec wsX0_neighboursOfKind rmX0_neighboursOfKind).room s m ([.ref (a 0), .int (nI pt), .int v] : List Value).toArray below meth c H locs 0 0 Q (F0 m 5 ls []) := by
    intro n
    induction n with
    | zero => intro sd hsd hn; exact absurd hn (by omega)
    | succ n ih_lp =>
      intro sd hsd hn H locs ls hP hS hl
      refine lv_iload hx hb dX0_neighboursOfKind_5 (lv_at hl 4 rfl) ?_
      refine lv_iconst (v := 4) hx hb dX0_neighboursOfKind_7 (by decide) ?_
      rcases Nat.lt_or_ge sd 4 with g | g
      · skip
        refine lv_icmp_ge (tgt := 47) hx hb dX0_neighboursOfKind_8 (by decide) (fun c => absurd c (lt_n (n := 4) g (by decide))) (fun _ => ?_)
        refine lv_iload_n hx hb dX0_neighboursOfKind_11 rfl (lv_at hl 1 rfl) ?_
        refine lv_iload hx hb dX0_neighboursOfKind_12 (lv_at hl 4 rfl) ?_
        refine cr_i (va_runSN (As := [.int (nI pt), .int (nI sd)]) (rest := []) FX (c_X1_neighbour l pt sd hpt g) ⟨va_cnB 2 hts gX0_neighboursOfKind_X1_neighbour_n104 rfl rfl rfl (NW_at hN 6 rfl) hiniX1 (by decide +kernel) ⟨Nat.le_of_ble_eq_true rfl, Nat.le_of_ble_eq_true rfl⟩, hstX1_neighbour, trivial⟩ puS rfl rfl hl.1 rfl (lv_room (Nat.le_of_ble_eq_true rfl)) dX0_neighboursOfKind_14 ⟨hzc, hzs⟩) hS hP (fun H locs hP hS => ?_)
        rcases hn : nbC pt sd with _ | q
        · skip
          refine tpi (x' := -1) (rfl) ?_
          refine lv_istore (lv' := [(5, .int (-1)), (0, .ref (a 0)), (1, .int (nI pt)), (2, .int v), (3, .int (nbS nbC k v pt sd)), (4, .int (nI sd))]) hx hb dX0_neighboursOfKind_17 hl (by decide) rfl (fun ls hl => ?_)
          refine lv_iload hx hb dX0_neighboursOfKind_19 (lv_at hl 0 rfl) ?_
          refine cr_i (va_runSN (As := [.int (-1)]) (rest := []) FX (c_X1_isLot l (-1)) ⟨va_cnB 1 hts gX0_neighboursOfKind_X1_isLot_n73 rfl rfl rfl (NW_at hN 3 rfl) hiniX1 (by decide +kernel) ⟨Nat.le_of_ble_eq_true rfl, Nat.le_of_ble_eq_true rfl⟩, hstX1_isLot, trivial⟩ puS rfl rfl hl.1 rfl (lv_room (Nat.le_of_ble_eq_true rfl)) dX0_neighboursOfKind_21 ⟨hzc, hzs⟩) hS hP (fun H locs hP hS => ?_)
          refine tpi (x' := 0) (by decide) ?_
          refine lv_if_eq (tgt := 41) hx hb dX0_neighboursOfKind_24 (by decide) (fun _ => ?_) (fun c => absurd (rfl) c)
          refine lv_iinc (v := nI (sd + 1)) (lv' := [(4, .int (nI (sd + 1))), (5, .int (-1)), (0, .ref (a 0)), (1, .int (nI pt)), (2, .int v), (3, .int (nbS nbC k v pt sd))]) hx hb dX0_neighboursOfKind_41 hl (k := 5) rfl (nI_inc sd) (by decide) rfl (fun ls hl => ?_)
          refine lv_goto (tgt := 5) hx hb dX0_neighboursOfKind_44 (by decide) ?_
          exact ih_lp (sd + 1) (by omega) (by omega) _ _ _ hP hS (lv_sub hl [2, 3, 4, 5, 0] (by rw [show nbS nbC k v pt (sd + 1) = nbS nbC k v pt sd from by show nbS nbC k v pt sd + tel k v (nbC pt sd) = _; rw [hn]; exact Int32.add_zero _]; rfl))
        · skip
          have hq : q < 64 := nbC_lt hpt hn
          refine tpi (x' := nI q) (rfl) ?_
          refine lv_istore (lv' := [(5, .int (nI q)), (0, .ref (a 0)), (1, .int (nI pt)), (2, .int v), (3, .int (nbS nbC k v pt sd)), (4, .int (nI sd))]) hx hb dX0_neighboursOfKind_17 hl (by decide) rfl (fun ls hl => ?_)
          refine lv_iload hx hb dX0_neighboursOfKind_19 (lv_at hl 0 rfl) ?_
          refine cr_i (va_runSN (As := [.int (nI q)]) (rest := []) FX (c_X1_isLot l (nI q)) ⟨va_cnB 1 hts gX0_neighboursOfKind_X1_isLot_n73 rfl rfl rfl (NW_at hN 3 rfl) hiniX1 (by decide +kernel) ⟨Nat.le_of_ble_eq_true rfl, Nat.le_of_ble_eq_true rfl⟩, hstX1_isLot, trivial⟩ puS rfl rfl hl.1 rfl (lv_room (Nat.le_of_ble_eq_true rfl)) dX0_neighboursOfKind_21 ⟨hzc, hzs⟩) hS hP (fun H locs hP hS => ?_)
          refine tpi (x' := 1) (isLot_1 hq) ?_
          refine lv_if_eq (tgt := 41) hx hb dX0_neighboursOfKind_24 (by decide) (fun c => absurd c (by decide)) (fun _ => ?_)
          refine lv_aload_n hx hb dX0_neighboursOfKind_27 rfl (lv_at hl 1 rfl) ?_
          refine va_get (D := G) (ci := 0) (v := .ref (a 3)) (C := RX0) (T := TX0) (N := 13) hx hb hts hinX0 hown hK hP 0 rfl rfl 3 (by decide) hf21 (fun _ h9 => h9) rfl dX0_neighboursOfKind_28 ?_
          refine lv_iload hx hb dX0_neighboursOfKind_31 (lv_at hl 0 rfl) ?_
          refine va_iald hx hb hK hP 1 0 rfl rfl (vp_in_nI hq (by decide)) dX0_neighboursOfKind_33 ?_
          refine tpi (x' := K q) (congrArg K (nI_clamp (by omega))) ?_
          refine tpi (x' := k q) (hk q hq) ?_
          refine lv_iload_n hx hb dX0_neighboursOfKind_34 rfl (lv_at hl 3 rfl) ?_
          refine lv_icmp_ne (tgt := 41) hx hb dX0_neighboursOfKind_35 (by decide) (fun c9 => ?_) (fun c9 => ?_)
          · skip
            refine lv_iinc (v := nI (sd + 1)) (lv' := [(4, .int (nI (sd + 1))), (5, .int (nI q)), (0, .ref (a 0)), (1, .int (nI pt)), (2, .int v), (3, .int (nbS nbC k v pt sd))]) hx hb dX0_neighboursOfKind_41 hl (k := 5) rfl (nI_inc sd) (by decide) rfl (fun ls hl => ?_)
            refine lv_goto (tgt := 5) hx hb dX0_neighboursOfKind_44 (by decide) ?_
            exact ih_lp (sd + 1) (by omega) (by omega) _ _ _ hP hS (lv_sub hl [2, 3, 4, 5, 0] (by rw [show nbS nbC k v pt (sd + 1) = nbS nbC k v pt sd from by show nbS nbC k v pt sd + tel k v (nbC pt sd) = _; rw [hn]; show nbS nbC k v pt sd + (if k q = v then 1 else 0) = _; rw [if_neg c9]; exact Int32.add_zero _]; rfl))
          · skip
            refine lv_iinc (v := nbS nbC k v pt sd + 1) (lv' := [(3, .int (nbS nbC k v pt sd + 1)), (5, .int (nI q)), (0, .ref (a 0)), (1, .int (nI pt)), (2, .int v), (4, .int (nI sd))]) hx hb dX0_neighboursOfKind_38 hl (k := 4) rfl (inc1 _) (by decide) rfl (fun ls hl => ?_)
            refine lv_iinc (v := nI (sd + 1)) (lv' := [(4, .int (nI (sd + 1))), (3, .int (nbS nbC k v pt sd + 1)), (5, .int (nI q)), (0, .ref (a 0)), (1, .int (nI pt)), (2, .int v)]) hx hb dX0_neighboursOfKind_41 hl (k := 5) rfl (nI_inc sd) (by decide) rfl (fun ls hl => ?_)
            refine lv_goto (tgt := 5) hx hb dX0_neighboursOfKind_44 (by decide) ?_
            exact ih_lp (sd + 1) (by omega) (by omega) _ _ _ hP hS (lv_sub hl [3, 4, 5, 1, 0] (by rw [show nbS nbC k v pt (sd + 1) = nbS nbC k v pt sd + 1 from by show nbS nbC k v pt sd + tel k v (nbC pt sd) = _; rw [hn]; show nbS nbC k v pt sd + (if k q = v then 1 else 0) = _; rw [if_pos c9]]; rfl))
      · skip
        have g : sd = 4 := by omega
        subst g
        refine lv_icmp_ge (tgt := 47) hx hb dX0_neighboursOfKind_8 (by decide) (fun _ => ?_) (fun c => absurd (le_n (n := 4) (i := 4) (by decide) (by decide)) c)
        refine lv_iload_n hx hb dX0_neighboursOfKind_47 rfl (lv_at hl 3 rfl) ?_
        subst hQ
        exact rd_i (rfl) hx hb hr hS hlocks dX0_neighboursOfKind_48
  exact lp (_ + 1) 0 (by omega) (Nat.lt_succ_self _) _ _ _ hP hS (lv_sub hl [2, 3, 4, 1, 0] rfl)

def rmX0_isOpenWater : Room := { frames := 0, cells := 0, slots := 0, locals := 0 }
set_option maxHeartbeats 4000000 in
set_option maxRecDepth 100000 in
/-- open water -/
theorem c_X0_isOpenWater (l : Launch) (G : va_G) (cI : ClassId) (a : Nat → Nat) (mo co le : Int32) (K Qa La Ha Ma Ba Ca Da Fa Wa k : Nat → Int32) (pt : Nat) (hBa : hatB k Ba) (hpt : pt < 64) : Met l yX0_isOpenWater wsX0_isOpenWater rmX0_isOpenWater (va_Pc [.ref (a 0), .int (nI pt)] (RdP G cI [((a 0), oC a mo co le), ((a 3), iA cI K), ((a 4), iA cI Qa), ((a 5), iA cI La), ((a 6), iA cI Ha), ((a 7), iA cI Ma), ((a 8), iA cI Ba), ((a 9), iA cI Ca), ((a 10), iA cI Da), ((a 11), iA cI Fa), ((a 12), iA cI Wa)])) (RdQ (b2i (opn k pt))) 0 0 No := by
  refine Met.ofW (cc := cX0_isOpenWater) (maxL := 2) (ret := (some .boolean)) (by decide) rfl ?_
  intro p e s m args below meth c s₁ B hml hv
  obtain ⟨rfl, hP, hK, hN⟩ := hv
  have hx := B.exec
  have hb := B.bytes
  have hr := B.returns
  have hlocks := B.notSynchronized
  have hts := atoms_spec (ws := wsX0_isOpenWater) B.pre
  have hown : s.vm.findClass RX0 = some m.cls := findClass_of_methodNamed B.named
  have hS : va_S No s.heap s.heap [] := va_S.rf
  have FX : CallFix p m c cX0_isOpenWater 2 s ([.ref (a 0), .int (nI pt)] : List Value).toArray wsX0_isOpenWater RX0 := ⟨hx, hb, hml, hown, hts⟩
  have hl := lv_entry ([.ref (a 0), .int (nI pt)]) (n := 2) (Nat.le_of_ble_eq_true rfl)
  rw [lg_entry_eq]
  generalize (lg_sl ([.ref (a 0), .int (nI pt)]) ++ List.replicate (2 - (lg_sl ([.ref (a 0), .int (nI pt)])).length) Slot.unset).toArray = ls at hl ⊢
  have hl : lv_has ls 2 [(0, .ref (a 0)), (1, .int (nI pt))] := hl
  refine wq (fun Q hQ => ?_)
  have hzc : 0 + 0 ≤ (headSpec wsX0_isOpenWater rmX0_isOpenWater).room.cells := Nat.zero_le _
  have hzs : 0 + 0 ≤ (headSpec wsX0_isOpenWater rmX0_isOpenWater).room.slots := Nat.zero_le _
  have hf37 := hts (.fieldLink RX0 37 "CanalCity$City" "boatSteps" "[I") (by decide +kernel)
  have hinX0 : ∀ w ∈ u_ws RX0 TX0 13, w ∈ wsX0_isOpenWater := by decide +kernel
  refine lv_aload_n hx hb dX0_isOpenWater_0 rfl (lv_at hl 0 rfl) ?_
  refine va_get (D := G) (ci := 0) (v := .ref (a 8)) (C := RX0) (T := TX0) (N := 13) hx hb hts hinX0 hown hK hP 0 rfl rfl 8 (by decide) hf37 (fun _ h9 => h9) rfl dX0_isOpenWater_1 ?_
  refine lv_iload_n hx hb dX0_isOpenWater_4 rfl (lv_at hl 1 rfl) ?_
  refine va_iald hx hb hK hP 6 0 rfl rfl (vp_in_nI hpt (by decide)) dX0_isOpenWater_5 ?_
  refine tpi (x' := Ba pt) (congrArg Ba (nI_clamp (by omega))) ?_
  refine tpi (x' := toI (dst (PB false k) 3 pt)) (hBa pt hpt) ?_
  rcases hd : dst (PB false k) 3 pt with _ | d
  · skip
    refine lv_if_lt (tgt := 13) hx hb dX0_isOpenWater_6 (by decide) (fun _ => ?_) (fun c => absurd (by decide) c)
    refine lv_iconst (v := 0) hx hb dX0_isOpenWater_13 (by decide) ?_
    subst hQ
    exact rd_z (by unfold opn; rw [hd]; rfl) hx hb hr (b2i_nar _) hS hlocks dX0_isOpenWater_14
  · skip
    have hd64 := dst_lt (by decide) hd
    refine lv_if_lt (tgt := 13) hx hb dX0_isOpenWater_6 (by decide) (fun c => absurd c (nI_pos (n := d) (by omega))) (fun _ => ?_)
    refine lv_iconst (v := 1) hx hb dX0_isOpenWater_9 (by decide) ?_
    refine lv_goto (tgt := 14) hx hb dX0_isOpenWater_10 (by decide) ?_
    subst hQ
    exact rd_z (by unfold opn; rw [hd]; rfl) hx hb hr (b2i_nar _) hS hlocks dX0_isOpenWater_14

theorem in8 {X : Int32} (h1 : ¬ X < 0) (h2 : X ≤ 7) : ∃ x : Nat, x < 8 ∧ X = nI x := by
  obtain ⟨j, hj, e⟩ := nI_of2 (M := 7) (n := 7) (by decide) h1 h2
  exact ⟨j, by omega, e⟩
theorem inB_lo {X : Int32} (h : X < 0) : inB 0 7 X = false := by
  unfold inB
  rw [show decide (0 ≤ X) = false from decide_eq_false (Int32.not_le.mpr h), Bool.false_and]
theorem inB_hi {X : Int32} (h : 7 < X) : inB 0 7 X = false := by
  unfold inB
  rw [show decide (X ≤ 7) = false from decide_eq_false (Int32.not_le.mpr h), Bool.and_false]
theorem near_opo {k Se : Nat → Int32} {p s : Nat} (hp : p < 64) (hSe : hatS k Se) : nrO Se (nbC p s) < 99 ↔ opo k (nbC p s) = true := by
  cases e : nbC p s with
  | none => exact ⟨fun h => absurd h (show ¬ (99 : Int32) < 99 by decide), fun h => by cases h⟩
  | some q =>
    have hq := nbC_lt hp e
    show Se q < 99 ↔ opn k q = true
    rw [hSe q hq, ← seaN_open]
    have h9 := seaN_99 (k := k) (p := q)
    rw [show (99 : Int32) = nI 99 from rfl, Int32.lt_iff_toInt_lt, nI_toInt (by omega), nI_toInt (by omega)]
    omega
theorem tel_at {k : Nat → Int32} {v : Int32} {o : Option Nat} (hv : v ≠ -1) : tel k v o = if atO k o = v then 1 else 0 := by
  cases o with
  | none => exact (if_neg (fun e => hv e.symm)).symm
  | some q => rfl
theorem nbk_4 (k : Nat → Int32) (v : Int32) (p : Nat) : tel k v (nbC p 1) + tel k v (nbC p 2) + tel k v (nbC p 0) + tel k v (nbC p 3) = nbk k v p := by
  show _ = 0 + tel k v (nbC p 0) + tel k v (nbC p 1) + tel k v (nbC p 2) + tel k v (nbC p 3)
  generalize tel k v (nbC p 0) = a
  generalize tel k v (nbC p 1) = b
  generalize tel k v (nbC p 2) = c
  generalize tel k v (nbC p 3) = d
  rw [Int32.zero_add, i32_sw b c a, Int32.add_comm b a]
noncomputable def gq (k : Nat → Int32) (v : Int32) (j : Nat) (p : Nat) : Int32 := if qrt k p = some j then (if v < 0 then 1 else if k p = v then 1 else 0) else 0
theorem gq_lots (k : Nat → Int32) (j : Nat) : csum (gq k (-1) j) 64 = lotsN k j 64 := rfl
theorem gq_kind {k : Nat → Int32} {v : Int32} (hv : ¬ v < 0) (j : Nat) : csum (gq k v j) 64 = kindN k v j 64 := by
  refine csum_cong fun p hp => ?_
  unfold gq
  rw [if_neg hv]

def rmX2_at : Room := { frames := 0, cells := 0, slots := 0, locals := 0 }
set_option maxHeartbeats 4000000 in
set_option maxRecDepth 100000 in
/-- the kind of a lot, -1 outside -/
theorem c_X2_at (l : Launch) (G : va_G) (cs : Nat → ClassId) (h o : Nat) (r : Nat → Nat) (mo co le : Int32) (K k : Nat → Int32) (X Y : Int32) (hk : eqK K k) : Met l yX2_at wsX2_at rmX2_at (va_Pc [.ref h, .int X, .int Y] (RsP G cs [(h, oS o mo co le), (o, oQ (cs 1) 8 r), ((r 0), iB (cs 0) 8 (cl8 K 0)), ((r 1), iB (cs 0) 8 (cl8 K 1)), ((r 2), iB (cs 0) 8 (cl8 K 2)), ((r 3), iB (cs 0) 8 (cl8 K 3)), ((r 4), iB (cs 0) 8 (cl8 K 4)), ((r 5), iB (cs 0) 8 (cl8 K 5)), ((r 6), iB (cs 0) 8 (cl8 K 6)), ((r 7), iB (cs 0) 8 (cl8 K 7))])) (RdQ (atO k (lotO X Y))) 0 0 No := by
  refine Met.ofW (cc := cX2_at) (maxL := 3) (ret := (some .int)) (by decide) rfl ?_
  intro p e s m args below meth c s₁ B hml hv
  obtain ⟨rfl, hP, hK, hN⟩ := hv
  have hx := B.exec
  have hb := B.bytes
  have hr := B.returns
  have hlocks := B.notSynchronized
  have hts := atoms_spec (ws := wsX2_at) B.pre
  have hown : s.vm.findClass RX2 = some m.cls := findClass_of_methodNamed B.named
  have hS : va_S No s.heap s.heap [] := va_S.rf
  have FX : CallFix p m c cX2_at 3 s ([.ref h, .int X, .int Y] : List Value).toArray wsX2_at RX2 := ⟨hx, hb, hml, hown, hts⟩
  have hl := lv_entry ([.ref h, .int X, .int Y]) (n := 3) (Nat.le_of_ble_eq_true rfl)
  rw [lg_entry_eq]
  generalize (lg_sl ([.ref h, .int X, .int Y]) ++ List.replicate (3 - (lg_sl ([.ref h, .int X, .int Y])).length) Slot.unset).toArray = ls at hl ⊢
  have hl : lv_has ls 3 [(0, .ref h), (1, .int X), (2, .int Y)] := hl
  refine wq (fun Q hQ => ?_)
  have hzc : 0 + 0 ≤ (headSpec wsX2_at rmX2_at).room.cells := Nat.zero_le _
  have hzs : 0 + 0 ≤ (headSpec wsX2_at rmX2_at).room.slots := Nat.zero_le _
  have hf9 := hts (.fieldLink RX2 9 "CanalCityLaw$Sim" "kind" "[[I") (by decide +kernel)
  have hinX2 : ∀ w ∈ u_ws RX2 TX2 4, w ∈ wsX2_at := by decide +kernel
  refine lv_iload_n hx hb dX2_at_0 rfl (lv_at hl 1 rfl) ?_
  refine lv_if_lt (tgt := 20) hx hb dX2_at_1 (by decide) (fun c1 => ?_) (fun c1 => ?_)
  · skip
    refine lv_iconst (v := (-1)) hx hb dX2_at_20 (by decide) ?_
    refine lv_goto (tgt := 32) hx hb dX2_at_21 (by decide) ?_
    subst hQ
    exact rd_i (by rw [lotO_x0 (inB_lo c1)]; rfl) hx hb hr hS hlocks dX2_at_32
  · skip
    refine lv_iload_n hx hb dX2_at_4 rfl (lv_at hl 1 rfl) ?_
    refine lv_bipush (v := 7) hx hb dX2_at_5 (by decide) ?_
    refine lv_icmp_gt (tgt := 20) hx hb dX2_at_7 (by decide) (fun c2 => ?_) (fun c2 => ?_)
    · skip
      refine lv_iconst (v := (-1)) hx hb dX2_at_20 (by decide) ?_
      refine lv_goto (tgt := 32) hx hb dX2_at_21 (by decide) ?_
      subst hQ
      exact rd_i (by rw [lotO_x0 (inB_hi c2)]; rfl) hx hb hr hS hlocks dX2_at_32
    · skip
      refine lv_iload_n hx hb dX2_at_10 rfl (lv_at hl 2 rfl) ?_
      refine lv_if_lt (tgt := 20) hx hb dX2_at_11 (by decide) (fun c3 => ?_) (fun c3 => ?_)
      · skip
        refine lv_iconst (v := (-1)) hx hb dX2_at_20 (by decide) ?_
        refine lv_goto (tgt := 32) hx hb dX2_at_21 (by decide) ?_
        subst hQ
        exact rd_i (by rw [lotO_y0 (inB_lo c3)]; rfl) hx hb hr hS hlocks dX2_at_32
      · skip
        refine lv_iload_n hx hb dX2_at_14 rfl (lv_at hl 2 rfl) ?_
        refine lv_bipush (v := 7) hx hb dX2_at_15 (by decide) ?_
        refine lv_icmp_le (tgt := 24) hx hb dX2_at_17 (by decide) (fun c4 => ?_) (fun c4 => ?_)
        · skip
          obtain ⟨x, hx8, rfl⟩ := in8 c1 (Int32.not_lt.mp c2)
          obtain ⟨y, hy8, rfl⟩ := in8 c3 c4
          refine lv_aload_n hx hb dX2_at_24 rfl (lv_at hl 0 rfl) ?_
          refine va_get (D := G) (ci := 2) (v := .ref o) (C := RX2) (T := TX2) (N := 4) hx hb hts hinX2 hown hK hP 0 rfl rfl 0 (by decide) hf9 (fun _ h9 => h9) rfl dX2_at_25 ?_
          refine lv_iload_n hx hb dX2_at_28 rfl (lv_at hl 1 rfl) ?_
          refine g_ald (r := r) (n := 8) hx hb hK hP 1 1 rfl rfl (x := x) (hx8) (by decide) dX2_at_29 ?_
          refine lv_iload_n hx hb dX2_at_30 rfl (lv_at hl 2 rfl) ?_
          refine g_iald (pre := [(h, oS o mo co le)]) (post := []) (cO := (cs 1)) (cR := (cs 0)) (o := o) (r := r) (K := K) hx hb hK hP 0 rfl (x := x) (y := y) (hx8) (hy8) dX2_at_31 ?_
          subst hQ
          exact rd_i (by rw [lotO_in hx8 hy8]; exact hk _ (by omega)) hx hb hr hS hlocks dX2_at_32
        · skip
          refine lv_iconst (v := (-1)) hx hb dX2_at_20 (by decide) ?_
          refine lv_goto (tgt := 32) hx hb dX2_at_21 (by decide) ?_
          subst hQ
          exact rd_i (by rw [lotO_y0 (inB_hi (Int32.not_le.mp c4))]; rfl) hx hb hr hS hlocks dX2_at_32

def rmX2_isLand : Room := { frames := 1, cells := 0, slots := 0, locals := 22 }
set_option maxHeartbeats 4000000 in
set_option maxRecDepth 100000 in
/-- land -/
theorem c_X2_isLand (l : Launch) (G : va_G) (cs : Nat → ClassId) (h o : Nat) (r : Nat → Nat) (mo co le : Int32) (K k : Nat → Int32) (X Y : Int32) (hk : eqK K k) (hkd : ∀ x, x < 64 → kd (k x)) : Met l yX2_isLand wsX2_isLand rmX2_isLand (va_Pc [.ref h, .int X, .int Y] (RsP G cs [(h, oS o mo co le), (o, oQ (cs 1) 8 r), ((r 0), iB (cs 0) 8 (cl8 K 0)), ((r 1), iB (cs 0) 8 (cl8 K 1)), ((r 2), iB (cs 0) 8 (cl8 K 2)), ((r 3), iB (cs 0) 8 (cl8 K 3)), ((r 4), iB (cs 0) 8 (cl8 K 4)), ((r 5), iB (cs 0) 8 (cl8 K 5)), ((r 6), iB (cs 0) 8 (cl8 K 6)), ((r 7), iB (cs 0) 8 (cl8 K 7))])) (RdQ (b2i (lnO k (lotO X Y)))) 0 0 No := by
  refine Met.ofW (cc := cX2_isLand) (maxL := 3) (ret := (some .boolean)) (by decide) rfl ?_
  intro p e s m args below meth c s₁ B hml hv
  obtain ⟨rfl, hP, hK, hN⟩ := hv
  have hx := B.exec
  have hb := B.bytes
  have hr := B.returns
  have hlocks := B.notSynchronized
  have hts := atoms_spec (ws := wsX2_isLand) B.pre
  have hown : s.vm.findClass RX2 = some m.cls := findClass_of_methodNamed B.named
  have hS : va_S No s.heap s.heap [] := va_S.rf
  have FX : CallFix p m c cX2_isLand 3 s ([.ref h, .int X, .int Y] : List Value).toArray wsX2_isLand RX2 := ⟨hx, hb, hml, hown, hts⟩
  have hl := lv_entry ([.ref h, .int X, .int Y]) (n := 3) (Nat.le_of_ble_eq_true rfl)
  rw [lg_entry_eq]
  generalize (lg_sl ([.ref h, .int X, .int Y]) ++ List.replicate (3 - (lg_sl ([.ref h, .int X, .int Y])).length) Slot.unset).toArray = ls at hl ⊢
  have hl : lv_has ls 3 [(0, .ref h), (1, .int X), (2, .int Y)] := hl
  refine wq (fun Q hQ => ?_)
  have hzc : 0 + 0 ≤ (headSpec wsX2_isLand rmX2_isLand).room.cells := Nat.zero_le _
  have hzs : 0 + 0 ≤ (headSpec wsX2_isLand rmX2_isLand).room.slots := Nat.zero_le _
  refine lv_aload_n hx hb dX2_isLand_0 rfl (lv_at hl 0 rfl) ?_
  refine lv_iload_n hx hb dX2_isLand_1 rfl (lv_at hl 1 rfl) ?_
  refine lv_iload_n hx hb dX2_isLand_2 rfl (lv_at hl 2 rfl) ?_
  refine cr_i (va_runV (As := [.int X, .int Y]) (rest := []) FX (c_X2_at l G cs h o r mo co le K k X Y hk) (cwV 2 hts gX2_isLand_X2_at rfl rfl rfl (by decide +kernel) ⟨Nat.le_of_ble_eq_true rfl, Nat.le_of_ble_eq_true rfl⟩) (rsV hK hP hN [0, 1, 2, 3, 4, 5, 6, 7, 8, 9] rfl (ci := 2) (q0 := 0) rfl rfl) rfl rfl hl.1 rfl (lv_room (Nat.le_of_ble_eq_true rfl)) dX2_isLand_3 ⟨Nat.le_of_ble_eq_true rfl, Nat.le_of_ble_eq_true rfl⟩) hS hP (fun H locs hP hS => ?_)
  refine lv_iconst (v := 1) hx hb dX2_isLand_6 (by decide) ?_
  refine lv_icmp_le (tgt := 14) hx hb dX2_isLand_7 (by decide) (fun c1 => ?_) (fun c1 => ?_)
  · skip
    refine lv_iconst (v := 0) hx hb dX2_isLand_14 (by decide) ?_
    subst hQ
    exact rd_z (by rw [← lnO_at (fun q hq => hkd q (lotO_lt hq)), decide_eq_false (Int32.not_lt.mpr c1)]; rfl) hx hb hr (b2i_nar _) hS hlocks dX2_isLand_15
  · skip
    refine lv_iconst (v := 1) hx hb dX2_isLand_10 (by decide) ?_
    refine lv_goto (tgt := 15) hx hb dX2_isLand_11 (by decide) ?_
    subst hQ
    exact rd_z (by rw [← lnO_at (fun q hq => hkd q (lotO_lt hq)), decide_eq_true (Int32.not_le.mp c1)]; rfl) hx hb hr (b2i_nar _) hS hlocks dX2_isLand_15

def rmX2_isWater : Room := { frames := 1, cells := 0, slots := 0, locals := 22 }
set_option maxHeartbeats 4000000 in
set_option maxRecDepth 100000 in
/-- water -/
theorem c_X2_isWater (l : Launch) (G : va_G) (cs : Nat → ClassId) (h o : Nat) (r : Nat → Nat) (mo co le : Int32) (K k : Nat → Int32) (X Y : Int32) (hk : eqK K k) : Met l yX2_isWater wsX2_isWater rmX2_isWater (va_Pc [.ref h, .int X, .int Y] (RsP G cs [(h, oS o mo co le), (o, oQ (cs 1) 8 r), ((r 0), iB (cs 0) 8 (cl8 K 0)), ((r 1), iB (cs 0) 8 (cl8 K 1)), ((r 2), iB (cs 0) 8 (cl8 K 2)), ((r 3), iB (cs 0) 8 (cl8 K 3)), ((r 4), iB (cs 0) 8 (cl8 K 4)), ((r 5), iB (cs 0) 8 (cl8 K 5)), ((r 6), iB (cs 0) 8 (cl8 K 6)), ((r 7), iB (cs 0) 8 (cl8 K 7))])) (RdQ (b2i (wtO k (lotO X Y)))) 0 0 No := by
  refine Met.ofW (cc := cX2_isWater) (maxL := 3) (ret := (some .boolean)) (by decide) rfl ?_
  intro p e s m args below meth c s₁ B hml hv
  obtain ⟨rfl, hP, hK, hN⟩ := hv
  have hx := B.exec
  have hb := B.bytes
  have hr := B.returns
  have hlocks := B.notSynchronized
  have hts := atoms_spec (ws := wsX2_isWater) B.pre
  have hown : s.vm.findClass RX2 = some m.cls := findClass_of_methodNamed B.named
  have hS : va_S No s.heap s.heap [] := va_S.rf
  have FX : CallFix p m c cX2_isWater 3 s ([.ref h, .int X, .int Y] : List Value).toArray wsX2_isWater RX2 := ⟨hx, hb, hml, hown, hts⟩
  have hl := lv_entry ([.ref h, .int X, .int Y]) (n := 3) (Nat.le_of_ble_eq_true rfl)
  rw [lg_entry_eq]
  generalize (lg_sl ([.ref h, .int X, .int Y]) ++ List.replicate (3 - (lg_sl ([.ref h, .int X, .int Y])).length) Slot.unset).toArray = ls at hl ⊢
  have hl : lv_has ls 3 [(0, .ref h), (1, .int X), (2, .int Y)] := hl
  refine wq (fun Q hQ => ?_)
  have hzc : 0 + 0 ≤ (headSpec wsX2_isWater rmX2_isWater).room.cells := Nat.zero_le _
  have hzs : 0 + 0 ≤ (headSpec wsX2_isWater rmX2_isWater).room.slots := Nat.zero_le _
  refine lv_aload_n hx hb dX2_isWater_0 rfl (lv_at hl 0 rfl) ?_
  refine lv_iload_n hx hb dX2_isWater_1 rfl (lv_at hl 1 rfl) ?_
  refine lv_iload_n hx hb dX2_isWater_2 rfl (lv_at hl 2 rfl) ?_
  refine cr_i (va_runV (As := [.int X, .int Y]) (rest := []) FX (c_X2_at l G cs h o r mo co le K k X Y hk) (cwV 2 hts gX2_isWater_X2_at rfl rfl rfl (by decide +kernel) ⟨Nat.le_of_ble_eq_true rfl, Nat.le_of_ble_eq_true rfl⟩) (rsV hK hP hN [0, 1, 2, 3, 4, 5, 6, 7, 8, 9] rfl (ci := 2) (q0 := 0) rfl rfl) rfl rfl hl.1 rfl (lv_room (Nat.le_of_ble_eq_true rfl)) dX2_isWater_3 ⟨Nat.le_of_ble_eq_true rfl, Nat.le_of_ble_eq_true rfl⟩) hS hP (fun H locs hP hS => ?_)
  refine lv_iconst (v := 1) hx hb dX2_isWater_6 (by decide) ?_
  refine lv_icmp_eq (tgt := 21) hx hb dX2_isWater_7 (by decide) (fun c1 => ?_) (fun c1 => ?_)
  · skip
    refine lv_iconst (v := 1) hx hb dX2_isWater_21 (by decide) ?_
    refine lv_goto (tgt := 26) hx hb dX2_isWater_22 (by decide) ?_
    subst hQ
    exact rd_z (by rw [← wtO_at, decide_eq_true c1]; rfl) hx hb hr (b2i_nar _) hS hlocks dX2_isWater_26
  · skip
    refine lv_aload_n hx hb dX2_isWater_10 rfl (lv_at hl 0 rfl) ?_
    refine lv_iload_n hx hb dX2_isWater_11 rfl (lv_at hl 1 rfl) ?_
    refine lv_iload_n hx hb dX2_isWater_12 rfl (lv_at hl 2 rfl) ?_
    refine cr_i (va_runV (As := [.int X, .int Y]) (rest := []) FX (c_X2_at l G cs h o r mo co le K k X Y hk) (cwV 2 hts gX2_isWater_X2_at rfl rfl rfl (by decide +kernel) ⟨Nat.le_of_ble_eq_true rfl, Nat.le_of_ble_eq_true rfl⟩) (rsV hK hP hN [0, 1, 2, 3, 4, 5, 6, 7, 8, 9] rfl (ci := 2) (q0 := 0) rfl rfl) rfl rfl hl.1 rfl (lv_room (Nat.le_of_ble_eq_true rfl)) dX2_isWater_13 ⟨Nat.le_of_ble_eq_true rfl, Nat.le_of_ble_eq_true rfl⟩) hS hP (fun H locs hP hS => ?_)
    refine lv_bipush (v := 6) hx hb dX2_isWater_16 (by decide) ?_
    refine lv_icmp_ne (tgt := 25) hx hb dX2_isWater_18 (by decide) (fun c2 => ?_) (fun c2 => ?_)
    · skip
      refine lv_iconst (v := 0) hx hb dX2_isWater_25 (by decide) ?_
      subst hQ
      exact rd_z (by rw [← wtO_at, decide_eq_false c1, decide_eq_false c2]; rfl) hx hb hr (b2i_nar _) hS hlocks dX2_isWater_26
    · skip
      refine lv_iconst (v := 1) hx hb dX2_isWater_21 (by decide) ?_
      refine lv_goto (tgt := 26) hx hb dX2_isWater_22 (by decide) ?_
      subst hQ
      exact rd_z (by rw [← wtO_at, decide_eq_true c2, Bool.or_true]; rfl) hx hb hr (b2i_nar _) hS hlocks dX2_isWater_26

def rmX2_near : Room := { frames := 0, cells := 0, slots := 0, locals := 0 }
set_option maxHeartbeats 4000000 in
set_option maxRecDepth 100000 in
/-- the number at a lot, 99 outside -/
theorem c_X2_near (l : Launch) (G : va_G) (cs : Nat → ClassId) (o : Nat) (r : Nat → Nat) (V : Nat → Int32) (X Y : Int32)  : Met l yX2_near wsX2_near rmX2_near (va_Pc [.ref o, .int X, .int Y] (RsP G cs [(o, oQ (cs 1) 8 r), ((r 0), iB (cs 0) 8 (cl8 V 0)), ((r 1), iB (cs 0) 8 (cl8 V 1)), ((r 2), iB (cs 0) 8 (cl8 V 2)), ((r 3), iB (cs 0) 8 (cl8 V 3)), ((r 4), iB (cs 0) 8 (cl8 V 4)), ((r 5), iB (cs 0) 8 (cl8 V 5)), ((r 6), iB (cs 0) 8 (cl8 V 6)), ((r 7), iB (cs 0) 8 (cl8 V 7))])) (RdQ (nrO V (lotO X Y))) 0 0 No := by
  refine Met.ofW (cc := cX2_near) (maxL := 3) (ret := (some .int)) (by decide) rfl ?_
  intro p e s m args below meth c s₁ B hml hv
  obtain ⟨rfl, hP, hK, hN⟩ := hv
  have hx := B.exec
  have hb := B.bytes
  have hr := B.returns
  have hlocks := B.notSynchronized
  have hts := atoms_spec (ws := wsX2_near) B.pre
  have hown : s.vm.findClass RX2 = some m.cls := findClass_of_methodNamed B.named
  have hS : va_S No s.heap s.heap [] := va_S.rf
  have FX : CallFix p m c cX2_near 3 s ([.ref o, .int X, .int Y] : List Value).toArray wsX2_near RX2 := ⟨hx, hb, hml, hown, hts⟩
  have hl := lv_entry ([.ref o, .int X, .int Y]) (n := 3) (Nat.le_of_ble_eq_true rfl)
  rw [lg_entry_eq]
  generalize (lg_sl ([.ref o, .int X, .int Y]) ++ List.replicate (3 - (lg_sl ([.ref o, .int X, .int Y])).length) Slot.unset).toArray = ls at hl ⊢
  have hl : lv_has ls 3 [(0, .ref o), (1, .int X), (2, .int Y)] := hl
  refine wq (fun Q hQ => ?_)
  have hzc : 0 + 0 ≤ (headSpec wsX2_near rmX2_near).room.cells := Nat.zero_le _
  have hzs : 0 + 0 ≤ (headSpec wsX2_near rmX2_near).room.slots := Nat.zero_le _
  refine lv_iload_n hx hb dX2_near_0 rfl (lv_at hl 1 rfl) ?_
  refine lv_if_lt (tgt := 20) hx hb dX2_near_1 (by decide) (fun c1 => ?_) (fun c1 => ?_)
  · skip
    refine lv_bipush (v := 99) hx hb dX2_near_20 (by decide) ?_
    refine lv_goto (tgt := 30) hx hb dX2_near_22 (by decide) ?_
    subst hQ
    exact rd_i (by rw [lotO_x0 (inB_lo c1)]; rfl) hx hb hr hS hlocks dX2_near_30
  · skip
    refine lv_iload_n hx hb dX2_near_4 rfl (lv_at hl 1 rfl) ?_
    refine lv_bipush (v := 7) hx hb dX2_near_5 (by decide) ?_
    refine lv_icmp_gt (tgt := 20) hx hb dX2_near_7 (by decide) (fun c2 => ?_) (fun c2 => ?_)
    · skip
      refine lv_bipush (v := 99) hx hb dX2_near_20 (by decide) ?_
      refine lv_goto (tgt := 30) hx hb dX2_near_22 (by decide) ?_
      subst hQ
      exact rd_i (by rw [lotO_x0 (inB_hi c2)]; rfl) hx hb hr hS hlocks dX2_near_30
    · skip
      refine lv_iload_n hx hb dX2_near_10 rfl (lv_at hl 2 rfl) ?_
      refine lv_if_lt (tgt := 20) hx hb dX2_near_11 (by decide) (fun c3 => ?_) (fun c3 => ?_)
      · skip
        refine lv_bipush (v := 99) hx hb dX2_near_20 (by decide) ?_
        refine lv_goto (tgt := 30) hx hb dX2_near_22 (by decide) ?_
        subst hQ
        exact rd_i (by rw [lotO_y0 (inB_lo c3)]; rfl) hx hb hr hS hlocks dX2_near_30
      · skip
        refine lv_iload_n hx hb dX2_near_14 rfl (lv_at hl 2 rfl) ?_
        refine lv_bipush (v := 7) hx hb dX2_near_15 (by decide) ?_
        refine lv_icmp_le (tgt := 25) hx hb dX2_near_17 (by decide) (fun c4 => ?_) (fun c4 => ?_)
        · skip
          obtain ⟨x, hx8, rfl⟩ := in8 c1 (Int32.not_lt.mp c2)
          obtain ⟨y, hy8, rfl⟩ := in8 c3 c4
          refine lv_aload_n hx hb dX2_near_25 rfl (lv_at hl 0 rfl) ?_
          refine lv_iload_n hx hb dX2_near_26 rfl (lv_at hl 1 rfl) ?_
          refine g_ald (r := r) (n := 8) hx hb hK hP 0 1 rfl rfl (x := x) (hx8) (by decide) dX2_near_27 ?_
          refine lv_iload_n hx hb dX2_near_28 rfl (lv_at hl 2 rfl) ?_
          refine g_iald (pre := []) (post := []) (cO := (cs 1)) (cR := (cs 0)) (o := o) (r := r) (K := V) hx hb hK hP 0 rfl (x := x) (y := y) (hx8) (hy8) dX2_near_29 ?_
          subst hQ
          exact rd_i (by rw [lotO_in hx8 hy8]; rfl) hx hb hr hS hlocks dX2_near_30
        · skip
          refine lv_bipush (v := 99) hx hb dX2_near_20 (by decide) ?_
          refine lv_goto (tgt := 30) hx hb dX2_near_22 (by decide) ?_
          subst hQ
          exact rd_i (by rw [lotO_y0 (inB_hi (Int32.not_le.mp c4))]; rfl) hx hb hr hS hlocks dX2_near_30

def rmX2_isByBoat : Room := { frames := 2, cells := 0, slots := 0, locals := 44 }
set_option maxHeartbeats 4000000 in
set_option maxRecDepth 100000 in
/-- by boat -/
theorem c_X2_isByBoat (l : Launch) (G : va_G) (cs : Nat → ClassId) (h o : Nat) (r : Nat → Nat) (mo co le : Int32) (K k : Nat → Int32) (os : Nat) (rs : Nat → Nat) (Se : Nat → Int32) (x y : Nat) (hk : eqK K k) (hkd : ∀ x, x < 64 → kd (k x)) (hSe : hatS k Se) (hx8 : x < 8) (hy8 : y < 8) : Met l yX2_isByBoat wsX2_isByBoat rmX2_isByBoat (va_Pc [.ref h, .ref os, .int (nI x), .int (nI y)] (RsP G cs [(h, oS o mo co le), (o, oQ (cs 1) 8 r), ((r 0), iB (cs 0) 8 (cl8 K 0)), ((r 1), iB (cs 0) 8 (cl8 K 1)), ((r 2), iB (cs 0) 8 (cl8 K 2)), ((r 3), iB (cs 0) 8 (cl8 K 3)), ((r 4), iB (cs 0) 8 (cl8 K 4)), ((r 5), iB (cs 0) 8 (cl8 K 5)), ((r 6), iB (cs 0) 8 (cl8 K 6)), ((r 7), iB (cs 0) 8 (cl8 K 7)), (os, oQ (cs 1) 8 rs), ((rs 0), iB (cs 0) 8 (cl8 Se 0)), ((rs 1), iB (cs 0) 8 (cl8 Se 1)), ((rs 2), iB (cs 0) 8 (cl8 Se 2)), ((rs 3), iB (cs 0) 8 (cl8 Se 3)), ((rs 4), iB (cs 0) 8 (cl8 Se 4)), ((rs 5), iB (cs 0) 8 (cl8 Se 5)), ((rs 6), iB (cs 0) 8 (cl8 Se 6)), ((rs 7), iB (cs 0) 8 (cl8 Se 7))])) (RdQ (b2i (byB k (8 * y + x)))) 0 0 No := by
  refine Met.ofW (cc := cX2_isByBoat) (maxL := 4) (ret := (some .boolean)) (by decide) rfl ?_
  intro p e s m args below meth c s₁ B hml hv
  obtain ⟨rfl, hP, hK, hN⟩ := hv
  have hx := B.exec
  have hb := B.bytes
  have hr := B.returns
  have hlocks := B.notSynchronized
  have hts := atoms_spec (ws := wsX2_isByBoat) B.pre
  have hown : s.vm.findClass RX2 = some m.cls := findClass_of_methodNamed B.named
  have hS : va_S No s.heap s.heap [] := va_S.rf
  have FX : CallFix p m c cX2_isByBoat 4 s ([.ref h, .ref os, .int (nI x), .int (nI y)] : List Value).toArray wsX2_isByBoat RX2 := ⟨hx, hb, hml, hown, hts⟩
  have hl := lv_entry ([.ref h, .ref os, .int (nI x), .int (nI y)]) (n := 4) (Nat.le_of_ble_eq_true rfl)
  rw [lg_entry_eq]
  generalize (lg_sl ([.ref h, .ref os, .int (nI x), .int (nI y)]) ++ List.replicate (4 - (lg_sl ([.ref h, .ref os, .int (nI x), .int (nI y)])).length) Slot.unset).toArray = ls at hl ⊢
  have hl : lv_has ls 4 [(0, .ref h), (1, .ref os), (2, .int (nI x)), (3, .int (nI y))] := hl
  refine wq (fun Q hQ => ?_)
  have hzc : 0 + 0 ≤ (headSpec wsX2_isByBoat rmX2_isByBoat).room.cells := Nat.zero_le _
  have hzs : 0 + 0 ≤ (headSpec wsX2_isByBoat rmX2_isByBoat).room.slots := Nat.zero_le _
  have hf9 := hts (.fieldLink RX2 9 "CanalCityLaw$Sim" "kind" "[[I") (by decide +kernel)
  have hinX2 : ∀ w ∈ u_ws RX2 TX2 4, w ∈ wsX2_isByBoat := by decide +kernel
  have hp64 : 8 * y + x < 64 := by omega
  refine lv_aload_n hx hb dX2_isByBoat_0 rfl (lv_at hl 0 rfl) ?_
  refine lv_iload_n hx hb dX2_isByBoat_1 rfl (lv_at hl 2 rfl) ?_
  refine lv_iload_n hx hb dX2_isByBoat_2 rfl (lv_at hl 3 rfl) ?_
  refine cr_i (va_runV (As := [.int (nI x), .int (nI y)]) (rest := []) FX (c_X2_isLand l G cs h o r mo co le K k (nI x) (nI y) hk hkd) (cwV 2 hts gX2_isByBoat_X2_isLand rfl rfl rfl (by decide +kernel) ⟨Nat.le_of_ble_eq_true rfl, Nat.le_of_ble_eq_true rfl⟩) (rsV hK hP hN [0, 1, 2, 3, 4, 5, 6, 7, 8, 9] rfl (ci := 2) (q0 := 0) rfl rfl) rfl rfl hl.1 rfl (lv_room (Nat.le_of_ble_eq_true rfl)) dX2_isByBoat_3 ⟨Nat.le_of_ble_eq_true rfl, Nat.le_of_ble_eq_true rfl⟩) hS hP (fun H locs hP hS => ?_)
  refine tpi (x' := b2i (lnd (k (8 * y + x)))) (by rw [lotO_in hx8 hy8]; rfl) ?_
  rcases hln : lnd (k (8 * y + x)) with _ | _
  · skip
    refine tpi (x' := 0) (rfl) ?_
    refine lv_if_eq (tgt := 22) hx hb dX2_isByBoat_6 (by decide) (fun _ => ?_) (fun c => absurd (rfl) c)
    refine lv_iconst (v := 0) hx hb dX2_isByBoat_22 (by decide) ?_
    subst hQ
    exact rd_z (by unfold byB; rw [hln]; rfl) hx hb hr (b2i_nar _) hS hlocks dX2_isByBoat_23
  · skip
    refine tpi (x' := 1) (rfl) ?_
    refine lv_if_eq (tgt := 22) hx hb dX2_isByBoat_6 (by decide) (fun c => absurd c (by decide)) (fun _ => ?_)
    refine lv_aload_n hx hb dX2_isByBoat_9 rfl (lv_at hl 0 rfl) ?_
    refine va_get (D := G) (ci := 2) (v := .ref o) (C := RX2) (T := TX2) (N := 4) hx hb hts hinX2 hown hK hP 0 rfl rfl 0 (by decide) hf9 (fun _ h9 => h9) rfl dX2_isByBoat_10 ?_
    refine lv_iload_n hx hb dX2_isByBoat_13 rfl (lv_at hl 2 rfl) ?_
    refine g_ald (r := r) (n := 8) hx hb hK hP 1 1 rfl rfl (x := x) (hx8) (by decide) dX2_isByBoat_14 ?_
    refine lv_iload_n hx hb dX2_isByBoat_15 rfl (lv_at hl 3 rfl) ?_
    refine g_iald (pre := [(h, oS o mo co le)]) (post := [(os, oQ (cs 1) 8 rs), ((rs 0), iB (cs 0) 8 (cl8 Se 0)), ((rs 1), iB (cs 0) 8 (cl8 Se 1)), ((rs 2), iB (cs 0) 8 (cl8 Se 2)), ((rs 3), iB (cs 0) 8 (cl8 Se 3)), ((rs 4), iB (cs 0) 8 (cl8 Se 4)), ((rs 5), iB (cs 0) 8 (cl8 Se 5)), ((rs 6), iB (cs 0) 8 (cl8 Se 6)), ((rs 7), iB (cs 0) 8 (cl8 Se 7))]) (cO := (cs 1)) (cR := (cs 0)) (o := o) (r := r) (K := K) hx hb hK hP 0 rfl (x := x) (y := y) (hx8) (hy8) dX2_isByBoat_16 ?_
    refine tpi (x' := k (8 * y + x)) (hk _ hp64) ?_
    refine lv_bipush (v := 6) hx hb dX2_isByBoat_17 (by decide) ?_
    refine lv_icmp_ne (tgt := 24) hx hb dX2_isByBoat_19 (by decide) (fun c6 => ?_) (fun c6 => ?_)
    · skip
      refine lv_aload_n hx hb dX2_isByBoat_24 rfl (lv_at hl 1 rfl) ?_
      refine lv_iload_n hx hb dX2_isByBoat_25 rfl (lv_at hl 2 rfl) ?_
      refine lv_iconst (v := 1) hx hb dX2_isByBoat_26 (by decide) ?_
      refine lv_isub hx hb dX2_isByBoat_27 ?_
      refine lv_iload_n hx hb dX2_isByBoat_28 rfl (lv_at hl 3 rfl) ?_
      refine cr_i (va_runS (As := [.ref os, .int ((nI x) - 1), .int (nI y)]) (rest := []) FX (c_X2_near l G cs os rs Se (nI x - 1) (nI y)) (va_cwS 3 hts gX2_isByBoat_X2_near rfl rfl rfl (by decide +kernel) ⟨Nat.le_of_ble_eq_true rfl, Nat.le_of_ble_eq_true rfl⟩) (rsS hK hP hN [10, 11, 12, 13, 14, 15, 16, 17, 18] rfl) rfl rfl hl.1 rfl (lv_room (Nat.le_of_ble_eq_true rfl)) dX2_isByBoat_29 ⟨Nat.le_of_ble_eq_true rfl, Nat.le_of_ble_eq_true rfl⟩) hS hP (fun H locs hP hS => ?_)
      refine tpi (x' := nrO Se (nbC (8 * y + x) 1)) (by rw [lotO_l hx8 hy8]) ?_
      refine lv_bipush (v := 99) hx hb dX2_isByBoat_32 (by decide) ?_
      refine lv_icmp_lt (tgt := 76) hx hb dX2_isByBoat_34 (by decide) (fun d0 => ?_) (fun d0 => ?_)
      · skip
        refine lv_iconst (v := 1) hx hb dX2_isByBoat_76 (by decide) ?_
        refine lv_goto (tgt := 81) hx hb dX2_isByBoat_77 (by decide) ?_
        subst hQ
        exact rd_z (by unfold byB; rw [hln, decide_eq_false c6, opo4 (sd := 1) (by decide) ((near_opo hp64 hSe).mp (d0))]; rfl) hx hb hr (b2i_nar _) hS hlocks dX2_isByBoat_81
      · skip
        refine lv_aload_n hx hb dX2_isByBoat_37 rfl (lv_at hl 1 rfl) ?_
        refine lv_iload_n hx hb dX2_isByBoat_38 rfl (lv_at hl 2 rfl) ?_
        refine lv_iconst (v := 1) hx hb dX2_isByBoat_39 (by decide) ?_
        refine lv_iadd hx hb dX2_isByBoat_40 ?_
        refine lv_iload_n hx hb dX2_isByBoat_41 rfl (lv_at hl 3 rfl) ?_
        refine cr_i (va_runS (As := [.ref os, .int ((nI x) + 1), .int (nI y)]) (rest := []) FX (c_X2_near l G cs os rs Se (nI x + 1) (nI y)) (va_cwS 3 hts gX2_isByBoat_X2_near rfl rfl rfl (by decide +kernel) ⟨Nat.le_of_ble_eq_true rfl, Nat.le_of_ble_eq_true rfl⟩) (rsS hK hP hN [10, 11, 12, 13, 14, 15, 16, 17, 18] rfl) rfl rfl hl.1 rfl (lv_room (Nat.le_of_ble_eq_true rfl)) dX2_isByBoat_42 ⟨Nat.le_of_ble_eq_true rfl, Nat.le_of_ble_eq_true rfl⟩) hS hP (fun H locs hP hS => ?_)
        refine tpi (x' := nrO Se (nbC (8 * y + x) 2)) (by rw [lotO_r hx8 hy8]) ?_
        refine lv_bipush (v := 99) hx hb dX2_isByBoat_45 (by decide) ?_
        refine lv_icmp_lt (tgt := 76) hx hb dX2_isByBoat_47 (by decide) (fun d1 => ?_) (fun d1 => ?_)
        · skip
          refine lv_iconst (v := 1) hx hb dX2_isByBoat_76 (by decide) ?_
          refine lv_goto (tgt := 81) hx hb dX2_isByBoat_77 (by decide) ?_
          subst hQ
          exact rd_z (by unfold byB; rw [hln, decide_eq_false c6, opo4 (sd := 2) (by decide) ((near_opo hp64 hSe).mp (d1))]; rfl) hx hb hr (b2i_nar _) hS hlocks dX2_isByBoat_81
        · skip
          refine lv_aload_n hx hb dX2_isByBoat_50 rfl (lv_at hl 1 rfl) ?_
          refine lv_iload_n hx hb dX2_isByBoat_51 rfl (lv_at hl 2 rfl) ?_
          refine lv_iload_n hx hb dX2_isByBoat_52 rfl (lv_at hl 3 rfl) ?_
          refine lv_iconst (v := 1) hx hb dX2_isByBoat_53 (by decide) ?_
          refine lv_isub hx hb dX2_isByBoat_54 ?_
          refine cr_i (va_runS (As := [.ref os, .int (nI x), .int ((nI y) - 1)]) (rest := []) FX (c_X2_near l G cs os rs Se (nI x) (nI y - 1)) (va_cwS 3 hts gX2_isByBoat_X2_near rfl rfl rfl (by decide +kernel) ⟨Nat.le_of_ble_eq_true rfl, Nat.le_of_ble_eq_true rfl⟩) (rsS hK hP hN [10, 11, 12, 13, 14, 15, 16, 17, 18] rfl) rfl rfl hl.1 rfl (lv_room (Nat.le_of_ble_eq_true rfl)) dX2_isByBoat_55 ⟨Nat.le_of_ble_eq_true rfl, Nat.le_of_ble_eq_true rfl⟩) hS hP (fun H locs hP hS => ?_)
          refine tpi (x' := nrO Se (nbC (8 * y + x) 0)) (by rw [lotO_u hx8 hy8]) ?_
          refine lv_bipush (v := 99) hx hb dX2_isByBoat_58 (by decide) ?_
          refine lv_icmp_lt (tgt := 76) hx hb dX2_isByBoat_60 (by decide) (fun d2 => ?_) (fun d2 => ?_)
          · skip
            refine lv_iconst (v := 1) hx hb dX2_isByBoat_76 (by decide) ?_
            refine lv_goto (tgt := 81) hx hb dX2_isByBoat_77 (by decide) ?_
            subst hQ
            exact rd_z (by unfold byB; rw [hln, decide_eq_false c6, opo4 (sd := 0) (by decide) ((near_opo hp64 hSe).mp (d2))]; rfl) hx hb hr (b2i_nar _) hS hlocks dX2_isByBoat_81
          · skip
            refine lv_aload_n hx hb dX2_isByBoat_63 rfl (lv_at hl 1 rfl) ?_
            refine lv_iload_n hx hb dX2_isByBoat_64 rfl (lv_at hl 2 rfl) ?_
            refine lv_iload_n hx hb dX2_isByBoat_65 rfl (lv_at hl 3 rfl) ?_
            refine lv_iconst (v := 1) hx hb dX2_isByBoat_66 (by decide) ?_
            refine lv_iadd hx hb dX2_isByBoat_67 ?_
            refine cr_i (va_runS (As := [.ref os, .int (nI x), .int ((nI y) + 1)]) (rest := []) FX (c_X2_near l G cs os rs Se (nI x) (nI y + 1)) (va_cwS 3 hts gX2_isByBoat_X2_near rfl rfl rfl (by decide +kernel) ⟨Nat.le_of_ble_eq_true rfl, Nat.le_of_ble_eq_true rfl⟩) (rsS hK hP hN [10, 11, 12, 13, 14, 15, 16, 17, 18] rfl) rfl rfl hl.1 rfl (lv_room (Nat.le_of_ble_eq_true rfl)) dX2_isByBoat_68 ⟨Nat.le_of_ble_eq_true rfl, Nat.le_of_ble_eq_true rfl⟩) hS hP (fun H locs hP hS => ?_)
            refine tpi (x' := nrO Se (nbC (8 * y + x) 3)) (by rw [lotO_d hx8 hy8]) ?_
            refine lv_bipush (v := 99) hx hb dX2_isByBoat_71 (by decide) ?_
            refine lv_icmp_ge (tgt := 80) hx hb dX2_isByBoat_73 (by decide) (fun d3 => ?_) (fun d3 => ?_)
            · skip
              refine lv_iconst (v := 0) hx hb dX2_isByBoat_80 (by decide) ?_
              subst hQ
              exact rd_z (by unfold byB; rw [hln, decide_eq_false c6, (show opo k (nbC (8 * y + x) 0) = false from Bool.eq_false_iff.mpr (fun h9 => d2 ((near_opo hp64 hSe).mpr h9))), (show opo k (nbC (8 * y + x) 1) = false from Bool.eq_false_iff.mpr (fun h9 => d0 ((near_opo hp64 hSe).mpr h9))), (show opo k (nbC (8 * y + x) 2) = false from Bool.eq_false_iff.mpr (fun h9 => d1 ((near_opo hp64 hSe).mpr h9))), (show opo k (nbC (8 * y + x) 3) = false from Bool.eq_false_iff.mpr (fun h9 => absurd ((near_opo hp64 hSe).mpr h9) (Int32.not_lt.mpr d3)))]; rfl) hx hb hr (b2i_nar _) hS hlocks dX2_isByBoat_81
            · skip
              refine lv_iconst (v := 1) hx hb dX2_isByBoat_76 (by decide) ?_
              refine lv_goto (tgt := 81) hx hb dX2_isByBoat_77 (by decide) ?_
              subst hQ
              exact rd_z (by unfold byB; rw [hln, decide_eq_false c6, opo4 (sd := 3) (by decide) ((near_opo hp64 hSe).mp (Int32.not_le.mp d3))]; rfl) hx hb hr (b2i_nar _) hS hlocks dX2_isByBoat_81
    · skip
      refine lv_iconst (v := 0) hx hb dX2_isByBoat_22 (by decide) ?_
      subst hQ
      exact rd_z (by unfold byB; rw [show decide (k (8 * y + x) = 6) = true from decide_eq_true c6, hln]; rfl) hx hb hr (b2i_nar _) hS hlocks dX2_isByBoat_23

def rmX2_beside : Room := { frames := 1, cells := 0, slots := 0, locals := 22 }
set_option maxHeartbeats 4000000 in
set_option maxRecDepth 100000 in
/-- neighbours of a kind -/
theorem c_X2_beside (l : Launch) (G : va_G) (cs : Nat → ClassId) (h o : Nat) (r : Nat → Nat) (mo co le : Int32) (K k : Nat → Int32) (x y : Nat) (v : Int32) (hk : eqK K k) (hx8 : x < 8) (hy8 : y < 8) (hv1 : v ≠ -1) : Met l yX2_beside wsX2_beside rmX2_beside (va_Pc [.ref h, .int (nI x), .int (nI y), .int v] (RsP G cs [(h, oS o mo co le), (o, oQ (cs 1) 8 r), ((r 0), iB (cs 0) 8 (cl8 K 0)), ((r 1), iB (cs 0) 8 (cl8 K 1)), ((r 2), iB (cs 0) 8 (cl8 K 2)), ((r 3), iB (cs 0) 8 (cl8 K 3)), ((r 4), iB (cs 0) 8 (cl8 K 4)), ((r 5), iB (cs 0) 8 (cl8 K 5)), ((r 6), iB (cs 0) 8 (cl8 K 6)), ((r 7), iB (cs 0) 8 (cl8 K 7))])) (RdQ (nbk k v (8 * y + x))) 0 0 No := by
  refine Met.ofW (cc := cX2_beside) (maxL := 4) (ret := (some .int)) (by decide) rfl ?_
  intro p e s m args below meth c s₁ B hml hv
  obtain ⟨rfl, hP, hK, hN⟩ := hv
  have hx := B.exec
  have hb := B.bytes
  have hr := B.returns
  have hlocks := B.notSynchronized
  have hts := atoms_spec (ws := wsX2_beside) B.pre
  have hown : s.vm.findClass RX2 = some m.cls := findClass_of_methodNamed B.named
  have hS : va_S No s.heap s.heap [] := va_S.rf
  have FX : CallFix p m c cX2_beside 4 s ([.ref h, .int (nI x), .int (nI y), .int v] : List Value).toArray wsX2_beside RX2 := ⟨hx, hb, hml, hown, hts⟩
  have hl := lv_entry ([.ref h, .int (nI x), .int (nI y), .int v]) (n := 4) (Nat.le_of_ble_eq_true rfl)
  rw [lg_entry_eq]
  generalize (lg_sl ([.ref h, .int (nI x), .int (nI y), .int v]) ++ List.replicate (4 - (lg_sl ([.ref h, .int (nI x), .int (nI y), .int v])).length) Slot.unset).toArray = ls at hl ⊢
  have hl : lv_has ls 4 [(0, .ref h), (1, .int (nI x)), (2, .int (nI y)), (3, .int v)] := hl
  refine wq (fun Q hQ => ?_)
  have hzc : 0 + 0 ≤ (headSpec wsX2_beside rmX2_beside).room.cells := Nat.zero_le _
  have hzs : 0 + 0 ≤ (headSpec wsX2_beside rmX2_beside).room.slots := Nat.zero_le _
  refine lv_aload_n hx hb dX2_beside_0 rfl (lv_at hl 0 rfl) ?_
  refine lv_iload_n hx hb dX2_beside_1 rfl (lv_at hl 1 rfl) ?_
  refine lv_iconst (v := 1) hx hb dX2_beside_2 (by decide) ?_
  refine lv_isub hx hb dX2_beside_3 ?_
  refine lv_iload_n hx hb dX2_beside_4 rfl (lv_at hl 2 rfl) ?_
  refine cr_i (va_runV (As := [.int ((nI x) - 1), .int (nI y)]) (rest := []) FX (c_X2_at l G cs h o r mo co le K k (nI x - 1) (nI y) hk) (cwV 2 hts gX2_beside_X2_at rfl rfl rfl (by decide +kernel) ⟨Nat.le_of_ble_eq_true rfl, Nat.le_of_ble_eq_true rfl⟩) (rsV hK hP hN [0, 1, 2, 3, 4, 5, 6, 7, 8, 9] rfl (ci := 2) (q0 := 0) rfl rfl) rfl rfl hl.1 rfl (lv_room (Nat.le_of_ble_eq_true rfl)) dX2_beside_5 ⟨Nat.le_of_ble_eq_true rfl, Nat.le_of_ble_eq_true rfl⟩) hS hP (fun H locs hP hS => ?_)
  refine tpi (x' := atO k (nbC (8 * y + x) 1)) (by rw [lotO_l hx8 hy8]) ?_
  have j0 : ∀ (H : Heap) (locs : List Loc), va_P G vwCl [(h, oS o mo co le), (o, oQ (cs 1) 8 r), ((r 0), iB (cs 0) 8 (cl8 K 0)), ((r 1), iB (cs 0) 8 (cl8 K 1)), ((r 2), iB (cs 0) 8 (cl8 K 2)), ((r 3), iB (cs 0) 8 (cl8 K 3)), ((r 4), iB (cs 0) 8 (cl8 K 4)), ((r 5), iB (cs 0) 8 (cl8 K 5)), ((r 6), iB (cs 0) 8 (cl8 K 6)), ((r 7), iB (cs 0) 8 (cl8 K 7))] H → va_S No s.heap H locs → W p l e (headSpec wsX2_beside rmX2_beside).room s m ([.ref h, .int (nI x), .int (nI y), .int v] : List Value).toArray below meth c H locs 0 0 Q (F0 m 17 ls [.int (tel k v (nbC (8 * y + x) 1))]) := by
    intro H locs hP hS
    refine lv_aload_n hx hb dX2_beside_17 rfl (lv_at hl 0 rfl) ?_
    refine lv_iload_n hx hb dX2_beside_18 rfl (lv_at hl 1 rfl) ?_
    refine lv_iconst (v := 1) hx hb dX2_beside_19 (by decide) ?_
    refine lv_iadd hx hb dX2_beside_20 ?_
    refine lv_iload_n hx hb dX2_beside_21 rfl (lv_at hl 2 rfl) ?_
    refine cr_i (va_runV (As := [.int ((nI x) + 1), .int (nI y)]) (rest := [.int (tel k v (nbC (8 * y + x) 1))]) FX (c_X2_at l G cs h o r mo co le K k (nI x + 1) (nI y) hk) (cwV 2 hts gX2_beside_X2_at rfl rfl rfl (by decide +kernel) ⟨Nat.le_of_ble_eq_true rfl, Nat.le_of_ble_eq_true rfl⟩) (rsV hK hP hN [0, 1, 2, 3, 4, 5, 6, 7, 8, 9] rfl (ci := 2) (q0 := 0) rfl rfl) rfl rfl hl.1 rfl (lv_room (Nat.le_of_ble_eq_true rfl)) dX2_beside_22 ⟨Nat.le_of_ble_eq_true rfl, Nat.le_of_ble_eq_true rfl⟩) hS hP (fun H locs hP hS => ?_)
    refine tpi (x' := atO k (nbC (8 * y + x) 2)) (by rw [lotO_r hx8 hy8]) ?_
    have j1 : ∀ (H : Heap) (locs : List Loc), va_P G vwCl [(h, oS o mo co le), (o, oQ (cs 1) 8 r), ((r 0), iB (cs 0) 8 (cl8 K 0)), ((r 1), iB (cs 0) 8 (cl8 K 1)), ((r 2), iB (cs 0) 8 (cl8 K 2)), ((r 3), iB (cs 0) 8 (cl8 K 3)), ((r 4), iB (cs 0) 8 (cl8 K 4)), ((r 5), iB (cs 0) 8 (cl8 K 5)), ((r 6), iB (cs 0) 8 (cl8 K 6)), ((r 7), iB (cs 0) 8 (cl8 K 7))] H → va_S No s.heap H locs → W p l e (headSpec wsX2_beside rmX2_beside).room s m ([.ref h, .int (nI x), .int (nI y), .int v] : List Value).toArray below meth c H locs 0 0 Q (F0 m 34 ls [.int (tel k v (nbC (8 * y + x) 2)), .int (tel k v (nbC (8 * y + x) 1))]) := by
      intro H locs hP hS
      refine lv_iadd hx hb dX2_beside_34 ?_
      refine lv_aload_n hx hb dX2_beside_35 rfl (lv_at hl 0 rfl) ?_
      refine lv_iload_n hx hb dX2_beside_36 rfl (lv_at hl 1 rfl) ?_
      refine lv_iload_n hx hb dX2_beside_37 rfl (lv_at hl 2 rfl) ?_
      refine lv_iconst (v := 1) hx hb dX2_beside_38 (by decide) ?_
      refine lv_isub hx hb dX2_beside_39 ?_
      refine cr_i (va_runV (As := [.int (nI x), .int ((nI y) - 1)]) (rest := [.int ((tel k v (nbC (8 * y + x) 1)) + (tel k v (nbC (8 * y + x) 2)))]) FX (c_X2_at l G cs h o r mo co le K k (nI x) (nI y - 1) hk) (cwV 2 hts gX2_beside_X2_at rfl rfl rfl (by decide +kernel) ⟨Nat.le_of_ble_eq_true rfl, Nat.le_of_ble_eq_true rfl⟩) (rsV hK hP hN [0, 1, 2, 3, 4, 5, 6, 7, 8, 9] rfl (ci := 2) (q0 := 0) rfl rfl) rfl rfl hl.1 rfl (lv_room (Nat.le_of_ble_eq_true rfl)) dX2_beside_40 ⟨Nat.le_of_ble_eq_true rfl, Nat.le_of_ble_eq_true rfl⟩) hS hP (fun H locs hP hS => ?_)
      refine tpi (x' := atO k (nbC (8 * y + x) 0)) (by rw [lotO_u hx8 hy8]) ?_
      have j2 : ∀ (H : Heap) (locs : List Loc), va_P G vwCl [(h, oS o mo co le), (o, oQ (cs 1) 8 r), ((r 0), iB (cs 0) 8 (cl8 K 0)), ((r 1), iB (cs 0) 8 (cl8 K 1)), ((r 2), iB (cs 0) 8 (cl8 K 2)), ((r 3), iB (cs 0) 8 (cl8 K 3)), ((r 4), iB (cs 0) 8 (cl8 K 4)), ((r 5), iB (cs 0) 8 (cl8 K 5)), ((r 6), iB (cs 0) 8 (cl8 K 6)), ((r 7), iB (cs 0) 8 (cl8 K 7))] H → va_S No s.heap H locs → W p l e (headSpec wsX2_beside rmX2_beside).room s m ([.ref h, .int (nI x), .int (nI y), .int v] : List Value).toArray below meth c H locs 0 0 Q (F0 m 52 ls [.int (tel k v (nbC (8 * y + x) 0)), .int (tel k v (nbC (8 * y + x) 1) + tel k v (nbC (8 * y + x) 2))]) := by
        intro H locs hP hS
        refine lv_iadd hx hb dX2_beside_52 ?_
        refine lv_aload_n hx hb dX2_beside_53 rfl (lv_at hl 0 rfl) ?_
        refine lv_iload_n hx hb dX2_beside_54 rfl (lv_at hl 1 rfl) ?_
        refine lv_iload_n hx hb dX2_beside_55 rfl (lv_at hl 2 rfl) ?_
        refine lv_iconst (v := 1) hx hb dX2_beside_56 (by decide) ?_
        refine lv_iadd hx hb dX2_beside_57 ?_
        refine cr_i (va_runV (As := [.int (nI x), .int ((nI y) + 1)]) (rest := [.int ((tel k v (nbC (8 * y + x) 1) + tel k v (nbC (8 * y + x) 2)) + (tel k v (nbC (8 * y + x) 0)))]) FX (c_X2_at l G cs h o r mo co le K k (nI x) (nI y + 1) hk) (cwV 2 hts gX2_beside_X2_at rfl rfl rfl (by decide +kernel) ⟨Nat.le_of_ble_eq_true rfl, Nat.le_of_ble_eq_true rfl⟩) (rsV hK hP hN [0, 1, 2, 3, 4, 5, 6, 7, 8, 9] rfl (ci := 2) (q0 := 0) rfl rfl) rfl rfl hl.1 rfl (lv_room (Nat.le_of_ble_eq_true rfl)) dX2_beside_58 ⟨Nat.le_of_ble_eq_true rfl, Nat.le_of_ble_eq_true rfl⟩) hS hP (fun H locs hP hS => ?_)
        refine tpi (x' := atO k (nbC (8 * y + x) 3)) (by rw [lotO_d hx8 hy8]) ?_
        have j3 : ∀ (H : Heap) (locs : List Loc), va_P G vwCl [(h, oS o mo co le), (o, oQ (cs 1) 8 r), ((r 0), iB (cs 0) 8 (cl8 K 0)), ((r 1), iB (cs 0) 8 (cl8 K 1)), ((r 2), iB (cs 0) 8 (cl8 K 2)), ((r 3), iB (cs 0) 8 (cl8 K 3)), ((r 4), iB (cs 0) 8 (cl8 K 4)), ((r 5), iB (cs 0) 8 (cl8 K 5)), ((r 6), iB (cs 0) 8 (cl8 K 6)), ((r 7), iB (cs 0) 8 (cl8 K 7))] H → va_S No s.heap H locs → W p l e (headSpec wsX2_beside rmX2_beside).room s m ([.ref h, .int (nI x), .int (nI y), .int v] : List Value).toArray below meth c H locs 0 0 Q (F0 m 70 ls [.int (tel k v (nbC (8 * y + x) 3)), .int (tel k v (nbC (8 * y + x) 1) + tel k v (nbC (8 * y + x) 2) + tel k v (nbC (8 * y + x) 0))]) := by
          intro H locs hP hS
          refine lv_iadd hx hb dX2_beside_70 ?_
          subst hQ
          exact rd_i (nbk_4 k v (8 * y + x)) hx hb hr hS hlocks dX2_beside_71
        refine lv_iload_n hx hb dX2_beside_61 rfl (lv_at hl 3 rfl) ?_
        refine lv_icmp_ne (tgt := 69) hx hb dX2_beside_62 (by decide) (fun e3 => ?_) (fun e3 => ?_)
        · skip
          refine lv_iconst (v := 0) hx hb dX2_beside_69 (by decide) ?_
          refine tpi (x' := tel k v (nbC (8 * y + x) 3)) (by rw [tel_at hv1, if_neg e3]) ?_
          exact j3 H locs hP hS
        · skip
          refine lv_iconst (v := 1) hx hb dX2_beside_65 (by decide) ?_
          refine lv_goto (tgt := 70) hx hb dX2_beside_66 (by decide) ?_
          refine tpi (x' := tel k v (nbC (8 * y + x) 3)) (by rw [tel_at hv1, if_pos e3]) ?_
          exact j3 H locs hP hS
      refine lv_iload_n hx hb dX2_beside_43 rfl (lv_at hl 3 rfl) ?_
      refine lv_icmp_ne (tgt := 51) hx hb dX2_beside_44 (by decide) (fun e2 => ?_) (fun e2 => ?_)
      · skip
        refine lv_iconst (v := 0) hx hb dX2_beside_51 (by decide) ?_
        refine tpi (x' := tel k v (nbC (8 * y + x) 0)) (by rw [tel_at hv1, if_neg e2]) ?_
        exact j2 H locs hP hS
      · skip
        refine lv_iconst (v := 1) hx hb dX2_beside_47 (by decide) ?_
        refine lv_goto (tgt := 52) hx hb dX2_beside_48 (by decide) ?_
        refine tpi (x' := tel k v (nbC (8 * y + x) 0)) (by rw [tel_at hv1, if_pos e2]) ?_
        exact j2 H locs hP hS
    refine lv_iload_n hx hb dX2_beside_25 rfl (lv_at hl 3 rfl) ?_
    refine lv_icmp_ne (tgt := 33) hx hb dX2_beside_26 (by decide) (fun e1 => ?_) (fun e1 => ?_)
    · skip
      refine lv_iconst (v := 0) hx hb dX2_beside_33 (by decide) ?_
      refine tpi (x' := tel k v (nbC (8 * y + x) 2)) (by rw [tel_at hv1, if_neg e1]) ?_
      exact j1 H locs hP hS
    · skip
      refine lv_iconst (v := 1) hx hb dX2_beside_29 (by decide) ?_
      refine lv_goto (tgt := 34) hx hb dX2_beside_30 (by decide) ?_
      refine tpi (x' := tel k v (nbC (8 * y + x) 2)) (by rw [tel_at hv1, if_pos e1]) ?_
      exact j1 H locs hP hS
  refine lv_iload_n hx hb dX2_beside_8 rfl (lv_at hl 3 rfl) ?_
  refine lv_icmp_ne (tgt := 16) hx hb dX2_beside_9 (by decide) (fun e0 => ?_) (fun e0 => ?_)
  · skip
    refine lv_iconst (v := 0) hx hb dX2_beside_16 (by decide) ?_
    refine tpi (x' := tel k v (nbC (8 * y + x) 1)) (by rw [tel_at hv1, if_neg e0]) ?_
    exact j0 H locs hP hS
  · skip
    refine lv_iconst (v := 1) hx hb dX2_beside_12 (by decide) ?_
    refine lv_goto (tgt := 17) hx hb dX2_beside_13 (by decide) ?_
    refine tpi (x' := tel k v (nbC (8 * y + x) 1)) (by rw [tel_at hv1, if_pos e0]) ?_
    exact j0 H locs hP hS

def rmX2_in : Room := { frames := 0, cells := 0, slots := 0, locals := 0 }
set_option maxHeartbeats 4000000 in
set_option maxRecDepth 100000 in
/-- lots of a kind in a quarter -/
theorem c_X2_in (l : Launch) (G : va_G) (cs : Nat → ClassId) (h o : Nat) (r : Nat → Nat) (mo co le : Int32) (K k : Nat → Int32) (oq : Nat) (rq : Nat → Nat) (Qa : Nat → Int32) (j : Nat) (v : Int32) (hk : eqK K k) (hQa : hatQ k Qa) (hj : j < 64) : Met l yX2_in wsX2_in rmX2_in (va_Pc [.ref h, .ref oq, .int (nI j), .int v] (RsP G cs [(h, oS o mo co le), (o, oQ (cs 1) 8 r), ((r 0), iB (cs 0) 8 (cl8 K 0)), ((r 1), iB (cs 0) 8 (cl8 K 1)), ((r 2), iB (cs 0) 8 (cl8 K 2)), ((r 3), iB (cs 0) 8 (cl8 K 3)), ((r 4), iB (cs 0) 8 (cl8 K 4)), ((r 5), iB (cs 0) 8 (cl8 K 5)), ((r 6), iB (cs 0) 8 (cl8 K 6)), ((r 7), iB (cs 0) 8 (cl8 K 7)), (oq, oQ (cs 1) 8 rq), ((rq 0), iB (cs 0) 8 (cl8 Qa 0)), ((rq 1), iB (cs 0) 8 (cl8 Qa 1)), ((rq 2), iB (cs 0) 8 (cl8 Qa 2)), ((rq 3), iB (cs 0) 8 (cl8 Qa 3)), ((rq 4), iB (cs 0) 8 (cl8 Qa 4)), ((rq 5), iB (cs 0) 8 (cl8 Qa 5)), ((rq 6), iB (cs 0) 8 (cl8 Qa 6)), ((rq 7), iB (cs 0) 8 (cl8 Qa 7))])) (RdQ (csum (gq k v j) 64)) 0 0 No := by
  refine Met.ofW (cc := cX2_in) (maxL := 7) (ret := (some .int)) (by decide) rfl ?_
  intro p e s m args below meth c s₁ B hml hv
  obtain ⟨rfl, hP, hK, hN⟩ := hv
  have hx := B.exec
  have hb := B.bytes
  have hr := B.returns
  have hlocks := B.notSynchronized
  have hts := atoms_spec (ws := wsX2_in) B.pre
  have hown : s.vm.findClass RX2 = some m.cls := findClass_of_methodNamed B.named
  have hS : va_S No s.heap s.heap [] := va_S.rf
  have FX : CallFix p m c cX2_in 7 s ([.ref h, .ref oq, .int (nI j), .int v] : List Value).toArray wsX2_in RX2 := ⟨hx, hb, hml, hown, hts⟩
  have hl := lv_entry ([.ref h, .ref oq, .int (nI j), .int v]) (n := 7) (Nat.le_of_ble_eq_true rfl)
  rw [lg_entry_eq]
  generalize (lg_sl ([.ref h, .ref oq, .int (nI j), .int v]) ++ List.replicate (7 - (lg_sl ([.ref h, .ref oq, .int (nI j), .int v])).length) Slot.unset).toArray = ls at hl ⊢
  have hl : lv_has ls 7 [(0, .ref h), (1, .ref oq), (2, .int (nI j)), (3, .int v)] := hl
  refine wq (fun Q hQ => ?_)
  have hzc : 0 + 0 ≤ (headSpec wsX2_in rmX2_in).room.cells := Nat.zero_le _
  have hzs : 0 + 0 ≤ (headSpec wsX2_in rmX2_in).room.slots := Nat.zero_le _
  have hf9 := hts (.fieldLink RX2 9 "CanalCityLaw$Sim" "kind" "[[I") (by decide +kernel)
  have hinX2 : ∀ w ∈ u_ws RX2 TX2 4, w ∈ wsX2_in := by decide +kernel
  refine lv_iconst (v := 0) hx hb dX2_in_0 (by decide) ?_
  refine lv_istore (lv' := [(4, .int 0), (0, .ref h), (1, .ref oq), (2, .int (nI j)), (3, .int v)]) hx hb dX2_in_1 hl (by decide) rfl (fun ls hl => ?_)
  refine lv_iconst (v := 0) hx hb dX2_in_3 (by decide) ?_
  refine lv_istore (lv' := [(5, .int 0), (4, .int 0), (0, .ref h), (1, .ref oq), (2, .int (nI j)), (3, .int v)]) hx hb dX2_in_4 hl (by decide) rfl (fun ls hl => ?_)
  have hl : lv_has ls 7 [(5, .int (nI 0)), (4, .int (xs (gq k v j) 0 0)), (0, .ref h), (1, .ref oq), (2, .int (nI j)), (3, .int v)] := hl
  have lx : ∀ (n : Nat) (x : Nat), (hx9 : x ≤ 8) → (8 - x) < n → ∀ (H : Heap) (locs : List Loc) (ls : Array Slot), va_P G vwCl [(h, oS o mo co le), (o, oQ (cs 1) 8 r), ((r 0), iB (cs 0) 8 (cl8 K 0)), ((r 1), iB (cs 0) 8 (cl8 K 1)), ((r 2), iB (cs 0) 8 (cl8 K 2)), ((r 3), iB (cs 0) 8 (cl8 K 3)), ((r 4), iB (cs 0) 8 (cl8 K 4)), ((r 5), iB (cs 0) 8 (cl8 K 5)), ((r 6), iB (cs 0) 8 (cl8 K 6)), ((r 7), iB (cs 0) 8 (cl8 K 7)), (oq, oQ (cs 1) 8 rq), ((rq 0), iB (cs 0) 8 (cl8 Qa 0)), ((rq 1), iB (cs 0) 8 (cl8 Qa 1)), ((rq 2), iB (cs 0) 8 (cl8 Qa 2)), ((rq 3), iB (cs 0) 8 (cl8 Qa 3)), ((rq 4), iB (cs 0) 8 (cl8 Qa 4)), ((rq 5), iB (cs 0) 8 (cl8 Qa 5)), ((rq 6), iB (cs 0) 8 (cl8 Qa 6)), ((rq 7), iB (cs 0) 8 (cl8 Qa 7))] H → va_S No s.heap H locs → lv_has ls 7 [(0, .ref h), (1, .ref oq), (2, .int (nI j)), (3, .int v), (4, .int (xs (gq k v j) x 0)), (5, .int (nI x))] → W p l e (headSpec wsX2_in rmX2_in).room s m ([.ref h, .ref oq, .int (nI j), .int v] : List Value).toArray below meth c H locs 0 0 Q (F0 m 6 ls []) := by
    intro n
    induction n with
    | zero => intro x hx9 hn; exact absurd hn (by omega)
    | succ n ih_lx =>
      intro x hx9 hn H locs ls hP hS hl
      refine lv_iload hx hb dX2_in_6 (lv_at hl 5 rfl) ?_
      refine lv_bipush (v := 8) hx hb dX2_in_8 (by decide) ?_
      rcases Nat.lt_or_ge x 8 with hx8 | g
      · skip
        refine lv_icmp_ge (tgt := 74) hx hb dX2_in_10 (by decide) (fun c => absurd c (lt_n (n := 8) hx8 (by decide))) (fun _ => ?_)
        refine lv_iconst (v := 0) hx hb dX2_in_13 (by decide) ?_
        refine lv_istore (lv' := [(6, .int 0), (0, .ref h), (1, .ref oq), (2, .int (nI j)), (3, .int v), (4, .int (xs (gq k v j) x 0)), (5, .int (nI x))]) hx hb dX2_in_14 hl (by decide) rfl (fun ls hl => ?_)
        have hl : lv_has ls 7 [(6, .int (nI 0)), (0, .ref h), (1, .ref oq), (2, .int (nI j)), (3, .int v), (4, .int (xs (gq k v j) x 0)), (5, .int (nI x))] := hl
        have ly : ∀ (n : Nat) (y : Nat), (hy9 : y ≤ 8) → (8 - y) < n → ∀ (H : Heap) (locs : List Loc) (ls : Array Slot), va_P G vwCl [(h, oS o mo co le), (o, oQ (cs 1) 8 r), ((r 0), iB (cs 0) 8 (cl8 K 0)), ((r 1), iB (cs 0) 8 (cl8 K 1)), ((r 2), iB (cs 0) 8 (cl8 K 2)), ((r 3), iB (cs 0) 8 (cl8 K 3)), ((r 4), iB (cs 0) 8 (cl8 K 4)), ((r 5), iB (cs 0) 8 (cl8 K 5)), ((r 6), iB (cs 0) 8 (cl8 K 6)), ((r 7), iB (cs 0) 8 (cl8 K 7)), (oq, oQ (cs 1) 8 rq), ((rq 0), iB (cs 0) 8 (cl8 Qa 0)), ((rq 1), iB (cs 0) 8 (cl8 Qa 1)), ((rq 2), iB (cs 0) 8 (cl8 Qa 2)), ((rq 3), iB (cs 0) 8 (cl8 Qa 3)), ((rq 4), iB (cs 0) 8 (cl8 Qa 4)), ((rq 5), iB (cs 0) 8 (cl8 Qa 5)), ((rq 6), iB (cs 0) 8 (cl8 Qa 6)), ((rq 7), iB (cs 0) 8 (cl8 Qa 7))] H → va_S No s.heap H locs → lv_has ls 7 [(0, .ref h), (1, .ref oq), (2, .int (nI j)), (3, .int v), (4, .int (xs (gq k v j) x y)), (5, .int (nI x)), (6, .int (nI y))] → W p l e (headSpec wsX2_in rmX2_in).room s m ([.ref h, .ref oq, .int (nI j), .int v] : List Value).toArray below meth c H locs 0 0 Q (F0 m 16 ls []) := by
          intro n
          induction n with
          | zero => intro y hy9 hn; exact absurd hn (by omega)
          | succ n ih_ly =>
            intro y hy9 hn H locs ls hP hS hl
            refine lv_iload hx hb dX2_in_16 (lv_at hl 6 rfl) ?_
            refine lv_bipush (v := 8) hx hb dX2_in_18 (by decide) ?_
            rcases Nat.lt_or_ge y 8 with hy8 | g2
            · skip
              have hp64 : 8 * y + x < 64 := by omega
              refine lv_icmp_ge (tgt := 68) hx hb dX2_in_20 (by decide) (fun c => absurd c (lt_n (n := 8) hy8 (by decide))) (fun _ => ?_)
              refine lv_iload hx hb dX2_in_23 (lv_at hl 4 rfl) ?_
              refine lv_aload_n hx hb dX2_in_25 rfl (lv_at hl 1 rfl) ?_
              refine lv_iload hx hb dX2_in_26 (lv_at hl 5 rfl) ?_
              refine g_ald (r := rq) (n := 8) hx hb hK hP 10 1 rfl rfl (x := x) (hx8) (by decide) dX2_in_28 ?_
              refine lv_iload hx hb dX2_in_29 (lv_at hl 6 rfl) ?_
              refine g_iald (pre := [(h, oS o mo co le), (o, oQ (cs 1) 8 r), ((r 0), iB (cs 0) 8 (cl8 K 0)), ((r 1), iB (cs 0) 8 (cl8 K 1)), ((r 2), iB (cs 0) 8 (cl8 K 2)), ((r 3), iB (cs 0) 8 (cl8 K 3)), ((r 4), iB (cs 0) 8 (cl8 K 4)), ((r 5), iB (cs 0) 8 (cl8 K 5)), ((r 6), iB (cs 0) 8 (cl8 K 6)), ((r 7), iB (cs 0) 8 (cl8 K 7))]) (post := []) (cO := (cs 1)) (cR := (cs 0)) (o := oq) (r := rq) (K := Qa) hx hb hK hP 0 rfl (x := x) (y := y) (hx8) (hy8) dX2_in_31 ?_
              refine tpi (x' := toI (qrt k (8 * y + x))) (hQa _ hp64) ?_
              have j1 : ∀ (H : Heap) (locs : List Loc), va_P G vwCl [(h, oS o mo co le), (o, oQ (cs 1) 8 r), ((r 0), iB (cs 0) 8 (cl8 K 0)), ((r 1), iB (cs 0) 8 (cl8 K 1)), ((r 2), iB (cs 0) 8 (cl8 K 2)), ((r 3), iB (cs 0) 8 (cl8 K 3)), ((r 4), iB (cs 0) 8 (cl8 K 4)), ((r 5), iB (cs 0) 8 (cl8 K 5)), ((r 6), iB (cs 0) 8 (cl8 K 6)), ((r 7), iB (cs 0) 8 (cl8 K 7)), (oq, oQ (cs 1) 8 rq), ((rq 0), iB (cs 0) 8 (cl8 Qa 0)), ((rq 1), iB (cs 0) 8 (cl8 Qa 1)), ((rq 2), iB (cs 0) 8 (cl8 Qa 2)), ((rq 3), iB (cs 0) 8 (cl8 Qa 3)), ((rq 4), iB (cs 0) 8 (cl8 Qa 4)), ((rq 5), iB (cs 0) 8 (cl8 Qa 5)), ((rq 6), iB (cs 0) 8 (cl8 Qa 6)), ((rq 7), iB (cs 0) 8 (cl8 Qa 7))] H → va_S No s.heap H locs → W p l e (headSpec wsX2_in rmX2_in).room s m ([.ref h, .ref oq, .int (nI j), .int v] : List Value).toArray below meth c H locs 0 0 Q (F0 m 59 ls [.int (gq k v j (8 * y + x)), .int (xs (gq k v j) x y)]) := by
                intro H locs hP hS
                refine lv_iadd hx hb dX2_in_59 ?_
                refine tpi (x' := xs (gq k v j) x (y + 1)) ((xs_y _ x y).symm) ?_
                refine lv_istore (lv' := [(4, .int (xs (gq k v j) x (y + 1))), (0, .ref h), (1, .ref oq), (2, .int (nI j)), (3, .int v), (5, .int (nI x)), (6, .int (nI y))]) hx hb dX2_in_60 hl (by decide) rfl (fun ls hl => ?_)
                refine lv_iinc (v := nI (y + 1)) (lv' := [(6, .int (nI (y + 1))), (4, .int (xs (gq k v j) x (y + 1))), (0, .ref h), (1, .ref oq), (2, .int (nI j)), (3, .int v), (5, .int (nI x))]) hx hb dX2_in_62 hl (k := 6) rfl (nI_inc y) (by decide) rfl (fun ls hl => ?_)
                refine lv_goto (tgt := 16) hx hb dX2_in_65 (by decide) ?_
                exact ih_ly (y + 1) (by omega) (by omega) _ _ _ hP hS (lv_sub hl [2, 3, 4, 5, 1, 6, 0] (rfl))
              refine lv_iload_n hx hb dX2_in_32 rfl (lv_at hl 2 rfl) ?_
              refine lv_icmp_ne (tgt := 58) hx hb dX2_in_33 (by decide) (fun e1 => ?_) (fun e1 => ?_)
              · skip
                refine lv_iconst (v := 0) hx hb dX2_in_58 (by decide) ?_
                refine tpi (x' := gq k v j (8 * y + x)) (by unfold gq; rw [if_neg (fun e9 => e1 (by rw [e9]; rfl))]) ?_
                exact j1 H locs hP hS
              · skip
                have hq9 : qrt k (8 * y + x) = some j := toI_eq (fun q hq => Nat.lt_of_le_of_lt (qrt_le hq) hp64) hj e1
                refine lv_iload_n hx hb dX2_in_36 rfl (lv_at hl 3 rfl) ?_
                refine lv_if_lt (tgt := 54) hx hb dX2_in_37 (by decide) (fun e2 => ?_) (fun e2 => ?_)
                · skip
                  refine lv_iconst (v := 1) hx hb dX2_in_54 (by decide) ?_
                  refine lv_goto (tgt := 59) hx hb dX2_in_55 (by decide) ?_
                  refine tpi (x' := gq k v j (8 * y + x)) (by unfold gq; rw [if_pos hq9, if_pos e2]) ?_
                  exact j1 H locs hP hS
                · skip
                  refine lv_aload_n hx hb dX2_in_40 rfl (lv_at hl 0 rfl) ?_
                  refine va_get (D := G) (ci := 2) (v := .ref o) (C := RX2) (T := TX2) (N := 4) hx hb hts hinX2 hown hK hP 0 rfl rfl 0 (by decide) hf9 (fun _ h9 => h9) rfl dX2_in_41 ?_
                  refine lv_iload hx hb dX2_in_44 (lv_at hl 5 rfl) ?_
                  refine g_ald (r := r) (n := 8) hx hb hK hP 1 1 rfl rfl (x := x) (hx8) (by decide) dX2_in_46 ?_
                  refine lv_iload hx hb dX2_in_47 (lv_at hl 6 rfl) ?_
                  refine g_iald (pre := [(h, oS o mo co le)]) (post := [(oq, oQ (cs 1) 8 rq), ((rq 0), iB (cs 0) 8 (cl8 Qa 0)), ((rq 1), iB (cs 0) 8 (cl8 Qa 1)), ((rq 2), iB (cs 0) 8 (cl8 Qa 2)), ((rq 3), iB (cs 0) 8 (cl8 Qa 3)), ((rq 4), iB (cs 0) 8 (cl8 Qa 4)), ((rq 5), iB (cs 0) 8 (cl8 Qa 5)), ((rq 6), iB (cs 0) 8 (cl8 Qa 6)), ((rq 7), iB (cs 0) 8 (cl8 Qa 7))]) (cO := (cs 1)) (cR := (cs 0)) (o := o) (r := r) (K := K) hx hb hK hP 0 rfl (x := x) (y := y) (hx8) (hy8) dX2_in_49 ?_
                  refine tpi (x' := k (8 * y + x)) (hk _ hp64) ?_
                  refine lv_iload_n hx hb dX2_in_50 rfl (lv_at hl 3 rfl) ?_
                  refine lv_icmp_ne (tgt := 58) hx hb dX2_in_51 (by decide) (fun e3 => ?_) (fun e3 => ?_)
                  · skip
                    refine lv_iconst (v := 0) hx hb dX2_in_58 (by decide) ?_
                    refine tpi (x' := gq k v j (8 * y + x)) (by unfold gq; rw [if_pos hq9, if_neg e2, if_neg e3]) ?_
                    exact j1 H locs hP hS
                  · skip
                    refine lv_iconst (v := 1) hx hb dX2_in_54 (by decide) ?_
                    refine lv_goto (tgt := 59) hx hb dX2_in_55 (by decide) ?_
                    refine tpi (x' := gq k v j (8 * y + x)) (by unfold gq; rw [if_pos hq9, if_neg e2, if_pos e3]) ?_
                    exact j1 H locs hP hS
            · skip
              have g2 : y = 8 := by omega
              subst g2
              refine lv_icmp_ge (tgt := 68) hx hb dX2_in_20 (by decide) (fun _ => ?_) (fun c => absurd (le_n (n := 8) (i := 8) (by decide) (by decide)) c)
              refine lv_iinc (v := nI (x + 1)) (lv' := [(5, .int (nI (x + 1))), (0, .ref h), (1, .ref oq), (2, .int (nI j)), (3, .int v), (4, .int (xs (gq k v j) x 8)), (6, .int (nI 8))]) hx hb dX2_in_68 hl (k := 5) rfl (nI_inc x) (by decide) rfl (fun ls hl => ?_)
              refine lv_goto (tgt := 6) hx hb dX2_in_71 (by decide) ?_
              exact ih_lx (x + 1) (by omega) (by omega) _ _ _ hP hS (lv_sub hl [1, 2, 3, 4, 5, 0] (by rw [← xs_x]; rfl))
        exact ly (_ + 1) 0 (by omega) (Nat.lt_succ_self _) _ _ _ hP hS (lv_sub hl [1, 2, 3, 4, 5, 6, 0] rfl)
      · skip
        have g : x = 8 := by omega
        subst g
        refine lv_icmp_ge (tgt := 74) hx hb dX2_in_10 (by decide) (fun _ => ?_) (fun c => absurd (le_n (n := 8) (i := 8) (by decide) (by decide)) c)
        refine lv_iload hx hb dX2_in_74 (lv_at hl 4 rfl) ?_
        subst hQ
        exact rd_i (xs_end _) hx hb hr hS hlocks dX2_in_76
  exact lx (_ + 1) 0 (by omega) (Nat.lt_succ_self _) _ _ _ hP hS (lv_sub hl [2, 3, 4, 5, 1, 0] rfl)

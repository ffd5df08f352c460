def rmX2_lot : Room := { frames := 7, cells := 0, slots := 0, locals := 157 }
set_option maxHeartbeats 4000000 in
set_option maxRecDepth 100000 in
theorem c_X2_lot (l : Launch) (G : va_G) (cI : ClassId) (b : Nat → Nat) (th mo co le : Int32) (K Ah Ot Qm Op Lm Hm Mm Rw St k : Nat → Int32) (x y w : Int32) (hk : eqK K k) (hkd : ∀ x, x < 64 → kd (k x)) (sz : Nat) : Met l yX2_lot wsX2_lot rmX2_lot (va_Pc [.ref (b 0), .int x, .int y, .int w] (WrP G cI [((b 0), oM b th mo co le), ((b 4), iA cI K), ((b 5), iA cI Ah), ((b 6), iA cI Ot), ((b 7), iA cI Qm), ((b 8), iA cI Op), ((b 9), iA cI Lm), ((b 10), iA cI Hm), ((b 11), iA cI Mm), ((b 12), iA cI Rw), ((b 13), iA cI St)] sz)) (va_Qi (fun (r : Int32) (u : (Nat → Int32) × (Nat → Int32) × (Nat → Int32) × (Nat → Int32) × (Nat → Int32) × (Nat → Int32) × (Nat → Int32)) => (cdLot x y w) = 0 → r = fct k (pAt x y) w) (WrB G [((b 0), oM b th mo co le), ((b 4), iA cI K), ((b 5), iA cI Ah), ((b 6), iA cI Ot), ((b 7), iA cI Qm), ((b 8), iA cI Op), ((b 9), iA cI Lm), ((b 10), iA cI Hm), ((b 11), iA cI Mm), ((b 12), iA cI Rw), ((b 13), iA cI St)] sz (fun u => [(b 0, oM b (cdLot x y w) mo co le), (b 4, iA cI K), (b 5, iA cI Ah), (b 6, iA cI Ot), (b 7, iA cI (u.1)), (b 8, iA cI (u.2.1)), (b 9, iA cI (u.2.2.1)), (b 10, iA cI (u.2.2.2.1)), (b 11, iA cI (u.2.2.2.2.1)), (b 12, iA cI (u.2.2.2.2.2.1)), (b 13, iA cI (u.2.2.2.2.2.2))])) (va_A [((b 0), oM b th mo co le), ((b 4), iA cI K), ((b 5), iA cI Ah), ((b 6), iA cI Ot), ((b 7), iA cI Qm), ((b 8), iA cI Op), ((b 9), iA cI Lm), ((b 10), iA cI Hm), ((b 11), iA cI Mm), ((b 12), iA cI Rw), ((b 13), iA cI St)] sz)) 0 0 (va_A [((b 0), oM b th mo co le), ((b 4), iA cI K), ((b 5), iA cI Ah), ((b 6), iA cI Ot), ((b 7), iA cI Qm), ((b 8), iA cI Op), ((b 9), iA cI Lm), ((b 10), iA cI Hm), ((b 11), iA cI Mm), ((b 12), iA cI Rw), ((b 13), iA cI St)] sz) := by
  refine Met.ofW (cc := cX2_lot) (maxL := 4) (ret := (some .int)) (by decide) rfl ?_
  intro p e s m args below meth c s₁ B hml hv
  obtain ⟨rfl, hsz, hP, hK, hD0, hN⟩ := hv
  have hx := B.exec
  have hb := B.bytes
  have hr := B.returns
  have hlocks := B.notSynchronized
  have hts := atoms_spec (ws := wsX2_lot) B.pre
  have hown : s.vm.findClass RX2 = some m.cls := findClass_of_methodNamed B.named
  subst hsz
  have hD := hD0.self (sz := s.heap.size)
  have hA : ∀ q : Nat, s.heap.size ≤ q → va_A [((b 0), oM b th mo co le), ((b 4), iA cI K), ((b 5), iA cI Ah), ((b 6), iA cI Ot), ((b 7), iA cI Qm), ((b 8), iA cI Op), ((b 9), iA cI Lm), ((b 10), iA cI Hm), ((b 11), iA cI Mm), ((b 12), iA cI Rw), ((b 13), iA cI St)] s.heap.size q := fun q h => Or.inr h
  have hS : va_S (va_A [((b 0), oM b th mo co le), ((b 4), iA cI K), ((b 5), iA cI Ah), ((b 6), iA cI Ot), ((b 7), iA cI Qm), ((b 8), iA cI Op), ((b 9), iA cI Lm), ((b 10), iA cI Hm), ((b 11), iA cI Mm), ((b 12), iA cI Rw), ((b 13), iA cI St)] s.heap.size) s.heap s.heap [] := va_S.rf
  obtain ⟨A, hAe⟩ : ∃ A, A = va_A [((b 0), oM b th mo co le), ((b 4), iA cI K), ((b 5), iA cI Ah), ((b 6), iA cI Ot), ((b 7), iA cI Qm), ((b 8), iA cI Op), ((b 9), iA cI Lm), ((b 10), iA cI Hm), ((b 11), iA cI Mm), ((b 12), iA cI Rw), ((b 13), iA cI St)] s.heap.size := ⟨_, rfl⟩
  rw [← hAe] at hD hA hS
  have FX : CallFix p m c cX2_lot 4 s ([.ref (b 0), .int x, .int y, .int w] : List Value).toArray wsX2_lot RX2 := ⟨hx, hb, hml, hown, hts⟩
  have hl := lv_entry ([.ref (b 0), .int x, .int y, .int w]) (n := 4) (Nat.le_of_ble_eq_true rfl)
  rw [lg_entry_eq]
  generalize (lg_sl ([.ref (b 0), .int x, .int y, .int w]) ++ List.replicate (4 - (lg_sl ([.ref (b 0), .int x, .int y, .int w])).length) Slot.unset).toArray = ls at hl ⊢
  have hl : lv_has ls 4 [(0, .ref (b 0)), (1, .int x), (2, .int y), (3, .int w)] := hl
  refine wq (fun Q hQ => ?_)
  have hzc : 0 + 0 ≤ (headSpec wsX2_lot rmX2_lot).room.cells := Nat.zero_le _
  have hzs : 0 + 0 ≤ (headSpec wsX2_lot rmX2_lot).room.slots := Nat.zero_le _
  have hf13 := hts (.fieldLink RX2 13 "CanalCityModel" "kind" "[I") (by decide +kernel)
  have hf44 := hts (.fieldLink RX2 44 "CanalCityModel" "thrown" "I") (by decide +kernel)
  have hinX2 : ∀ w ∈ u_ws RX2 TX2 14, w ∈ wsX2_lot := by decide +kernel
  refine lv_aload_n hx hb dX2_lot_0 rfl (lv_at hl 0 rfl) ?_
  refine lv_iconst (v := 0) hx hb dX2_lot_1 (by decide) ?_
  refine va_put (D := G) (ci := 2) (v := .int 0) (ty := .int) (C := RX2) (T := TX2) (N := 14) hx hb hts hinX2 tyX2 tyX2_ok nmX2 hown hK hP hD hS 0 rfl rfl 0 (by decide) hf44 (fun _ h9 => h9) rfl (by decide +kernel) rfl rfl (Nat.le_of_ble_eq_true rfl) dX2_lot_2 (fun H locs hP hD hS => ?_)
  have hP : va_P G vwCl [((b 0), oM b 0 mo co le), ((b 4), iA cI K), ((b 5), iA cI Ah), ((b 6), iA cI Ot), ((b 7), iA cI Qm), ((b 8), iA cI Op), ((b 9), iA cI Lm), ((b 10), iA cI Hm), ((b 11), iA cI Mm), ((b 12), iA cI Rw), ((b 13), iA cI St)] H := hP
  have hD : va_D A [((b 0), oM b 0 mo co le), ((b 4), iA cI K), ((b 5), iA cI Ah), ((b 6), iA cI Ot), ((b 7), iA cI Qm), ((b 8), iA cI Op), ((b 9), iA cI Lm), ((b 10), iA cI Hm), ((b 11), iA cI Mm), ((b 12), iA cI Rw), ((b 13), iA cI St)] := hD
  refine lv_iload_n hx hb dX2_lot_5 rfl (lv_at hl 1 rfl) ?_
  refine lv_iload_n hx hb dX2_lot_6 rfl (lv_at hl 2 rfl) ?_
  refine cr_i (va_runS (As := [.int x, .int y]) (rest := []) FX (c_X2_isPlace l x y) (va_cwS 2 hts gX2_lot_X2_isPlace rfl rfl rfl (by decide +kernel) ⟨Nat.le_of_ble_eq_true rfl, Nat.le_of_ble_eq_true rfl⟩) puS rfl rfl hl.1 rfl (lv_room (Nat.le_of_ble_eq_true rfl)) dX2_lot_7 ⟨hzc, hzs⟩) hS hP (fun H locs hP hS => ?_)
  rcases hpl : (inB 0 7 x && inB 0 7 y) with _ | _
  · skip
    have hcd : (cdLot x y w) = 1 := by unfold cdLot; rw [hpl]; rfl
    refine tpi (x' := 0) (rfl) ?_
    refine lv_if_eq (tgt := 22) hx hb dX2_lot_10 (by decide) (fun _ => ?_) (fun c => absurd (rfl) c)
    refine lv_aload_n hx hb dX2_lot_22 rfl (lv_at hl 0 rfl) ?_
    refine lv_iconst (v := 1) hx hb dX2_lot_23 (by decide) ?_
    refine cw_i (wr := [((b 4), iA cI K), ((b 5), iA cI Ah), ((b 6), iA cI Ot), ((b 7), iA cI Qm), ((b 8), iA cI Op), ((b 9), iA cI Lm), ((b 10), iA cI Hm), ((b 11), iA cI Mm), ((b 12), iA cI Rw), ((b 13), iA cI St)]) (va_runV (As := [.int 1]) (rest := []) FX (c_X2_no l G cI b 0 mo co le 1 _) (cwV 1 hts gX2_lot_X2_no rfl rfl rfl (by decide +kernel) ⟨Nat.le_of_ble_eq_true rfl, Nat.le_of_ble_eq_true rfl⟩) (wrV hK hP hD hN [0] (by decide) rfl rfl (ci := 2) (q0 := 0) rfl rfl) rfl rfl hl.1 rfl (lv_room (Nat.le_of_ble_eq_true rfl)) dX2_lot_24 ⟨hzc, hzs⟩) hS hP hD hA [0] [1, 2, 3, 4, 5, 6, 7, 8, 9, 10] rfl rfl (by decide) (by decide) (fun r0 u H locs hw hP hD hS => ?_)
    have hP := hP.sub (ws' := [((b 0), oM b 1 mo co le), ((b 4), iA cI K), ((b 5), iA cI Ah), ((b 6), iA cI Ot), ((b 7), iA cI Qm), ((b 8), iA cI Op), ((b 9), iA cI Lm), ((b 10), iA cI Hm), ((b 11), iA cI Mm), ((b 12), iA cI Rw), ((b 13), iA cI St)]) [10, 0, 1, 2, 3, 4, 5, 6, 7, 8, 9] rfl
    have hD := hD.sub (ws' := [((b 0), oM b 1 mo co le), ((b 4), iA cI K), ((b 5), iA cI Ah), ((b 6), iA cI Ot), ((b 7), iA cI Qm), ((b 8), iA cI Op), ((b 9), iA cI Lm), ((b 10), iA cI Hm), ((b 11), iA cI Mm), ((b 12), iA cI Rw), ((b 13), iA cI St)]) [10, 0, 1, 2, 3, 4, 5, 6, 7, 8, 9] (by decide) rfl
    refine tpi (x' := 0) (hw) ?_
    subst hQ
    subst hAe
    rw [hcd]
    exact wr_i (Qm, Op, Lm, Hm, Mm, Rw, St) (fun e => absurd e (by decide)) hx hb hr hP hD hS hlocks dX2_lot_27
  · skip
    have hat := plc_at hpl
    refine tpi (x' := 1) (rfl) ?_
    refine lv_if_eq (tgt := 22) hx hb dX2_lot_10 (by decide) (fun c => absurd c (by decide)) (fun _ => ?_)
    refine lv_iload_n hx hb dX2_lot_13 rfl (lv_at hl 3 rfl) ?_
    refine lv_iconst (v := 0) hx hb dX2_lot_14 (by decide) ?_
    refine lv_iconst (v := 5) hx hb dX2_lot_15 (by decide) ?_
    refine cr_i (va_runS (As := [.int w, .int 0, .int 5]) (rest := []) FX (c_X2_isIn l w 0 5) (va_cwS 3 hts gX2_lot_X2_isIn rfl rfl rfl (by decide +kernel) ⟨Nat.le_of_ble_eq_true rfl, Nat.le_of_ble_eq_true rfl⟩) puS rfl rfl hl.1 rfl (lv_room (Nat.le_of_ble_eq_true rfl)) dX2_lot_16 ⟨hzc, hzs⟩) hS hP (fun H locs hP hS => ?_)
    rcases hin : inB 0 5 w with _ | _
    · skip
      have hcd : (cdLot x y w) = 1 := by unfold cdLot; rw [hpl, hin]; rfl
      refine tpi (x' := 0) (rfl) ?_
      refine lv_if_ne (tgt := 28) hx hb dX2_lot_19 (by decide) (fun c => absurd (rfl) c) (fun _ => ?_)
      refine lv_aload_n hx hb dX2_lot_22 rfl (lv_at hl 0 rfl) ?_
      refine lv_iconst (v := 1) hx hb dX2_lot_23 (by decide) ?_
      refine cw_i (wr := [((b 4), iA cI K), ((b 5), iA cI Ah), ((b 6), iA cI Ot), ((b 7), iA cI Qm), ((b 8), iA cI Op), ((b 9), iA cI Lm), ((b 10), iA cI Hm), ((b 11), iA cI Mm), ((b 12), iA cI Rw), ((b 13), iA cI St)]) (va_runV (As := [.int 1]) (rest := []) FX (c_X2_no l G cI b 0 mo co le 1 _) (cwV 1 hts gX2_lot_X2_no rfl rfl rfl (by decide +kernel) ⟨Nat.le_of_ble_eq_true rfl, Nat.le_of_ble_eq_true rfl⟩) (wrV hK hP hD hN [0] (by decide) rfl rfl (ci := 2) (q0 := 0) rfl rfl) rfl rfl hl.1 rfl (lv_room (Nat.le_of_ble_eq_true rfl)) dX2_lot_24 ⟨hzc, hzs⟩) hS hP hD hA [0] [1, 2, 3, 4, 5, 6, 7, 8, 9, 10] rfl rfl (by decide) (by decide) (fun r0 u H locs hw hP hD hS => ?_)
      have hP := hP.sub (ws' := [((b 0), oM b 1 mo co le), ((b 4), iA cI K), ((b 5), iA cI Ah), ((b 6), iA cI Ot), ((b 7), iA cI Qm), ((b 8), iA cI Op), ((b 9), iA cI Lm), ((b 10), iA cI Hm), ((b 11), iA cI Mm), ((b 12), iA cI Rw), ((b 13), iA cI St)]) [10, 0, 1, 2, 3, 4, 5, 6, 7, 8, 9] rfl
      have hD := hD.sub (ws' := [((b 0), oM b 1 mo co le), ((b 4), iA cI K), ((b 5), iA cI Ah), ((b 6), iA cI Ot), ((b 7), iA cI Qm), ((b 8), iA cI Op), ((b 9), iA cI Lm), ((b 10), iA cI Hm), ((b 11), iA cI Mm), ((b 12), iA cI Rw), ((b 13), iA cI St)]) [10, 0, 1, 2, 3, 4, 5, 6, 7, 8, 9] (by decide) rfl
      refine tpi (x' := 0) (hw) ?_
      subst hQ
      subst hAe
      rw [hcd]
      exact wr_i (Qm, Op, Lm, Hm, Mm, Rw, St) (fun e => absurd e (by decide)) hx hb hr hP hD hS hlocks dX2_lot_27
    · skip
      have hcd : (cdLot x y w) = 0 := by unfold cdLot; rw [hpl, hin]; rfl
      refine tpi (x' := 1) (rfl) ?_
      refine lv_if_ne (tgt := 28) hx hb dX2_lot_19 (by decide) (fun _ => ?_) (fun c => absurd c (by decide))
      refine lv_aload_n hx hb dX2_lot_28 rfl (lv_at hl 0 rfl) ?_
      refine lv_aload_n hx hb dX2_lot_29 rfl (lv_at hl 0 rfl) ?_
      refine va_get (D := G) (ci := 2) (v := .ref (b 4)) (C := RX2) (T := TX2) (N := 14) hx hb hts hinX2 hown hK hP 0 rfl rfl 4 (by decide) hf13 (fun _ h9 => h9) rfl dX2_lot_30 ?_
      refine cw_i (wr := [((b 5), iA cI Ah), ((b 6), iA cI Ot)]) (va_runV (As := [.ref (b 4)]) (rest := []) FX (c_X2_look l G cI b (b 4) 0 mo co le K Qm Op Lm Hm Mm Rw St k hk hkd _) (cwV 1 hts gX2_lot_X2_look rfl rfl rfl (by decide +kernel) ⟨Nat.le_of_ble_eq_true rfl, Nat.le_of_ble_eq_true rfl⟩) (wrV hK hP hD hN [0, 1, 4, 5, 6, 7, 8, 9, 10] (by decide) rfl rfl (ci := 2) (q0 := 0) rfl rfl) rfl rfl hl.1 rfl (lv_room (Nat.le_of_ble_eq_true rfl)) dX2_lot_33 ⟨hzc, hzs⟩) hS hP hD hA [0, 1, 4, 5, 6, 7, 8, 9, 10] [2, 3] rfl rfl (by decide) (by decide) (fun r9 u H locs hw hP hD hS => ?_)
      obtain ⟨Q1, P1, L1, H1, M1, R1, S1⟩ := u
      obtain ⟨h9, hLK⟩ := hw
      have hP := hP.sub (ws' := [((b 0), oM b 0 mo co le), ((b 4), iA cI K), ((b 5), iA cI Ah), ((b 6), iA cI Ot), ((b 7), iA cI Q1), ((b 8), iA cI P1), ((b 9), iA cI L1), ((b 10), iA cI H1), ((b 11), iA cI M1), ((b 12), iA cI R1), ((b 13), iA cI S1)]) [2, 3, 0, 1, 4, 5, 6, 7, 8, 9, 10] rfl
      have hD := hD.sub (ws' := [((b 0), oM b 0 mo co le), ((b 4), iA cI K), ((b 5), iA cI Ah), ((b 6), iA cI Ot), ((b 7), iA cI Q1), ((b 8), iA cI P1), ((b 9), iA cI L1), ((b 10), iA cI H1), ((b 11), iA cI M1), ((b 12), iA cI R1), ((b 13), iA cI S1)]) [2, 3, 0, 1, 4, 5, 6, 7, 8, 9, 10] (by decide) rfl
      refine lv_pop hx hb dX2_lot_36 rfl ?_
      refine lv_aload_n hx hb dX2_lot_37 rfl (lv_at hl 0 rfl) ?_
      refine lv_bipush (v := 8) hx hb dX2_lot_38 (by decide) ?_
      refine lv_iload_n hx hb dX2_lot_40 rfl (lv_at hl 2 rfl) ?_
      refine lv_imul hx hb dX2_lot_41 ?_
      refine lv_iload_n hx hb dX2_lot_42 rfl (lv_at hl 1 rfl) ?_
      refine lv_iadd hx hb dX2_lot_43 ?_
      refine tpi (x' := nI (pAt x y)) (hat.2) ?_
      refine lv_iload_n hx hb dX2_lot_44 rfl (lv_at hl 3 rfl) ?_
      refine cr_i (va_runV (As := [.int (nI (pAt x y)), .int w]) (rest := []) FX (c_X2_lotTold l G cI b 0 mo co le K Q1 P1 L1 H1 M1 R1 S1 k (pAt x y) w hk hkd hLK hat.1) (cwV 2 hts gX2_lot_X2_lotTold rfl rfl rfl (by decide +kernel) ⟨Nat.le_of_ble_eq_true rfl, Nat.le_of_ble_eq_true rfl⟩) (rdV hK hP hN [0, 1, 4, 5, 6, 7, 8, 9, 10] rfl (ci := 2) (q0 := 0) rfl rfl) rfl rfl hl.1 rfl (lv_room (Nat.le_of_ble_eq_true rfl)) dX2_lot_45 ⟨hzc, hzs⟩) hS hP (fun H locs hP hS => ?_)
      subst hQ
      subst hAe
      rw [hcd]
      exact wr_i (Q1, P1, L1, H1, M1, R1, S1) (fun _ => rfl) hx hb hr hP hD hS hlocks dX2_lot_48

def rmX2_count : Room := { frames := 9, cells := 0, slots := 0, locals := 204 }
set_option maxHeartbeats 4000000 in
set_option maxRecDepth 100000 in
theorem c_X2_count (l : Launch) (G : va_G) (cI : ClassId) (b : Nat → Nat) (th mo co le : Int32) (K Ah Ot Qm Op Lm Hm Mm Rw St k : Nat → Int32) (w : Int32) (hk : eqK K k) (hkd : ∀ x, x < 64 → kd (k x)) (sz : Nat) : Met l yX2_count wsX2_count rmX2_count (va_Pc [.ref (b 0), .int w] (WrP G cI [((b 0), oM b th mo co le), ((b 4), iA cI K), ((b 5), iA cI Ah), ((b 6), iA cI Ot), ((b 7), iA cI Qm), ((b 8), iA cI Op), ((b 9), iA cI Lm), ((b 10), iA cI Hm), ((b 11), iA cI Mm), ((b 12), iA cI Rw), ((b 13), iA cI St)] sz)) (va_Qi (fun (r : Int32) (u : (Nat → Int32) × (Nat → Int32) × (Nat → Int32) × (Nat → Int32) × (Nat → Int32) × (Nat → Int32) × (Nat → Int32)) => (cdCount w) = 0 → r = tot k mo co le w) (WrB G [((b 0), oM b th mo co le), ((b 4), iA cI K), ((b 5), iA cI Ah), ((b 6), iA cI Ot), ((b 7), iA cI Qm), ((b 8), iA cI Op), ((b 9), iA cI Lm), ((b 10), iA cI Hm), ((b 11), iA cI Mm), ((b 12), iA cI Rw), ((b 13), iA cI St)] sz (fun u => [(b 0, oM b (cdCount w) mo co le), (b 4, iA cI K), (b 5, iA cI Ah), (b 6, iA cI Ot), (b 7, iA cI (u.1)), (b 8, iA cI (u.2.1)), (b 9, iA cI (u.2.2.1)), (b 10, iA cI (u.2.2.2.1)), (b 11, iA cI (u.2.2.2.2.1)), (b 12, iA cI (u.2.2.2.2.2.1)), (b 13, iA cI (u.2.2.2.2.2.2))])) (va_A [((b 0), oM b th mo co le), ((b 4), iA cI K), ((b 5), iA cI Ah), ((b 6), iA cI Ot), ((b 7), iA cI Qm), ((b 8), iA cI Op), ((b 9), iA cI Lm), ((b 10), iA cI Hm), ((b 11), iA cI Mm), ((b 12), iA cI Rw), ((b 13), iA cI St)] sz)) 0 0 (va_A [((b 0), oM b th mo co le), ((b 4), iA cI K), ((b 5), iA cI Ah), ((b 6), iA cI Ot), ((b 7), iA cI Qm), ((b 8), iA cI Op), ((b 9), iA cI Lm), ((b 10), iA cI Hm), ((b 11), iA cI Mm), ((b 12), iA cI Rw), ((b 13), iA cI St)] sz) := by
  refine Met.ofW (cc := cX2_count) (maxL := 2) (ret := (some .int)) (by decide) rfl ?_
  intro p e s m args below meth c s₁ B hml hv
  obtain ⟨rfl, hsz, hP, hK, hD0, hN⟩ := hv
  have hx := B.exec
  have hb := B.bytes
  have hr := B.returns
  have hlocks := B.notSynchronized
  have hts := atoms_spec (ws := wsX2_count) B.pre
  have hown : s.vm.findClass RX2 = some m.cls := findClass_of_methodNamed B.named
  subst hsz
  have hD := hD0.self (sz := s.heap.size)
  have hA : ∀ q : Nat, s.heap.size ≤ q → va_A [((b 0), oM b th mo co le), ((b 4), iA cI K), ((b 5), iA cI Ah), ((b 6), iA cI Ot), ((b 7), iA cI Qm), ((b 8), iA cI Op), ((b 9), iA cI Lm), ((b 10), iA cI Hm), ((b 11), iA cI Mm), ((b 12), iA cI Rw), ((b 13), iA cI St)] s.heap.size q := fun q h => Or.inr h
  have hS : va_S (va_A [((b 0), oM b th mo co le), ((b 4), iA cI K), ((b 5), iA cI Ah), ((b 6), iA cI Ot), ((b 7), iA cI Qm), ((b 8), iA cI Op), ((b 9), iA cI Lm), ((b 10), iA cI Hm), ((b 11), iA cI Mm), ((b 12), iA cI Rw), ((b 13), iA cI St)] s.heap.size) s.heap s.heap [] := va_S.rf
  obtain ⟨A, hAe⟩ : ∃ A, A = va_A [((b 0), oM b th mo co le), ((b 4), iA cI K), ((b 5), iA cI Ah), ((b 6), iA cI Ot), ((b 7), iA cI Qm), ((b 8), iA cI Op), ((b 9), iA cI Lm), ((b 10), iA cI Hm), ((b 11), iA cI Mm), ((b 12), iA cI Rw), ((b 13), iA cI St)] s.heap.size := ⟨_, rfl⟩
  rw [← hAe] at hD hA hS
  have FX : CallFix p m c cX2_count 2 s ([.ref (b 0), .int w] : List Value).toArray wsX2_count RX2 := ⟨hx, hb, hml, hown, hts⟩
  have hl := lv_entry ([.ref (b 0), .int w]) (n := 2) (Nat.le_of_ble_eq_true rfl)
  rw [lg_entry_eq]
  generalize (lg_sl ([.ref (b 0), .int w]) ++ List.replicate (2 - (lg_sl ([.ref (b 0), .int w])).length) Slot.unset).toArray = ls at hl ⊢
  have hl : lv_has ls 2 [(0, .ref (b 0)), (1, .int w)] := hl
  refine wq (fun Q hQ => ?_)
  have hzc : 0 + 0 ≤ (headSpec wsX2_count rmX2_count).room.cells := Nat.zero_le _
  have hzs : 0 + 0 ≤ (headSpec wsX2_count rmX2_count).room.slots := Nat.zero_le _
  have hf44 := hts (.fieldLink RX2 44 "CanalCityModel" "thrown" "I") (by decide +kernel)
  have hinX2 : ∀ w ∈ u_ws RX2 TX2 14, w ∈ wsX2_count := by decide +kernel
  refine lv_aload_n hx hb dX2_count_0 rfl (lv_at hl 0 rfl) ?_
  refine lv_iconst (v := 0) hx hb dX2_count_1 (by decide) ?_
  refine va_put (D := G) (ci := 2) (v := .int 0) (ty := .int) (C := RX2) (T := TX2) (N := 14) hx hb hts hinX2 tyX2 tyX2_ok nmX2 hown hK hP hD hS 0 rfl rfl 0 (by decide) hf44 (fun _ h9 => h9) rfl (by decide +kernel) rfl rfl (Nat.le_of_ble_eq_true rfl) dX2_count_2 (fun H locs hP hD hS => ?_)
  have hP : va_P G vwCl [((b 0), oM b 0 mo co le), ((b 4), iA cI K), ((b 5), iA cI Ah), ((b 6), iA cI Ot), ((b 7), iA cI Qm), ((b 8), iA cI Op), ((b 9), iA cI Lm), ((b 10), iA cI Hm), ((b 11), iA cI Mm), ((b 12), iA cI Rw), ((b 13), iA cI St)] H := hP
  have hD : va_D A [((b 0), oM b 0 mo co le), ((b 4), iA cI K), ((b 5), iA cI Ah), ((b 6), iA cI Ot), ((b 7), iA cI Qm), ((b 8), iA cI Op), ((b 9), iA cI Lm), ((b 10), iA cI Hm), ((b 11), iA cI Mm), ((b 12), iA cI Rw), ((b 13), iA cI St)] := hD
  refine lv_iload_n hx hb dX2_count_5 rfl (lv_at hl 1 rfl) ?_
  refine lv_iconst (v := 0) hx hb dX2_count_6 (by decide) ?_
  refine lv_bipush (v := 12) hx hb dX2_count_7 (by decide) ?_
  refine cr_i (va_runS (As := [.int w, .int 0, .int 12]) (rest := []) FX (c_X2_isIn l w 0 12) (va_cwS 3 hts gX2_count_X2_isIn rfl rfl rfl (by decide +kernel) ⟨Nat.le_of_ble_eq_true rfl, Nat.le_of_ble_eq_true rfl⟩) puS rfl rfl hl.1 rfl (lv_room (Nat.le_of_ble_eq_true rfl)) dX2_count_9 ⟨hzc, hzs⟩) hS hP (fun H locs hP hS => ?_)
  rcases hin : inB 0 12 w with _ | _
  · skip
    have hcd : (cdCount w) = 1 := by unfold cdCount; rw [hin]; rfl
    refine tpi (x' := 0) (rfl) ?_
    refine lv_if_eq (tgt := 23) hx hb dX2_count_12 (by decide) (fun _ => ?_) (fun c => absurd (rfl) c)
    refine lv_aload_n hx hb dX2_count_23 rfl (lv_at hl 0 rfl) ?_
    refine lv_iconst (v := 1) hx hb dX2_count_24 (by decide) ?_
    refine cw_i (wr := [((b 4), iA cI K), ((b 5), iA cI Ah), ((b 6), iA cI Ot), ((b 7), iA cI Qm), ((b 8), iA cI Op), ((b 9), iA cI Lm), ((b 10), iA cI Hm), ((b 11), iA cI Mm), ((b 12), iA cI Rw), ((b 13), iA cI St)]) (va_runV (As := [.int 1]) (rest := []) FX (c_X2_no l G cI b 0 mo co le 1 _) (cwV 1 hts gX2_count_X2_no rfl rfl rfl (by decide +kernel) ⟨Nat.le_of_ble_eq_true rfl, Nat.le_of_ble_eq_true rfl⟩) (wrV hK hP hD hN [0] (by decide) rfl rfl (ci := 2) (q0 := 0) rfl rfl) rfl rfl hl.1 rfl (lv_room (Nat.le_of_ble_eq_true rfl)) dX2_count_25 ⟨hzc, hzs⟩) hS hP hD hA [0] [1, 2, 3, 4, 5, 6, 7, 8, 9, 10] rfl rfl (by decide) (by decide) (fun r0 u H locs hw hP hD hS => ?_)
    have hP := hP.sub (ws' := [((b 0), oM b 1 mo co le), ((b 4), iA cI K), ((b 5), iA cI Ah), ((b 6), iA cI Ot), ((b 7), iA cI Qm), ((b 8), iA cI Op), ((b 9), iA cI Lm), ((b 10), iA cI Hm), ((b 11), iA cI Mm), ((b 12), iA cI Rw), ((b 13), iA cI St)]) [10, 0, 1, 2, 3, 4, 5, 6, 7, 8, 9] rfl
    have hD := hD.sub (ws' := [((b 0), oM b 1 mo co le), ((b 4), iA cI K), ((b 5), iA cI Ah), ((b 6), iA cI Ot), ((b 7), iA cI Qm), ((b 8), iA cI Op), ((b 9), iA cI Lm), ((b 10), iA cI Hm), ((b 11), iA cI Mm), ((b 12), iA cI Rw), ((b 13), iA cI St)]) [10, 0, 1, 2, 3, 4, 5, 6, 7, 8, 9] (by decide) rfl
    refine tpi (x' := 0) (hw) ?_
    subst hQ
    subst hAe
    rw [hcd]
    exact wr_i (Qm, Op, Lm, Hm, Mm, Rw, St) (fun e => absurd e (by decide)) hx hb hr hP hD hS hlocks dX2_count_28
  · skip
    have hcd : (cdCount w) = 0 := by unfold cdCount; rw [hin]; rfl
    refine tpi (x' := 1) (rfl) ?_
    refine lv_if_eq (tgt := 23) hx hb dX2_count_12 (by decide) (fun c => absurd c (by decide)) (fun _ => ?_)
    refine lv_aload_n hx hb dX2_count_15 rfl (lv_at hl 0 rfl) ?_
    refine lv_iload_n hx hb dX2_count_16 rfl (lv_at hl 1 rfl) ?_
    refine cw_i (wr := [((b 5), iA cI Ah), ((b 6), iA cI Ot)]) (va_runV (As := [.int w]) (rest := []) FX (c_X2_counted_ l G cI b 0 mo co le K Qm Op Lm Hm Mm Rw St k w hk hkd _) (cwV 1 hts gX2_count_X2_counted_ rfl rfl rfl (by decide +kernel) ⟨Nat.le_of_ble_eq_true rfl, Nat.le_of_ble_eq_true rfl⟩) (wrV hK hP hD hN [0, 1, 4, 5, 6, 7, 8, 9, 10] (by decide) rfl rfl (ci := 2) (q0 := 0) rfl rfl) rfl rfl hl.1 rfl (lv_room (Nat.le_of_ble_eq_true rfl)) dX2_count_17 ⟨hzc, hzs⟩) hS hP hD hA [0, 1, 4, 5, 6, 7, 8, 9, 10] [2, 3] rfl rfl (by decide) (by decide) (fun r9 u H locs hw hP hD hS => ?_)
    obtain ⟨Q1, P1, L1, H1, M1, R1, S1⟩ := u
    have hP := hP.sub (ws' := [((b 0), oM b 0 mo co le), ((b 4), iA cI K), ((b 5), iA cI Ah), ((b 6), iA cI Ot), ((b 7), iA cI Q1), ((b 8), iA cI P1), ((b 9), iA cI L1), ((b 10), iA cI H1), ((b 11), iA cI M1), ((b 12), iA cI R1), ((b 13), iA cI S1)]) [2, 3, 0, 1, 4, 5, 6, 7, 8, 9, 10] rfl
    have hD := hD.sub (ws' := [((b 0), oM b 0 mo co le), ((b 4), iA cI K), ((b 5), iA cI Ah), ((b 6), iA cI Ot), ((b 7), iA cI Q1), ((b 8), iA cI P1), ((b 9), iA cI L1), ((b 10), iA cI H1), ((b 11), iA cI M1), ((b 12), iA cI R1), ((b 13), iA cI S1)]) [2, 3, 0, 1, 4, 5, 6, 7, 8, 9, 10] (by decide) rfl
    refine lv_goto (tgt := 28) hx hb dX2_count_20 (by decide) ?_
    subst hQ
    subst hAe
    rw [hcd]
    exact wr_i (Q1, P1, L1, H1, M1, R1, S1) (fun _ => hw) hx hb hr hP hD hS hlocks dX2_count_28

def rmX2_walk : Room := { frames := 4, cells := 0, slots := 0, locals := 93 }
set_option maxHeartbeats 4000000 in
set_option maxRecDepth 100000 in
theorem c_X2_walk (l : Launch) (G : va_G) (cI : ClassId) (b : Nat → Nat) (th mo co le : Int32) (K Ah Ot Qm Op Lm Hm Mm Rw St k : Nat → Int32) (x y : Int32) (hk : eqK K k) (hkd : ∀ x, x < 64 → kd (k x)) (sz : Nat) : Met l yX2_walk wsX2_walk rmX2_walk (va_Pc [.ref (b 0), .int x, .int y] (WrP G cI [((b 0), oM b th mo co le), ((b 4), iA cI K), ((b 5), iA cI Ah), ((b 6), iA cI Ot), ((b 7), iA cI Qm), ((b 8), iA cI Op), ((b 9), iA cI Lm), ((b 10), iA cI Hm), ((b 11), iA cI Mm), ((b 12), iA cI Rw), ((b 13), iA cI St)] sz)) (va_Qi (fun (r : Int32) (u : (Nat → Int32) × (Nat → Int32)) => (cdWalk k x y) = 0 → r = toI (dst (PB true k) x.toNatClampNeg y.toNatClampNeg)) (WrB G [((b 0), oM b th mo co le), ((b 4), iA cI K), ((b 5), iA cI Ah), ((b 6), iA cI Ot), ((b 7), iA cI Qm), ((b 8), iA cI Op), ((b 9), iA cI Lm), ((b 10), iA cI Hm), ((b 11), iA cI Mm), ((b 12), iA cI Rw), ((b 13), iA cI St)] sz (fun u => [(b 0, oM b (cdWalk k x y) mo co le), (b 4, iA cI K), (b 5, iA cI Ah), (b 6, iA cI Ot), (b 7, iA cI Qm), (b 8, iA cI Op), (b 9, iA cI Lm), (b 10, iA cI Hm), (b 11, iA cI Mm), (b 12, iA cI (u.1)), (b 13, iA cI (u.2))])) (va_A [((b 0), oM b th mo co le), ((b 4), iA cI K), ((b 5), iA cI Ah), ((b 6), iA cI Ot), ((b 7), iA cI Qm), ((b 8), iA cI Op), ((b 9), iA cI Lm), ((b 10), iA cI Hm), ((b 11), iA cI Mm), ((b 12), iA cI Rw), ((b 13), iA cI St)] sz)) 0 0 (va_A [((b 0), oM b th mo co le), ((b 4), iA cI K), ((b 5), iA cI Ah), ((b 6), iA cI Ot), ((b 7), iA cI Qm), ((b 8), iA cI Op), ((b 9), iA cI Lm), ((b 10), iA cI Hm), ((b 11), iA cI Mm), ((b 12), iA cI Rw), ((b 13), iA cI St)] sz) := by
  refine Met.ofW (cc := cX2_walk) (maxL := 3) (ret := (some .int)) (by decide) rfl ?_
  intro p e s m args below meth c s₁ B hml hv
  obtain ⟨rfl, hsz, hP, hK, hD0, hN⟩ := hv
  have hx := B.exec
  have hb := B.bytes
  have hr := B.returns
  have hlocks := B.notSynchronized
  have hts := atoms_spec (ws := wsX2_walk) B.pre
  have hown : s.vm.findClass RX2 = some m.cls := findClass_of_methodNamed B.named
  subst hsz
  have hD := hD0.self (sz := s.heap.size)
  have hA : ∀ q : Nat, s.heap.size ≤ q → va_A [((b 0), oM b th mo co le), ((b 4), iA cI K), ((b 5), iA cI Ah), ((b 6), iA cI Ot), ((b 7), iA cI Qm), ((b 8), iA cI Op), ((b 9), iA cI Lm), ((b 10), iA cI Hm), ((b 11), iA cI Mm), ((b 12), iA cI Rw), ((b 13), iA cI St)] s.heap.size q := fun q h => Or.inr h
  have hS : va_S (va_A [((b 0), oM b th mo co le), ((b 4), iA cI K), ((b 5), iA cI Ah), ((b 6), iA cI Ot), ((b 7), iA cI Qm), ((b 8), iA cI Op), ((b 9), iA cI Lm), ((b 10), iA cI Hm), ((b 11), iA cI Mm), ((b 12), iA cI Rw), ((b 13), iA cI St)] s.heap.size) s.heap s.heap [] := va_S.rf
  obtain ⟨A, hAe⟩ : ∃ A, A = va_A [((b 0), oM b th mo co le), ((b 4), iA cI K), ((b 5), iA cI Ah), ((b 6), iA cI Ot), ((b 7), iA cI Qm), ((b 8), iA cI Op), ((b 9), iA cI Lm), ((b 10), iA cI Hm), ((b 11), iA cI Mm), ((b 12), iA cI Rw), ((b 13), iA cI St)] s.heap.size := ⟨_, rfl⟩
  rw [← hAe] at hD hA hS
  have FX : CallFix p m c cX2_walk 3 s ([.ref (b 0), .int x, .int y] : List Value).toArray wsX2_walk RX2 := ⟨hx, hb, hml, hown, hts⟩
  have hl := lv_entry ([.ref (b 0), .int x, .int y]) (n := 3) (Nat.le_of_ble_eq_true rfl)
  rw [lg_entry_eq]
  generalize (lg_sl ([.ref (b 0), .int x, .int y]) ++ List.replicate (3 - (lg_sl ([.ref (b 0), .int x, .int y])).length) Slot.unset).toArray = ls at hl ⊢
  have hl : lv_has ls 3 [(0, .ref (b 0)), (1, .int x), (2, .int y)] := hl
  refine wq (fun Q hQ => ?_)
  have hzc : 0 + 0 ≤ (headSpec wsX2_walk rmX2_walk).room.cells := Nat.zero_le _
  have hzs : 0 + 0 ≤ (headSpec wsX2_walk rmX2_walk).room.slots := Nat.zero_le _
  have hf13 := hts (.fieldLink RX2 13 "CanalCityModel" "kind" "[I") (by decide +kernel)
  have hf41 := hts (.fieldLink RX2 41 "CanalCityModel" "steps" "[I") (by decide +kernel)
  have hf44 := hts (.fieldLink RX2 44 "CanalCityModel" "thrown" "I") (by decide +kernel)
  have hinX2 : ∀ w ∈ u_ws RX2 TX2 14, w ∈ wsX2_walk := by decide +kernel
  refine lv_aload_n hx hb dX2_walk_0 rfl (lv_at hl 0 rfl) ?_
  refine lv_iconst (v := 0) hx hb dX2_walk_1 (by decide) ?_
  refine va_put (D := G) (ci := 2) (v := .int 0) (ty := .int) (C := RX2) (T := TX2) (N := 14) hx hb hts hinX2 tyX2 tyX2_ok nmX2 hown hK hP hD hS 0 rfl rfl 0 (by decide) hf44 (fun _ h9 => h9) rfl (by decide +kernel) rfl rfl (Nat.le_of_ble_eq_true rfl) dX2_walk_2 (fun H locs hP hD hS => ?_)
  have hP : va_P G vwCl [((b 0), oM b 0 mo co le), ((b 4), iA cI K), ((b 5), iA cI Ah), ((b 6), iA cI Ot), ((b 7), iA cI Qm), ((b 8), iA cI Op), ((b 9), iA cI Lm), ((b 10), iA cI Hm), ((b 11), iA cI Mm), ((b 12), iA cI Rw), ((b 13), iA cI St)] H := hP
  have hD : va_D A [((b 0), oM b 0 mo co le), ((b 4), iA cI K), ((b 5), iA cI Ah), ((b 6), iA cI Ot), ((b 7), iA cI Qm), ((b 8), iA cI Op), ((b 9), iA cI Lm), ((b 10), iA cI Hm), ((b 11), iA cI Mm), ((b 12), iA cI Rw), ((b 13), iA cI St)] := hD
  refine lv_iload_n hx hb dX2_walk_5 rfl (lv_at hl 1 rfl) ?_
  refine lv_iconst (v := 0) hx hb dX2_walk_6 (by decide) ?_
  refine lv_bipush (v := 63) hx hb dX2_walk_7 (by decide) ?_
  refine cr_i (va_runS (As := [.int x, .int 0, .int 63]) (rest := []) FX (c_X2_isIn l x 0 63) (va_cwS 3 hts gX2_walk_X2_isIn rfl rfl rfl (by decide +kernel) ⟨Nat.le_of_ble_eq_true rfl, Nat.le_of_ble_eq_true rfl⟩) puS rfl rfl hl.1 rfl (lv_room (Nat.le_of_ble_eq_true rfl)) dX2_walk_9 ⟨hzc, hzs⟩) hS hP (fun H locs hP hS => ?_)
  rcases hin : inB 0 63 x with _ | _
  · skip
    have hcd : (cdWalk k x y) = 1 := by unfold cdWalk; rw [if_neg (fun e => by rw [hin] at e; exact absurd e.1 (by decide))]
    refine tpi (x' := 0) (rfl) ?_
    refine lv_if_eq (tgt := 25) hx hb dX2_walk_12 (by decide) (fun _ => ?_) (fun c => absurd (rfl) c)
    refine lv_aload_n hx hb dX2_walk_25 rfl (lv_at hl 0 rfl) ?_
    refine lv_iconst (v := 1) hx hb dX2_walk_26 (by decide) ?_
    refine cw_i (wr := [((b 4), iA cI K), ((b 5), iA cI Ah), ((b 6), iA cI Ot), ((b 7), iA cI Qm), ((b 8), iA cI Op), ((b 9), iA cI Lm), ((b 10), iA cI Hm), ((b 11), iA cI Mm), ((b 12), iA cI Rw), ((b 13), iA cI St)]) (va_runV (As := [.int 1]) (rest := []) FX (c_X2_no l G cI b 0 mo co le 1 _) (cwV 1 hts gX2_walk_X2_no rfl rfl rfl (by decide +kernel) ⟨Nat.le_of_ble_eq_true rfl, Nat.le_of_ble_eq_true rfl⟩) (wrV hK hP hD hN [0] (by decide) rfl rfl (ci := 2) (q0 := 0) rfl rfl) rfl rfl hl.1 rfl (lv_room (Nat.le_of_ble_eq_true rfl)) dX2_walk_27 ⟨hzc, hzs⟩) hS hP hD hA [0] [1, 2, 3, 4, 5, 6, 7, 8, 9, 10] rfl rfl (by decide) (by decide) (fun r0 u H locs hw hP hD hS => ?_)
    have hP := hP.sub (ws' := [((b 0), oM b 1 mo co le), ((b 4), iA cI K), ((b 5), iA cI Ah), ((b 6), iA cI Ot), ((b 7), iA cI Qm), ((b 8), iA cI Op), ((b 9), iA cI Lm), ((b 10), iA cI Hm), ((b 11), iA cI Mm), ((b 12), iA cI Rw), ((b 13), iA cI St)]) [10, 0, 1, 2, 3, 4, 5, 6, 7, 8, 9] rfl
    have hD := hD.sub (ws' := [((b 0), oM b 1 mo co le), ((b 4), iA cI K), ((b 5), iA cI Ah), ((b 6), iA cI Ot), ((b 7), iA cI Qm), ((b 8), iA cI Op), ((b 9), iA cI Lm), ((b 10), iA cI Hm), ((b 11), iA cI Mm), ((b 12), iA cI Rw), ((b 13), iA cI St)]) [10, 0, 1, 2, 3, 4, 5, 6, 7, 8, 9] (by decide) rfl
    refine tpi (x' := 0) (hw) ?_
    subst hQ
    subst hAe
    rw [hcd]
    exact wr_i (Rw, St) (fun e => absurd e (by decide)) hx hb hr hP hD hS hlocks dX2_walk_30
  · skip
    refine tpi (x' := 1) (rfl) ?_
    refine lv_if_eq (tgt := 25) hx hb dX2_walk_12 (by decide) (fun c => absurd c (by decide)) (fun _ => ?_)
    refine lv_iload_n hx hb dX2_walk_15 rfl (lv_at hl 2 rfl) ?_
    refine lv_iconst (v := 0) hx hb dX2_walk_16 (by decide) ?_
    refine lv_bipush (v := 63) hx hb dX2_walk_17 (by decide) ?_
    refine cr_i (va_runS (As := [.int y, .int 0, .int 63]) (rest := []) FX (c_X2_isIn l y 0 63) (va_cwS 3 hts gX2_walk_X2_isIn rfl rfl rfl (by decide +kernel) ⟨Nat.le_of_ble_eq_true rfl, Nat.le_of_ble_eq_true rfl⟩) puS rfl rfl hl.1 rfl (lv_room (Nat.le_of_ble_eq_true rfl)) dX2_walk_19 ⟨hzc, hzs⟩) hS hP (fun H locs hP hS => ?_)
    rcases hin2 : inB 0 63 y with _ | _
    · skip
      have hcd : (cdWalk k x y) = 1 := by unfold cdWalk; rw [if_neg (fun e => by rw [hin2] at e; exact absurd e.2 (by decide))]
      refine tpi (x' := 0) (rfl) ?_
      refine lv_if_ne (tgt := 31) hx hb dX2_walk_22 (by decide) (fun c => absurd (rfl) c) (fun _ => ?_)
      refine lv_aload_n hx hb dX2_walk_25 rfl (lv_at hl 0 rfl) ?_
      refine lv_iconst (v := 1) hx hb dX2_walk_26 (by decide) ?_
      refine cw_i (wr := [((b 4), iA cI K), ((b 5), iA cI Ah), ((b 6), iA cI Ot), ((b 7), iA cI Qm), ((b 8), iA cI Op), ((b 9), iA cI Lm), ((b 10), iA cI Hm), ((b 11), iA cI Mm), ((b 12), iA cI Rw), ((b 13), iA cI St)]) (va_runV (As := [.int 1]) (rest := []) FX (c_X2_no l G cI b 0 mo co le 1 _) (cwV 1 hts gX2_walk_X2_no rfl rfl rfl (by decide +kernel) ⟨Nat.le_of_ble_eq_true rfl, Nat.le_of_ble_eq_true rfl⟩) (wrV hK hP hD hN [0] (by decide) rfl rfl (ci := 2) (q0 := 0) rfl rfl) rfl rfl hl.1 rfl (lv_room (Nat.le_of_ble_eq_true rfl)) dX2_walk_27 ⟨hzc, hzs⟩) hS hP hD hA [0] [1, 2, 3, 4, 5, 6, 7, 8, 9, 10] rfl rfl (by decide) (by decide) (fun r0 u H locs hw hP hD hS => ?_)
      have hP := hP.sub (ws' := [((b 0), oM b 1 mo co le), ((b 4), iA cI K), ((b 5), iA cI Ah), ((b 6), iA cI Ot), ((b 7), iA cI Qm), ((b 8), iA cI Op), ((b 9), iA cI Lm), ((b 10), iA cI Hm), ((b 11), iA cI Mm), ((b 12), iA cI Rw), ((b 13), iA cI St)]) [10, 0, 1, 2, 3, 4, 5, 6, 7, 8, 9] rfl
      have hD := hD.sub (ws' := [((b 0), oM b 1 mo co le), ((b 4), iA cI K), ((b 5), iA cI Ah), ((b 6), iA cI Ot), ((b 7), iA cI Qm), ((b 8), iA cI Op), ((b 9), iA cI Lm), ((b 10), iA cI Hm), ((b 11), iA cI Mm), ((b 12), iA cI Rw), ((b 13), iA cI St)]) [10, 0, 1, 2, 3, 4, 5, 6, 7, 8, 9] (by decide) rfl
      refine tpi (x' := 0) (hw) ?_
      subst hQ
      subst hAe
      rw [hcd]
      exact wr_i (Rw, St) (fun e => absurd e (by decide)) hx hb hr hP hD hS hlocks dX2_walk_30
    · skip
      have hxa := num_at hin
      have hya := num_at hin2
      refine tpi (x' := 1) (rfl) ?_
      refine lv_if_ne (tgt := 31) hx hb dX2_walk_22 (by decide) (fun _ => ?_) (fun c => absurd c (by decide))
      obtain ⟨xn, hxn⟩ : ∃ z, z = x.toNatClampNeg := ⟨_, rfl⟩
      obtain ⟨yn, hyn⟩ : ∃ z, z = y.toNatClampNeg := ⟨_, rfl⟩
      rw [← hxn] at hxa
      rw [← hyn] at hya
      refine lv_aload_n hx hb dX2_walk_31 rfl (lv_at hl 0 rfl) ?_
      refine va_get (D := G) (ci := 2) (v := .ref (b 4)) (C := RX2) (T := TX2) (N := 14) hx hb hts hinX2 hown hK hP 0 rfl rfl 4 (by decide) hf13 (fun _ h9 => h9) rfl dX2_walk_32 ?_
      refine lv_iload_n hx hb dX2_walk_35 rfl (lv_at hl 1 rfl) ?_
      refine tpi (x' := nI xn) (hxa.2) ?_
      refine va_iald hx hb hK hP 1 0 rfl rfl (vp_in_nI hxa.1 (by decide)) dX2_walk_36 ?_
      refine tpi (x' := K xn) (congrArg K (nI_clamp (by omega))) ?_
      refine tpi (x' := k xn) (hk _ hxa.1) ?_
      refine cr_i (va_runS (As := [.int (k xn)]) (rest := []) FX (c_X2_isLand l (k xn)) (va_cwS 1 hts gX2_walk_X2_isLand rfl rfl rfl (by decide +kernel) ⟨Nat.le_of_ble_eq_true rfl, Nat.le_of_ble_eq_true rfl⟩) puS rfl rfl hl.1 rfl (lv_room (Nat.le_of_ble_eq_true rfl)) dX2_walk_37 ⟨hzc, hzs⟩) hS hP (fun H locs hP hS => ?_)
      refine tpi (x' := b2i (lnd (k xn))) (by rw [lnd_ge (hkd _ hxa.1)]) ?_
      rcases hl1 : lnd (k xn) with _ | _
      · skip
        have hcd : (cdWalk k x y) = 2 := by unfold cdWalk; rw [if_pos ⟨hin, hin2⟩, if_neg (fun e => by rw [← hxn, hl1] at e; exact absurd e.1 (by decide))]
        refine tpi (x' := 0) (rfl) ?_
        refine lv_if_eq (tgt := 55) hx hb dX2_walk_40 (by decide) (fun _ => ?_) (fun c => absurd (rfl) c)
        refine lv_aload_n hx hb dX2_walk_55 rfl (lv_at hl 0 rfl) ?_
        refine lv_iconst (v := 2) hx hb dX2_walk_56 (by decide) ?_
        refine cw_i (wr := [((b 4), iA cI K), ((b 5), iA cI Ah), ((b 6), iA cI Ot), ((b 7), iA cI Qm), ((b 8), iA cI Op), ((b 9), iA cI Lm), ((b 10), iA cI Hm), ((b 11), iA cI Mm), ((b 12), iA cI Rw), ((b 13), iA cI St)]) (va_runV (As := [.int 2]) (rest := []) FX (c_X2_no l G cI b 0 mo co le 2 _) (cwV 1 hts gX2_walk_X2_no rfl rfl rfl (by decide +kernel) ⟨Nat.le_of_ble_eq_true rfl, Nat.le_of_ble_eq_true rfl⟩) (wrV hK hP hD hN [0] (by decide) rfl rfl (ci := 2) (q0 := 0) rfl rfl) rfl rfl hl.1 rfl (lv_room (Nat.le_of_ble_eq_true rfl)) dX2_walk_57 ⟨hzc, hzs⟩) hS hP hD hA [0] [1, 2, 3, 4, 5, 6, 7, 8, 9, 10] rfl rfl (by decide) (by decide) (fun r0 u H locs hw hP hD hS => ?_)
        have hP := hP.sub (ws' := [((b 0), oM b 2 mo co le), ((b 4), iA cI K), ((b 5), iA cI Ah), ((b 6), iA cI Ot), ((b 7), iA cI Qm), ((b 8), iA cI Op), ((b 9), iA cI Lm), ((b 10), iA cI Hm), ((b 11), iA cI Mm), ((b 12), iA cI Rw), ((b 13), iA cI St)]) [10, 0, 1, 2, 3, 4, 5, 6, 7, 8, 9] rfl
        have hD := hD.sub (ws' := [((b 0), oM b 2 mo co le), ((b 4), iA cI K), ((b 5), iA cI Ah), ((b 6), iA cI Ot), ((b 7), iA cI Qm), ((b 8), iA cI Op), ((b 9), iA cI Lm), ((b 10), iA cI Hm), ((b 11), iA cI Mm), ((b 12), iA cI Rw), ((b 13), iA cI St)]) [10, 0, 1, 2, 3, 4, 5, 6, 7, 8, 9] (by decide) rfl
        refine tpi (x' := 0) (hw) ?_
        subst hQ
        subst hAe
        rw [hcd]
        exact wr_i (Rw, St) (fun e => absurd e (by decide)) hx hb hr hP hD hS hlocks dX2_walk_60
      · skip
        refine tpi (x' := 1) (rfl) ?_
        refine lv_if_eq (tgt := 55) hx hb dX2_walk_40 (by decide) (fun c => absurd c (by decide)) (fun _ => ?_)
        refine lv_aload_n hx hb dX2_walk_43 rfl (lv_at hl 0 rfl) ?_
        refine va_get (D := G) (ci := 2) (v := .ref (b 4)) (C := RX2) (T := TX2) (N := 14) hx hb hts hinX2 hown hK hP 0 rfl rfl 4 (by decide) hf13 (fun _ h9 => h9) rfl dX2_walk_44 ?_
        refine lv_iload_n hx hb dX2_walk_47 rfl (lv_at hl 2 rfl) ?_
        refine tpi (x' := nI yn) (hya.2) ?_
        refine va_iald hx hb hK hP 1 0 rfl rfl (vp_in_nI hya.1 (by decide)) dX2_walk_48 ?_
        refine tpi (x' := K yn) (congrArg K (nI_clamp (by omega))) ?_
        refine tpi (x' := k yn) (hk _ hya.1) ?_
        refine cr_i (va_runS (As := [.int (k yn)]) (rest := []) FX (c_X2_isLand l (k yn)) (va_cwS 1 hts gX2_walk_X2_isLand rfl rfl rfl (by decide +kernel) ⟨Nat.le_of_ble_eq_true rfl, Nat.le_of_ble_eq_true rfl⟩) puS rfl rfl hl.1 rfl (lv_room (Nat.le_of_ble_eq_true rfl)) dX2_walk_49 ⟨hzc, hzs⟩) hS hP (fun H locs hP hS => ?_)
        refine tpi (x' := b2i (lnd (k yn))) (by rw [lnd_ge (hkd _ hya.1)]) ?_
        rcases hl2 : lnd (k yn) with _ | _
        · skip
          have hcd : (cdWalk k x y) = 2 := by unfold cdWalk; rw [if_pos ⟨hin, hin2⟩, if_neg (fun e => by rw [← hyn, hl2] at e; exact absurd e.2 (by decide))]
          refine tpi (x' := 0) (rfl) ?_
          refine lv_if_ne (tgt := 61) hx hb dX2_walk_52 (by decide) (fun c => absurd (rfl) c) (fun _ => ?_)
          refine lv_aload_n hx hb dX2_walk_55 rfl (lv_at hl 0 rfl) ?_
          refine lv_iconst (v := 2) hx hb dX2_walk_56 (by decide) ?_
          refine cw_i (wr := [((b 4), iA cI K), ((b 5), iA cI Ah), ((b 6), iA cI Ot), ((b 7), iA cI Qm), ((b 8), iA cI Op), ((b 9), iA cI Lm), ((b 10), iA cI Hm), ((b 11), iA cI Mm), ((b 12), iA cI Rw), ((b 13), iA cI St)]) (va_runV (As := [.int 2]) (rest := []) FX (c_X2_no l G cI b 0 mo co le 2 _) (cwV 1 hts gX2_walk_X2_no rfl rfl rfl (by decide +kernel) ⟨Nat.le_of_ble_eq_true rfl, Nat.le_of_ble_eq_true rfl⟩) (wrV hK hP hD hN [0] (by decide) rfl rfl (ci := 2) (q0 := 0) rfl rfl) rfl rfl hl.1 rfl (lv_room (Nat.le_of_ble_eq_true rfl)) dX2_walk_57 ⟨hzc, hzs⟩) hS hP hD hA [0] [1, 2, 3, 4, 5, 6, 7, 8, 9, 10] rfl rfl (by decide) (by decide) (fun r0 u H locs hw hP hD hS => ?_)
          have hP := hP.sub (ws' := [((b 0), oM b 2 mo co le), ((b 4), iA cI K), ((b 5), iA cI Ah), ((b 6), iA cI Ot), ((b 7), iA cI Qm), ((b 8), iA cI Op), ((b 9), iA cI Lm), ((b 10), iA cI Hm), ((b 11), iA cI Mm), ((b 12), iA cI Rw), ((b 13), iA cI St)]) [10, 0, 1, 2, 3, 4, 5, 6, 7, 8, 9] rfl
          have hD := hD.sub (ws' := [((b 0), oM b 2 mo co le), ((b 4), iA cI K), ((b 5), iA cI Ah), ((b 6), iA cI Ot), ((b 7), iA cI Qm), ((b 8), iA cI Op), ((b 9), iA cI Lm), ((b 10), iA cI Hm), ((b 11), iA cI Mm), ((b 12), iA cI Rw), ((b 13), iA cI St)]) [10, 0, 1, 2, 3, 4, 5, 6, 7, 8, 9] (by decide) rfl
          refine tpi (x' := 0) (hw) ?_
          subst hQ
          subst hAe
          rw [hcd]
          exact wr_i (Rw, St) (fun e => absurd e (by decide)) hx hb hr hP hD hS hlocks dX2_walk_60
        · skip
          have hcd : (cdWalk k x y) = 0 := by unfold cdWalk; rw [if_pos ⟨hin, hin2⟩, if_pos ⟨by rw [← hxn]; exact hl1, by rw [← hyn]; exact hl2⟩]
          refine tpi (x' := 1) (rfl) ?_
          refine lv_if_ne (tgt := 61) hx hb dX2_walk_52 (by decide) (fun _ => ?_) (fun c => absurd c (by decide))
          refine lv_aload_n hx hb dX2_walk_61 rfl (lv_at hl 0 rfl) ?_
          refine lv_aload_n hx hb dX2_walk_62 rfl (lv_at hl 0 rfl) ?_
          refine va_get (D := G) (ci := 2) (v := .ref (b 4)) (C := RX2) (T := TX2) (N := 14) hx hb hts hinX2 hown hK hP 0 rfl rfl 4 (by decide) hf13 (fun _ h9 => h9) rfl dX2_walk_63 ?_
          refine lv_iload_n hx hb dX2_walk_66 rfl (lv_at hl 1 rfl) ?_
          refine tpi (x' := nI xn) (hxa.2) ?_
          refine lv_iconst (v := 1) hx hb dX2_walk_67 (by decide) ?_
          refine tpi (x' := b2i true) (rfl) ?_
          refine cw_i (wr := [((b 5), iA cI Ah), ((b 6), iA cI Ot), ((b 7), iA cI Qm), ((b 8), iA cI Op), ((b 9), iA cI Lm), ((b 10), iA cI Hm), ((b 11), iA cI Mm)]) (va_runV (As := [.ref (b 4), .int (nI xn), .int (b2i true)]) (rest := []) FX (c_X2_fill l G cI b (b 4) 0 mo co le K Rw St k true xn hk hkd hxa.1 _) (cwV 3 hts gX2_walk_X2_fill rfl rfl rfl (by decide +kernel) ⟨Nat.le_of_ble_eq_true rfl, Nat.le_of_ble_eq_true rfl⟩) (wrV hK hP hD hN [0, 1, 9, 10] (by decide) rfl rfl (ci := 2) (q0 := 0) rfl rfl) rfl rfl hl.1 rfl (lv_room (Nat.le_of_ble_eq_true rfl)) dX2_walk_68 ⟨hzc, hzs⟩) hS hP hD hA [0, 1, 9, 10] [2, 3, 4, 5, 6, 7, 8] rfl rfl (by decide) (by decide) (fun r9 u H locs hw hP hD hS => ?_)
          obtain ⟨R1, S1⟩ := u
          obtain ⟨en, row, -, hF⟩ := hw
          have hP := hP.sub (ws' := [((b 0), oM b 0 mo co le), ((b 4), iA cI K), ((b 5), iA cI Ah), ((b 6), iA cI Ot), ((b 7), iA cI Qm), ((b 8), iA cI Op), ((b 9), iA cI Lm), ((b 10), iA cI Hm), ((b 11), iA cI Mm), ((b 12), iA cI R1), ((b 13), iA cI S1)]) [7, 8, 0, 1, 2, 3, 4, 5, 6, 9, 10] rfl
          have hD := hD.sub (ws' := [((b 0), oM b 0 mo co le), ((b 4), iA cI K), ((b 5), iA cI Ah), ((b 6), iA cI Ot), ((b 7), iA cI Qm), ((b 8), iA cI Op), ((b 9), iA cI Lm), ((b 10), iA cI Hm), ((b 11), iA cI Mm), ((b 12), iA cI R1), ((b 13), iA cI S1)]) [7, 8, 0, 1, 2, 3, 4, 5, 6, 9, 10] (by decide) rfl
          have hS1 : ∀ z, z < 64 → S1 z = mkd 0 1 (dst (PB true k) xn z) 999 := hF.2.2.2.2.2
          refine lv_pop hx hb dX2_walk_71 rfl ?_
          refine lv_aload_n hx hb dX2_walk_72 rfl (lv_at hl 0 rfl) ?_
          refine va_get (D := G) (ci := 2) (v := .ref (b 13)) (C := RX2) (T := TX2) (N := 14) hx hb hts hinX2 hown hK hP 0 rfl rfl 13 (by decide) hf41 (fun _ h9 => h9) rfl dX2_walk_73 ?_
          refine lv_iload_n hx hb dX2_walk_76 rfl (lv_at hl 2 rfl) ?_
          refine tpi (x' := nI yn) (hya.2) ?_
          refine va_iald hx hb hK hP 10 0 rfl rfl (vp_in_nI hya.1 (by decide)) dX2_walk_77 ?_
          refine tpi (x' := S1 yn) (congrArg S1 (nI_clamp (by omega))) ?_
          refine tpi (x' := mkd 0 1 (dst (PB true k) xn yn) 999) (hS1 _ hya.1) ?_
          rcases hd : dst (PB true k) xn yn with _ | d
          · skip
            refine tpi (x' := 999) (rfl) ?_
            refine lv_sipush (v := 999) hx hb dX2_walk_78 (by decide) ?_
            refine lv_icmp_ne (tgt := 88) hx hb dX2_walk_81 (by decide) (fun c => absurd (rfl) c) (fun _ => ?_)
            refine lv_iconst (v := (-1)) hx hb dX2_walk_84 (by decide) ?_
            refine lv_goto (tgt := 94) hx hb dX2_walk_85 (by decide) ?_
            subst hQ
            subst hAe
            rw [hcd]
            exact wr_i (R1, S1) (fun _ => by rw [← hxn, ← hyn, hd]; rfl) hx hb hr hP hD hS hlocks dX2_walk_94
          · skip
            have hd64 := dst_lt hxa.1 hd
            refine tpi (x' := nI (0 + d * 1)) (rfl) ?_
            refine lv_sipush (v := 999) hx hb dX2_walk_78 (by decide) ?_
            refine lv_icmp_ne (tgt := 88) hx hb dX2_walk_81 (by decide) (fun _ => ?_) (fun c => absurd c (nI_999 (by omega)))
            refine lv_aload_n hx hb dX2_walk_88 rfl (lv_at hl 0 rfl) ?_
            refine va_get (D := G) (ci := 2) (v := .ref (b 13)) (C := RX2) (T := TX2) (N := 14) hx hb hts hinX2 hown hK hP 0 rfl rfl 13 (by decide) hf41 (fun _ h9 => h9) rfl dX2_walk_89 ?_
            refine lv_iload_n hx hb dX2_walk_92 rfl (lv_at hl 2 rfl) ?_
            refine tpi (x' := nI yn) (hya.2) ?_
            refine va_iald hx hb hK hP 10 0 rfl rfl (vp_in_nI hya.1 (by decide)) dX2_walk_93 ?_
            refine tpi (x' := S1 yn) (congrArg S1 (nI_clamp (by omega))) ?_
            refine tpi (x' := nI d) (by rw [hS1 _ hya.1, hd]; show nI (0 + d * 1) = nI d; rw [Nat.zero_add, Nat.mul_one]) ?_
            subst hQ
            subst hAe
            rw [hcd]
            exact wr_i (R1, S1) (fun _ => by rw [← hxn, ← hyn, hd]; rfl) hx hb hr hP hD hS hlocks dX2_walk_94

def rmX2_sail : Room := { frames := 4, cells := 0, slots := 0, locals := 93 }
set_option maxHeartbeats 4000000 in
set_option maxRecDepth 100000 in
theorem c_X2_sail (l : Launch) (G : va_G) (cI : ClassId) (b : Nat → Nat) (th mo co le : Int32) (K Ah Ot Qm Op Lm Hm Mm Rw St k : Nat → Int32) (x : Int32) (hk : eqK K k) (hkd : ∀ x, x < 64 → kd (k x)) (sz : Nat) : Met l yX2_sail wsX2_sail rmX2_sail (va_Pc [.ref (b 0), .int x] (WrP G cI [((b 0), oM b th mo co le), ((b 4), iA cI K), ((b 5), iA cI Ah), ((b 6), iA cI Ot), ((b 7), iA cI Qm), ((b 8), iA cI Op), ((b 9), iA cI Lm), ((b 10), iA cI Hm), ((b 11), iA cI Mm), ((b 12), iA cI Rw), ((b 13), iA cI St)] sz)) (va_Qi (fun (r : Int32) (u : (Nat → Int32) × (Nat → Int32)) => (cdSail k x) = 0 → r = toI (dst (PB false k) 3 x.toNatClampNeg)) (WrB G [((b 0), oM b th mo co le), ((b 4), iA cI K), ((b 5), iA cI Ah), ((b 6), iA cI Ot), ((b 7), iA cI Qm), ((b 8), iA cI Op), ((b 9), iA cI Lm), ((b 10), iA cI Hm), ((b 11), iA cI Mm), ((b 12), iA cI Rw), ((b 13), iA cI St)] sz (fun u => [(b 0, oM b (cdSail k x) mo co le), (b 4, iA cI K), (b 5, iA cI Ah), (b 6, iA cI Ot), (b 7, iA cI Qm), (b 8, iA cI Op), (b 9, iA cI Lm), (b 10, iA cI Hm), (b 11, iA cI Mm), (b 12, iA cI (u.1)), (b 13, iA cI (u.2))])) (va_A [((b 0), oM b th mo co le), ((b 4), iA cI K), ((b 5), iA cI Ah), ((b 6), iA cI Ot), ((b 7), iA cI Qm), ((b 8), iA cI Op), ((b 9), iA cI Lm), ((b 10), iA cI Hm), ((b 11), iA cI Mm), ((b 12), iA cI Rw), ((b 13), iA cI St)] sz)) 0 0 (va_A [((b 0), oM b th mo co le), ((b 4), iA cI K), ((b 5), iA cI Ah), ((b 6), iA cI Ot), ((b 7), iA cI Qm), ((b 8), iA cI Op), ((b 9), iA cI Lm), ((b 10), iA cI Hm), ((b 11), iA cI Mm), ((b 12), iA cI Rw), ((b 13), iA cI St)] sz) := by
  refine Met.ofW (cc := cX2_sail) (maxL := 2) (ret := (some .int)) (by decide) rfl ?_
  intro p e s m args below meth c s₁ B hml hv
  obtain ⟨rfl, hsz, hP, hK, hD0, hN⟩ := hv
  have hx := B.exec
  have hb := B.bytes
  have hr := B.returns
  have hlocks := B.notSynchronized
  have hts := atoms_spec (ws := wsX2_sail) B.pre
  have hown : s.vm.findClass RX2 = some m.cls := findClass_of_methodNamed B.named
  subst hsz
  have hD := hD0.self (sz := s.heap.size)
  have hA : ∀ q : Nat, s.heap.size ≤ q → va_A [((b 0), oM b th mo co le), ((b 4), iA cI K), ((b 5), iA cI Ah), ((b 6), iA cI Ot), ((b 7), iA cI Qm), ((b 8), iA cI Op), ((b 9), iA cI Lm), ((b 10), iA cI Hm), ((b 11), iA cI Mm), ((b 12), iA cI Rw), ((b 13), iA cI St)] s.heap.size q := fun q h => Or.inr h
  have hS : va_S (va_A [((b 0), oM b th mo co le), ((b 4), iA cI K), ((b 5), iA cI Ah), ((b 6), iA cI Ot), ((b 7), iA cI Qm), ((b 8), iA cI Op), ((b 9), iA cI Lm), ((b 10), iA cI Hm), ((b 11), iA cI Mm), ((b 12), iA cI Rw), ((b 13), iA cI St)] s.heap.size) s.heap s.heap [] := va_S.rf
  obtain ⟨A, hAe⟩ : ∃ A, A = va_A [((b 0), oM b th mo co le), ((b 4), iA cI K), ((b 5), iA cI Ah), ((b 6), iA cI Ot), ((b 7), iA cI Qm), ((b 8), iA cI Op), ((b 9), iA cI Lm), ((b 10), iA cI Hm), ((b 11), iA cI Mm), ((b 12), iA cI Rw), ((b 13), iA cI St)] s.heap.size := ⟨_, rfl⟩
  rw [← hAe] at hD hA hS
  have FX : CallFix p m c cX2_sail 2 s ([.ref (b 0), .int x] : List Value).toArray wsX2_sail RX2 := ⟨hx, hb, hml, hown, hts⟩
  have hl := lv_entry ([.ref (b 0), .int x]) (n := 2) (Nat.le_of_ble_eq_true rfl)
  rw [lg_entry_eq]
  generalize (lg_sl ([.ref (b 0), .int x]) ++ List.replicate (2 - (lg_sl ([.ref (b 0), .int x])).length) Slot.unset).toArray = ls at hl ⊢
  have hl : lv_has ls 2 [(0, .ref (b 0)), (1, .int x)] := hl
  refine wq (fun Q hQ => ?_)
  have hzc : 0 + 0 ≤ (headSpec wsX2_sail rmX2_sail).room.cells := Nat.zero_le _
  have hzs : 0 + 0 ≤ (headSpec wsX2_sail rmX2_sail).room.slots := Nat.zero_le _
  have hf13 := hts (.fieldLink RX2 13 "CanalCityModel" "kind" "[I") (by decide +kernel)
  have hf41 := hts (.fieldLink RX2 41 "CanalCityModel" "steps" "[I") (by decide +kernel)
  have hf44 := hts (.fieldLink RX2 44 "CanalCityModel" "thrown" "I") (by decide +kernel)
  have hinX2 : ∀ w ∈ u_ws RX2 TX2 14, w ∈ wsX2_sail := by decide +kernel
  refine lv_aload_n hx hb dX2_sail_0 rfl (lv_at hl 0 rfl) ?_
  refine lv_iconst (v := 0) hx hb dX2_sail_1 (by decide) ?_
  refine va_put (D := G) (ci := 2) (v := .int 0) (ty := .int) (C := RX2) (T := TX2) (N := 14) hx hb hts hinX2 tyX2 tyX2_ok nmX2 hown hK hP hD hS 0 rfl rfl 0 (by decide) hf44 (fun _ h9 => h9) rfl (by decide +kernel) rfl rfl (Nat.le_of_ble_eq_true rfl) dX2_sail_2 (fun H locs hP hD hS => ?_)
  have hP : va_P G vwCl [((b 0), oM b 0 mo co le), ((b 4), iA cI K), ((b 5), iA cI Ah), ((b 6), iA cI Ot), ((b 7), iA cI Qm), ((b 8), iA cI Op), ((b 9), iA cI Lm), ((b 10), iA cI Hm), ((b 11), iA cI Mm), ((b 12), iA cI Rw), ((b 13), iA cI St)] H := hP
  have hD : va_D A [((b 0), oM b 0 mo co le), ((b 4), iA cI K), ((b 5), iA cI Ah), ((b 6), iA cI Ot), ((b 7), iA cI Qm), ((b 8), iA cI Op), ((b 9), iA cI Lm), ((b 10), iA cI Hm), ((b 11), iA cI Mm), ((b 12), iA cI Rw), ((b 13), iA cI St)] := hD
  refine lv_iload_n hx hb dX2_sail_5 rfl (lv_at hl 1 rfl) ?_
  refine lv_iconst (v := 0) hx hb dX2_sail_6 (by decide) ?_
  refine lv_bipush (v := 63) hx hb dX2_sail_7 (by decide) ?_
  refine cr_i (va_runS (As := [.int x, .int 0, .int 63]) (rest := []) FX (c_X2_isIn l x 0 63) (va_cwS 3 hts gX2_sail_X2_isIn rfl rfl rfl (by decide +kernel) ⟨Nat.le_of_ble_eq_true rfl, Nat.le_of_ble_eq_true rfl⟩) puS rfl rfl hl.1 rfl (lv_room (Nat.le_of_ble_eq_true rfl)) dX2_sail_9 ⟨hzc, hzs⟩) hS hP (fun H locs hP hS => ?_)
  rcases hin : inB 0 63 x with _ | _
  · skip
    have hcd : (cdSail k x) = 1 := by unfold cdSail; rw [hin]; rfl
    refine tpi (x' := 0) (rfl) ?_
    refine lv_if_ne (tgt := 21) hx hb dX2_sail_12 (by decide) (fun c => absurd (rfl) c) (fun _ => ?_)
    refine lv_aload_n hx hb dX2_sail_15 rfl (lv_at hl 0 rfl) ?_
    refine lv_iconst (v := 1) hx hb dX2_sail_16 (by decide) ?_
    refine cw_i (wr := [((b 4), iA cI K), ((b 5), iA cI Ah), ((b 6), iA cI Ot), ((b 7), iA cI Qm), ((b 8), iA cI Op), ((b 9), iA cI Lm), ((b 10), iA cI Hm), ((b 11), iA cI Mm), ((b 12), iA cI Rw), ((b 13), iA cI St)]) (va_runV (As := [.int 1]) (rest := []) FX (c_X2_no l G cI b 0 mo co le 1 _) (cwV 1 hts gX2_sail_X2_no rfl rfl rfl (by decide +kernel) ⟨Nat.le_of_ble_eq_true rfl, Nat.le_of_ble_eq_true rfl⟩) (wrV hK hP hD hN [0] (by decide) rfl rfl (ci := 2) (q0 := 0) rfl rfl) rfl rfl hl.1 rfl (lv_room (Nat.le_of_ble_eq_true rfl)) dX2_sail_17 ⟨hzc, hzs⟩) hS hP hD hA [0] [1, 2, 3, 4, 5, 6, 7, 8, 9, 10] rfl rfl (by decide) (by decide) (fun r0 u H locs hw hP hD hS => ?_)
    have hP := hP.sub (ws' := [((b 0), oM b 1 mo co le), ((b 4), iA cI K), ((b 5), iA cI Ah), ((b 6), iA cI Ot), ((b 7), iA cI Qm), ((b 8), iA cI Op), ((b 9), iA cI Lm), ((b 10), iA cI Hm), ((b 11), iA cI Mm), ((b 12), iA cI Rw), ((b 13), iA cI St)]) [10, 0, 1, 2, 3, 4, 5, 6, 7, 8, 9] rfl
    have hD := hD.sub (ws' := [((b 0), oM b 1 mo co le), ((b 4), iA cI K), ((b 5), iA cI Ah), ((b 6), iA cI Ot), ((b 7), iA cI Qm), ((b 8), iA cI Op), ((b 9), iA cI Lm), ((b 10), iA cI Hm), ((b 11), iA cI Mm), ((b 12), iA cI Rw), ((b 13), iA cI St)]) [10, 0, 1, 2, 3, 4, 5, 6, 7, 8, 9] (by decide) rfl
    refine tpi (x' := 0) (hw) ?_
    subst hQ
    subst hAe
    rw [hcd]
    exact wr_i (Rw, St) (fun e => absurd e (by decide)) hx hb hr hP hD hS hlocks dX2_sail_20
  · skip
    have hxa := num_at hin
    refine tpi (x' := 1) (rfl) ?_
    refine lv_if_ne (tgt := 21) hx hb dX2_sail_12 (by decide) (fun _ => ?_) (fun c => absurd c (by decide))
    obtain ⟨xn, hxn⟩ : ∃ z, z = x.toNatClampNeg := ⟨_, rfl⟩
    rw [← hxn] at hxa
    refine lv_aload_n hx hb dX2_sail_21 rfl (lv_at hl 0 rfl) ?_
    refine va_get (D := G) (ci := 2) (v := .ref (b 4)) (C := RX2) (T := TX2) (N := 14) hx hb hts hinX2 hown hK hP 0 rfl rfl 4 (by decide) hf13 (fun _ h9 => h9) rfl dX2_sail_22 ?_
    refine lv_iload_n hx hb dX2_sail_25 rfl (lv_at hl 1 rfl) ?_
    refine tpi (x' := nI xn) (hxa.2) ?_
    refine va_iald hx hb hK hP 1 0 rfl rfl (vp_in_nI hxa.1 (by decide)) dX2_sail_26 ?_
    refine tpi (x' := K xn) (congrArg K (nI_clamp (by omega))) ?_
    refine tpi (x' := k xn) (hk _ hxa.1) ?_
    refine cr_i (va_runS (As := [.int (k xn)]) (rest := []) FX (c_X2_isWater l (k xn)) (va_cwS 1 hts gX2_sail_X2_isWater rfl rfl rfl (by decide +kernel) ⟨Nat.le_of_ble_eq_true rfl, Nat.le_of_ble_eq_true rfl⟩) puS rfl rfl hl.1 rfl (lv_room (Nat.le_of_ble_eq_true rfl)) dX2_sail_27 ⟨hzc, hzs⟩) hS hP (fun H locs hP hS => ?_)
    rcases hl1 : wtr (k xn) with _ | _
    · skip
      have hcd : (cdSail k x) = 2 := by unfold cdSail; rw [if_pos hin, ← hxn, hl1]; rfl
      refine tpi (x' := 0) (rfl) ?_
      refine lv_if_ne (tgt := 39) hx hb dX2_sail_30 (by decide) (fun c => absurd (rfl) c) (fun _ => ?_)
      refine lv_aload_n hx hb dX2_sail_33 rfl (lv_at hl 0 rfl) ?_
      refine lv_iconst (v := 2) hx hb dX2_sail_34 (by decide) ?_
      refine cw_i (wr := [((b 4), iA cI K), ((b 5), iA cI Ah), ((b 6), iA cI Ot), ((b 7), iA cI Qm), ((b 8), iA cI Op), ((b 9), iA cI Lm), ((b 10), iA cI Hm), ((b 11), iA cI Mm), ((b 12), iA cI Rw), ((b 13), iA cI St)]) (va_runV (As := [.int 2]) (rest := []) FX (c_X2_no l G cI b 0 mo co le 2 _) (cwV 1 hts gX2_sail_X2_no rfl rfl rfl (by decide +kernel) ⟨Nat.le_of_ble_eq_true rfl, Nat.le_of_ble_eq_true rfl⟩) (wrV hK hP hD hN [0] (by decide) rfl rfl (ci := 2) (q0 := 0) rfl rfl) rfl rfl hl.1 rfl (lv_room (Nat.le_of_ble_eq_true rfl)) dX2_sail_35 ⟨hzc, hzs⟩) hS hP hD hA [0] [1, 2, 3, 4, 5, 6, 7, 8, 9, 10] rfl rfl (by decide) (by decide) (fun r0 u H locs hw hP hD hS => ?_)
      have hP := hP.sub (ws' := [((b 0), oM b 2 mo co le), ((b 4), iA cI K), ((b 5), iA cI Ah), ((b 6), iA cI Ot), ((b 7), iA cI Qm), ((b 8), iA cI Op), ((b 9), iA cI Lm), ((b 10), iA cI Hm), ((b 11), iA cI Mm), ((b 12), iA cI Rw), ((b 13), iA cI St)]) [10, 0, 1, 2, 3, 4, 5, 6, 7, 8, 9] rfl
      have hD := hD.sub (ws' := [((b 0), oM b 2 mo co le), ((b 4), iA cI K), ((b 5), iA cI Ah), ((b 6), iA cI Ot), ((b 7), iA cI Qm), ((b 8), iA cI Op), ((b 9), iA cI Lm), ((b 10), iA cI Hm), ((b 11), iA cI Mm), ((b 12), iA cI Rw), ((b 13), iA cI St)]) [10, 0, 1, 2, 3, 4, 5, 6, 7, 8, 9] (by decide) rfl
      refine tpi (x' := 0) (hw) ?_
      subst hQ
      subst hAe
      rw [hcd]
      exact wr_i (Rw, St) (fun e => absurd e (by decide)) hx hb hr hP hD hS hlocks dX2_sail_38
    · skip
      have hcd : (cdSail k x) = 0 := by unfold cdSail; rw [if_pos hin, ← hxn, hl1]; rfl
      refine tpi (x' := 1) (rfl) ?_
      refine lv_if_ne (tgt := 39) hx hb dX2_sail_30 (by decide) (fun _ => ?_) (fun c => absurd c (by decide))
      refine lv_aload_n hx hb dX2_sail_39 rfl (lv_at hl 0 rfl) ?_
      refine lv_aload_n hx hb dX2_sail_40 rfl (lv_at hl 0 rfl) ?_
      refine va_get (D := G) (ci := 2) (v := .ref (b 4)) (C := RX2) (T := TX2) (N := 14) hx hb hts hinX2 hown hK hP 0 rfl rfl 4 (by decide) hf13 (fun _ h9 => h9) rfl dX2_sail_41 ?_
      refine lv_iconst (v := 3) hx hb dX2_sail_44 (by decide) ?_
      refine tpi (x' := nI 3) (rfl) ?_
      refine lv_iconst (v := 0) hx hb dX2_sail_45 (by decide) ?_
      refine tpi (x' := b2i false) (rfl) ?_
      refine cw_i (wr := [((b 5), iA cI Ah), ((b 6), iA cI Ot), ((b 7), iA cI Qm), ((b 8), iA cI Op), ((b 9), iA cI Lm), ((b 10), iA cI Hm), ((b 11), iA cI Mm)]) (va_runV (As := [.ref (b 4), .int (nI 3), .int (b2i false)]) (rest := []) FX (c_X2_fill l G cI b (b 4) 0 mo co le K Rw St k false 3 hk hkd (by decide) _) (cwV 3 hts gX2_sail_X2_fill rfl rfl rfl (by decide +kernel) ⟨Nat.le_of_ble_eq_true rfl, Nat.le_of_ble_eq_true rfl⟩) (wrV hK hP hD hN [0, 1, 9, 10] (by decide) rfl rfl (ci := 2) (q0 := 0) rfl rfl) rfl rfl hl.1 rfl (lv_room (Nat.le_of_ble_eq_true rfl)) dX2_sail_46 ⟨hzc, hzs⟩) hS hP hD hA [0, 1, 9, 10] [2, 3, 4, 5, 6, 7, 8] rfl rfl (by decide) (by decide) (fun r9 u H locs hw hP hD hS => ?_)
      obtain ⟨R1, S1⟩ := u
      obtain ⟨en, row, -, hF⟩ := hw
      have hP := hP.sub (ws' := [((b 0), oM b 0 mo co le), ((b 4), iA cI K), ((b 5), iA cI Ah), ((b 6), iA cI Ot), ((b 7), iA cI Qm), ((b 8), iA cI Op), ((b 9), iA cI Lm), ((b 10), iA cI Hm), ((b 11), iA cI Mm), ((b 12), iA cI R1), ((b 13), iA cI S1)]) [7, 8, 0, 1, 2, 3, 4, 5, 6, 9, 10] rfl
      have hD := hD.sub (ws' := [((b 0), oM b 0 mo co le), ((b 4), iA cI K), ((b 5), iA cI Ah), ((b 6), iA cI Ot), ((b 7), iA cI Qm), ((b 8), iA cI Op), ((b 9), iA cI Lm), ((b 10), iA cI Hm), ((b 11), iA cI Mm), ((b 12), iA cI R1), ((b 13), iA cI S1)]) [7, 8, 0, 1, 2, 3, 4, 5, 6, 9, 10] (by decide) rfl
      have hS1 : ∀ z, z < 64 → S1 z = mkd 0 1 (dst (PB false k) 3 z) 999 := hF.2.2.2.2.2
      refine lv_pop hx hb dX2_sail_49 rfl ?_
      refine lv_aload_n hx hb dX2_sail_50 rfl (lv_at hl 0 rfl) ?_
      refine va_get (D := G) (ci := 2) (v := .ref (b 13)) (C := RX2) (T := TX2) (N := 14) hx hb hts hinX2 hown hK hP 0 rfl rfl 13 (by decide) hf41 (fun _ h9 => h9) rfl dX2_sail_51 ?_
      refine lv_iload_n hx hb dX2_sail_54 rfl (lv_at hl 1 rfl) ?_
      refine tpi (x' := nI xn) (hxa.2) ?_
      refine va_iald hx hb hK hP 10 0 rfl rfl (vp_in_nI hxa.1 (by decide)) dX2_sail_55 ?_
      refine tpi (x' := S1 xn) (congrArg S1 (nI_clamp (by omega))) ?_
      refine tpi (x' := mkd 0 1 (dst (PB false k) 3 xn) 999) (hS1 _ hxa.1) ?_
      rcases hd : dst (PB false k) 3 xn with _ | d
      · skip
        refine tpi (x' := 999) (rfl) ?_
        refine lv_sipush (v := 999) hx hb dX2_sail_56 (by decide) ?_
        refine lv_icmp_ne (tgt := 66) hx hb dX2_sail_59 (by decide) (fun c => absurd (rfl) c) (fun _ => ?_)
        refine lv_iconst (v := (-1)) hx hb dX2_sail_62 (by decide) ?_
        refine lv_goto (tgt := 72) hx hb dX2_sail_63 (by decide) ?_
        subst hQ
        subst hAe
        rw [hcd]
        exact wr_i (R1, S1) (fun _ => by rw [← hxn, hd]; rfl) hx hb hr hP hD hS hlocks dX2_sail_72
      · skip
        have hd64 := dst_lt (by decide) hd
        refine tpi (x' := nI (0 + d * 1)) (rfl) ?_
        refine lv_sipush (v := 999) hx hb dX2_sail_56 (by decide) ?_
        refine lv_icmp_ne (tgt := 66) hx hb dX2_sail_59 (by decide) (fun _ => ?_) (fun c => absurd c (nI_999 (by omega)))
        refine lv_aload_n hx hb dX2_sail_66 rfl (lv_at hl 0 rfl) ?_
        refine va_get (D := G) (ci := 2) (v := .ref (b 13)) (C := RX2) (T := TX2) (N := 14) hx hb hts hinX2 hown hK hP 0 rfl rfl 13 (by decide) hf41 (fun _ h9 => h9) rfl dX2_sail_67 ?_
        refine lv_iload_n hx hb dX2_sail_70 rfl (lv_at hl 1 rfl) ?_
        refine tpi (x' := nI xn) (hxa.2) ?_
        refine va_iald hx hb hK hP 10 0 rfl rfl (vp_in_nI hxa.1 (by decide)) dX2_sail_71 ?_
        refine tpi (x' := S1 xn) (congrArg S1 (nI_clamp (by omega))) ?_
        refine tpi (x' := nI d) (by rw [hS1 _ hxa.1, hd]; show nI (0 + d * 1) = nI d; rw [Nat.zero_add, Nat.mul_one]) ?_
        subst hQ
        subst hAe
        rw [hcd]
        exact wr_i (R1, S1) (fun _ => by rw [← hxn, hd]; rfl) hx hb hr hP hD hS hlocks dX2_sail_72

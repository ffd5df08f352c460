def rmX1_drain_no : Room := { frames := 7, cells := 1, slots := 6, locals := 111 }
set_option maxHeartbeats 4000000 in
set_option maxRecDepth 100000 in
theorem c_X1_drain_no (l : Launch) (G : va_G) (cI : ClassId) (hst : l.stackTraces = false) (h : Nat) (a t : Nat → Nat) (mo co le : Int32) (K Qa La Ha Ma Ba Ca Da Fa Wa k : Nat → Int32) (x y : Int32) (hk : eqK K k) (hcd : ¬ cdDrain k co x y = 0) : vx_Met l yX1_drain wsX1_drain rmX1_drain_no (va_Pc [.ref h, .int x, .int y] (XrP G cI [(h, oX a t), ((a 0), oC a mo co le), ((a 3), iA cI K), ((a 4), iA cI Qa), ((a 5), iA cI La), ((a 6), iA cI Ha), ((a 7), iA cI Ma), ((a 8), iA cI Ba), ((a 9), iA cI Ca), ((a 10), iA cI Da), ((a 11), iA cI Fa), ((a 12), iA cI Wa)])) (va_Qi (fun (_ : Int32) (_ : Unit) => False) (fun _ _ => True) No) (vx_X (fun _ : Unit => True) (fun E _ _ => (E = "java/lang/IndexOutOfBoundsException" ∧ cdDrain k co x y = 1) ∨ (E = "java/lang/IllegalStateException" ∧ cdDrain k co x y = 2)) No) 1 6 No := by
  refine vx_ofW (cc := cX1_drain) (maxL := 4) (ret := (some .int)) (by decide) rfl ?_
  intro p e s m args below meth c s₁ B hml htb hv
  obtain ⟨rfl, ⟨hP, hK, hN⟩, hE, hX, hZ⟩ := hv
  have hx := B.exec
  have hb := B.bytes
  have hr := B.returns
  have hlocks := B.notSynchronized
  have hts := atoms_spec (ws := wsX1_drain) B.pre
  have hown : s.vm.findClass RX1 = some m.cls := findClass_of_methodNamed B.named
  have hS : va_S No s.heap s.heap [] := va_S.rf
  have FX : CallFix p m c cX1_drain 4 s ([.ref h, .int x, .int y] : List Value).toArray wsX1_drain RX1 := ⟨hx, hb, hml, hown, hts⟩
  have hl := lv_entry ([.ref h, .int x, .int y]) (n := 4) (Nat.le_of_ble_eq_true rfl)
  rw [lg_entry_eq]
  generalize (lg_sl ([.ref h, .int x, .int y]) ++ List.replicate (4 - (lg_sl ([.ref h, .int x, .int y])).length) Slot.unset).toArray = ls at hl ⊢
  have hl : lv_has ls 4 [(0, .ref h), (1, .int x), (2, .int y)] := hl
  refine wq (fun Q hQ => ?_)
  have hzc : 0 + 0 ≤ (headSpec wsX1_drain rmX1_drain_no).room.cells := Nat.zero_le _
  have hzs : 0 + 0 ≤ (headSpec wsX1_drain rmX1_drain_no).room.slots := Nat.zero_le _
  have hf10 := hts (.fieldLink RX1 10 "CanalCity" "now" "LCanalCity$City;") (by decide +kernel)
  have hinX0 : ∀ w ∈ u_ws RX0 TX0 13, w ∈ wsX1_drain := by decide +kernel
  have hinX1 : ∀ w ∈ u_ws RX1 TX1 2, w ∈ wsX1_drain := by decide +kernel
  rcases Bool.eq_false_or_eq_true (inB 0 7 x && inB 0 7 y) with hpl | hpl
  · skip
    have hat := (plc_at hpl).1
    refine lv_iload_n hx hb dX1_drain_0 rfl (lv_at hl 1 rfl) ?_
    refine lv_iload_n hx hb dX1_drain_1 rfl (lv_at hl 2 rfl) ?_
    refine cr_i (va_runS (As := [.int x, .int y]) (rest := []) FX (c_X1_checkedNumber_ok l x y hpl) (va_cwS 2 hts gX1_drain_X1_checkedNumber rfl rfl rfl (by decide +kernel) ⟨Nat.le_of_ble_eq_true rfl, Nat.le_of_ble_eq_true rfl⟩) puS rfl rfl hl.1 rfl (lv_room (Nat.le_of_ble_eq_true rfl)) dX1_drain_2 ⟨hzc, hzs⟩) hS hP (fun H locs hP hS => ?_)
    refine lv_istore_n (lv' := [(3, .int (nI (pAt x y))), (0, .ref h), (1, .int x), (2, .int y)]) hx hb dX1_drain_5 rfl hl (by decide) rfl (fun ls hl => ?_)
    refine lv_aload_n hx hb dX1_drain_6 rfl (lv_at hl 1 rfl) ?_
    refine va_get (D := G) (ci := 1) (v := .ref (a 0)) (C := RX1) (T := TX1) (N := 2) hx hb hts hinX1 hown hK hP 0 rfl rfl 0 (by decide) hf10 (fun _ h9 => h9) rfl dX1_drain_7 ?_
    refine va_getN (host := "CanalCity") (D := G) (ci := 0) (v := .ref (a 3)) (C := RX0) (T := TX0) (N := 13) hx hb hts hinX0 hown hK hP 1 rfl rfl 3 (by decide) (va_Nw.use rfl (NW_at hN 1 rfl)) (fun _ h9 => h9) rfl dX1_drain_10 ?_
    refine lv_iload_n hx hb dX1_drain_13 rfl (lv_at hl 0 rfl) ?_
    refine va_iald hx hb hK hP 2 0 rfl rfl (vp_in_nI hat (by decide)) dX1_drain_14 ?_
    refine tpi (x' := K (pAt x y)) (congrArg K (nI_clamp (by omega))) ?_
    refine tpi (x' := k (pAt x y)) (hk _ hat) ?_
    refine lv_if_eq (tgt := 28) hx hb dX1_drain_15 (by decide) (fun c1 => ?_) (fun c1 => ?_)
    · skip
      refine lv_aload_n hx hb dX1_drain_28 rfl (lv_at hl 1 rfl) ?_
      refine lv_iconst (v := 2) hx hb dX1_drain_29 (by decide) ?_
      refine xr_v (vx_runV (As := [.int 2]) (rest := []) FX (c_X1_checkCoins_no l G cI hst h a t mo co le K Qa La Ha Ma Ba Ca Da Fa Wa k 2 (fun h9 => hcd (by unfold cdDrain; rw [if_pos hpl, if_pos ⟨c1, h9⟩]))) (cwV 1 hts gX1_drain_X1_checkCoins rfl rfl rfl (by decide +kernel) ⟨Nat.le_of_ble_eq_true rfl, Nat.le_of_ble_eq_true rfl⟩) (xrV hK hP hN hE hX hZ hS [0, 1, 2, 3, 4, 5, 6, 7, 8, 9, 10, 11] rfl (ci := 1) (q0 := 0) rfl rfl) rfl rfl hl.1 rfl (lv_room (Nat.le_of_ble_eq_true rfl)) dX1_drain_30 ⟨Nat.le_of_ble_eq_true rfl, Nat.le_of_ble_eq_true rfl⟩) hS hP (fun E ce q9 H locs hcE hP hS h1 h2 h3 => ?_)
      subst hQ
      exact vx_out (fun x9 hx9 => (htb x9 hx9).elim) hlocks h1 h2 h3 (fun t9 ht9 hW9 => ⟨(), trivial, (Or.inr (⟨hcE, by unfold cdDrain; rw [if_pos hpl, if_neg (fun h9 => hcd (by unfold cdDrain; rw [if_pos hpl, if_pos h9]))]⟩)), hS.F ht9⟩) hS.2.2 (Nat.le_of_ble_eq_true rfl) (Nat.le_of_ble_eq_true rfl)
    · skip
      obtain ⟨sa, hstr⟩ := hE.2.2.2.2.2.2.1
      subst hQ
      exact vx_throwS (A := No) (names := ["java/lang/RuntimeException", "java/lang/Exception"]) hx hb hst hown (by decide +kernel) (by decide +kernel) (hts (.classLink RX1 27 "java/lang/IllegalStateException") (by decide +kernel)) (hts (.initialized "java/lang/IllegalStateException") (by decide +kernel)) hstr (nong hX atS_ng (fun w9 hw9 => hts w9 (by first | exact List.mem_cons_of_mem _ (List.mem_append_right _ hw9) | exact List.mem_cons_of_mem _ (List.mem_append_left _ (List.mem_append_right _ hw9)) | exact List.mem_cons_of_mem _ (List.mem_append_left _ (List.mem_append_left _ (List.mem_append_right _ hw9))) | exact List.mem_cons_of_mem _ (List.mem_append_left _ (List.mem_append_left _ (List.mem_append_left _ (List.mem_append_right _ hw9))))))) goS hZ.1 hZ.2 hS (hl.1.trans hml.symm) dX1_drain_18 dX1_drain_21 dX1_drain_22 dX1_drain_24 dX1_drain_27 (fun x9 hx9 => (htb x9 hx9).elim) (by decide) (Nat.le_of_ble_eq_true rfl) (Nat.le_of_ble_eq_true rfl) (Nat.le_of_ble_eq_true rfl) hlocks (fun t9 ht9 hz9 hk9 => ⟨(), trivial, Or.inr (⟨rfl, by unfold cdDrain; rw [if_pos hpl, if_neg (fun h9 => c1 h9.1)]⟩), Nat.le_trans hS.1 hz9, fun q9 hq9 hn9 => (hk9 q9 (Nat.lt_of_lt_of_le hq9 hS.1)).trans (hS.2.1 q9 hq9 hn9)⟩) hS.2.2 (Nat.le_of_ble_eq_true rfl) (Nat.le_of_ble_eq_true rfl)
  · skip
    refine lv_iload_n hx hb dX1_drain_0 rfl (lv_at hl 1 rfl) ?_
    refine lv_iload_n hx hb dX1_drain_1 rfl (lv_at hl 2 rfl) ?_
    refine xr_i (vx_runS (As := [.int x, .int y]) (rest := []) FX (c_X1_checkedNumber_no l G cI hst x y hpl) (va_cwS 2 hts gX1_drain_X1_checkedNumber rfl rfl rfl (by decide +kernel) ⟨Nat.le_of_ble_eq_true rfl, Nat.le_of_ble_eq_true rfl⟩) (xrS hK hP hN hE hX hZ hS [] rfl) rfl rfl hl.1 rfl (lv_room (Nat.le_of_ble_eq_true rfl)) dX1_drain_2 ⟨Nat.le_of_ble_eq_true rfl, Nat.le_of_ble_eq_true rfl⟩) hS hP (fun E ce q9 H locs hcE hP hS h1 h2 h3 => ?_)
    subst hQ
    exact vx_out (fun x9 hx9 => (htb x9 hx9).elim) hlocks h1 h2 h3 (fun t9 ht9 hW9 => ⟨(), trivial, (Or.inl (⟨hcE, by unfold cdDrain; rw [if_neg (by rw [hpl]; decide)]⟩)), hS.F ht9⟩) hS.2.2 (Nat.le_of_ble_eq_true rfl) (Nat.le_of_ble_eq_true rfl)

def rmX1_bridge_no : Room := { frames := 7, cells := 1, slots := 6, locals := 111 }
set_option maxHeartbeats 4000000 in
set_option maxRecDepth 100000 in
theorem c_X1_bridge_no (l : Launch) (G : va_G) (cI : ClassId) (hst : l.stackTraces = false) (h : Nat) (a t : Nat → Nat) (mo co le : Int32) (K Qa La Ha Ma Ba Ca Da Fa Wa k : Nat → Int32) (x y : Int32) (hk : eqK K k) (hcd : ¬ cdBridge k co x y = 0) : vx_Met l yX1_bridge wsX1_bridge rmX1_bridge_no (va_Pc [.ref h, .int x, .int y] (XrP G cI [(h, oX a t), ((a 0), oC a mo co le), ((a 3), iA cI K), ((a 4), iA cI Qa), ((a 5), iA cI La), ((a 6), iA cI Ha), ((a 7), iA cI Ma), ((a 8), iA cI Ba), ((a 9), iA cI Ca), ((a 10), iA cI Da), ((a 11), iA cI Fa), ((a 12), iA cI Wa)])) (va_Qi (fun (_ : Int32) (_ : Unit) => False) (fun _ _ => True) No) (vx_X (fun _ : Unit => True) (fun E _ _ => (E = "java/lang/IndexOutOfBoundsException" ∧ cdBridge k co x y = 1) ∨ (E = "java/lang/IllegalStateException" ∧ cdBridge k co x y = 2)) No) 1 6 No := by
  refine vx_ofW (cc := cX1_bridge) (maxL := 4) (ret := (some .int)) (by decide) rfl ?_
  intro p e s m args below meth c s₁ B hml htb hv
  obtain ⟨rfl, ⟨hP, hK, hN⟩, hE, hX, hZ⟩ := hv
  have hx := B.exec
  have hb := B.bytes
  have hr := B.returns
  have hlocks := B.notSynchronized
  have hts := atoms_spec (ws := wsX1_bridge) B.pre
  have hown : s.vm.findClass RX1 = some m.cls := findClass_of_methodNamed B.named
  have hS : va_S No s.heap s.heap [] := va_S.rf
  have FX : CallFix p m c cX1_bridge 4 s ([.ref h, .int x, .int y] : List Value).toArray wsX1_bridge RX1 := ⟨hx, hb, hml, hown, hts⟩
  have hl := lv_entry ([.ref h, .int x, .int y]) (n := 4) (Nat.le_of_ble_eq_true rfl)
  rw [lg_entry_eq]
  generalize (lg_sl ([.ref h, .int x, .int y]) ++ List.replicate (4 - (lg_sl ([.ref h, .int x, .int y])).length) Slot.unset).toArray = ls at hl ⊢
  have hl : lv_has ls 4 [(0, .ref h), (1, .int x), (2, .int y)] := hl
  refine wq (fun Q hQ => ?_)
  have hzc : 0 + 0 ≤ (headSpec wsX1_bridge rmX1_bridge_no).room.cells := Nat.zero_le _
  have hzs : 0 + 0 ≤ (headSpec wsX1_bridge rmX1_bridge_no).room.slots := Nat.zero_le _
  have hf10 := hts (.fieldLink RX1 10 "CanalCity" "now" "LCanalCity$City;") (by decide +kernel)
  have hinX0 : ∀ w ∈ u_ws RX0 TX0 13, w ∈ wsX1_bridge := by decide +kernel
  have hinX1 : ∀ w ∈ u_ws RX1 TX1 2, w ∈ wsX1_bridge := by decide +kernel
  rcases Bool.eq_false_or_eq_true (inB 0 7 x && inB 0 7 y) with hpl | hpl
  · skip
    have hat := (plc_at hpl).1
    refine lv_iload_n hx hb dX1_bridge_0 rfl (lv_at hl 1 rfl) ?_
    refine lv_iload_n hx hb dX1_bridge_1 rfl (lv_at hl 2 rfl) ?_
    refine cr_i (va_runS (As := [.int x, .int y]) (rest := []) FX (c_X1_checkedNumber_ok l x y hpl) (va_cwS 2 hts gX1_bridge_X1_checkedNumber rfl rfl rfl (by decide +kernel) ⟨Nat.le_of_ble_eq_true rfl, Nat.le_of_ble_eq_true rfl⟩) puS rfl rfl hl.1 rfl (lv_room (Nat.le_of_ble_eq_true rfl)) dX1_bridge_2 ⟨hzc, hzs⟩) hS hP (fun H locs hP hS => ?_)
    refine lv_istore_n (lv' := [(3, .int (nI (pAt x y))), (0, .ref h), (1, .int x), (2, .int y)]) hx hb dX1_bridge_5 rfl hl (by decide) rfl (fun ls hl => ?_)
    refine lv_aload_n hx hb dX1_bridge_6 rfl (lv_at hl 1 rfl) ?_
    refine va_get (D := G) (ci := 1) (v := .ref (a 0)) (C := RX1) (T := TX1) (N := 2) hx hb hts hinX1 hown hK hP 0 rfl rfl 0 (by decide) hf10 (fun _ h9 => h9) rfl dX1_bridge_7 ?_
    refine va_getN (host := "CanalCity") (D := G) (ci := 0) (v := .ref (a 3)) (C := RX0) (T := TX0) (N := 13) hx hb hts hinX0 hown hK hP 1 rfl rfl 3 (by decide) (va_Nw.use rfl (NW_at hN 1 rfl)) (fun _ h9 => h9) rfl dX1_bridge_10 ?_
    refine lv_iload_n hx hb dX1_bridge_13 rfl (lv_at hl 0 rfl) ?_
    refine va_iald hx hb hK hP 2 0 rfl rfl (vp_in_nI hat (by decide)) dX1_bridge_14 ?_
    refine tpi (x' := K (pAt x y)) (congrArg K (nI_clamp (by omega))) ?_
    refine tpi (x' := k (pAt x y)) (hk _ hat) ?_
    refine lv_iconst (v := 1) hx hb dX1_bridge_15 (by decide) ?_
    refine lv_icmp_eq (tgt := 29) hx hb dX1_bridge_16 (by decide) (fun c1 => ?_) (fun c1 => ?_)
    · skip
      refine lv_aload_n hx hb dX1_bridge_29 rfl (lv_at hl 1 rfl) ?_
      refine lv_bipush (v := 7) hx hb dX1_bridge_30 (by decide) ?_
      refine xr_v (vx_runV (As := [.int 7]) (rest := []) FX (c_X1_checkCoins_no l G cI hst h a t mo co le K Qa La Ha Ma Ba Ca Da Fa Wa k 7 (fun h9 => hcd (by unfold cdBridge; rw [if_pos hpl, if_pos ⟨c1, h9⟩]))) (cwV 1 hts gX1_bridge_X1_checkCoins rfl rfl rfl (by decide +kernel) ⟨Nat.le_of_ble_eq_true rfl, Nat.le_of_ble_eq_true rfl⟩) (xrV hK hP hN hE hX hZ hS [0, 1, 2, 3, 4, 5, 6, 7, 8, 9, 10, 11] rfl (ci := 1) (q0 := 0) rfl rfl) rfl rfl hl.1 rfl (lv_room (Nat.le_of_ble_eq_true rfl)) dX1_bridge_32 ⟨Nat.le_of_ble_eq_true rfl, Nat.le_of_ble_eq_true rfl⟩) hS hP (fun E ce q9 H locs hcE hP hS h1 h2 h3 => ?_)
      subst hQ
      exact vx_out (fun x9 hx9 => (htb x9 hx9).elim) hlocks h1 h2 h3 (fun t9 ht9 hW9 => ⟨(), trivial, (Or.inr (⟨hcE, by unfold cdBridge; rw [if_pos hpl, if_neg (fun h9 => hcd (by unfold cdBridge; rw [if_pos hpl, if_pos h9]))]⟩)), hS.F ht9⟩) hS.2.2 (Nat.le_of_ble_eq_true rfl) (Nat.le_of_ble_eq_true rfl)
    · skip
      obtain ⟨sa, hstr⟩ := hE.2.2.2.2.2.2.2.2.1
      subst hQ
      exact vx_throwS (A := No) (names := ["java/lang/RuntimeException", "java/lang/Exception"]) hx hb hst hown (by decide +kernel) (by decide +kernel) (hts (.classLink RX1 27 "java/lang/IllegalStateException") (by decide +kernel)) (hts (.initialized "java/lang/IllegalStateException") (by decide +kernel)) hstr (nong hX atS_ng (fun w9 hw9 => hts w9 (by first | exact List.mem_cons_of_mem _ (List.mem_append_right _ hw9) | exact List.mem_cons_of_mem _ (List.mem_append_left _ (List.mem_append_right _ hw9)) | exact List.mem_cons_of_mem _ (List.mem_append_left _ (List.mem_append_left _ (List.mem_append_right _ hw9))) | exact List.mem_cons_of_mem _ (List.mem_append_left _ (List.mem_append_left _ (List.mem_append_left _ (List.mem_append_right _ hw9))))))) goS hZ.1 hZ.2 hS (hl.1.trans hml.symm) dX1_bridge_19 dX1_bridge_22 dX1_bridge_23 dX1_bridge_25 dX1_bridge_28 (fun x9 hx9 => (htb x9 hx9).elim) (by decide) (Nat.le_of_ble_eq_true rfl) (Nat.le_of_ble_eq_true rfl) (Nat.le_of_ble_eq_true rfl) hlocks (fun t9 ht9 hz9 hk9 => ⟨(), trivial, Or.inr (⟨rfl, by unfold cdBridge; rw [if_pos hpl, if_neg (fun h9 => c1 h9.1)]⟩), Nat.le_trans hS.1 hz9, fun q9 hq9 hn9 => (hk9 q9 (Nat.lt_of_lt_of_le hq9 hS.1)).trans (hS.2.1 q9 hq9 hn9)⟩) hS.2.2 (Nat.le_of_ble_eq_true rfl) (Nat.le_of_ble_eq_true rfl)
  · skip
    refine lv_iload_n hx hb dX1_bridge_0 rfl (lv_at hl 1 rfl) ?_
    refine lv_iload_n hx hb dX1_bridge_1 rfl (lv_at hl 2 rfl) ?_
    refine xr_i (vx_runS (As := [.int x, .int y]) (rest := []) FX (c_X1_checkedNumber_no l G cI hst x y hpl) (va_cwS 2 hts gX1_bridge_X1_checkedNumber rfl rfl rfl (by decide +kernel) ⟨Nat.le_of_ble_eq_true rfl, Nat.le_of_ble_eq_true rfl⟩) (xrS hK hP hN hE hX hZ hS [] rfl) rfl rfl hl.1 rfl (lv_room (Nat.le_of_ble_eq_true rfl)) dX1_bridge_2 ⟨Nat.le_of_ble_eq_true rfl, Nat.le_of_ble_eq_true rfl⟩) hS hP (fun E ce q9 H locs hcE hP hS h1 h2 h3 => ?_)
    subst hQ
    exact vx_out (fun x9 hx9 => (htb x9 hx9).elim) hlocks h1 h2 h3 (fun t9 ht9 hW9 => ⟨(), trivial, (Or.inl (⟨hcE, by unfold cdBridge; rw [if_neg (by rw [hpl]; decide)]⟩)), hS.F ht9⟩) hS.2.2 (Nat.le_of_ble_eq_true rfl) (Nat.le_of_ble_eq_true rfl)

def rmX1_dig_no : Room := { frames := 7, cells := 1, slots := 6, locals := 111 }
set_option maxHeartbeats 4000000 in
set_option maxRecDepth 100000 in
theorem c_X1_dig_no (l : Launch) (G : va_G) (cI : ClassId) (hst : l.stackTraces = false) (h : Nat) (a t : Nat → Nat) (mo co le : Int32) (K Qa La Ha Ma Ba Ca Da Fa Wa k : Nat → Int32) (x y : Int32) (hk : eqK K k) (hcd : ¬ cdDig k co x y = 0) : vx_Met l yX1_dig wsX1_dig rmX1_dig_no (va_Pc [.ref h, .int x, .int y] (XrP G cI [(h, oX a t), ((a 0), oC a mo co le), ((a 3), iA cI K), ((a 4), iA cI Qa), ((a 5), iA cI La), ((a 6), iA cI Ha), ((a 7), iA cI Ma), ((a 8), iA cI Ba), ((a 9), iA cI Ca), ((a 10), iA cI Da), ((a 11), iA cI Fa), ((a 12), iA cI Wa)])) (va_Qi (fun (_ : Int32) (_ : Unit) => False) (fun _ _ => True) No) (vx_X (fun _ : Unit => True) (fun E _ _ => (E = "java/lang/IndexOutOfBoundsException" ∧ cdDig k co x y = 1) ∨ (E = "java/lang/IllegalStateException" ∧ cdDig k co x y = 2)) No) 1 6 No := by
  refine vx_ofW (cc := cX1_dig) (maxL := 5) (ret := (some .int)) (by decide) rfl ?_
  intro p e s m args below meth c s₁ B hml htb hv
  obtain ⟨rfl, ⟨hP, hK, hN⟩, hE, hX, hZ⟩ := hv
  have hx := B.exec
  have hb := B.bytes
  have hr := B.returns
  have hlocks := B.notSynchronized
  have hts := atoms_spec (ws := wsX1_dig) B.pre
  have hown : s.vm.findClass RX1 = some m.cls := findClass_of_methodNamed B.named
  have hS : va_S No s.heap s.heap [] := va_S.rf
  have FX : CallFix p m c cX1_dig 5 s ([.ref h, .int x, .int y] : List Value).toArray wsX1_dig RX1 := ⟨hx, hb, hml, hown, hts⟩
  have hl := lv_entry ([.ref h, .int x, .int y]) (n := 5) (Nat.le_of_ble_eq_true rfl)
  rw [lg_entry_eq]
  generalize (lg_sl ([.ref h, .int x, .int y]) ++ List.replicate (5 - (lg_sl ([.ref h, .int x, .int y])).length) Slot.unset).toArray = ls at hl ⊢
  have hl : lv_has ls 5 [(0, .ref h), (1, .int x), (2, .int y)] := hl
  refine wq (fun Q hQ => ?_)
  have hzc : 0 + 0 ≤ (headSpec wsX1_dig rmX1_dig_no).room.cells := Nat.zero_le _
  have hzs : 0 + 0 ≤ (headSpec wsX1_dig rmX1_dig_no).room.slots := Nat.zero_le _
  have hf10 := hts (.fieldLink RX1 10 "CanalCity" "now" "LCanalCity$City;") (by decide +kernel)
  have hinX0 : ∀ w ∈ u_ws RX0 TX0 13, w ∈ wsX1_dig := by decide +kernel
  have hinX1 : ∀ w ∈ u_ws RX1 TX1 2, w ∈ wsX1_dig := by decide +kernel
  rcases Bool.eq_false_or_eq_true (inB 0 7 x && inB 0 7 y) with hpl | hpl
  · skip
    have hat := (plc_at hpl).1
    refine lv_iload_n hx hb dX1_dig_0 rfl (lv_at hl 1 rfl) ?_
    refine lv_iload_n hx hb dX1_dig_1 rfl (lv_at hl 2 rfl) ?_
    refine cr_i (va_runS (As := [.int x, .int y]) (rest := []) FX (c_X1_checkedNumber_ok l x y hpl) (va_cwS 2 hts gX1_dig_X1_checkedNumber rfl rfl rfl (by decide +kernel) ⟨Nat.le_of_ble_eq_true rfl, Nat.le_of_ble_eq_true rfl⟩) puS rfl rfl hl.1 rfl (lv_room (Nat.le_of_ble_eq_true rfl)) dX1_dig_2 ⟨hzc, hzs⟩) hS hP (fun H locs hP hS => ?_)
    refine lv_istore_n (lv' := [(3, .int (nI (pAt x y))), (0, .ref h), (1, .int x), (2, .int y)]) hx hb dX1_dig_5 rfl hl (by decide) rfl (fun ls hl => ?_)
    refine lv_aload_n hx hb dX1_dig_6 rfl (lv_at hl 1 rfl) ?_
    refine va_get (D := G) (ci := 1) (v := .ref (a 0)) (C := RX1) (T := TX1) (N := 2) hx hb hts hinX1 hown hK hP 0 rfl rfl 0 (by decide) hf10 (fun _ h9 => h9) rfl dX1_dig_7 ?_
    refine va_getN (host := "CanalCity") (D := G) (ci := 0) (v := .ref (a 3)) (C := RX0) (T := TX0) (N := 13) hx hb hts hinX0 hown hK hP 1 rfl rfl 3 (by decide) (va_Nw.use rfl (NW_at hN 1 rfl)) (fun _ h9 => h9) rfl dX1_dig_10 ?_
    refine lv_iload_n hx hb dX1_dig_13 rfl (lv_at hl 0 rfl) ?_
    refine va_iald hx hb hK hP 2 0 rfl rfl (vp_in_nI hat (by decide)) dX1_dig_14 ?_
    refine tpi (x' := K (pAt x y)) (congrArg K (nI_clamp (by omega))) ?_
    refine tpi (x' := k (pAt x y)) (hk _ hat) ?_
    refine lv_istore (lv' := [(4, .int (k (pAt x y))), (3, .int (nI (pAt x y))), (0, .ref h), (1, .int x), (2, .int y)]) hx hb dX1_dig_15 hl (by decide) rfl (fun ls hl => ?_)
    refine lv_iload hx hb dX1_dig_17 (lv_at hl 0 rfl) ?_
    refine lv_if_eq (tgt := 38) hx hb dX1_dig_19 (by decide) (fun c1 => ?_) (fun c1 => ?_)
    · skip
      refine lv_aload_n hx hb dX1_dig_38 rfl (lv_at hl 2 rfl) ?_
      refine lv_iconst (v := 3) hx hb dX1_dig_39 (by decide) ?_
      refine xr_v (vx_runV (As := [.int 3]) (rest := []) FX (c_X1_checkCoins_no l G cI hst h a t mo co le K Qa La Ha Ma Ba Ca Da Fa Wa k 3 (fun h9 => hcd (by unfold cdDig; rw [if_pos hpl, if_pos ⟨Or.inl c1, h9⟩]))) (cwV 1 hts gX1_dig_X1_checkCoins rfl rfl rfl (by decide +kernel) ⟨Nat.le_of_ble_eq_true rfl, Nat.le_of_ble_eq_true rfl⟩) (xrV hK hP hN hE hX hZ hS [0, 1, 2, 3, 4, 5, 6, 7, 8, 9, 10, 11] rfl (ci := 1) (q0 := 0) rfl rfl) rfl rfl hl.1 rfl (lv_room (Nat.le_of_ble_eq_true rfl)) dX1_dig_40 ⟨Nat.le_of_ble_eq_true rfl, Nat.le_of_ble_eq_true rfl⟩) hS hP (fun E ce q9 H locs hcE hP hS h1 h2 h3 => ?_)
      subst hQ
      exact vx_out (fun x9 hx9 => (htb x9 hx9).elim) hlocks h1 h2 h3 (fun t9 ht9 hW9 => ⟨(), trivial, (Or.inr (⟨hcE, by unfold cdDig; rw [if_pos hpl, if_neg (fun h9 => hcd (by unfold cdDig; rw [if_pos hpl, if_pos h9]))]⟩)), hS.F ht9⟩) hS.2.2 (Nat.le_of_ble_eq_true rfl) (Nat.le_of_ble_eq_true rfl)
    · skip
      refine lv_iload hx hb dX1_dig_22 (lv_at hl 0 rfl) ?_
      refine lv_iconst (v := 2) hx hb dX1_dig_24 (by decide) ?_
      refine lv_icmp_eq (tgt := 38) hx hb dX1_dig_25 (by decide) (fun c2 => ?_) (fun c2 => ?_)
      · skip
        refine lv_aload_n hx hb dX1_dig_38 rfl (lv_at hl 2 rfl) ?_
        refine lv_iconst (v := 3) hx hb dX1_dig_39 (by decide) ?_
        refine xr_v (vx_runV (As := [.int 3]) (rest := []) FX (c_X1_checkCoins_no l G cI hst h a t mo co le K Qa La Ha Ma Ba Ca Da Fa Wa k 3 (fun h9 => hcd (by unfold cdDig; rw [if_pos hpl, if_pos ⟨Or.inr c2, h9⟩]))) (cwV 1 hts gX1_dig_X1_checkCoins rfl rfl rfl (by decide +kernel) ⟨Nat.le_of_ble_eq_true rfl, Nat.le_of_ble_eq_true rfl⟩) (xrV hK hP hN hE hX hZ hS [0, 1, 2, 3, 4, 5, 6, 7, 8, 9, 10, 11] rfl (ci := 1) (q0 := 0) rfl rfl) rfl rfl hl.1 rfl (lv_room (Nat.le_of_ble_eq_true rfl)) dX1_dig_40 ⟨Nat.le_of_ble_eq_true rfl, Nat.le_of_ble_eq_true rfl⟩) hS hP (fun E ce q9 H locs hcE hP hS h1 h2 h3 => ?_)
        subst hQ
        exact vx_out (fun x9 hx9 => (htb x9 hx9).elim) hlocks h1 h2 h3 (fun t9 ht9 hW9 => ⟨(), trivial, (Or.inr (⟨hcE, by unfold cdDig; rw [if_pos hpl, if_neg (fun h9 => hcd (by unfold cdDig; rw [if_pos hpl, if_pos h9]))]⟩)), hS.F ht9⟩) hS.2.2 (Nat.le_of_ble_eq_true rfl) (Nat.le_of_ble_eq_true rfl)
      · skip
        obtain ⟨sa, hstr⟩ := hE.2.2.2.2.2.2.2.1
        subst hQ
        exact vx_throwS (A := No) (names := ["java/lang/RuntimeException", "java/lang/Exception"]) hx hb hst hown (by decide +kernel) (by decide +kernel) (hts (.classLink RX1 27 "java/lang/IllegalStateException") (by decide +kernel)) (hts (.initialized "java/lang/IllegalStateException") (by decide +kernel)) hstr (nong hX atS_ng (fun w9 hw9 => hts w9 (by first | exact List.mem_cons_of_mem _ (List.mem_append_right _ hw9) | exact List.mem_cons_of_mem _ (List.mem_append_left _ (List.mem_append_right _ hw9)) | exact List.mem_cons_of_mem _ (List.mem_append_left _ (List.mem_append_left _ (List.mem_append_right _ hw9))) | exact List.mem_cons_of_mem _ (List.mem_append_left _ (List.mem_append_left _ (List.mem_append_left _ (List.mem_append_right _ hw9))))))) goS hZ.1 hZ.2 hS (hl.1.trans hml.symm) dX1_dig_28 dX1_dig_31 dX1_dig_32 dX1_dig_34 dX1_dig_37 (fun x9 hx9 => (htb x9 hx9).elim) (by decide) (Nat.le_of_ble_eq_true rfl) (Nat.le_of_ble_eq_true rfl) (Nat.le_of_ble_eq_true rfl) hlocks (fun t9 ht9 hz9 hk9 => ⟨(), trivial, Or.inr (⟨rfl, by unfold cdDig; rw [if_pos hpl, if_neg (fun h9 => h9.1.elim c1 c2)]⟩), Nat.le_trans hS.1 hz9, fun q9 hq9 hn9 => (hk9 q9 (Nat.lt_of_lt_of_le hq9 hS.1)).trans (hS.2.1 q9 hq9 hn9)⟩) hS.2.2 (Nat.le_of_ble_eq_true rfl) (Nat.le_of_ble_eq_true rfl)
  · skip
    refine lv_iload_n hx hb dX1_dig_0 rfl (lv_at hl 1 rfl) ?_
    refine lv_iload_n hx hb dX1_dig_1 rfl (lv_at hl 2 rfl) ?_
    refine xr_i (vx_runS (As := [.int x, .int y]) (rest := []) FX (c_X1_checkedNumber_no l G cI hst x y hpl) (va_cwS 2 hts gX1_dig_X1_checkedNumber rfl rfl rfl (by decide +kernel) ⟨Nat.le_of_ble_eq_true rfl, Nat.le_of_ble_eq_true rfl⟩) (xrS hK hP hN hE hX hZ hS [] rfl) rfl rfl hl.1 rfl (lv_room (Nat.le_of_ble_eq_true rfl)) dX1_dig_2 ⟨Nat.le_of_ble_eq_true rfl, Nat.le_of_ble_eq_true rfl⟩) hS hP (fun E ce q9 H locs hcE hP hS h1 h2 h3 => ?_)
    subst hQ
    exact vx_out (fun x9 hx9 => (htb x9 hx9).elim) hlocks h1 h2 h3 (fun t9 ht9 hW9 => ⟨(), trivial, (Or.inl (⟨hcE, by unfold cdDig; rw [if_neg (by rw [hpl]; decide)]⟩)), hS.F ht9⟩) hS.2.2 (Nat.le_of_ble_eq_true rfl) (Nat.le_of_ble_eq_true rfl)

def rmX1_build_no : Room := { frames := 7, cells := 1, slots := 6, locals := 111 }
set_option maxHeartbeats 4000000 in
set_option maxRecDepth 100000 in
theorem c_X1_build_no (l : Launch) (G : va_G) (cI : ClassId) (hst : l.stackTraces = false) (h : Nat) (a t : Nat → Nat) (mo co le : Int32) (K Qa La Ha Ma Ba Ca Da Fa Wa k : Nat → Int32) (x y v : Int32) (hk : eqK K k) (hcd : ¬ cdBuild k co x y v = 0) : vx_Met l yX1_build wsX1_build rmX1_build_no (va_Pc [.ref h, .int x, .int y, .int v] (XrP G cI [(h, oX a t), ((a 0), oC a mo co le), ((a 3), iA cI K), ((a 4), iA cI Qa), ((a 5), iA cI La), ((a 6), iA cI Ha), ((a 7), iA cI Ma), ((a 8), iA cI Ba), ((a 9), iA cI Ca), ((a 10), iA cI Da), ((a 11), iA cI Fa), ((a 12), iA cI Wa)])) (va_Qi (fun (_ : Int32) (_ : Unit) => False) (fun _ _ => True) No) (vx_X (fun _ : Unit => True) (fun E _ _ => (E = "java/lang/IndexOutOfBoundsException" ∧ cdBuild k co x y v = 1) ∨ (E = "java/lang/IllegalArgumentException" ∧ cdBuild k co x y v = 2) ∨ (E = "java/lang/IllegalStateException" ∧ cdBuild k co x y v = 3)) No) 1 6 No := by
  refine vx_ofW (cc := cX1_build) (maxL := 6) (ret := (some .int)) (by decide) rfl ?_
  intro p e s m args below meth c s₁ B hml htb hv
  obtain ⟨rfl, ⟨hP, hK, hN⟩, hE, hX, hZ⟩ := hv
  have hx := B.exec
  have hb := B.bytes
  have hr := B.returns
  have hlocks := B.notSynchronized
  have hts := atoms_spec (ws := wsX1_build) B.pre
  have hown : s.vm.findClass RX1 = some m.cls := findClass_of_methodNamed B.named
  have hS : va_S No s.heap s.heap [] := va_S.rf
  have FX : CallFix p m c cX1_build 6 s ([.ref h, .int x, .int y, .int v] : List Value).toArray wsX1_build RX1 := ⟨hx, hb, hml, hown, hts⟩
  have hl := lv_entry ([.ref h, .int x, .int y, .int v]) (n := 6) (Nat.le_of_ble_eq_true rfl)
  rw [lg_entry_eq]
  generalize (lg_sl ([.ref h, .int x, .int y, .int v]) ++ List.replicate (6 - (lg_sl ([.ref h, .int x, .int y, .int v])).length) Slot.unset).toArray = ls at hl ⊢
  have hl : lv_has ls 6 [(0, .ref h), (1, .int x), (2, .int y), (3, .int v)] := hl
  refine wq (fun Q hQ => ?_)
  have hzc : 0 + 0 ≤ (headSpec wsX1_build rmX1_build_no).room.cells := Nat.zero_le _
  have hzs : 0 + 0 ≤ (headSpec wsX1_build rmX1_build_no).room.slots := Nat.zero_le _
  rcases Bool.eq_false_or_eq_true (inB 0 7 x && inB 0 7 y) with hpl | hpl
  · skip
    have hat := (plc_at hpl).1
    refine lv_iload_n hx hb dX1_build_0 rfl (lv_at hl 1 rfl) ?_
    refine lv_iload_n hx hb dX1_build_1 rfl (lv_at hl 2 rfl) ?_
    refine cr_i (va_runS (As := [.int x, .int y]) (rest := []) FX (c_X1_checkedNumber_ok l x y hpl) (va_cwS 2 hts gX1_build_X1_checkedNumber rfl rfl rfl (by decide +kernel) ⟨Nat.le_of_ble_eq_true rfl, Nat.le_of_ble_eq_true rfl⟩) puS rfl rfl hl.1 rfl (lv_room (Nat.le_of_ble_eq_true rfl)) dX1_build_2 ⟨hzc, hzs⟩) hS hP (fun H locs hP hS => ?_)
    refine lv_istore (lv' := [(4, .int (nI (pAt x y))), (0, .ref h), (1, .int x), (2, .int y), (3, .int v)]) hx hb dX1_build_5 hl (by decide) rfl (fun ls hl => ?_)
    refine lv_iload_n hx hb dX1_build_7 rfl (lv_at hl 4 rfl) ?_
    rcases Bool.eq_false_or_eq_true (inB 3 5 v) with hin | hin
    · skip
      refine cr_v (va_runS (As := [.int v]) (rest := []) FX (c_X1_checkBuilding_ok l v hin) (va_cwS 1 hts gX1_build_X1_checkBuilding rfl rfl rfl (by decide +kernel) ⟨Nat.le_of_ble_eq_true rfl, Nat.le_of_ble_eq_true rfl⟩) puS rfl rfl hl.1 rfl (lv_room (Nat.le_of_ble_eq_true rfl)) dX1_build_8 ⟨hzc, hzs⟩) hS hP (fun H locs hP hS => ?_)
      refine lv_aload_n hx hb dX1_build_11 rfl (lv_at hl 1 rfl) ?_
      refine lv_iload hx hb dX1_build_12 (lv_at hl 0 rfl) ?_
      rcases Decidable.em (k (pAt x y) = 2) with c1 | c1
      · skip
        refine cr_v (va_runV (As := [.int (nI (pAt x y))]) (rest := []) FX (c_X1_checkDrained_ok l G cI h a t mo co le K Qa La Ha Ma Ba Ca Da Fa Wa k (pAt x y) hk hat c1) (cwV 1 hts gX1_build_X1_checkDrained rfl rfl rfl (by decide +kernel) ⟨Nat.le_of_ble_eq_true rfl, Nat.le_of_ble_eq_true rfl⟩) (rdV hK hP hN [0, 1, 2, 3, 4, 5, 6, 7, 8, 9, 10, 11] rfl (ci := 1) (q0 := 0) rfl rfl) rfl rfl hl.1 rfl (lv_room (Nat.le_of_ble_eq_true rfl)) dX1_build_14 ⟨hzc, hzs⟩) hS hP (fun H locs hP hS => ?_)
        refine lv_iload_n hx hb dX1_build_17 rfl (lv_at hl 4 rfl) ?_
        refine cr_i (va_runS (As := [.int v]) (rest := []) FX (c_X1_costOf l v) (va_cwS 1 hts gX1_build_X1_costOf rfl rfl rfl (by decide +kernel) ⟨Nat.le_of_ble_eq_true rfl, Nat.le_of_ble_eq_true rfl⟩) puS rfl rfl hl.1 rfl (lv_room (Nat.le_of_ble_eq_true rfl)) dX1_build_18 ⟨hzc, hzs⟩) hS hP (fun H locs hP hS => ?_)
        refine lv_istore (lv' := [(5, .int (cst v)), (4, .int (nI (pAt x y))), (0, .ref h), (1, .int x), (2, .int y), (3, .int v)]) hx hb dX1_build_21 hl (by decide) rfl (fun ls hl => ?_)
        refine lv_aload_n hx hb dX1_build_23 rfl (lv_at hl 2 rfl) ?_
        refine lv_iload hx hb dX1_build_24 (lv_at hl 0 rfl) ?_
        refine xr_v (vx_runV (As := [.int (cst v)]) (rest := []) FX (c_X1_checkCoins_no l G cI hst h a t mo co le K Qa La Ha Ma Ba Ca Da Fa Wa k (cst v) (fun h9 => hcd (by unfold cdBuild; rw [if_pos hpl, if_pos hin, if_pos ⟨c1, h9⟩]))) (cwV 1 hts gX1_build_X1_checkCoins rfl rfl rfl (by decide +kernel) ⟨Nat.le_of_ble_eq_true rfl, Nat.le_of_ble_eq_true rfl⟩) (xrV hK hP hN hE hX hZ hS [0, 1, 2, 3, 4, 5, 6, 7, 8, 9, 10, 11] rfl (ci := 1) (q0 := 0) rfl rfl) rfl rfl hl.1 rfl (lv_room (Nat.le_of_ble_eq_true rfl)) dX1_build_26 ⟨Nat.le_of_ble_eq_true rfl, Nat.le_of_ble_eq_true rfl⟩) hS hP (fun E ce q9 H locs hcE hP hS h1 h2 h3 => ?_)
        subst hQ
        exact vx_out (fun x9 hx9 => (htb x9 hx9).elim) hlocks h1 h2 h3 (fun t9 ht9 hW9 => ⟨(), trivial, (Or.inr (Or.inr (⟨hcE, by unfold cdBuild; rw [if_pos hpl, if_pos hin, if_neg (fun h9 => hcd (by unfold cdBuild; rw [if_pos hpl, if_pos hin, if_pos h9]))]⟩))), hS.F ht9⟩) hS.2.2 (Nat.le_of_ble_eq_true rfl) (Nat.le_of_ble_eq_true rfl)
      · skip
        refine xr_v (vx_runV (As := [.int (nI (pAt x y))]) (rest := []) FX (c_X1_checkDrained_no l G cI hst h a t mo co le K Qa La Ha Ma Ba Ca Da Fa Wa k (pAt x y) hk hat c1) (cwV 1 hts gX1_build_X1_checkDrained rfl rfl rfl (by decide +kernel) ⟨Nat.le_of_ble_eq_true rfl, Nat.le_of_ble_eq_true rfl⟩) (xrV hK hP hN hE hX hZ hS [0, 1, 2, 3, 4, 5, 6, 7, 8, 9, 10, 11] rfl (ci := 1) (q0 := 0) rfl rfl) rfl rfl hl.1 rfl (lv_room (Nat.le_of_ble_eq_true rfl)) dX1_build_14 ⟨Nat.le_of_ble_eq_true rfl, Nat.le_of_ble_eq_true rfl⟩) hS hP (fun E ce q9 H locs hcE hP hS h1 h2 h3 => ?_)
        subst hQ
        exact vx_out (fun x9 hx9 => (htb x9 hx9).elim) hlocks h1 h2 h3 (fun t9 ht9 hW9 => ⟨(), trivial, (Or.inr (Or.inr (⟨hcE, by unfold cdBuild; rw [if_pos hpl, if_pos hin, if_neg (fun h9 => c1 h9.1)]⟩))), hS.F ht9⟩) hS.2.2 (Nat.le_of_ble_eq_true rfl) (Nat.le_of_ble_eq_true rfl)
    · skip
      refine xr_v (vx_runS (As := [.int v]) (rest := []) FX (c_X1_checkBuilding_no l G cI hst v hin) (va_cwS 1 hts gX1_build_X1_checkBuilding rfl rfl rfl (by decide +kernel) ⟨Nat.le_of_ble_eq_true rfl, Nat.le_of_ble_eq_true rfl⟩) (xrS hK hP hN hE hX hZ hS [] rfl) rfl rfl hl.1 rfl (lv_room (Nat.le_of_ble_eq_true rfl)) dX1_build_8 ⟨Nat.le_of_ble_eq_true rfl, Nat.le_of_ble_eq_true rfl⟩) hS hP (fun E ce q9 H locs hcE hP hS h1 h2 h3 => ?_)
      subst hQ
      exact vx_out (fun x9 hx9 => (htb x9 hx9).elim) hlocks h1 h2 h3 (fun t9 ht9 hW9 => ⟨(), trivial, (Or.inr (Or.inl (⟨hcE, by unfold cdBuild; rw [if_pos hpl, if_neg (by rw [hin]; decide)]⟩))), hS.F ht9⟩) hS.2.2 (Nat.le_of_ble_eq_true rfl) (Nat.le_of_ble_eq_true rfl)
  · skip
    refine lv_iload_n hx hb dX1_build_0 rfl (lv_at hl 1 rfl) ?_
    refine lv_iload_n hx hb dX1_build_1 rfl (lv_at hl 2 rfl) ?_
    refine xr_i (vx_runS (As := [.int x, .int y]) (rest := []) FX (c_X1_checkedNumber_no l G cI hst x y hpl) (va_cwS 2 hts gX1_build_X1_checkedNumber rfl rfl rfl (by decide +kernel) ⟨Nat.le_of_ble_eq_true rfl, Nat.le_of_ble_eq_true rfl⟩) (xrS hK hP hN hE hX hZ hS [] rfl) rfl rfl hl.1 rfl (lv_room (Nat.le_of_ble_eq_true rfl)) dX1_build_2 ⟨Nat.le_of_ble_eq_true rfl, Nat.le_of_ble_eq_true rfl⟩) hS hP (fun E ce q9 H locs hcE hP hS h1 h2 h3 => ?_)
    subst hQ
    exact vx_out (fun x9 hx9 => (htb x9 hx9).elim) hlocks h1 h2 h3 (fun t9 ht9 hW9 => ⟨(), trivial, (Or.inl (⟨hcE, by unfold cdBuild; rw [if_neg (by rw [hpl]; decide)]⟩)), hS.F ht9⟩) hS.2.2 (Nat.le_of_ble_eq_true rfl) (Nat.le_of_ble_eq_true rfl)

def rmX1_would_no : Room := { frames := 7, cells := 1, slots := 6, locals := 111 }
set_option maxHeartbeats 4000000 in
set_option maxRecDepth 100000 in
theorem c_X1_would_no (l : Launch) (G : va_G) (cI : ClassId) (hst : l.stackTraces = false) (h : Nat) (a t : Nat → Nat) (mo co le : Int32) (K Qa La Ha Ma Ba Ca Da Fa Wa k : Nat → Int32) (x y v : Int32) (hk : eqK K k) (hcd : ¬ cdWould k x y v = 0) : vx_Met l yX1_would wsX1_would rmX1_would_no (va_Pc [.ref h, .int x, .int y, .int v] (XrP G cI [(h, oX a t), ((a 0), oC a mo co le), ((a 3), iA cI K), ((a 4), iA cI Qa), ((a 5), iA cI La), ((a 6), iA cI Ha), ((a 7), iA cI Ma), ((a 8), iA cI Ba), ((a 9), iA cI Ca), ((a 10), iA cI Da), ((a 11), iA cI Fa), ((a 12), iA cI Wa)])) (va_Qi (fun (_ : Int32) (_ : Unit) => False) (fun _ _ => True) No) (vx_X (fun _ : Unit => True) (fun E _ _ => (E = "java/lang/IndexOutOfBoundsException" ∧ cdWould k x y v = 1) ∨ (E = "java/lang/IllegalArgumentException" ∧ cdWould k x y v = 2) ∨ (E = "java/lang/IllegalStateException" ∧ cdWould k x y v = 3)) No) 1 6 No := by
  refine vx_ofW (cc := cX1_would) (maxL := 5) (ret := (some .int)) (by decide) rfl ?_
  intro p e s m args below meth c s₁ B hml htb hv
  obtain ⟨rfl, ⟨hP, hK, hN⟩, hE, hX, hZ⟩ := hv
  have hx := B.exec
  have hb := B.bytes
  have hr := B.returns
  have hlocks := B.notSynchronized
  have hts := atoms_spec (ws := wsX1_would) B.pre
  have hown : s.vm.findClass RX1 = some m.cls := findClass_of_methodNamed B.named
  have hS : va_S No s.heap s.heap [] := va_S.rf
  have FX : CallFix p m c cX1_would 5 s ([.ref h, .int x, .int y, .int v] : List Value).toArray wsX1_would RX1 := ⟨hx, hb, hml, hown, hts⟩
  have hl := lv_entry ([.ref h, .int x, .int y, .int v]) (n := 5) (Nat.le_of_ble_eq_true rfl)
  rw [lg_entry_eq]
  generalize (lg_sl ([.ref h, .int x, .int y, .int v]) ++ List.replicate (5 - (lg_sl ([.ref h, .int x, .int y, .int v])).length) Slot.unset).toArray = ls at hl ⊢
  have hl : lv_has ls 5 [(0, .ref h), (1, .int x), (2, .int y), (3, .int v)] := hl
  refine wq (fun Q hQ => ?_)
  have hzc : 0 + 0 ≤ (headSpec wsX1_would rmX1_would_no).room.cells := Nat.zero_le _
  have hzs : 0 + 0 ≤ (headSpec wsX1_would rmX1_would_no).room.slots := Nat.zero_le _
  rcases Bool.eq_false_or_eq_true (inB 0 7 x && inB 0 7 y) with hpl | hpl
  · skip
    have hat := (plc_at hpl).1
    refine lv_iload_n hx hb dX1_would_0 rfl (lv_at hl 1 rfl) ?_
    refine lv_iload_n hx hb dX1_would_1 rfl (lv_at hl 2 rfl) ?_
    refine cr_i (va_runS (As := [.int x, .int y]) (rest := []) FX (c_X1_checkedNumber_ok l x y hpl) (va_cwS 2 hts gX1_would_X1_checkedNumber rfl rfl rfl (by decide +kernel) ⟨Nat.le_of_ble_eq_true rfl, Nat.le_of_ble_eq_true rfl⟩) puS rfl rfl hl.1 rfl (lv_room (Nat.le_of_ble_eq_true rfl)) dX1_would_2 ⟨hzc, hzs⟩) hS hP (fun H locs hP hS => ?_)
    refine lv_istore (lv' := [(4, .int (nI (pAt x y))), (0, .ref h), (1, .int x), (2, .int y), (3, .int v)]) hx hb dX1_would_5 hl (by decide) rfl (fun ls hl => ?_)
    refine lv_iload_n hx hb dX1_would_7 rfl (lv_at hl 4 rfl) ?_
    rcases Bool.eq_false_or_eq_true (inB 3 5 v) with hin | hin
    · skip
      refine cr_v (va_runS (As := [.int v]) (rest := []) FX (c_X1_checkBuilding_ok l v hin) (va_cwS 1 hts gX1_would_X1_checkBuilding rfl rfl rfl (by decide +kernel) ⟨Nat.le_of_ble_eq_true rfl, Nat.le_of_ble_eq_true rfl⟩) puS rfl rfl hl.1 rfl (lv_room (Nat.le_of_ble_eq_true rfl)) dX1_would_8 ⟨hzc, hzs⟩) hS hP (fun H locs hP hS => ?_)
      refine lv_aload_n hx hb dX1_would_11 rfl (lv_at hl 1 rfl) ?_
      refine lv_iload hx hb dX1_would_12 (lv_at hl 0 rfl) ?_
      rcases Decidable.em (k (pAt x y) = 2) with c1 | c1
      · skip
        exact absurd (by unfold cdWould; rw [if_pos hpl, if_pos hin, if_pos c1]) hcd
      · skip
        refine xr_v (vx_runV (As := [.int (nI (pAt x y))]) (rest := []) FX (c_X1_checkDrained_no l G cI hst h a t mo co le K Qa La Ha Ma Ba Ca Da Fa Wa k (pAt x y) hk hat c1) (cwV 1 hts gX1_would_X1_checkDrained rfl rfl rfl (by decide +kernel) ⟨Nat.le_of_ble_eq_true rfl, Nat.le_of_ble_eq_true rfl⟩) (xrV hK hP hN hE hX hZ hS [0, 1, 2, 3, 4, 5, 6, 7, 8, 9, 10, 11] rfl (ci := 1) (q0 := 0) rfl rfl) rfl rfl hl.1 rfl (lv_room (Nat.le_of_ble_eq_true rfl)) dX1_would_14 ⟨Nat.le_of_ble_eq_true rfl, Nat.le_of_ble_eq_true rfl⟩) hS hP (fun E ce q9 H locs hcE hP hS h1 h2 h3 => ?_)
        subst hQ
        exact vx_out (fun x9 hx9 => (htb x9 hx9).elim) hlocks h1 h2 h3 (fun t9 ht9 hW9 => ⟨(), trivial, (Or.inr (Or.inr (⟨hcE, by unfold cdWould; rw [if_pos hpl, if_pos hin, if_neg c1]⟩))), hS.F ht9⟩) hS.2.2 (Nat.le_of_ble_eq_true rfl) (Nat.le_of_ble_eq_true rfl)
    · skip
      refine xr_v (vx_runS (As := [.int v]) (rest := []) FX (c_X1_checkBuilding_no l G cI hst v hin) (va_cwS 1 hts gX1_would_X1_checkBuilding rfl rfl rfl (by decide +kernel) ⟨Nat.le_of_ble_eq_true rfl, Nat.le_of_ble_eq_true rfl⟩) (xrS hK hP hN hE hX hZ hS [] rfl) rfl rfl hl.1 rfl (lv_room (Nat.le_of_ble_eq_true rfl)) dX1_would_8 ⟨Nat.le_of_ble_eq_true rfl, Nat.le_of_ble_eq_true rfl⟩) hS hP (fun E ce q9 H locs hcE hP hS h1 h2 h3 => ?_)
      subst hQ
      exact vx_out (fun x9 hx9 => (htb x9 hx9).elim) hlocks h1 h2 h3 (fun t9 ht9 hW9 => ⟨(), trivial, (Or.inr (Or.inl (⟨hcE, by unfold cdWould; rw [if_pos hpl, if_neg (by rw [hin]; decide)]⟩))), hS.F ht9⟩) hS.2.2 (Nat.le_of_ble_eq_true rfl) (Nat.le_of_ble_eq_true rfl)
  · skip
    refine lv_iload_n hx hb dX1_would_0 rfl (lv_at hl 1 rfl) ?_
    refine lv_iload_n hx hb dX1_would_1 rfl (lv_at hl 2 rfl) ?_
    refine xr_i (vx_runS (As := [.int x, .int y]) (rest := []) FX (c_X1_checkedNumber_no l G cI hst x y hpl) (va_cwS 2 hts gX1_would_X1_checkedNumber rfl rfl rfl (by decide +kernel) ⟨Nat.le_of_ble_eq_true rfl, Nat.le_of_ble_eq_true rfl⟩) (xrS hK hP hN hE hX hZ hS [] rfl) rfl rfl hl.1 rfl (lv_room (Nat.le_of_ble_eq_true rfl)) dX1_would_2 ⟨Nat.le_of_ble_eq_true rfl, Nat.le_of_ble_eq_true rfl⟩) hS hP (fun E ce q9 H locs hcE hP hS h1 h2 h3 => ?_)
    subst hQ
    exact vx_out (fun x9 hx9 => (htb x9 hx9).elim) hlocks h1 h2 h3 (fun t9 ht9 hW9 => ⟨(), trivial, (Or.inl (⟨hcE, by unfold cdWould; rw [if_neg (by rw [hpl]; decide)]⟩)), hS.F ht9⟩) hS.2.2 (Nat.le_of_ble_eq_true rfl) (Nat.le_of_ble_eq_true rfl)

def rmX1_raze_no : Room := { frames := 7, cells := 1, slots := 6, locals := 111 }
set_option maxHeartbeats 4000000 in
set_option maxRecDepth 100000 in
theorem c_X1_raze_no (l : Launch) (G : va_G) (cI : ClassId) (hst : l.stackTraces = false) (h : Nat) (a t : Nat → Nat) (mo co le : Int32) (K Qa La Ha Ma Ba Ca Da Fa Wa k : Nat → Int32) (x y : Int32) (hk : eqK K k) (hcd : ¬ cdRaze k x y = 0) : vx_Met l yX1_raze wsX1_raze rmX1_raze_no (va_Pc [.ref h, .int x, .int y] (XrP G cI [(h, oX a t), ((a 0), oC a mo co le), ((a 3), iA cI K), ((a 4), iA cI Qa), ((a 5), iA cI La), ((a 6), iA cI Ha), ((a 7), iA cI Ma), ((a 8), iA cI Ba), ((a 9), iA cI Ca), ((a 10), iA cI Da), ((a 11), iA cI Fa), ((a 12), iA cI Wa)])) (va_Qi (fun (_ : Int32) (_ : Unit) => False) (fun _ _ => True) No) (vx_X (fun _ : Unit => True) (fun E _ _ => (E = "java/lang/IndexOutOfBoundsException" ∧ cdRaze k x y = 1) ∨ (E = "java/lang/IllegalStateException" ∧ cdRaze k x y = 2)) No) 1 6 No := by
  refine vx_ofW (cc := cX1_raze) (maxL := 5) (ret := (some .int)) (by decide) rfl ?_
  intro p e s m args below meth c s₁ B hml htb hv
  obtain ⟨rfl, ⟨hP, hK, hN⟩, hE, hX, hZ⟩ := hv
  have hx := B.exec
  have hb := B.bytes
  have hr := B.returns
  have hlocks := B.notSynchronized
  have hts := atoms_spec (ws := wsX1_raze) B.pre
  have hown : s.vm.findClass RX1 = some m.cls := findClass_of_methodNamed B.named
  have hS : va_S No s.heap s.heap [] := va_S.rf
  have FX : CallFix p m c cX1_raze 5 s ([.ref h, .int x, .int y] : List Value).toArray wsX1_raze RX1 := ⟨hx, hb, hml, hown, hts⟩
  have hl := lv_entry ([.ref h, .int x, .int y]) (n := 5) (Nat.le_of_ble_eq_true rfl)
  rw [lg_entry_eq]
  generalize (lg_sl ([.ref h, .int x, .int y]) ++ List.replicate (5 - (lg_sl ([.ref h, .int x, .int y])).length) Slot.unset).toArray = ls at hl ⊢
  have hl : lv_has ls 5 [(0, .ref h), (1, .int x), (2, .int y)] := hl
  refine wq (fun Q hQ => ?_)
  have hzc : 0 + 0 ≤ (headSpec wsX1_raze rmX1_raze_no).room.cells := Nat.zero_le _
  have hzs : 0 + 0 ≤ (headSpec wsX1_raze rmX1_raze_no).room.slots := Nat.zero_le _
  have hf10 := hts (.fieldLink RX1 10 "CanalCity" "now" "LCanalCity$City;") (by decide +kernel)
  have hinX0 : ∀ w ∈ u_ws RX0 TX0 13, w ∈ wsX1_raze := by decide +kernel
  have hinX1 : ∀ w ∈ u_ws RX1 TX1 2, w ∈ wsX1_raze := by decide +kernel
  rcases Bool.eq_false_or_eq_true (inB 0 7 x && inB 0 7 y) with hpl | hpl
  · skip
    have hat := (plc_at hpl).1
    refine lv_iload_n hx hb dX1_raze_0 rfl (lv_at hl 1 rfl) ?_
    refine lv_iload_n hx hb dX1_raze_1 rfl (lv_at hl 2 rfl) ?_
    refine cr_i (va_runS (As := [.int x, .int y]) (rest := []) FX (c_X1_checkedNumber_ok l x y hpl) (va_cwS 2 hts gX1_raze_X1_checkedNumber rfl rfl rfl (by decide +kernel) ⟨Nat.le_of_ble_eq_true rfl, Nat.le_of_ble_eq_true rfl⟩) puS rfl rfl hl.1 rfl (lv_room (Nat.le_of_ble_eq_true rfl)) dX1_raze_2 ⟨hzc, hzs⟩) hS hP (fun H locs hP hS => ?_)
    refine lv_istore_n (lv' := [(3, .int (nI (pAt x y))), (0, .ref h), (1, .int x), (2, .int y)]) hx hb dX1_raze_5 rfl hl (by decide) rfl (fun ls hl => ?_)
    refine lv_aload_n hx hb dX1_raze_6 rfl (lv_at hl 1 rfl) ?_
    refine va_get (D := G) (ci := 1) (v := .ref (a 0)) (C := RX1) (T := TX1) (N := 2) hx hb hts hinX1 hown hK hP 0 rfl rfl 0 (by decide) hf10 (fun _ h9 => h9) rfl dX1_raze_7 ?_
    refine va_getN (host := "CanalCity") (D := G) (ci := 0) (v := .ref (a 3)) (C := RX0) (T := TX0) (N := 13) hx hb hts hinX0 hown hK hP 1 rfl rfl 3 (by decide) (va_Nw.use rfl (NW_at hN 1 rfl)) (fun _ h9 => h9) rfl dX1_raze_10 ?_
    refine lv_iload_n hx hb dX1_raze_13 rfl (lv_at hl 0 rfl) ?_
    refine va_iald hx hb hK hP 2 0 rfl rfl (vp_in_nI hat (by decide)) dX1_raze_14 ?_
    refine tpi (x' := K (pAt x y)) (congrArg K (nI_clamp (by omega))) ?_
    refine tpi (x' := k (pAt x y)) (hk _ hat) ?_
    refine lv_istore (lv' := [(4, .int (k (pAt x y))), (3, .int (nI (pAt x y))), (0, .ref h), (1, .int x), (2, .int y)]) hx hb dX1_raze_15 hl (by decide) rfl (fun ls hl => ?_)
    refine lv_iload hx hb dX1_raze_17 (lv_at hl 0 rfl) ?_
    refine lv_iconst (v := 3) hx hb dX1_raze_19 (by decide) ?_
    refine lv_icmp_lt (tgt := 30) hx hb dX1_raze_20 (by decide) (fun c1 => ?_) (fun c1 => ?_)
    · skip
      obtain ⟨sa, hstr⟩ := hE.2.2.2.2.2.2.2.2.2.1
      subst hQ
      exact vx_throwS (A := No) (names := ["java/lang/RuntimeException", "java/lang/Exception"]) hx hb hst hown (by decide +kernel) (by decide +kernel) (hts (.classLink RX1 27 "java/lang/IllegalStateException") (by decide +kernel)) (hts (.initialized "java/lang/IllegalStateException") (by decide +kernel)) hstr (nong hX atS_ng (fun w9 hw9 => hts w9 (by first | exact List.mem_cons_of_mem _ (List.mem_append_right _ hw9) | exact List.mem_cons_of_mem _ (List.mem_append_left _ (List.mem_append_right _ hw9)) | exact List.mem_cons_of_mem _ (List.mem_append_left _ (List.mem_append_left _ (List.mem_append_right _ hw9))) | exact List.mem_cons_of_mem _ (List.mem_append_left _ (List.mem_append_left _ (List.mem_append_left _ (List.mem_append_right _ hw9))))))) goS hZ.1 hZ.2 hS (hl.1.trans hml.symm) dX1_raze_30 dX1_raze_33 dX1_raze_34 dX1_raze_36 dX1_raze_39 (fun x9 hx9 => (htb x9 hx9).elim) (by decide) (Nat.le_of_ble_eq_true rfl) (Nat.le_of_ble_eq_true rfl) (Nat.le_of_ble_eq_true rfl) hlocks (fun t9 ht9 hz9 hk9 => ⟨(), trivial, Or.inr (⟨rfl, by unfold cdRaze; rw [if_pos hpl, if_neg (fun h9 => absurd c1 (Int32.not_lt.mpr (inB_t h9).1))]⟩), Nat.le_trans hS.1 hz9, fun q9 hq9 hn9 => (hk9 q9 (Nat.lt_of_lt_of_le hq9 hS.1)).trans (hS.2.1 q9 hq9 hn9)⟩) hS.2.2 (Nat.le_of_ble_eq_true rfl) (Nat.le_of_ble_eq_true rfl)
    · skip
      refine lv_iload hx hb dX1_raze_23 (lv_at hl 0 rfl) ?_
      refine lv_bipush (v := 6) hx hb dX1_raze_25 (by decide) ?_
      refine lv_icmp_le (tgt := 40) hx hb dX1_raze_27 (by decide) (fun c => absurd c (fun c2 => hcd (by unfold cdRaze; rw [if_pos hpl, if_pos (by unfold inB; rw [decide_eq_true (Int32.not_lt.mp c1), decide_eq_true c2]; rfl)]))) (fun _ => ?_)
      obtain ⟨sa, hstr⟩ := hE.2.2.2.2.2.2.2.2.2.1
      subst hQ
      exact vx_throwS (A := No) (names := ["java/lang/RuntimeException", "java/lang/Exception"]) hx hb hst hown (by decide +kernel) (by decide +kernel) (hts (.classLink RX1 27 "java/lang/IllegalStateException") (by decide +kernel)) (hts (.initialized "java/lang/IllegalStateException") (by decide +kernel)) hstr (nong hX atS_ng (fun w9 hw9 => hts w9 (by first | exact List.mem_cons_of_mem _ (List.mem_append_right _ hw9) | exact List.mem_cons_of_mem _ (List.mem_append_left _ (List.mem_append_right _ hw9)) | exact List.mem_cons_of_mem _ (List.mem_append_left _ (List.mem_append_left _ (List.mem_append_right _ hw9))) | exact List.mem_cons_of_mem _ (List.mem_append_left _ (List.mem_append_left _ (List.mem_append_left _ (List.mem_append_right _ hw9))))))) goS hZ.1 hZ.2 hS (hl.1.trans hml.symm) dX1_raze_30 dX1_raze_33 dX1_raze_34 dX1_raze_36 dX1_raze_39 (fun x9 hx9 => (htb x9 hx9).elim) (by decide) (Nat.le_of_ble_eq_true rfl) (Nat.le_of_ble_eq_true rfl) (Nat.le_of_ble_eq_true rfl) hlocks (fun t9 ht9 hz9 hk9 => ⟨(), trivial, Or.inr (⟨rfl, by unfold cdRaze; rw [if_pos hpl, if_neg (fun h9 => hcd (by unfold cdRaze; rw [if_pos hpl, if_pos h9]))]⟩), Nat.le_trans hS.1 hz9, fun q9 hq9 hn9 => (hk9 q9 (Nat.lt_of_lt_of_le hq9 hS.1)).trans (hS.2.1 q9 hq9 hn9)⟩) hS.2.2 (Nat.le_of_ble_eq_true rfl) (Nat.le_of_ble_eq_true rfl)
  · skip
    refine lv_iload_n hx hb dX1_raze_0 rfl (lv_at hl 1 rfl) ?_
    refine lv_iload_n hx hb dX1_raze_1 rfl (lv_at hl 2 rfl) ?_
    refine xr_i (vx_runS (As := [.int x, .int y]) (rest := []) FX (c_X1_checkedNumber_no l G cI hst x y hpl) (va_cwS 2 hts gX1_raze_X1_checkedNumber rfl rfl rfl (by decide +kernel) ⟨Nat.le_of_ble_eq_true rfl, Nat.le_of_ble_eq_true rfl⟩) (xrS hK hP hN hE hX hZ hS [] rfl) rfl rfl hl.1 rfl (lv_room (Nat.le_of_ble_eq_true rfl)) dX1_raze_2 ⟨Nat.le_of_ble_eq_true rfl, Nat.le_of_ble_eq_true rfl⟩) hS hP (fun E ce q9 H locs hcE hP hS h1 h2 h3 => ?_)
    subst hQ
    exact vx_out (fun x9 hx9 => (htb x9 hx9).elim) hlocks h1 h2 h3 (fun t9 ht9 hW9 => ⟨(), trivial, (Or.inl (⟨hcE, by unfold cdRaze; rw [if_neg (by rw [hpl]; decide)]⟩)), hS.F ht9⟩) hS.2.2 (Nat.le_of_ble_eq_true rfl) (Nat.le_of_ble_eq_true rfl)

def rmX1_lot_no : Room := { frames := 7, cells := 1, slots := 6, locals := 111 }
set_option maxHeartbeats 4000000 in
set_option maxRecDepth 100000 in
theorem c_X1_lot_no (l : Launch) (G : va_G) (cI : ClassId) (hst : l.stackTraces = false) (h : Nat) (a t : Nat → Nat) (mo co le : Int32) (K Qa La Ha Ma Ba Ca Da Fa Wa k : Nat → Int32) (x y w : Int32) (hk : eqK K k) (hcd : ¬ cdLot x y w = 0) : vx_Met l yX1_lot wsX1_lot rmX1_lot_no (va_Pc [.ref h, .int x, .int y, .int w] (XrP G cI [(h, oX a t), ((a 0), oC a mo co le), ((a 3), iA cI K), ((a 4), iA cI Qa), ((a 5), iA cI La), ((a 6), iA cI Ha), ((a 7), iA cI Ma), ((a 8), iA cI Ba), ((a 9), iA cI Ca), ((a 10), iA cI Da), ((a 11), iA cI Fa), ((a 12), iA cI Wa)])) (va_Qi (fun (_ : Int32) (_ : Unit) => False) (fun _ _ => True) No) (vx_X (fun _ : Unit => True) (fun E _ _ => (E = "java/lang/IndexOutOfBoundsException" ∧ cdLot x y w = 1)) No) 1 6 No := by
  refine vx_ofW (cc := cX1_lot) (maxL := 5) (ret := (some .int)) (by decide) rfl ?_
  intro p e s m args below meth c s₁ B hml htb hv
  obtain ⟨rfl, ⟨hP, hK, hN⟩, hE, hX, hZ⟩ := hv
  have hx := B.exec
  have hb := B.bytes
  have hr := B.returns
  have hlocks := B.notSynchronized
  have hts := atoms_spec (ws := wsX1_lot) B.pre
  have hown : s.vm.findClass RX1 = some m.cls := findClass_of_methodNamed B.named
  have hS : va_S No s.heap s.heap [] := va_S.rf
  have FX : CallFix p m c cX1_lot 5 s ([.ref h, .int x, .int y, .int w] : List Value).toArray wsX1_lot RX1 := ⟨hx, hb, hml, hown, hts⟩
  have hl := lv_entry ([.ref h, .int x, .int y, .int w]) (n := 5) (Nat.le_of_ble_eq_true rfl)
  rw [lg_entry_eq]
  generalize (lg_sl ([.ref h, .int x, .int y, .int w]) ++ List.replicate (5 - (lg_sl ([.ref h, .int x, .int y, .int w])).length) Slot.unset).toArray = ls at hl ⊢
  have hl : lv_has ls 5 [(0, .ref h), (1, .int x), (2, .int y), (3, .int w)] := hl
  refine wq (fun Q hQ => ?_)
  have hzc : 0 + 0 ≤ (headSpec wsX1_lot rmX1_lot_no).room.cells := Nat.zero_le _
  have hzs : 0 + 0 ≤ (headSpec wsX1_lot rmX1_lot_no).room.slots := Nat.zero_le _
  rcases Bool.eq_false_or_eq_true (inB 0 7 x && inB 0 7 y) with hpl | hpl
  · skip
    have hat := (plc_at hpl).1
    refine lv_iload_n hx hb dX1_lot_0 rfl (lv_at hl 1 rfl) ?_
    refine lv_iload_n hx hb dX1_lot_1 rfl (lv_at hl 2 rfl) ?_
    refine cr_i (va_runS (As := [.int x, .int y]) (rest := []) FX (c_X1_checkedNumber_ok l x y hpl) (va_cwS 2 hts gX1_lot_X1_checkedNumber rfl rfl rfl (by decide +kernel) ⟨Nat.le_of_ble_eq_true rfl, Nat.le_of_ble_eq_true rfl⟩) puS rfl rfl hl.1 rfl (lv_room (Nat.le_of_ble_eq_true rfl)) dX1_lot_2 ⟨hzc, hzs⟩) hS hP (fun H locs hP hS => ?_)
    refine lv_istore (lv' := [(4, .int (nI (pAt x y))), (0, .ref h), (1, .int x), (2, .int y), (3, .int w)]) hx hb dX1_lot_5 hl (by decide) rfl (fun ls hl => ?_)
    refine lv_iload_n hx hb dX1_lot_7 rfl (lv_at hl 4 rfl) ?_
    refine lv_if_lt (tgt := 16) hx hb dX1_lot_8 (by decide) (fun c1 => ?_) (fun c1 => ?_)
    · skip
      obtain ⟨sa, hstr⟩ := hE.2.2.2.2.2.2.2.2.2.2.1
      subst hQ
      exact vx_throwS (A := No) (names := ["java/lang/RuntimeException", "java/lang/Exception"]) hx hb hst hown (by decide +kernel) (by decide +kernel) (hts (.classLink RX1 69 "java/lang/IndexOutOfBoundsException") (by decide +kernel)) (hts (.initialized "java/lang/IndexOutOfBoundsException") (by decide +kernel)) hstr (nong hX atI_ng (fun w9 hw9 => hts w9 (by first | exact List.mem_cons_of_mem _ (List.mem_append_right _ hw9) | exact List.mem_cons_of_mem _ (List.mem_append_left _ (List.mem_append_right _ hw9)) | exact List.mem_cons_of_mem _ (List.mem_append_left _ (List.mem_append_left _ (List.mem_append_right _ hw9))) | exact List.mem_cons_of_mem _ (List.mem_append_left _ (List.mem_append_left _ (List.mem_append_left _ (List.mem_append_right _ hw9))))))) goI hZ.1 hZ.2 hS (hl.1.trans hml.symm) dX1_lot_16 dX1_lot_19 dX1_lot_20 dX1_lot_22 dX1_lot_25 (fun x9 hx9 => (htb x9 hx9).elim) (by decide) (Nat.le_of_ble_eq_true rfl) (Nat.le_of_ble_eq_true rfl) (Nat.le_of_ble_eq_true rfl) hlocks (fun t9 ht9 hz9 hk9 => ⟨(), trivial, ⟨rfl, by unfold cdLot; rw [if_pos hpl, if_neg (fun h9 => absurd c1 (Int32.not_lt.mpr (inB_t h9).1))]⟩, Nat.le_trans hS.1 hz9, fun q9 hq9 hn9 => (hk9 q9 (Nat.lt_of_lt_of_le hq9 hS.1)).trans (hS.2.1 q9 hq9 hn9)⟩) hS.2.2 (Nat.le_of_ble_eq_true rfl) (Nat.le_of_ble_eq_true rfl)
    · skip
      refine lv_iload_n hx hb dX1_lot_11 rfl (lv_at hl 4 rfl) ?_
      refine lv_iconst (v := 5) hx hb dX1_lot_12 (by decide) ?_
      refine lv_icmp_le (tgt := 26) hx hb dX1_lot_13 (by decide) (fun c => absurd c (fun c2 => hcd (by unfold cdLot; rw [if_pos hpl, if_pos (by unfold inB; rw [decide_eq_true (Int32.not_lt.mp c1), decide_eq_true c2]; rfl)]))) (fun _ => ?_)
      obtain ⟨sa, hstr⟩ := hE.2.2.2.2.2.2.2.2.2.2.1
      subst hQ
      exact vx_throwS (A := No) (names := ["java/lang/RuntimeException", "java/lang/Exception"]) hx hb hst hown (by decide +kernel) (by decide +kernel) (hts (.classLink RX1 69 "java/lang/IndexOutOfBoundsException") (by decide +kernel)) (hts (.initialized "java/lang/IndexOutOfBoundsException") (by decide +kernel)) hstr (nong hX atI_ng (fun w9 hw9 => hts w9 (by first | exact List.mem_cons_of_mem _ (List.mem_append_right _ hw9) | exact List.mem_cons_of_mem _ (List.mem_append_left _ (List.mem_append_right _ hw9)) | exact List.mem_cons_of_mem _ (List.mem_append_left _ (List.mem_append_left _ (List.mem_append_right _ hw9))) | exact List.mem_cons_of_mem _ (List.mem_append_left _ (List.mem_append_left _ (List.mem_append_left _ (List.mem_append_right _ hw9))))))) goI hZ.1 hZ.2 hS (hl.1.trans hml.symm) dX1_lot_16 dX1_lot_19 dX1_lot_20 dX1_lot_22 dX1_lot_25 (fun x9 hx9 => (htb x9 hx9).elim) (by decide) (Nat.le_of_ble_eq_true rfl) (Nat.le_of_ble_eq_true rfl) (Nat.le_of_ble_eq_true rfl) hlocks (fun t9 ht9 hz9 hk9 => ⟨(), trivial, ⟨rfl, by unfold cdLot; rw [if_pos hpl, if_neg (fun h9 => hcd (by unfold cdLot; rw [if_pos hpl, if_pos h9]))]⟩, Nat.le_trans hS.1 hz9, fun q9 hq9 hn9 => (hk9 q9 (Nat.lt_of_lt_of_le hq9 hS.1)).trans (hS.2.1 q9 hq9 hn9)⟩) hS.2.2 (Nat.le_of_ble_eq_true rfl) (Nat.le_of_ble_eq_true rfl)
  · skip
    refine lv_iload_n hx hb dX1_lot_0 rfl (lv_at hl 1 rfl) ?_
    refine lv_iload_n hx hb dX1_lot_1 rfl (lv_at hl 2 rfl) ?_
    refine xr_i (vx_runS (As := [.int x, .int y]) (rest := []) FX (c_X1_checkedNumber_no l G cI hst x y hpl) (va_cwS 2 hts gX1_lot_X1_checkedNumber rfl rfl rfl (by decide +kernel) ⟨Nat.le_of_ble_eq_true rfl, Nat.le_of_ble_eq_true rfl⟩) (xrS hK hP hN hE hX hZ hS [] rfl) rfl rfl hl.1 rfl (lv_room (Nat.le_of_ble_eq_true rfl)) dX1_lot_2 ⟨Nat.le_of_ble_eq_true rfl, Nat.le_of_ble_eq_true rfl⟩) hS hP (fun E ce q9 H locs hcE hP hS h1 h2 h3 => ?_)
    subst hQ
    exact vx_out (fun x9 hx9 => (htb x9 hx9).elim) hlocks h1 h2 h3 (fun t9 ht9 hW9 => ⟨(), trivial, (⟨hcE, by unfold cdLot; rw [if_neg (by rw [hpl]; decide)]⟩), hS.F ht9⟩) hS.2.2 (Nat.le_of_ble_eq_true rfl) (Nat.le_of_ble_eq_true rfl)

def rmX1_count_no : Room := { frames := 6, cells := 1, slots := 6, locals := 90 }
set_option maxHeartbeats 4000000 in
set_option maxRecDepth 100000 in
theorem c_X1_count_no (l : Launch) (G : va_G) (cI : ClassId) (hst : l.stackTraces = false) (h : Nat) (a t : Nat → Nat) (mo co le : Int32) (K Qa La Ha Ma Ba Ca Da Fa Wa k : Nat → Int32) (w : Int32) (hk : eqK K k) (hcd : ¬ cdCount w = 0) : vx_Met l yX1_count wsX1_count rmX1_count_no (va_Pc [.ref h, .int w] (XrP G cI [(h, oX a t), ((a 0), oC a mo co le), ((a 3), iA cI K), ((a 4), iA cI Qa), ((a 5), iA cI La), ((a 6), iA cI Ha), ((a 7), iA cI Ma), ((a 8), iA cI Ba), ((a 9), iA cI Ca), ((a 10), iA cI Da), ((a 11), iA cI Fa), ((a 12), iA cI Wa)])) (va_Qi (fun (_ : Int32) (_ : Unit) => False) (fun _ _ => True) No) (vx_X (fun _ : Unit => True) (fun E _ _ => (E = "java/lang/IndexOutOfBoundsException" ∧ cdCount w = 1)) No) 1 6 No := by
  refine vx_ofW (cc := cX1_count) (maxL := 2) (ret := (some .int)) (by decide) rfl ?_
  intro p e s m args below meth c s₁ B hml htb hv
  obtain ⟨rfl, ⟨hP, hK, hN⟩, hE, hX, hZ⟩ := hv
  have hx := B.exec
  have hb := B.bytes
  have hr := B.returns
  have hlocks := B.notSynchronized
  have hts := atoms_spec (ws := wsX1_count) B.pre
  have hown : s.vm.findClass RX1 = some m.cls := findClass_of_methodNamed B.named
  have hS : va_S No s.heap s.heap [] := va_S.rf
  have FX : CallFix p m c cX1_count 2 s ([.ref h, .int w] : List Value).toArray wsX1_count RX1 := ⟨hx, hb, hml, hown, hts⟩
  have hl := lv_entry ([.ref h, .int w]) (n := 2) (Nat.le_of_ble_eq_true rfl)
  rw [lg_entry_eq]
  generalize (lg_sl ([.ref h, .int w]) ++ List.replicate (2 - (lg_sl ([.ref h, .int w])).length) Slot.unset).toArray = ls at hl ⊢
  have hl : lv_has ls 2 [(0, .ref h), (1, .int w)] := hl
  refine wq (fun Q hQ => ?_)
  have hzc : 0 + 0 ≤ (headSpec wsX1_count rmX1_count_no).room.cells := Nat.zero_le _
  have hzs : 0 + 0 ≤ (headSpec wsX1_count rmX1_count_no).room.slots := Nat.zero_le _
  refine lv_iload_n hx hb dX1_count_0 rfl (lv_at hl 1 rfl) ?_
  refine lv_if_lt (tgt := 10) hx hb dX1_count_1 (by decide) (fun c1 => ?_) (fun c1 => ?_)
  · skip
    obtain ⟨sa, hstr⟩ := hE.2.2.2.2.2.2.2.2.2.2.2.1
    subst hQ
    exact vx_throwS (A := No) (names := ["java/lang/RuntimeException", "java/lang/Exception"]) hx hb hst hown (by decide +kernel) (by decide +kernel) (hts (.classLink RX1 69 "java/lang/IndexOutOfBoundsException") (by decide +kernel)) (hts (.initialized "java/lang/IndexOutOfBoundsException") (by decide +kernel)) hstr (nong hX atI_ng (fun w9 hw9 => hts w9 (by first | exact List.mem_cons_of_mem _ (List.mem_append_right _ hw9) | exact List.mem_cons_of_mem _ (List.mem_append_left _ (List.mem_append_right _ hw9)) | exact List.mem_cons_of_mem _ (List.mem_append_left _ (List.mem_append_left _ (List.mem_append_right _ hw9))) | exact List.mem_cons_of_mem _ (List.mem_append_left _ (List.mem_append_left _ (List.mem_append_left _ (List.mem_append_right _ hw9))))))) goI hZ.1 hZ.2 hS (hl.1.trans hml.symm) dX1_count_10 dX1_count_13 dX1_count_14 dX1_count_16 dX1_count_19 (fun x9 hx9 => (htb x9 hx9).elim) (by decide) (Nat.le_of_ble_eq_true rfl) (Nat.le_of_ble_eq_true rfl) (Nat.le_of_ble_eq_true rfl) hlocks (fun t9 ht9 hz9 hk9 => ⟨(), trivial, ⟨rfl, by unfold cdCount; rw [if_neg (fun h9 => absurd c1 (Int32.not_lt.mpr (inB_t h9).1))]⟩, Nat.le_trans hS.1 hz9, fun q9 hq9 hn9 => (hk9 q9 (Nat.lt_of_lt_of_le hq9 hS.1)).trans (hS.2.1 q9 hq9 hn9)⟩) hS.2.2 (Nat.le_of_ble_eq_true rfl) (Nat.le_of_ble_eq_true rfl)
  · skip
    refine lv_iload_n hx hb dX1_count_4 rfl (lv_at hl 1 rfl) ?_
    refine lv_bipush (v := 12) hx hb dX1_count_5 (by decide) ?_
    refine lv_icmp_le (tgt := 20) hx hb dX1_count_7 (by decide) (fun c => absurd c (fun c2 => hcd (by unfold cdCount; rw [if_pos (by unfold inB; rw [decide_eq_true (Int32.not_lt.mp c1), decide_eq_true c2]; rfl)]))) (fun _ => ?_)
    obtain ⟨sa, hstr⟩ := hE.2.2.2.2.2.2.2.2.2.2.2.1
    subst hQ
    exact vx_throwS (A := No) (names := ["java/lang/RuntimeException", "java/lang/Exception"]) hx hb hst hown (by decide +kernel) (by decide +kernel) (hts (.classLink RX1 69 "java/lang/IndexOutOfBoundsException") (by decide +kernel)) (hts (.initialized "java/lang/IndexOutOfBoundsException") (by decide +kernel)) hstr (nong hX atI_ng (fun w9 hw9 => hts w9 (by first | exact List.mem_cons_of_mem _ (List.mem_append_right _ hw9) | exact List.mem_cons_of_mem _ (List.mem_append_left _ (List.mem_append_right _ hw9)) | exact List.mem_cons_of_mem _ (List.mem_append_left _ (List.mem_append_left _ (List.mem_append_right _ hw9))) | exact List.mem_cons_of_mem _ (List.mem_append_left _ (List.mem_append_left _ (List.mem_append_left _ (List.mem_append_right _ hw9))))))) goI hZ.1 hZ.2 hS (hl.1.trans hml.symm) dX1_count_10 dX1_count_13 dX1_count_14 dX1_count_16 dX1_count_19 (fun x9 hx9 => (htb x9 hx9).elim) (by decide) (Nat.le_of_ble_eq_true rfl) (Nat.le_of_ble_eq_true rfl) (Nat.le_of_ble_eq_true rfl) hlocks (fun t9 ht9 hz9 hk9 => ⟨(), trivial, ⟨rfl, by unfold cdCount; rw [if_neg (fun h9 => hcd (by unfold cdCount; rw [if_pos h9]))]⟩, Nat.le_trans hS.1 hz9, fun q9 hq9 hn9 => (hk9 q9 (Nat.lt_of_lt_of_le hq9 hS.1)).trans (hS.2.1 q9 hq9 hn9)⟩) hS.2.2 (Nat.le_of_ble_eq_true rfl) (Nat.le_of_ble_eq_true rfl)

def rmX1_walk_no : Room := { frames := 7, cells := 1, slots := 6, locals := 110 }
set_option maxHeartbeats 4000000 in
set_option maxRecDepth 100000 in
theorem c_X1_walk_no (l : Launch) (G : va_G) (cI : ClassId) (hst : l.stackTraces = false) (h : Nat) (a t : Nat → Nat) (mo co le : Int32) (K Qa La Ha Ma Ba Ca Da Fa Wa k : Nat → Int32) (x y : Int32) (hk : eqK K k) (hcd : ¬ cdWalk k x y = 0) : vx_Met l yX1_walk wsX1_walk rmX1_walk_no (va_Pc [.ref h, .int x, .int y] (XrP G cI [(h, oX a t), ((a 0), oC a mo co le), ((a 3), iA cI K), ((a 4), iA cI Qa), ((a 5), iA cI La), ((a 6), iA cI Ha), ((a 7), iA cI Ma), ((a 8), iA cI Ba), ((a 9), iA cI Ca), ((a 10), iA cI Da), ((a 11), iA cI Fa), ((a 12), iA cI Wa)])) (va_Qi (fun (_ : Int32) (_ : Unit) => False) (fun _ _ => True) No) (vx_X (fun _ : Unit => True) (fun E _ _ => (E = "java/lang/IndexOutOfBoundsException" ∧ cdWalk k x y = 1) ∨ (E = "java/lang/IllegalStateException" ∧ cdWalk k x y = 2)) No) 1 6 No := by
  refine vx_ofW (cc := cX1_walk) (maxL := 3) (ret := (some .int)) (by decide) rfl ?_
  intro p e s m args below meth c s₁ B hml htb hv
  obtain ⟨rfl, ⟨hP, hK, hN⟩, hE, hX, hZ⟩ := hv
  have hx := B.exec
  have hb := B.bytes
  have hr := B.returns
  have hlocks := B.notSynchronized
  have hts := atoms_spec (ws := wsX1_walk) B.pre
  have hown : s.vm.findClass RX1 = some m.cls := findClass_of_methodNamed B.named
  have hS : va_S No s.heap s.heap [] := va_S.rf
  have FX : CallFix p m c cX1_walk 3 s ([.ref h, .int x, .int y] : List Value).toArray wsX1_walk RX1 := ⟨hx, hb, hml, hown, hts⟩
  have hl := lv_entry ([.ref h, .int x, .int y]) (n := 3) (Nat.le_of_ble_eq_true rfl)
  rw [lg_entry_eq]
  generalize (lg_sl ([.ref h, .int x, .int y]) ++ List.replicate (3 - (lg_sl ([.ref h, .int x, .int y])).length) Slot.unset).toArray = ls at hl ⊢
  have hl : lv_has ls 3 [(0, .ref h), (1, .int x), (2, .int y)] := hl
  refine wq (fun Q hQ => ?_)
  have hzc : 0 + 0 ≤ (headSpec wsX1_walk rmX1_walk_no).room.cells := Nat.zero_le _
  have hzs : 0 + 0 ≤ (headSpec wsX1_walk rmX1_walk_no).room.slots := Nat.zero_le _
  have hf10 := hts (.fieldLink RX1 10 "CanalCity" "now" "LCanalCity$City;") (by decide +kernel)
  have hinX0 : ∀ w ∈ u_ws RX0 TX0 13, w ∈ wsX1_walk := by decide +kernel
  have hinX1 : ∀ w ∈ u_ws RX1 TX1 2, w ∈ wsX1_walk := by decide +kernel
  refine lv_iload_n hx hb dX1_walk_0 rfl (lv_at hl 1 rfl) ?_
  rcases Bool.eq_false_or_eq_true (inB 0 63 x) with hin | hin
  · skip
    refine cr_v (va_runS (As := [.int x]) (rest := []) FX (c_X1_checkNumber_ok l x hin) (va_cwS 1 hts gX1_walk_X1_checkNumber rfl rfl rfl (by decide +kernel) ⟨Nat.le_of_ble_eq_true rfl, Nat.le_of_ble_eq_true rfl⟩) puS rfl rfl hl.1 rfl (lv_room (Nat.le_of_ble_eq_true rfl)) dX1_walk_1 ⟨hzc, hzs⟩) hS hP (fun H locs hP hS => ?_)
    refine lv_iload_n hx hb dX1_walk_4 rfl (lv_at hl 2 rfl) ?_
    rcases Bool.eq_false_or_eq_true (inB 0 63 y) with hin2 | hin2
    · skip
      refine cr_v (va_runS (As := [.int y]) (rest := []) FX (c_X1_checkNumber_ok l y hin2) (va_cwS 1 hts gX1_walk_X1_checkNumber rfl rfl rfl (by decide +kernel) ⟨Nat.le_of_ble_eq_true rfl, Nat.le_of_ble_eq_true rfl⟩) puS rfl rfl hl.1 rfl (lv_room (Nat.le_of_ble_eq_true rfl)) dX1_walk_5 ⟨hzc, hzs⟩) hS hP (fun H locs hP hS => ?_)
      have hxa := num_at hin
      have hya := num_at hin2
      refine lv_aload_n hx hb dX1_walk_8 rfl (lv_at hl 0 rfl) ?_
      refine va_get (D := G) (ci := 1) (v := .ref (a 0)) (C := RX1) (T := TX1) (N := 2) hx hb hts hinX1 hown hK hP 0 rfl rfl 0 (by decide) hf10 (fun _ h9 => h9) rfl dX1_walk_9 ?_
      refine va_getN (host := "CanalCity") (D := G) (ci := 0) (v := .ref (a 3)) (C := RX0) (T := TX0) (N := 13) hx hb hts hinX0 hown hK hP 1 rfl rfl 3 (by decide) (va_Nw.use rfl (NW_at hN 1 rfl)) (fun _ h9 => h9) rfl dX1_walk_12 ?_
      refine lv_iload_n hx hb dX1_walk_15 rfl (lv_at hl 1 rfl) ?_
      refine tpi (x' := nI x.toNatClampNeg) (hxa.2) ?_
      refine va_iald hx hb hK hP 2 0 rfl rfl (vp_in_nI hxa.1 (by decide)) dX1_walk_16 ?_
      refine tpi (x' := K (x.toNatClampNeg)) (congrArg K (nI_clamp (by omega))) ?_
      refine tpi (x' := k x.toNatClampNeg) (hk _ hxa.1) ?_
      refine cr_i (va_runS (As := [.int (k x.toNatClampNeg)]) (rest := []) FX (c_X1_isLand l (k x.toNatClampNeg)) (va_cwS 1 hts gX1_walk_X1_isLand rfl rfl rfl (by decide +kernel) ⟨Nat.le_of_ble_eq_true rfl, Nat.le_of_ble_eq_true rfl⟩) puS rfl rfl hl.1 rfl (lv_room (Nat.le_of_ble_eq_true rfl)) dX1_walk_17 ⟨hzc, hzs⟩) hS hP (fun H locs hP hS => ?_)
      rcases Bool.eq_false_or_eq_true (lnd (k x.toNatClampNeg)) with hl1 | hl1
      · skip
        refine tpi (x' := 1) (by rw [hl1]; rfl) ?_
        refine lv_if_eq (tgt := 38) hx hb dX1_walk_20 (by decide) (fun c => absurd c (by decide)) (fun _ => ?_)
        refine lv_aload_n hx hb dX1_walk_23 rfl (lv_at hl 0 rfl) ?_
        refine va_get (D := G) (ci := 1) (v := .ref (a 0)) (C := RX1) (T := TX1) (N := 2) hx hb hts hinX1 hown hK hP 0 rfl rfl 0 (by decide) hf10 (fun _ h9 => h9) rfl dX1_walk_24 ?_
        refine va_getN (host := "CanalCity") (D := G) (ci := 0) (v := .ref (a 3)) (C := RX0) (T := TX0) (N := 13) hx hb hts hinX0 hown hK hP 1 rfl rfl 3 (by decide) (va_Nw.use rfl (NW_at hN 1 rfl)) (fun _ h9 => h9) rfl dX1_walk_27 ?_
        refine lv_iload_n hx hb dX1_walk_30 rfl (lv_at hl 2 rfl) ?_
        refine tpi (x' := nI y.toNatClampNeg) (hya.2) ?_
        refine va_iald hx hb hK hP 2 0 rfl rfl (vp_in_nI hya.1 (by decide)) dX1_walk_31 ?_
        refine tpi (x' := K (y.toNatClampNeg)) (congrArg K (nI_clamp (by omega))) ?_
        refine tpi (x' := k y.toNatClampNeg) (hk _ hya.1) ?_
        refine cr_i (va_runS (As := [.int (k y.toNatClampNeg)]) (rest := []) FX (c_X1_isLand l (k y.toNatClampNeg)) (va_cwS 1 hts gX1_walk_X1_isLand rfl rfl rfl (by decide +kernel) ⟨Nat.le_of_ble_eq_true rfl, Nat.le_of_ble_eq_true rfl⟩) puS rfl rfl hl.1 rfl (lv_room (Nat.le_of_ble_eq_true rfl)) dX1_walk_32 ⟨hzc, hzs⟩) hS hP (fun H locs hP hS => ?_)
        have hl2 : lnd (k y.toNatClampNeg) = false := Bool.eq_false_iff.mpr (fun h9 => hcd (by unfold cdWalk; rw [if_pos ⟨hin, hin2⟩, if_pos ⟨hl1, h9⟩]))
        refine tpi (x' := 0) (by rw [hl2]; rfl) ?_
        refine lv_if_ne (tgt := 48) hx hb dX1_walk_35 (by decide) (fun c => absurd (rfl) c) (fun _ => ?_)
        obtain ⟨sa, hstr⟩ := hE.2.2.2.2.2.2.2.2.2.2.2.2.1
        subst hQ
        exact vx_throwS (A := No) (names := ["java/lang/RuntimeException", "java/lang/Exception"]) hx hb hst hown (by decide +kernel) (by decide +kernel) (hts (.classLink RX1 27 "java/lang/IllegalStateException") (by decide +kernel)) (hts (.initialized "java/lang/IllegalStateException") (by decide +kernel)) hstr (nong hX atS_ng (fun w9 hw9 => hts w9 (by first | exact List.mem_cons_of_mem _ (List.mem_append_right _ hw9) | exact List.mem_cons_of_mem _ (List.mem_append_left _ (List.mem_append_right _ hw9)) | exact List.mem_cons_of_mem _ (List.mem_append_left _ (List.mem_append_left _ (List.mem_append_right _ hw9))) | exact List.mem_cons_of_mem _ (List.mem_append_left _ (List.mem_append_left _ (List.mem_append_left _ (List.mem_append_right _ hw9))))))) goS hZ.1 hZ.2 hS (hl.1.trans hml.symm) dX1_walk_38 dX1_walk_41 dX1_walk_42 dX1_walk_44 dX1_walk_47 (fun x9 hx9 => (htb x9 hx9).elim) (by decide) (Nat.le_of_ble_eq_true rfl) (Nat.le_of_ble_eq_true rfl) (Nat.le_of_ble_eq_true rfl) hlocks (fun t9 ht9 hz9 hk9 => ⟨(), trivial, Or.inr (⟨rfl, by unfold cdWalk; rw [if_pos ⟨hin, hin2⟩, if_neg (fun h9 => by rw [hl2] at h9; exact absurd h9.2 (by decide))]⟩), Nat.le_trans hS.1 hz9, fun q9 hq9 hn9 => (hk9 q9 (Nat.lt_of_lt_of_le hq9 hS.1)).trans (hS.2.1 q9 hq9 hn9)⟩) hS.2.2 (Nat.le_of_ble_eq_true rfl) (Nat.le_of_ble_eq_true rfl)
      · skip
        refine tpi (x' := 0) (by rw [hl1]; rfl) ?_
        refine lv_if_eq (tgt := 38) hx hb dX1_walk_20 (by decide) (fun _ => ?_) (fun c => absurd (rfl) c)
        obtain ⟨sa, hstr⟩ := hE.2.2.2.2.2.2.2.2.2.2.2.2.1
        subst hQ
        exact vx_throwS (A := No) (names := ["java/lang/RuntimeException", "java/lang/Exception"]) hx hb hst hown (by decide +kernel) (by decide +kernel) (hts (.classLink RX1 27 "java/lang/IllegalStateException") (by decide +kernel)) (hts (.initialized "java/lang/IllegalStateException") (by decide +kernel)) hstr (nong hX atS_ng (fun w9 hw9 => hts w9 (by first | exact List.mem_cons_of_mem _ (List.mem_append_right _ hw9) | exact List.mem_cons_of_mem _ (List.mem_append_left _ (List.mem_append_right _ hw9)) | exact List.mem_cons_of_mem _ (List.mem_append_left _ (List.mem_append_left _ (List.mem_append_right _ hw9))) | exact List.mem_cons_of_mem _ (List.mem_append_left _ (List.mem_append_left _ (List.mem_append_left _ (List.mem_append_right _ hw9))))))) goS hZ.1 hZ.2 hS (hl.1.trans hml.symm) dX1_walk_38 dX1_walk_41 dX1_walk_42 dX1_walk_44 dX1_walk_47 (fun x9 hx9 => (htb x9 hx9).elim) (by decide) (Nat.le_of_ble_eq_true rfl) (Nat.le_of_ble_eq_true rfl) (Nat.le_of_ble_eq_true rfl) hlocks (fun t9 ht9 hz9 hk9 => ⟨(), trivial, Or.inr (⟨rfl, by unfold cdWalk; rw [if_pos ⟨hin, hin2⟩, if_neg (fun h9 => by rw [hl1] at h9; exact absurd h9.1 (by decide))]⟩), Nat.le_trans hS.1 hz9, fun q9 hq9 hn9 => (hk9 q9 (Nat.lt_of_lt_of_le hq9 hS.1)).trans (hS.2.1 q9 hq9 hn9)⟩) hS.2.2 (Nat.le_of_ble_eq_true rfl) (Nat.le_of_ble_eq_true rfl)
    · skip
      refine xr_v (vx_runS (As := [.int y]) (rest := []) FX (c_X1_checkNumber_no l G cI hst y hin2) (va_cwS 1 hts gX1_walk_X1_checkNumber rfl rfl rfl (by decide +kernel) ⟨Nat.le_of_ble_eq_true rfl, Nat.le_of_ble_eq_true rfl⟩) (xrS hK hP hN hE hX hZ hS [] rfl) rfl rfl hl.1 rfl (lv_room (Nat.le_of_ble_eq_true rfl)) dX1_walk_5 ⟨Nat.le_of_ble_eq_true rfl, Nat.le_of_ble_eq_true rfl⟩) hS hP (fun E ce q9 H locs hcE hP hS h1 h2 h3 => ?_)
      subst hQ
      exact vx_out (fun x9 hx9 => (htb x9 hx9).elim) hlocks h1 h2 h3 (fun t9 ht9 hW9 => ⟨(), trivial, (Or.inl (⟨hcE, by unfold cdWalk; rw [if_neg (fun h9 => by rw [hin2] at h9; exact absurd h9.2 (by decide))]⟩)), hS.F ht9⟩) hS.2.2 (Nat.le_of_ble_eq_true rfl) (Nat.le_of_ble_eq_true rfl)
  · skip
    refine xr_v (vx_runS (As := [.int x]) (rest := []) FX (c_X1_checkNumber_no l G cI hst x hin) (va_cwS 1 hts gX1_walk_X1_checkNumber rfl rfl rfl (by decide +kernel) ⟨Nat.le_of_ble_eq_true rfl, Nat.le_of_ble_eq_true rfl⟩) (xrS hK hP hN hE hX hZ hS [] rfl) rfl rfl hl.1 rfl (lv_room (Nat.le_of_ble_eq_true rfl)) dX1_walk_1 ⟨Nat.le_of_ble_eq_true rfl, Nat.le_of_ble_eq_true rfl⟩) hS hP (fun E ce q9 H locs hcE hP hS h1 h2 h3 => ?_)
    subst hQ
    exact vx_out (fun x9 hx9 => (htb x9 hx9).elim) hlocks h1 h2 h3 (fun t9 ht9 hW9 => ⟨(), trivial, (Or.inl (⟨hcE, by unfold cdWalk; rw [if_neg (fun h9 => by rw [hin] at h9; exact absurd h9.1 (by decide))]⟩)), hS.F ht9⟩) hS.2.2 (Nat.le_of_ble_eq_true rfl) (Nat.le_of_ble_eq_true rfl)

def rmX1_sail_no : Room := { frames := 7, cells := 1, slots := 6, locals := 110 }
set_option maxHeartbeats 4000000 in
set_option maxRecDepth 100000 in
theorem c_X1_sail_no (l : Launch) (G : va_G) (cI : ClassId) (hst : l.stackTraces = false) (h : Nat) (a t : Nat → Nat) (mo co le : Int32) (K Qa La Ha Ma Ba Ca Da Fa Wa k : Nat → Int32) (x : Int32) (hk : eqK K k) (hcd : ¬ cdSail k x = 0) : vx_Met l yX1_sail wsX1_sail rmX1_sail_no (va_Pc [.ref h, .int x] (XrP G cI [(h, oX a t), ((a 0), oC a mo co le), ((a 3), iA cI K), ((a 4), iA cI Qa), ((a 5), iA cI La), ((a 6), iA cI Ha), ((a 7), iA cI Ma), ((a 8), iA cI Ba), ((a 9), iA cI Ca), ((a 10), iA cI Da), ((a 11), iA cI Fa), ((a 12), iA cI Wa)])) (va_Qi (fun (_ : Int32) (_ : Unit) => False) (fun _ _ => True) No) (vx_X (fun _ : Unit => True) (fun E _ _ => (E = "java/lang/IndexOutOfBoundsException" ∧ cdSail k x = 1) ∨ (E = "java/lang/IllegalStateException" ∧ cdSail k x = 2)) No) 1 6 No := by
  refine vx_ofW (cc := cX1_sail) (maxL := 2) (ret := (some .int)) (by decide) rfl ?_
  intro p e s m args below meth c s₁ B hml htb hv
  obtain ⟨rfl, ⟨hP, hK, hN⟩, hE, hX, hZ⟩ := hv
  have hx := B.exec
  have hb := B.bytes
  have hr := B.returns
  have hlocks := B.notSynchronized
  have hts := atoms_spec (ws := wsX1_sail) B.pre
  have hown : s.vm.findClass RX1 = some m.cls := findClass_of_methodNamed B.named
  have hS : va_S No s.heap s.heap [] := va_S.rf
  have FX : CallFix p m c cX1_sail 2 s ([.ref h, .int x] : List Value).toArray wsX1_sail RX1 := ⟨hx, hb, hml, hown, hts⟩
  have hl := lv_entry ([.ref h, .int x]) (n := 2) (Nat.le_of_ble_eq_true rfl)
  rw [lg_entry_eq]
  generalize (lg_sl ([.ref h, .int x]) ++ List.replicate (2 - (lg_sl ([.ref h, .int x])).length) Slot.unset).toArray = ls at hl ⊢
  have hl : lv_has ls 2 [(0, .ref h), (1, .int x)] := hl
  refine wq (fun Q hQ => ?_)
  have hzc : 0 + 0 ≤ (headSpec wsX1_sail rmX1_sail_no).room.cells := Nat.zero_le _
  have hzs : 0 + 0 ≤ (headSpec wsX1_sail rmX1_sail_no).room.slots := Nat.zero_le _
  have hf10 := hts (.fieldLink RX1 10 "CanalCity" "now" "LCanalCity$City;") (by decide +kernel)
  have hinX0 : ∀ w ∈ u_ws RX0 TX0 13, w ∈ wsX1_sail := by decide +kernel
  have hinX1 : ∀ w ∈ u_ws RX1 TX1 2, w ∈ wsX1_sail := by decide +kernel
  refine lv_iload_n hx hb dX1_sail_0 rfl (lv_at hl 1 rfl) ?_
  rcases Bool.eq_false_or_eq_true (inB 0 63 x) with hin | hin
  · skip
    refine cr_v (va_runS (As := [.int x]) (rest := []) FX (c_X1_checkNumber_ok l x hin) (va_cwS 1 hts gX1_sail_X1_checkNumber rfl rfl rfl (by decide +kernel) ⟨Nat.le_of_ble_eq_true rfl, Nat.le_of_ble_eq_true rfl⟩) puS rfl rfl hl.1 rfl (lv_room (Nat.le_of_ble_eq_true rfl)) dX1_sail_1 ⟨hzc, hzs⟩) hS hP (fun H locs hP hS => ?_)
    have hxa := num_at hin
    refine lv_aload_n hx hb dX1_sail_4 rfl (lv_at hl 0 rfl) ?_
    refine va_get (D := G) (ci := 1) (v := .ref (a 0)) (C := RX1) (T := TX1) (N := 2) hx hb hts hinX1 hown hK hP 0 rfl rfl 0 (by decide) hf10 (fun _ h9 => h9) rfl dX1_sail_5 ?_
    refine va_getN (host := "CanalCity") (D := G) (ci := 0) (v := .ref (a 3)) (C := RX0) (T := TX0) (N := 13) hx hb hts hinX0 hown hK hP 1 rfl rfl 3 (by decide) (va_Nw.use rfl (NW_at hN 1 rfl)) (fun _ h9 => h9) rfl dX1_sail_8 ?_
    refine lv_iload_n hx hb dX1_sail_11 rfl (lv_at hl 1 rfl) ?_
    refine tpi (x' := nI x.toNatClampNeg) (hxa.2) ?_
    refine va_iald hx hb hK hP 2 0 rfl rfl (vp_in_nI hxa.1 (by decide)) dX1_sail_12 ?_
    refine tpi (x' := K (x.toNatClampNeg)) (congrArg K (nI_clamp (by omega))) ?_
    refine tpi (x' := k x.toNatClampNeg) (hk _ hxa.1) ?_
    refine cr_i (va_runS (As := [.int (k x.toNatClampNeg)]) (rest := []) FX (c_X1_isWater l (k x.toNatClampNeg)) (va_cwS 1 hts gX1_sail_X1_isWater rfl rfl rfl (by decide +kernel) ⟨Nat.le_of_ble_eq_true rfl, Nat.le_of_ble_eq_true rfl⟩) puS rfl rfl hl.1 rfl (lv_room (Nat.le_of_ble_eq_true rfl)) dX1_sail_13 ⟨hzc, hzs⟩) hS hP (fun H locs hP hS => ?_)
    have hl2 : wtr (k x.toNatClampNeg) = false := Bool.eq_false_iff.mpr (fun h9 => hcd (by unfold cdSail; rw [if_pos hin, if_pos h9]))
    refine tpi (x' := 0) (by rw [hl2]; rfl) ?_
    refine lv_if_ne (tgt := 29) hx hb dX1_sail_16 (by decide) (fun c => absurd (rfl) c) (fun _ => ?_)
    obtain ⟨sa, hstr⟩ := hE.2.2.2.2.2.2.2.2.2.2.2.2.2.1
    subst hQ
    exact vx_throwS (A := No) (names := ["java/lang/RuntimeException", "java/lang/Exception"]) hx hb hst hown (by decide +kernel) (by decide +kernel) (hts (.classLink RX1 27 "java/lang/IllegalStateException") (by decide +kernel)) (hts (.initialized "java/lang/IllegalStateException") (by decide +kernel)) hstr (nong hX atS_ng (fun w9 hw9 => hts w9 (by first | exact List.mem_cons_of_mem _ (List.mem_append_right _ hw9) | exact List.mem_cons_of_mem _ (List.mem_append_left _ (List.mem_append_right _ hw9)) | exact List.mem_cons_of_mem _ (List.mem_append_left _ (List.mem_append_left _ (List.mem_append_right _ hw9))) | exact List.mem_cons_of_mem _ (List.mem_append_left _ (List.mem_append_left _ (List.mem_append_left _ (List.mem_append_right _ hw9))))))) goS hZ.1 hZ.2 hS (hl.1.trans hml.symm) dX1_sail_19 dX1_sail_22 dX1_sail_23 dX1_sail_25 dX1_sail_28 (fun x9 hx9 => (htb x9 hx9).elim) (by decide) (Nat.le_of_ble_eq_true rfl) (Nat.le_of_ble_eq_true rfl) (Nat.le_of_ble_eq_true rfl) hlocks (fun t9 ht9 hz9 hk9 => ⟨(), trivial, Or.inr (⟨rfl, by unfold cdSail; rw [if_pos hin, if_neg (fun h9 => by rw [hl2] at h9; exact absurd h9 (by decide))]⟩), Nat.le_trans hS.1 hz9, fun q9 hq9 hn9 => (hk9 q9 (Nat.lt_of_lt_of_le hq9 hS.1)).trans (hS.2.1 q9 hq9 hn9)⟩) hS.2.2 (Nat.le_of_ble_eq_true rfl) (Nat.le_of_ble_eq_true rfl)
  · skip
    refine xr_v (vx_runS (As := [.int x]) (rest := []) FX (c_X1_checkNumber_no l G cI hst x hin) (va_cwS 1 hts gX1_sail_X1_checkNumber rfl rfl rfl (by decide +kernel) ⟨Nat.le_of_ble_eq_true rfl, Nat.le_of_ble_eq_true rfl⟩) (xrS hK hP hN hE hX hZ hS [] rfl) rfl rfl hl.1 rfl (lv_room (Nat.le_of_ble_eq_true rfl)) dX1_sail_1 ⟨Nat.le_of_ble_eq_true rfl, Nat.le_of_ble_eq_true rfl⟩) hS hP (fun E ce q9 H locs hcE hP hS h1 h2 h3 => ?_)
    subst hQ
    exact vx_out (fun x9 hx9 => (htb x9 hx9).elim) hlocks h1 h2 h3 (fun t9 ht9 hW9 => ⟨(), trivial, (Or.inl (⟨hcE, by unfold cdSail; rw [if_neg (fun h9 => by rw [hin] at h9; exact absurd h9 (by decide))]⟩)), hS.F ht9⟩) hS.2.2 (Nat.le_of_ble_eq_true rfl) (Nat.le_of_ble_eq_true rfl)

def rmX1_pass_no : Room := { frames := 7, cells := 1, slots := 6, locals := 110 }
set_option maxHeartbeats 4000000 in
set_option maxRecDepth 100000 in
theorem c_X1_pass_no (l : Launch) (G : va_G) (cI : ClassId) (hst : l.stackTraces = false) (h : Nat) (a t : Nat → Nat) (mo co le : Int32) (K Qa La Ha Ma Ba Ca Da Fa Wa k : Nat → Int32) (n9 : Int32) (hk : eqK K k) (hcd : ¬ cdPass n9 = 0) : vx_Met l yX1_pass wsX1_pass rmX1_pass_no (va_Pc [.ref h, .int n9] (XrP G cI [(h, oX a t), ((a 0), oC a mo co le), ((a 3), iA cI K), ((a 4), iA cI Qa), ((a 5), iA cI La), ((a 6), iA cI Ha), ((a 7), iA cI Ma), ((a 8), iA cI Ba), ((a 9), iA cI Ca), ((a 10), iA cI Da), ((a 11), iA cI Fa), ((a 12), iA cI Wa)])) (va_Qi (fun (_ : Int32) (_ : Unit) => False) (fun _ _ => True) No) (vx_X (fun _ : Unit => True) (fun E _ _ => (E = "java/lang/IllegalArgumentException" ∧ cdPass n9 = 1)) No) 1 6 No := by
  refine vx_ofW (cc := cX1_pass) (maxL := 2) (ret := (some .int)) (by decide) rfl ?_
  intro p e s m args below meth c s₁ B hml htb hv
  obtain ⟨rfl, ⟨hP, hK, hN⟩, hE, hX, hZ⟩ := hv
  have hx := B.exec
  have hb := B.bytes
  have hr := B.returns
  have hlocks := B.notSynchronized
  have hts := atoms_spec (ws := wsX1_pass) B.pre
  have hown : s.vm.findClass RX1 = some m.cls := findClass_of_methodNamed B.named
  have hS : va_S No s.heap s.heap [] := va_S.rf
  have FX : CallFix p m c cX1_pass 2 s ([.ref h, .int n9] : List Value).toArray wsX1_pass RX1 := ⟨hx, hb, hml, hown, hts⟩
  have hl := lv_entry ([.ref h, .int n9]) (n := 2) (Nat.le_of_ble_eq_true rfl)
  rw [lg_entry_eq]
  generalize (lg_sl ([.ref h, .int n9]) ++ List.replicate (2 - (lg_sl ([.ref h, .int n9])).length) Slot.unset).toArray = ls at hl ⊢
  have hl : lv_has ls 2 [(0, .ref h), (1, .int n9)] := hl
  refine wq (fun Q hQ => ?_)
  have hzc : 0 + 0 ≤ (headSpec wsX1_pass rmX1_pass_no).room.cells := Nat.zero_le _
  have hzs : 0 + 0 ≤ (headSpec wsX1_pass rmX1_pass_no).room.slots := Nat.zero_le _
  refine lv_iload_n hx hb dX1_pass_0 rfl (lv_at hl 1 rfl) ?_
  have hin : inB 1 60 n9 = false := Bool.eq_false_iff.mpr (fun h9 => hcd (by unfold cdPass; rw [if_pos h9]))
  refine xr_v (vx_runS (As := [.int n9]) (rest := []) FX (c_X1_checkMonths_no l G cI hst n9 hin) (va_cwS 1 hts gX1_pass_X1_checkMonths rfl rfl rfl (by decide +kernel) ⟨Nat.le_of_ble_eq_true rfl, Nat.le_of_ble_eq_true rfl⟩) (xrS hK hP hN hE hX hZ hS [] rfl) rfl rfl hl.1 rfl (lv_room (Nat.le_of_ble_eq_true rfl)) dX1_pass_1 ⟨Nat.le_of_ble_eq_true rfl, Nat.le_of_ble_eq_true rfl⟩) hS hP (fun E ce q9 H locs hcE hP hS h1 h2 h3 => ?_)
  subst hQ
  exact vx_out (fun x9 hx9 => (htb x9 hx9).elim) hlocks h1 h2 h3 (fun t9 ht9 hW9 => ⟨(), trivial, (⟨hcE, by unfold cdPass; rw [if_neg (by rw [hin]; decide)]⟩), hS.F ht9⟩) hS.2.2 (Nat.le_of_ble_eq_true rfl) (Nat.le_of_ble_eq_true rfl)

def rmX1_foresee_no : Room := { frames := 7, cells := 1, slots := 6, locals := 110 }
set_option maxHeartbeats 4000000 in
set_option maxRecDepth 100000 in
theorem c_X1_foresee_no (l : Launch) (G : va_G) (cI : ClassId) (hst : l.stackTraces = false) (h : Nat) (a t : Nat → Nat) (mo co le : Int32) (K Qa La Ha Ma Ba Ca Da Fa Wa k : Nat → Int32) (n9 w : Int32) (hk : eqK K k) (hcd : ¬ cdFore n9 w = 0) : vx_Met l yX1_foresee wsX1_foresee rmX1_foresee_no (va_Pc [.ref h, .int n9, .int w] (XrP G cI [(h, oX a t), ((a 0), oC a mo co le), ((a 3), iA cI K), ((a 4), iA cI Qa), ((a 5), iA cI La), ((a 6), iA cI Ha), ((a 7), iA cI Ma), ((a 8), iA cI Ba), ((a 9), iA cI Ca), ((a 10), iA cI Da), ((a 11), iA cI Fa), ((a 12), iA cI Wa)])) (va_Qi (fun (_ : Int32) (_ : Unit) => False) (fun _ _ => True) No) (vx_X (fun _ : Unit => True) (fun E _ _ => (E = "java/lang/IllegalArgumentException" ∧ cdFore n9 w = 1) ∨ (E = "java/lang/IndexOutOfBoundsException" ∧ cdFore n9 w = 2)) No) 1 6 No := by
  refine vx_ofW (cc := cX1_foresee) (maxL := 3) (ret := (some .int)) (by decide) rfl ?_
  intro p e s m args below meth c s₁ B hml htb hv
  obtain ⟨rfl, ⟨hP, hK, hN⟩, hE, hX, hZ⟩ := hv
  have hx := B.exec
  have hb := B.bytes
  have hr := B.returns
  have hlocks := B.notSynchronized
  have hts := atoms_spec (ws := wsX1_foresee) B.pre
  have hown : s.vm.findClass RX1 = some m.cls := findClass_of_methodNamed B.named
  have hS : va_S No s.heap s.heap [] := va_S.rf
  have FX : CallFix p m c cX1_foresee 3 s ([.ref h, .int n9, .int w] : List Value).toArray wsX1_foresee RX1 := ⟨hx, hb, hml, hown, hts⟩
  have hl := lv_entry ([.ref h, .int n9, .int w]) (n := 3) (Nat.le_of_ble_eq_true rfl)
  rw [lg_entry_eq]
  generalize (lg_sl ([.ref h, .int n9, .int w]) ++ List.replicate (3 - (lg_sl ([.ref h, .int n9, .int w])).length) Slot.unset).toArray = ls at hl ⊢
  have hl : lv_has ls 3 [(0, .ref h), (1, .int n9), (2, .int w)] := hl
  refine wq (fun Q hQ => ?_)
  have hzc : 0 + 0 ≤ (headSpec wsX1_foresee rmX1_foresee_no).room.cells := Nat.zero_le _
  have hzs : 0 + 0 ≤ (headSpec wsX1_foresee rmX1_foresee_no).room.slots := Nat.zero_le _
  refine lv_iload_n hx hb dX1_foresee_0 rfl (lv_at hl 1 rfl) ?_
  rcases Bool.eq_false_or_eq_true (inB 1 60 n9) with hin | hin
  · skip
    refine cr_v (va_runS (As := [.int n9]) (rest := []) FX (c_X1_checkMonths_ok l n9 hin) (va_cwS 1 hts gX1_foresee_X1_checkMonths rfl rfl rfl (by decide +kernel) ⟨Nat.le_of_ble_eq_true rfl, Nat.le_of_ble_eq_true rfl⟩) puS rfl rfl hl.1 rfl (lv_room (Nat.le_of_ble_eq_true rfl)) dX1_foresee_1 ⟨hzc, hzs⟩) hS hP (fun H locs hP hS => ?_)
    refine lv_iload_n hx hb dX1_foresee_4 rfl (lv_at hl 2 rfl) ?_
    refine lv_iconst (v := 1) hx hb dX1_foresee_5 (by decide) ?_
    refine lv_icmp_lt (tgt := 15) hx hb dX1_foresee_6 (by decide) (fun c1 => ?_) (fun c1 => ?_)
    · skip
      obtain ⟨sa, hstr⟩ := hE.2.2.2.2.2.2.2.2.2.2.2.2.2.2
      subst hQ
      exact vx_throwS (A := No) (names := ["java/lang/RuntimeException", "java/lang/Exception"]) hx hb hst hown (by decide +kernel) (by decide +kernel) (hts (.classLink RX1 69 "java/lang/IndexOutOfBoundsException") (by decide +kernel)) (hts (.initialized "java/lang/IndexOutOfBoundsException") (by decide +kernel)) hstr (nong hX atI_ng (fun w9 hw9 => hts w9 (by first | exact List.mem_cons_of_mem _ (List.mem_append_right _ hw9) | exact List.mem_cons_of_mem _ (List.mem_append_left _ (List.mem_append_right _ hw9)) | exact List.mem_cons_of_mem _ (List.mem_append_left _ (List.mem_append_left _ (List.mem_append_right _ hw9))) | exact List.mem_cons_of_mem _ (List.mem_append_left _ (List.mem_append_left _ (List.mem_append_left _ (List.mem_append_right _ hw9))))))) goI hZ.1 hZ.2 hS (hl.1.trans hml.symm) dX1_foresee_15 dX1_foresee_18 dX1_foresee_19 dX1_foresee_21 dX1_foresee_24 (fun x9 hx9 => (htb x9 hx9).elim) (by decide) (Nat.le_of_ble_eq_true rfl) (Nat.le_of_ble_eq_true rfl) (Nat.le_of_ble_eq_true rfl) hlocks (fun t9 ht9 hz9 hk9 => ⟨(), trivial, Or.inr (⟨rfl, by unfold cdFore; rw [if_pos hin, if_neg (fun h9 => absurd c1 (Int32.not_lt.mpr (inB_t h9).1))]⟩), Nat.le_trans hS.1 hz9, fun q9 hq9 hn9 => (hk9 q9 (Nat.lt_of_lt_of_le hq9 hS.1)).trans (hS.2.1 q9 hq9 hn9)⟩) hS.2.2 (Nat.le_of_ble_eq_true rfl) (Nat.le_of_ble_eq_true rfl)
    · skip
      refine lv_iload_n hx hb dX1_foresee_9 rfl (lv_at hl 2 rfl) ?_
      refine lv_bipush (v := 12) hx hb dX1_foresee_10 (by decide) ?_
      refine lv_icmp_le (tgt := 25) hx hb dX1_foresee_12 (by decide) (fun c => absurd c (fun c2 => hcd (by unfold cdFore; rw [if_pos hin, if_pos (by unfold inB; rw [decide_eq_true (Int32.not_lt.mp c1), decide_eq_true c2]; rfl)]))) (fun _ => ?_)
      obtain ⟨sa, hstr⟩ := hE.2.2.2.2.2.2.2.2.2.2.2.2.2.2
      subst hQ
      exact vx_throwS (A := No) (names := ["java/lang/RuntimeException", "java/lang/Exception"]) hx hb hst hown (by decide +kernel) (by decide +kernel) (hts (.classLink RX1 69 "java/lang/IndexOutOfBoundsException") (by decide +kernel)) (hts (.initialized "java/lang/IndexOutOfBoundsException") (by decide +kernel)) hstr (nong hX atI_ng (fun w9 hw9 => hts w9 (by first | exact List.mem_cons_of_mem _ (List.mem_append_right _ hw9) | exact List.mem_cons_of_mem _ (List.mem_append_left _ (List.mem_append_right _ hw9)) | exact List.mem_cons_of_mem _ (List.mem_append_left _ (List.mem_append_left _ (List.mem_append_right _ hw9))) | exact List.mem_cons_of_mem _ (List.mem_append_left _ (List.mem_append_left _ (List.mem_append_left _ (List.mem_append_right _ hw9))))))) goI hZ.1 hZ.2 hS (hl.1.trans hml.symm) dX1_foresee_15 dX1_foresee_18 dX1_foresee_19 dX1_foresee_21 dX1_foresee_24 (fun x9 hx9 => (htb x9 hx9).elim) (by decide) (Nat.le_of_ble_eq_true rfl) (Nat.le_of_ble_eq_true rfl) (Nat.le_of_ble_eq_true rfl) hlocks (fun t9 ht9 hz9 hk9 => ⟨(), trivial, Or.inr (⟨rfl, by unfold cdFore; rw [if_pos hin, if_neg (fun h9 => hcd (by unfold cdFore; rw [if_pos hin, if_pos h9]))]⟩), Nat.le_trans hS.1 hz9, fun q9 hq9 hn9 => (hk9 q9 (Nat.lt_of_lt_of_le hq9 hS.1)).trans (hS.2.1 q9 hq9 hn9)⟩) hS.2.2 (Nat.le_of_ble_eq_true rfl) (Nat.le_of_ble_eq_true rfl)
  · skip
    refine xr_v (vx_runS (As := [.int n9]) (rest := []) FX (c_X1_checkMonths_no l G cI hst n9 hin) (va_cwS 1 hts gX1_foresee_X1_checkMonths rfl rfl rfl (by decide +kernel) ⟨Nat.le_of_ble_eq_true rfl, Nat.le_of_ble_eq_true rfl⟩) (xrS hK hP hN hE hX hZ hS [] rfl) rfl rfl hl.1 rfl (lv_room (Nat.le_of_ble_eq_true rfl)) dX1_foresee_1 ⟨Nat.le_of_ble_eq_true rfl, Nat.le_of_ble_eq_true rfl⟩) hS hP (fun E ce q9 H locs hcE hP hS h1 h2 h3 => ?_)
    subst hQ
    exact vx_out (fun x9 hx9 => (htb x9 hx9).elim) hlocks h1 h2 h3 (fun t9 ht9 hW9 => ⟨(), trivial, (Or.inl (⟨hcE, by unfold cdFore; rw [if_neg (by rw [hin]; decide)]⟩)), hS.F ht9⟩) hS.2.2 (Nat.le_of_ble_eq_true rfl) (Nat.le_of_ble_eq_true rfl)

def rmX1_best_no : Room := { frames := 7, cells := 1, slots := 6, locals := 110 }
set_option maxHeartbeats 4000000 in
set_option maxRecDepth 100000 in
theorem c_X1_best_no (l : Launch) (G : va_G) (cI : ClassId) (hst : l.stackTraces = false) (h : Nat) (a t : Nat → Nat) (mo co le : Int32) (K Qa La Ha Ma Ba Ca Da Fa Wa k : Nat → Int32) (v : Int32) (hk : eqK K k) (hcd : ¬ cdBest v = 0) : vx_Met l yX1_best wsX1_best rmX1_best_no (va_Pc [.ref h, .int v] (XrP G cI [(h, oX a t), ((a 0), oC a mo co le), ((a 3), iA cI K), ((a 4), iA cI Qa), ((a 5), iA cI La), ((a 6), iA cI Ha), ((a 7), iA cI Ma), ((a 8), iA cI Ba), ((a 9), iA cI Ca), ((a 10), iA cI Da), ((a 11), iA cI Fa), ((a 12), iA cI Wa)])) (va_Qi (fun (_ : Int32) (_ : Unit) => False) (fun _ _ => True) No) (vx_X (fun _ : Unit => True) (fun E _ _ => (E = "java/lang/IllegalArgumentException" ∧ cdBest v = 1)) No) 1 6 No := by
  refine vx_ofW (cc := cX1_best) (maxL := 6) (ret := (some .int)) (by decide) rfl ?_
  intro p e s m args below meth c s₁ B hml htb hv
  obtain ⟨rfl, ⟨hP, hK, hN⟩, hE, hX, hZ⟩ := hv
  have hx := B.exec
  have hb := B.bytes
  have hr := B.returns
  have hlocks := B.notSynchronized
  have hts := atoms_spec (ws := wsX1_best) B.pre
  have hown : s.vm.findClass RX1 = some m.cls := findClass_of_methodNamed B.named
  have hS : va_S No s.heap s.heap [] := va_S.rf
  have FX : CallFix p m c cX1_best 6 s ([.ref h, .int v] : List Value).toArray wsX1_best RX1 := ⟨hx, hb, hml, hown, hts⟩
  have hl := lv_entry ([.ref h, .int v]) (n := 6) (Nat.le_of_ble_eq_true rfl)
  rw [lg_entry_eq]
  generalize (lg_sl ([.ref h, .int v]) ++ List.replicate (6 - (lg_sl ([.ref h, .int v])).length) Slot.unset).toArray = ls at hl ⊢
  have hl : lv_has ls 6 [(0, .ref h), (1, .int v)] := hl
  refine wq (fun Q hQ => ?_)
  have hzc : 0 + 0 ≤ (headSpec wsX1_best rmX1_best_no).room.cells := Nat.zero_le _
  have hzs : 0 + 0 ≤ (headSpec wsX1_best rmX1_best_no).room.slots := Nat.zero_le _
  refine lv_iload_n hx hb dX1_best_0 rfl (lv_at hl 1 rfl) ?_
  have hin : inB 3 5 v = false := Bool.eq_false_iff.mpr (fun h9 => hcd (by unfold cdBest; rw [if_pos h9]))
  refine xr_v (vx_runS (As := [.int v]) (rest := []) FX (c_X1_checkBuilding_no l G cI hst v hin) (va_cwS 1 hts gX1_best_X1_checkBuilding rfl rfl rfl (by decide +kernel) ⟨Nat.le_of_ble_eq_true rfl, Nat.le_of_ble_eq_true rfl⟩) (xrS hK hP hN hE hX hZ hS [] rfl) rfl rfl hl.1 rfl (lv_room (Nat.le_of_ble_eq_true rfl)) dX1_best_1 ⟨Nat.le_of_ble_eq_true rfl, Nat.le_of_ble_eq_true rfl⟩) hS hP (fun E ce q9 H locs hcE hP hS h1 h2 h3 => ?_)
  subst hQ
  exact vx_out (fun x9 hx9 => (htb x9 hx9).elim) hlocks h1 h2 h3 (fun t9 ht9 hW9 => ⟨(), trivial, (⟨hcE, by unfold cdBest; rw [if_neg (by rw [hin]; decide)]⟩), hS.F ht9⟩) hS.2.2 (Nat.le_of_ble_eq_true rfl) (Nat.le_of_ble_eq_true rfl)

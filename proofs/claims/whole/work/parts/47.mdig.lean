def rmX2_mean : Room := { frames := 7, cells := 0, slots := 0, locals := 158 }
set_option maxHeartbeats 4000000 in
set_option maxRecDepth 100000 in
theorem c_X2_mean (l : Launch) (G : va_G) (cI : ClassId) (b : Nat → Nat) (th mo co le : Int32) (K Qm Op Lm Hm Mm Rw St k : Nat → Int32) (hk : eqK K k) (hkd : ∀ x, x < 64 → kd (k x)) (sz : Nat) : MetD lw_cs l yX2_mean wsX2_mean rmX2_mean (va_Pc [.ref (b 0)] (WrP G cI [((b 0), oM b th mo co le), ((b 4), iA cI K), ((b 7), iA cI Qm), ((b 8), iA cI Op), ((b 9), iA cI Lm), ((b 10), iA cI Hm), ((b 11), iA cI Mm), ((b 12), iA cI Rw), ((b 13), iA cI St)] sz)) (va_Qd (fun (r : UInt64) (u : (Nat → Int32) × (Nat → Int32) × (Nat → Int32) × (Nat → Int32) × (Nat → Int32) × (Nat → Int32) × (Nat → Int32)) => mnR k r) (WrB G [((b 0), oM b th mo co le), ((b 4), iA cI K), ((b 7), iA cI Qm), ((b 8), iA cI Op), ((b 9), iA cI Lm), ((b 10), iA cI Hm), ((b 11), iA cI Mm), ((b 12), iA cI Rw), ((b 13), iA cI St)] sz (fun u => [(b 0, oM b 0 mo co le), (b 4, iA cI K), (b 7, iA cI (u.1)), (b 8, iA cI (u.2.1)), (b 9, iA cI (u.2.2.1)), (b 10, iA cI (u.2.2.2.1)), (b 11, iA cI (u.2.2.2.2.1)), (b 12, iA cI (u.2.2.2.2.2.1)), (b 13, iA cI (u.2.2.2.2.2.2))])) (va_A [((b 0), oM b th mo co le), ((b 4), iA cI K), ((b 7), iA cI Qm), ((b 8), iA cI Op), ((b 9), iA cI Lm), ((b 10), iA cI Hm), ((b 11), iA cI Mm), ((b 12), iA cI Rw), ((b 13), iA cI St)] sz)) 0 0 (va_A [((b 0), oM b th mo co le), ((b 4), iA cI K), ((b 7), iA cI Qm), ((b 8), iA cI Op), ((b 9), iA cI Lm), ((b 10), iA cI Hm), ((b 11), iA cI Mm), ((b 12), iA cI Rw), ((b 13), iA cI St)] sz) := by
  refine MetD.ofW (cc := cX2_mean) (maxL := 2) (ret := (some .double)) (by decide) rfl ?_
  intro p e s m args below meth c s₁ B hml hv hd0
  obtain ⟨rfl, hsz, hP, hK, hD0, hN⟩ := hv
  have hx := B.exec
  have hb := B.bytes
  have hr := B.returns
  have hlocks := B.notSynchronized
  have hts := atoms_spec (ws := wsX2_mean) B.pre
  have hown : s.vm.findClass RX2 = some m.cls := findClass_of_methodNamed B.named
  subst hsz
  have hD := hD0.self (sz := s.heap.size)
  have hA : ∀ q : Nat, s.heap.size ≤ q → va_A [((b 0), oM b th mo co le), ((b 4), iA cI K), ((b 7), iA cI Qm), ((b 8), iA cI Op), ((b 9), iA cI Lm), ((b 10), iA cI Hm), ((b 11), iA cI Mm), ((b 12), iA cI Rw), ((b 13), iA cI St)] s.heap.size q := fun q h => Or.inr h
  have hS : va_S (va_A [((b 0), oM b th mo co le), ((b 4), iA cI K), ((b 7), iA cI Qm), ((b 8), iA cI Op), ((b 9), iA cI Lm), ((b 10), iA cI Hm), ((b 11), iA cI Mm), ((b 12), iA cI Rw), ((b 13), iA cI St)] s.heap.size) s.heap s.heap [] := va_S.rf
  obtain ⟨A, hAe⟩ : ∃ A, A = va_A [((b 0), oM b th mo co le), ((b 4), iA cI K), ((b 7), iA cI Qm), ((b 8), iA cI Op), ((b 9), iA cI Lm), ((b 10), iA cI Hm), ((b 11), iA cI Mm), ((b 12), iA cI Rw), ((b 13), iA cI St)] s.heap.size := ⟨_, rfl⟩
  rw [← hAe] at hD hA hS
  have hts := dr_words hts s.drawn
  have hN : NW (s.setDrawn s.drawn) := NW_same (u := s) (U := s.setDrawn s.drawn) rfl hN
  have hK : va_K G vwCl (TY cI) (s.setDrawn s.drawn) := hK
  have FX : CallFix p m c cX2_mean 2 (s.setDrawn s.drawn) ([.ref (b 0)] : List Value).toArray wsX2_mean RX2 := ⟨hx, hb, hml, hown, hts⟩
  have hl := lv_entry ([.ref (b 0)]) (n := 2) (Nat.le_of_ble_eq_true rfl)
  rw [lg_entry_eq]
  generalize (lg_sl ([.ref (b 0)]) ++ List.replicate (2 - (lg_sl ([.ref (b 0)])).length) Slot.unset).toArray = ls at hl ⊢
  have hl : lv_has ls 2 [(0, .ref (b 0))] := hl
  refine wq (fun Q hQ => ?_)
  have hzc : 0 + 0 ≤ (headSpec wsX2_mean rmX2_mean).room.cells := Nat.zero_le _
  have hzs : 0 + 0 ≤ (headSpec wsX2_mean rmX2_mean).room.slots := Nat.zero_le _
  have hf13 := hts (.fieldLink RX2 13 "CanalCityModel" "kind" "[I") (by decide +kernel)
  have hf44 := hts (.fieldLink RX2 44 "CanalCityModel" "thrown" "I") (by decide +kernel)
  have hinX2 : ∀ w ∈ u_ws RX2 TX2 14, w ∈ wsX2_mean := by decide +kernel
  refine lv_aload_n hx hb dX2_mean_0 rfl (lv_at hl 0 rfl) ?_
  refine lv_iconst (v := 0) hx hb dX2_mean_1 (by decide) ?_
  refine va_put (D := G) (ci := 2) (v := .int 0) (ty := .int) (C := RX2) (T := TX2) (N := 14) hx hb hts hinX2 tyX2 tyX2_ok nmX2 hown hK hP hD hS 0 rfl rfl 0 (by decide) hf44 (fun _ h9 => h9) rfl (by decide +kernel) rfl rfl (Nat.le_of_ble_eq_true rfl) dX2_mean_2 (fun H locs hP hD hS => ?_)
  have hP : va_P G vwCl [((b 0), oM b 0 mo co le), ((b 4), iA cI K), ((b 7), iA cI Qm), ((b 8), iA cI Op), ((b 9), iA cI Lm), ((b 10), iA cI Hm), ((b 11), iA cI Mm), ((b 12), iA cI Rw), ((b 13), iA cI St)] H := hP
  have hD : va_D A [((b 0), oM b 0 mo co le), ((b 4), iA cI K), ((b 7), iA cI Qm), ((b 8), iA cI Op), ((b 9), iA cI Lm), ((b 10), iA cI Hm), ((b 11), iA cI Mm), ((b 12), iA cI Rw), ((b 13), iA cI St)] := hD
  refine lv_aload_n hx hb dX2_mean_5 rfl (lv_at hl 0 rfl) ?_
  refine lv_aload_n hx hb dX2_mean_6 rfl (lv_at hl 0 rfl) ?_
  refine va_get (D := G) (ci := 2) (v := .ref (b 4)) (C := RX2) (T := TX2) (N := 14) hx hb hts hinX2 hown hK hP 0 rfl rfl 4 (by decide) hf13 (fun _ h9 => h9) rfl dX2_mean_7 ?_
  refine cw_i (wr := []) (va_runV (As := [.ref (b 4)]) (rest := []) FX (c_X2_look l G cI b (b 4) 0 mo co le K Qm Op Lm Hm Mm Rw St k hk hkd _) (cwV 1 hts gX2_mean_X2_look rfl rfl rfl (by decide +kernel) ⟨Nat.le_of_ble_eq_true rfl, Nat.le_of_ble_eq_true rfl⟩) (wrV hK hP hD hN [0, 1, 2, 3, 4, 5, 6, 7, 8] (by decide) rfl rfl (ci := 2) (q0 := 0) rfl rfl) rfl rfl hl.1 rfl (lv_room (Nat.le_of_ble_eq_true rfl)) dX2_mean_10 ⟨hzc, hzs⟩) hS hP hD hA [0, 1, 2, 3, 4, 5, 6, 7, 8] [] rfl rfl (by decide) (by decide) (fun r9 u H locs hw hP hD hS => ?_)
  obtain ⟨Q1, P1, L1, H1, M1, R1, S1⟩ := u
  obtain ⟨hr9, hLK⟩ := hw
  have hP := hP.sub (ws' := [((b 0), oM b 0 mo co le), ((b 4), iA cI K), ((b 7), iA cI Q1), ((b 8), iA cI P1), ((b 9), iA cI L1), ((b 10), iA cI H1), ((b 11), iA cI M1), ((b 12), iA cI R1), ((b 13), iA cI S1)]) [0, 1, 2, 3, 4, 5, 6, 7, 8] rfl
  have hD := hD.sub (ws' := [((b 0), oM b 0 mo co le), ((b 4), iA cI K), ((b 7), iA cI Q1), ((b 8), iA cI P1), ((b 9), iA cI L1), ((b 10), iA cI H1), ((b 11), iA cI M1), ((b 12), iA cI R1), ((b 13), iA cI S1)]) [0, 1, 2, 3, 4, 5, 6, 7, 8] (by decide) rfl
  refine lv_pop hx hb dX2_mean_13 rfl ?_
  refine lv_aload_n hx hb dX2_mean_14 rfl (lv_at hl 0 rfl) ?_
  refine va_get (D := G) (ci := 2) (v := .ref (b 4)) (C := RX2) (T := TX2) (N := 14) hx hb hts hinX2 hown hK hP 0 rfl rfl 4 (by decide) hf13 (fun _ h9 => h9) rfl dX2_mean_15 ?_
  refine lv_iconst (v := 3) hx hb dX2_mean_18 (by decide) ?_
  refine cr_i (va_runS (As := [.ref (b 4), .int 3]) (rest := []) FX (c_X2_many l G cI (b 4) K k 3 hk) (va_cwS 2 hts gX2_mean_X2_many rfl rfl rfl (by decide +kernel) ⟨Nat.le_of_ble_eq_true rfl, Nat.le_of_ble_eq_true rfl⟩) (rdS hK hP hN [1] rfl) rfl rfl hl.1 rfl (lv_room (Nat.le_of_ble_eq_true rfl)) dX2_mean_19 ⟨hzc, hzs⟩) hS hP (fun H locs hP hS => ?_)
  refine lv_istore_n (lv' := [(1, .int (many k 3)), (0, .ref (b 0))]) hx hb dX2_mean_22 rfl hl (by decide) rfl (fun ls hl => ?_)
  refine lv_iload_n hx hb dX2_mean_23 rfl (lv_at hl 0 rfl) ?_
  refine lv_if_ne (tgt := 31) hx hb dX2_mean_24 (by decide) (fun c9 => ?_) (fun c9 => ?_)
  · skip
    refine lv_aload_n hx hb dX2_mean_31 rfl (lv_at hl 1 rfl) ?_
    refine lv_aload_n hx hb dX2_mean_32 rfl (lv_at hl 1 rfl) ?_
    refine va_get (D := G) (ci := 2) (v := .ref (b 4)) (C := RX2) (T := TX2) (N := 14) hx hb hts hinX2 hown hK hP 0 rfl rfl 4 (by decide) hf13 (fun _ h9 => h9) rfl dX2_mean_33 ?_
    refine lv_iconst (v := 0) hx hb dX2_mean_36 (by decide) ?_
    refine tpi (x' := b2i false) (rfl) ?_
    refine cr_i (va_runV (As := [.ref (b 4), .int (b2i false)]) (rest := []) FX (c_X2_sum l G cI b (b 4) 0 mo co le K Q1 P1 L1 H1 M1 R1 S1 k false hk hkd hLK) (cwV 2 hts gX2_mean_X2_sum rfl rfl rfl (by decide +kernel) ⟨Nat.le_of_ble_eq_true rfl, Nat.le_of_ble_eq_true rfl⟩) (rdV hK hP hN [0, 1, 2, 3, 4, 5, 6, 7, 8] rfl (ci := 2) (q0 := 0) rfl rfl) rfl rfl hl.1 rfl (lv_room (Nat.le_of_ble_eq_true rfl)) dX2_mean_37 ⟨hzc, hzs⟩) hS hP (fun H locs hP hS => ?_)
    refine tpi (x' := call k) (rfl) ?_
    refine lv_i2d hx hb dX2_mean_40 ?_
    refine lv_iload_n hx hb dX2_mean_41 rfl (lv_at hl 0 rfl) ?_
    refine lv_i2d hx hb dX2_mean_42 ?_
    refine lv_ddiv_any hd0 lw_bits hx hb dX2_mean_43 (fun r9 d1 hal hd1 => ?_)
    subst hQ
    subst hAe
    refine W.endD hd1 ?_
    exact wr_d (Q1, P1, L1, H1, M1, R1, S1) (by unfold mnR; rw [if_neg c9]; exact hal) hx hb hr hP hD hS hlocks dX2_mean_44
  · skip
    refine lv_dconst0 hx hb dX2_mean_27 ?_
    refine lv_goto (tgt := 44) hx hb dX2_mean_28 (by decide) ?_
    subst hQ
    subst hAe
    refine W.endD hd0 ?_
    exact wr_d (Q1, P1, L1, H1, M1, R1, S1) (by unfold mnR; rw [if_pos c9]) hx hb hr hP hD hS hlocks dX2_mean_44

def rmX2_digest : Room := { frames := 9, cells := 0, slots := 0, locals := 204 }
set_option maxHeartbeats 4000000 in
set_option maxRecDepth 100000 in
theorem c_X2_digest (l : Launch) (G : va_G) (cI : ClassId) (b : Nat → Nat) (th mo co le : Int32) (K Qm Op Lm Hm Mm Rw St k : Nat → Int32) (hk : eqK K k) (hkd : ∀ x, x < 64 → kd (k x)) (sz : Nat) : Met l yX2_digest wsX2_digest rmX2_digest (va_Pc [.ref (b 0)] (WrP G cI [((b 0), oM b th mo co le), ((b 4), iA cI K), ((b 7), iA cI Qm), ((b 8), iA cI Op), ((b 9), iA cI Lm), ((b 10), iA cI Hm), ((b 11), iA cI Mm), ((b 12), iA cI Rw), ((b 13), iA cI St)] sz)) (va_Ql (fun (r : Int64) (u : (Nat → Int32) × (Nat → Int32) × (Nat → Int32) × (Nat → Int32) × (Nat → Int32) × (Nat → Int32) × (Nat → Int32)) => r = dg3 k (dg1 k mo co le 13) 64) (WrB G [((b 0), oM b th mo co le), ((b 4), iA cI K), ((b 7), iA cI Qm), ((b 8), iA cI Op), ((b 9), iA cI Lm), ((b 10), iA cI Hm), ((b 11), iA cI Mm), ((b 12), iA cI Rw), ((b 13), iA cI St)] sz (fun u => [(b 0, oM b 0 mo co le), (b 4, iA cI K), (b 7, iA cI (u.1)), (b 8, iA cI (u.2.1)), (b 9, iA cI (u.2.2.1)), (b 10, iA cI (u.2.2.2.1)), (b 11, iA cI (u.2.2.2.2.1)), (b 12, iA cI (u.2.2.2.2.2.1)), (b 13, iA cI (u.2.2.2.2.2.2))])) (va_A [((b 0), oM b th mo co le), ((b 4), iA cI K), ((b 7), iA cI Qm), ((b 8), iA cI Op), ((b 9), iA cI Lm), ((b 10), iA cI Hm), ((b 11), iA cI Mm), ((b 12), iA cI Rw), ((b 13), iA cI St)] sz)) 0 0 (va_A [((b 0), oM b th mo co le), ((b 4), iA cI K), ((b 7), iA cI Qm), ((b 8), iA cI Op), ((b 9), iA cI Lm), ((b 10), iA cI Hm), ((b 11), iA cI Mm), ((b 12), iA cI Rw), ((b 13), iA cI St)] sz) := by
  refine Met.ofW (cc := cX2_digest) (maxL := 5) (ret := (some .long)) (by decide) rfl ?_
  intro p e s m args below meth c s₁ B hml hv
  obtain ⟨rfl, hsz, hP, hK, hD0, hN⟩ := hv
  have hx := B.exec
  have hb := B.bytes
  have hr := B.returns
  have hlocks := B.notSynchronized
  have hts := atoms_spec (ws := wsX2_digest) B.pre
  have hown : s.vm.findClass RX2 = some m.cls := findClass_of_methodNamed B.named
  subst hsz
  have hD := hD0.self (sz := s.heap.size)
  have hA : ∀ q : Nat, s.heap.size ≤ q → va_A [((b 0), oM b th mo co le), ((b 4), iA cI K), ((b 7), iA cI Qm), ((b 8), iA cI Op), ((b 9), iA cI Lm), ((b 10), iA cI Hm), ((b 11), iA cI Mm), ((b 12), iA cI Rw), ((b 13), iA cI St)] s.heap.size q := fun q h => Or.inr h
  have hS : va_S (va_A [((b 0), oM b th mo co le), ((b 4), iA cI K), ((b 7), iA cI Qm), ((b 8), iA cI Op), ((b 9), iA cI Lm), ((b 10), iA cI Hm), ((b 11), iA cI Mm), ((b 12), iA cI Rw), ((b 13), iA cI St)] s.heap.size) s.heap s.heap [] := va_S.rf
  obtain ⟨A, hAe⟩ : ∃ A, A = va_A [((b 0), oM b th mo co le), ((b 4), iA cI K), ((b 7), iA cI Qm), ((b 8), iA cI Op), ((b 9), iA cI Lm), ((b 10), iA cI Hm), ((b 11), iA cI Mm), ((b 12), iA cI Rw), ((b 13), iA cI St)] s.heap.size := ⟨_, rfl⟩
  rw [← hAe] at hD hA hS
  have FX : CallFix p m c cX2_digest 5 s ([.ref (b 0)] : List Value).toArray wsX2_digest RX2 := ⟨hx, hb, hml, hown, hts⟩
  have hl := lv_entry ([.ref (b 0)]) (n := 5) (Nat.le_of_ble_eq_true rfl)
  rw [lg_entry_eq]
  generalize (lg_sl ([.ref (b 0)]) ++ List.replicate (5 - (lg_sl ([.ref (b 0)])).length) Slot.unset).toArray = ls at hl ⊢
  have hl : lv_has ls 5 [(0, .ref (b 0))] := hl
  refine wq (fun Q hQ => ?_)
  have hzc : 0 + 0 ≤ (headSpec wsX2_digest rmX2_digest).room.cells := Nat.zero_le _
  have hzs : 0 + 0 ≤ (headSpec wsX2_digest rmX2_digest).room.slots := Nat.zero_le _
  have hf13 := hts (.fieldLink RX2 13 "CanalCityModel" "kind" "[I") (by decide +kernel)
  have hf44 := hts (.fieldLink RX2 44 "CanalCityModel" "thrown" "I") (by decide +kernel)
  have hinX2 : ∀ w ∈ u_ws RX2 TX2 14, w ∈ wsX2_digest := by decide +kernel
  refine lv_aload_n hx hb dX2_digest_0 rfl (lv_at hl 0 rfl) ?_
  refine lv_iconst (v := 0) hx hb dX2_digest_1 (by decide) ?_
  refine va_put (D := G) (ci := 2) (v := .int 0) (ty := .int) (C := RX2) (T := TX2) (N := 14) hx hb hts hinX2 tyX2 tyX2_ok nmX2 hown hK hP hD hS 0 rfl rfl 0 (by decide) hf44 (fun _ h9 => h9) rfl (by decide +kernel) rfl rfl (Nat.le_of_ble_eq_true rfl) dX2_digest_2 (fun H locs hP hD hS => ?_)
  have hP : va_P G vwCl [((b 0), oM b 0 mo co le), ((b 4), iA cI K), ((b 7), iA cI Qm), ((b 8), iA cI Op), ((b 9), iA cI Lm), ((b 10), iA cI Hm), ((b 11), iA cI Mm), ((b 12), iA cI Rw), ((b 13), iA cI St)] H := hP
  have hD : va_D A [((b 0), oM b 0 mo co le), ((b 4), iA cI K), ((b 7), iA cI Qm), ((b 8), iA cI Op), ((b 9), iA cI Lm), ((b 10), iA cI Hm), ((b 11), iA cI Mm), ((b 12), iA cI Rw), ((b 13), iA cI St)] := hD
  refine lv_ldc2 hx hb hown (hts (.constantLong RX2 142 1409) (by decide +kernel)) dX2_digest_5 ?_
  refine tpl (x' := dg1 k mo co le 0) (rfl) ?_
  refine lv_lstore_n (lv' := [(1, .long (dg1 k mo co le 0)), (0, .ref (b 0))]) hx hb dX2_digest_8 rfl hl (by decide) rfl (fun ls hl => ?_)
  refine lv_iconst (v := 0) hx hb dX2_digest_9 (by decide) ?_
  refine tpi (x' := nI 0) (rfl) ?_
  refine lv_istore_n (lv' := [(3, .int (nI 0)), (1, .long (dg1 k mo co le 0)), (0, .ref (b 0))]) hx hb dX2_digest_10 rfl hl (by decide) rfl (fun ls hl => ?_)
  have lp : ∀ (n : Nat) (i : Nat) (Q1 P1 L1 H1 M1 R1 S1 : Nat → Int32), (hi : i ≤ 13) → (13 - i) < n → ∀ (H : Heap) (locs : List Loc) (ls : Array Slot), va_P G vwCl [((b 0), oM b 0 mo co le), ((b 4), iA cI K), ((b 7), iA cI Q1), ((b 8), iA cI P1), ((b 9), iA cI L1), ((b 10), iA cI H1), ((b 11), iA cI M1), ((b 12), iA cI R1), ((b 13), iA cI S1)] H → va_D A [((b 0), oM b 0 mo co le), ((b 4), iA cI K), ((b 7), iA cI Q1), ((b 8), iA cI P1), ((b 9), iA cI L1), ((b 10), iA cI H1), ((b 11), iA cI M1), ((b 12), iA cI R1), ((b 13), iA cI S1)] → va_S A s.heap H locs → lv_has ls 5 [(0, .ref (b 0)), (1, .long (dg1 k mo co le i)), (3, .int (nI i))] → W p l e (headSpec wsX2_digest rmX2_digest).room s m ([.ref (b 0)] : List Value).toArray below meth c H locs 0 0 Q (F0 m 11 ls []) := by
    intro n
    induction n with
    | zero => intro i Q1 P1 L1 H1 M1 R1 S1 hi hn; exact absurd hn (by omega)
    | succ n ih_lp =>
      intro i Q1 P1 L1 H1 M1 R1 S1 hi hn H locs ls hP hD hS hl
      refine lv_iload_n hx hb dX2_digest_11 rfl (lv_at hl 2 rfl) ?_
      refine lv_bipush (v := 12) hx hb dX2_digest_12 (by decide) ?_
      rcases Nat.lt_or_ge i 13 with g | g
      · skip
        refine lv_icmp_gt (tgt := 36) hx hb dX2_digest_14 (by decide) (fun c => absurd c (nI_nlt (a := 12) (b := i) (by omega) (by decide))) (fun _ => ?_)
        refine lv_lload_n hx hb dX2_digest_17 rfl (lv_at hl 1 rfl) ?_
        refine lv_ldc2 hx hb hown (hts (.constantLong RX2 144 31) (by decide +kernel)) dX2_digest_18 ?_
        refine lv_lmul hx hb dX2_digest_21 ?_
        refine lv_aload_n hx hb dX2_digest_22 rfl (lv_at hl 0 rfl) ?_
        refine lv_iload_n hx hb dX2_digest_23 rfl (lv_at hl 2 rfl) ?_
        refine cw_i (wr := []) (va_runV (As := [.int (nI i)]) (rest := [.long ((dg1 k mo co le i) * 31)]) FX (c_X2_counted_ l G cI b 0 mo co le K Q1 P1 L1 H1 M1 R1 S1 k (nI i) hk hkd _) (cwV 1 hts gX2_digest_X2_counted_ rfl rfl rfl (by decide +kernel) ⟨Nat.le_of_ble_eq_true rfl, Nat.le_of_ble_eq_true rfl⟩) (wrV hK hP hD hN [0, 1, 2, 3, 4, 5, 6, 7, 8] (by decide) rfl rfl (ci := 2) (q0 := 0) rfl rfl) rfl rfl hl.1 rfl (lv_room (Nat.le_of_ble_eq_true rfl)) dX2_digest_24 ⟨hzc, hzs⟩) hS hP hD hA [0, 1, 2, 3, 4, 5, 6, 7, 8] [] rfl rfl (by decide) (by decide) (fun r9 u H locs hw hP hD hS => ?_)
        obtain ⟨Q2, P2, L2, H2, M2, R2, S2⟩ := u
        have hP := hP.sub (ws' := [((b 0), oM b 0 mo co le), ((b 4), iA cI K), ((b 7), iA cI Q2), ((b 8), iA cI P2), ((b 9), iA cI L2), ((b 10), iA cI H2), ((b 11), iA cI M2), ((b 12), iA cI R2), ((b 13), iA cI S2)]) [0, 1, 2, 3, 4, 5, 6, 7, 8] rfl
        have hD := hD.sub (ws' := [((b 0), oM b 0 mo co le), ((b 4), iA cI K), ((b 7), iA cI Q2), ((b 8), iA cI P2), ((b 9), iA cI L2), ((b 10), iA cI H2), ((b 11), iA cI M2), ((b 12), iA cI R2), ((b 13), iA cI S2)]) [0, 1, 2, 3, 4, 5, 6, 7, 8] (by decide) rfl
        refine tpi (x' := tot k mo co le (nI i)) (hw) ?_
        refine lv_i2l (v := (tot k mo co le (nI i)).toInt64) hx hb dX2_digest_27 rfl ?_
        refine lv_ladd hx hb dX2_digest_28 ?_
        refine tpl (x' := dg1 k mo co le (i + 1)) (rfl) ?_
        refine lv_lstore_n (lv' := [(1, .long (dg1 k mo co le (i + 1))), (0, .ref (b 0)), (3, .int (nI i))]) hx hb dX2_digest_29 rfl hl (by decide) rfl (fun ls hl => ?_)
        refine lv_iinc (v := nI (i + 1)) (lv' := [(3, .int (nI (i + 1))), (1, .long (dg1 k mo co le (i + 1))), (0, .ref (b 0))]) hx hb dX2_digest_30 hl (k := 2) rfl (nI_inc i) (by decide) rfl (fun ls hl => ?_)
        refine lv_goto (tgt := 11) hx hb dX2_digest_33 (by decide) ?_
        exact ih_lp (i + 1) Q2 P2 L2 H2 M2 R2 S2 (by omega) (by omega) _ _ _ hP hD hS (lv_sub hl [2, 1, 0] (rfl))
      · skip
        have g9 : 13 = i := by omega
        subst g9
        refine lv_icmp_gt (tgt := 36) hx hb dX2_digest_14 (by decide) (fun _ => ?_) (fun c => absurd (by decide) c)
        refine lv_aload_n hx hb dX2_digest_36 rfl (lv_at hl 0 rfl) ?_
        refine lv_aload_n hx hb dX2_digest_37 rfl (lv_at hl 0 rfl) ?_
        refine va_get (D := G) (ci := 2) (v := .ref (b 4)) (C := RX2) (T := TX2) (N := 14) hx hb hts hinX2 hown hK hP 0 rfl rfl 4 (by decide) hf13 (fun _ h9 => h9) rfl dX2_digest_38 ?_
        refine cw_i (wr := []) (va_runV (As := [.ref (b 4)]) (rest := []) FX (c_X2_look l G cI b (b 4) 0 mo co le K Q1 P1 L1 H1 M1 R1 S1 k hk hkd _) (cwV 1 hts gX2_digest_X2_look rfl rfl rfl (by decide +kernel) ⟨Nat.le_of_ble_eq_true rfl, Nat.le_of_ble_eq_true rfl⟩) (wrV hK hP hD hN [0, 1, 2, 3, 4, 5, 6, 7, 8] (by decide) rfl rfl (ci := 2) (q0 := 0) rfl rfl) rfl rfl hl.1 rfl (lv_room (Nat.le_of_ble_eq_true rfl)) dX2_digest_41 ⟨hzc, hzs⟩) hS hP hD hA [0, 1, 2, 3, 4, 5, 6, 7, 8] [] rfl rfl (by decide) (by decide) (fun r9 u H locs hw hP hD hS => ?_)
        obtain ⟨Q2, P2, L2, H2, M2, R2, S2⟩ := u
        obtain ⟨hr9, hLK⟩ := hw
        have hP := hP.sub (ws' := [((b 0), oM b 0 mo co le), ((b 4), iA cI K), ((b 7), iA cI Q2), ((b 8), iA cI P2), ((b 9), iA cI L2), ((b 10), iA cI H2), ((b 11), iA cI M2), ((b 12), iA cI R2), ((b 13), iA cI S2)]) [0, 1, 2, 3, 4, 5, 6, 7, 8] rfl
        have hD := hD.sub (ws' := [((b 0), oM b 0 mo co le), ((b 4), iA cI K), ((b 7), iA cI Q2), ((b 8), iA cI P2), ((b 9), iA cI L2), ((b 10), iA cI H2), ((b 11), iA cI M2), ((b 12), iA cI R2), ((b 13), iA cI S2)]) [0, 1, 2, 3, 4, 5, 6, 7, 8] (by decide) rfl
        refine lv_pop hx hb dX2_digest_44 rfl ?_
        refine lv_iconst (v := 0) hx hb dX2_digest_45 (by decide) ?_
        refine tpi (x' := nI 0) (rfl) ?_
        refine lv_istore_n (lv' := [(3, .int (nI 0)), (0, .ref (b 0)), (1, .long (dg1 k mo co le 13))]) hx hb dX2_digest_46 rfl hl (by decide) rfl (fun ls hl => ?_)
        have d0 : dg1 k mo co le 13 = dg3 k (dg1 k mo co le 13) 0 := rfl
        have lq : ∀ (n : Nat) (y : Nat), (hy : y ≤ 64) → (64 - y) < n → ∀ (H : Heap) (locs : List Loc) (ls : Array Slot), va_P G vwCl [((b 0), oM b 0 mo co le), ((b 4), iA cI K), ((b 7), iA cI Q2), ((b 8), iA cI P2), ((b 9), iA cI L2), ((b 10), iA cI H2), ((b 11), iA cI M2), ((b 12), iA cI R2), ((b 13), iA cI S2)] H → va_D A [((b 0), oM b 0 mo co le), ((b 4), iA cI K), ((b 7), iA cI Q2), ((b 8), iA cI P2), ((b 9), iA cI L2), ((b 10), iA cI H2), ((b 11), iA cI M2), ((b 12), iA cI R2), ((b 13), iA cI S2)] → va_S A s.heap H locs → lv_has ls 5 [(0, .ref (b 0)), (1, .long (dg3 k (dg1 k mo co le 13) y)), (3, .int (nI y))] → W p l e (headSpec wsX2_digest rmX2_digest).room s m ([.ref (b 0)] : List Value).toArray below meth c H locs 0 0 Q (F0 m 47 ls []) := by
          intro n
          induction n with
          | zero => intro y hy hn; exact absurd hn (by omega)
          | succ n ih_lq =>
            intro y hy hn H locs ls hP hD hS hl
            refine lv_iload_n hx hb dX2_digest_47 rfl (lv_at hl 2 rfl) ?_
            refine lv_bipush (v := 64) hx hb dX2_digest_48 (by decide) ?_
            rcases Nat.lt_or_ge y 64 with g | g
            · skip
              refine lv_icmp_ge (tgt := 89) hx hb dX2_digest_50 (by decide) (fun c => absurd c (lt_n (n := 64) g (by decide))) (fun _ => ?_)
              refine lv_iconst (v := 0) hx hb dX2_digest_53 (by decide) ?_
              refine tpi (x' := nI 0) (rfl) ?_
              refine lv_istore (lv' := [(4, .int (nI 0)), (0, .ref (b 0)), (1, .long (dg3 k (dg1 k mo co le 13) y)), (3, .int (nI y))]) hx hb dX2_digest_54 hl (by decide) rfl (fun ls hl => ?_)
              have lr : ∀ (n : Nat) (t9 : Nat), (ht9 : t9 ≤ 6) → (6 - t9) < n → ∀ (H : Heap) (locs : List Loc) (ls : Array Slot), va_P G vwCl [((b 0), oM b 0 mo co le), ((b 4), iA cI K), ((b 7), iA cI Q2), ((b 8), iA cI P2), ((b 9), iA cI L2), ((b 10), iA cI H2), ((b 11), iA cI M2), ((b 12), iA cI R2), ((b 13), iA cI S2)] H → va_D A [((b 0), oM b 0 mo co le), ((b 4), iA cI K), ((b 7), iA cI Q2), ((b 8), iA cI P2), ((b 9), iA cI L2), ((b 10), iA cI H2), ((b 11), iA cI M2), ((b 12), iA cI R2), ((b 13), iA cI S2)] → va_S A s.heap H locs → lv_has ls 5 [(0, .ref (b 0)), (1, .long (dg2 k y (dg3 k (dg1 k mo co le 13) y) t9)), (3, .int (nI y)), (4, .int (nI t9))] → W p l e (headSpec wsX2_digest rmX2_digest).room s m ([.ref (b 0)] : List Value).toArray below meth c H locs 0 0 Q (F0 m 56 ls []) := by
                intro n
                induction n with
                | zero => intro t9 ht9 hn; exact absurd hn (by omega)
                | succ n ih_lr =>
                  intro t9 ht9 hn H locs ls hP hD hS hl
                  refine lv_iload hx hb dX2_digest_56 (lv_at hl 3 rfl) ?_
                  refine lv_iconst (v := 5) hx hb dX2_digest_58 (by decide) ?_
                  rcases Nat.lt_or_ge t9 6 with g4 | g4
                  · skip
                    refine lv_icmp_gt (tgt := 83) hx hb dX2_digest_59 (by decide) (fun c => absurd c (nI_nlt (a := 5) (b := t9) (by omega) (by decide))) (fun _ => ?_)
                    refine lv_lload_n hx hb dX2_digest_62 rfl (lv_at hl 1 rfl) ?_
                    refine lv_ldc2 hx hb hown (hts (.constantLong RX2 144 31) (by decide +kernel)) dX2_digest_63 ?_
                    refine lv_lmul hx hb dX2_digest_66 ?_
                    refine lv_aload_n hx hb dX2_digest_67 rfl (lv_at hl 0 rfl) ?_
                    refine lv_iload_n hx hb dX2_digest_68 rfl (lv_at hl 2 rfl) ?_
                    refine lv_iload hx hb dX2_digest_69 (lv_at hl 3 rfl) ?_
                    refine cr_i (va_runV (As := [.int (nI y), .int (nI t9)]) (rest := [.long ((dg2 k y (dg3 k (dg1 k mo co le 13) y) t9) * 31)]) FX (c_X2_lotTold l G cI b 0 mo co le K Q2 P2 L2 H2 M2 R2 S2 k y (nI t9) hk hkd hLK g) (cwV 2 hts gX2_digest_X2_lotTold rfl rfl rfl (by decide +kernel) ⟨Nat.le_of_ble_eq_true rfl, Nat.le_of_ble_eq_true rfl⟩) (rdV hK hP hN [0, 1, 2, 3, 4, 5, 6, 7, 8] rfl (ci := 2) (q0 := 0) rfl rfl) rfl rfl hl.1 rfl (lv_room (Nat.le_of_ble_eq_true rfl)) dX2_digest_71 ⟨hzc, hzs⟩) hS hP (fun H locs hP hS => ?_)
                    refine lv_i2l (v := (fct k y (nI t9)).toInt64) hx hb dX2_digest_74 rfl ?_
                    refine lv_ladd hx hb dX2_digest_75 ?_
                    refine tpl (x' := dg2 k y (dg3 k (dg1 k mo co le 13) y) (t9 + 1)) (rfl) ?_
                    refine lv_lstore_n (lv' := [(1, .long (dg2 k y (dg3 k (dg1 k mo co le 13) y) (t9 + 1))), (0, .ref (b 0)), (3, .int (nI y)), (4, .int (nI t9))]) hx hb dX2_digest_76 rfl hl (by decide) rfl (fun ls hl => ?_)
                    refine lv_iinc (v := nI (t9 + 1)) (lv' := [(4, .int (nI (t9 + 1))), (1, .long (dg2 k y (dg3 k (dg1 k mo co le 13) y) (t9 + 1))), (0, .ref (b 0)), (3, .int (nI y))]) hx hb dX2_digest_77 hl (k := 3) rfl (nI_inc t9) (by decide) rfl (fun ls hl => ?_)
                    refine lv_goto (tgt := 56) hx hb dX2_digest_80 (by decide) ?_
                    exact ih_lr (t9 + 1) (by omega) (by omega) _ _ _ hP hD hS (lv_sub hl [2, 1, 3, 0] (rfl))
                  · skip
                    have g9 : 6 = t9 := by omega
                    subst g9
                    refine lv_icmp_gt (tgt := 83) hx hb dX2_digest_59 (by decide) (fun _ => ?_) (fun c => absurd (by decide) c)
                    refine lv_iinc (v := nI (y + 1)) (lv' := [(3, .int (nI (y + 1))), (0, .ref (b 0)), (1, .long (dg2 k y (dg3 k (dg1 k mo co le 13) y) 6)), (4, .int (nI 6))]) hx hb dX2_digest_83 hl (k := 2) rfl (nI_inc y) (by decide) rfl (fun ls hl => ?_)
                    refine lv_goto (tgt := 47) hx hb dX2_digest_86 (by decide) ?_
                    exact ih_lq (y + 1) (by omega) (by omega) _ _ _ hP hD hS (lv_sub hl [1, 2, 0] (rfl))
              exact lr (_ + 1) 0 (by omega) (Nat.lt_succ_self _) _ _ _ hP hD hS (lv_sub hl [1, 2, 3, 0] rfl)
            · skip
              have g9 : 64 = y := by omega
              subst g9
              refine lv_icmp_ge (tgt := 89) hx hb dX2_digest_50 (by decide) (fun _ => ?_) (fun c => absurd (le_n (n := 64) (i := 64) (by decide) (by decide)) c)
              refine lv_lload_n hx hb dX2_digest_89 rfl (lv_at hl 1 rfl) ?_
              subst hQ
              subst hAe
              exact wr_l (Q2, P2, L2, H2, M2, R2, S2) (rfl) hx hb hr hP hD hS hlocks dX2_digest_90
        exact lq (_ + 1) 0 (by omega) (Nat.lt_succ_self _) _ _ _ hP hD hS (lv_sub hl [1, 2, 0] rfl)
  exact lp (_ + 1) 0 Qm Op Lm Hm Mm Rw St (by omega) (Nat.lt_succ_self _) _ _ _ hP hD hS (lv_sub hl [2, 1, 0] rfl)

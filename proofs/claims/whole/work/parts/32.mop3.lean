def rmX2_build : Room := { frames := 2, cells := 0, slots := 0, locals := 43 }
set_option maxHeartbeats 4000000 in
set_option maxRecDepth 100000 in
theorem c_X2_build (l : Launch) (G : va_G) (cI : ClassId) (b : Nat → Nat) (th mo co le : Int32) (K Ah Ot Qm Op Lm Hm Mm Rw St k : Nat → Int32) (x y v : Int32) (hk : eqK K k) (sz : Nat) : Met l yX2_build wsX2_build rmX2_build (va_Pc [.ref (b 0), .int x, .int y, .int v] (WrPB G cI [((b 0), oM b th mo co le), ((b 4), iA cI K), ((b 5), iA cI Ah), ((b 6), iA cI Ot), ((b 7), iA cI Qm), ((b 8), iA cI Op), ((b 9), iA cI Lm), ((b 10), iA cI Hm), ((b 11), iA cI Mm), ((b 12), iA cI Rw), ((b 13), iA cI St)] sz)) (va_Qi (fun (r : Int32) (u : Nat → Int32) => ((cdBuild k co x y v) = 0 → r = co - cst v) ∧ eqK u (nkO (cdBuild k co x y v) k (pAt x y) v)) (WrB G [((b 0), oM b th mo co le), ((b 4), iA cI K), ((b 5), iA cI Ah), ((b 6), iA cI Ot), ((b 7), iA cI Qm), ((b 8), iA cI Op), ((b 9), iA cI Lm), ((b 10), iA cI Hm), ((b 11), iA cI Mm), ((b 12), iA cI Rw), ((b 13), iA cI St)] sz (fun u => [(b 0, oM b (cdBuild k co x y v) mo (ncO (cdBuild k co x y v) co (cst v)) le), (b 4, iA cI u), (b 5, iA cI Ah), (b 6, iA cI Ot), (b 7, iA cI Qm), (b 8, iA cI Op), (b 9, iA cI Lm), (b 10, iA cI Hm), (b 11, iA cI Mm), (b 12, iA cI Rw), (b 13, iA cI St)])) (va_A [((b 0), oM b th mo co le), ((b 4), iA cI K), ((b 5), iA cI Ah), ((b 6), iA cI Ot), ((b 7), iA cI Qm), ((b 8), iA cI Op), ((b 9), iA cI Lm), ((b 10), iA cI Hm), ((b 11), iA cI Mm), ((b 12), iA cI Rw), ((b 13), iA cI St)] sz)) 0 0 (va_A [((b 0), oM b th mo co le), ((b 4), iA cI K), ((b 5), iA cI Ah), ((b 6), iA cI Ot), ((b 7), iA cI Qm), ((b 8), iA cI Op), ((b 9), iA cI Lm), ((b 10), iA cI Hm), ((b 11), iA cI Mm), ((b 12), iA cI Rw), ((b 13), iA cI St)] sz) := by
  refine Met.ofW (cc := cX2_build) (maxL := 4) (ret := (some .int)) (by decide) rfl ?_
  intro p e s m args below meth c s₁ B hml hv
  obtain ⟨rfl, ⟨hsz, hP, hK, hD0, hN⟩, bt, hZ, hT⟩ := hv
  have hx := B.exec
  have hb := B.bytes
  have hr := B.returns
  have hlocks := B.notSynchronized
  have hts := atoms_spec (ws := wsX2_build) B.pre
  have hown : s.vm.findClass RX2 = some m.cls := findClass_of_methodNamed B.named
  subst hsz
  have hD := hD0.self (sz := s.heap.size)
  have hA : ∀ q : Nat, s.heap.size ≤ q → va_A [((b 0), oM b th mo co le), ((b 4), iA cI K), ((b 5), iA cI Ah), ((b 6), iA cI Ot), ((b 7), iA cI Qm), ((b 8), iA cI Op), ((b 9), iA cI Lm), ((b 10), iA cI Hm), ((b 11), iA cI Mm), ((b 12), iA cI Rw), ((b 13), iA cI St)] s.heap.size q := fun q h => Or.inr h
  have hS : va_S (va_A [((b 0), oM b th mo co le), ((b 4), iA cI K), ((b 5), iA cI Ah), ((b 6), iA cI Ot), ((b 7), iA cI Qm), ((b 8), iA cI Op), ((b 9), iA cI Lm), ((b 10), iA cI Hm), ((b 11), iA cI Mm), ((b 12), iA cI Rw), ((b 13), iA cI St)] s.heap.size) s.heap s.heap [] := va_S.rf
  obtain ⟨A, hAe⟩ : ∃ A, A = va_A [((b 0), oM b th mo co le), ((b 4), iA cI K), ((b 5), iA cI Ah), ((b 6), iA cI Ot), ((b 7), iA cI Qm), ((b 8), iA cI Op), ((b 9), iA cI Lm), ((b 10), iA cI Hm), ((b 11), iA cI Mm), ((b 12), iA cI Rw), ((b 13), iA cI St)] s.heap.size := ⟨_, rfl⟩
  rw [← hAe] at hD hA hS hZ hT
  have FX : CallFix p m c cX2_build 4 s ([.ref (b 0), .int x, .int y, .int v] : List Value).toArray wsX2_build RX2 := ⟨hx, hb, hml, hown, hts⟩
  have hl := lv_entry ([.ref (b 0), .int x, .int y, .int v]) (n := 4) (Nat.le_of_ble_eq_true rfl)
  rw [lg_entry_eq]
  generalize (lg_sl ([.ref (b 0), .int x, .int y, .int v]) ++ List.replicate (4 - (lg_sl ([.ref (b 0), .int x, .int y, .int v])).length) Slot.unset).toArray = ls at hl ⊢
  have hl : lv_has ls 4 [(0, .ref (b 0)), (1, .int x), (2, .int y), (3, .int v)] := hl
  refine wq (fun Q hQ => ?_)
  have hzc : 0 + 0 ≤ (headSpec wsX2_build rmX2_build).room.cells := Nat.zero_le _
  have hzs : 0 + 0 ≤ (headSpec wsX2_build rmX2_build).room.slots := Nat.zero_le _
  have hf13 := hts (.fieldLink RX2 13 "CanalCityModel" "kind" "[I") (by decide +kernel)
  have hf44 := hts (.fieldLink RX2 44 "CanalCityModel" "thrown" "I") (by decide +kernel)
  have hf7 := hts (.fieldLink RX2 7 "CanalCityModel" "coins" "I") (by decide +kernel)
  have hf97 := hts (.fieldLink RX2 97 "CanalCityModel" "BUILT" "[I") (by decide +kernel)
  have hinX2 : ∀ w ∈ u_ws RX2 TX2 14, w ∈ wsX2_build := by decide +kernel
  refine lv_aload_n hx hb dX2_build_0 rfl (lv_at hl 0 rfl) ?_
  refine lv_iconst (v := 0) hx hb dX2_build_1 (by decide) ?_
  refine va_put (D := G) (ci := 2) (v := .int 0) (ty := .int) (C := RX2) (T := TX2) (N := 14) hx hb hts hinX2 tyX2 tyX2_ok nmX2 hown hK hP hD hS 0 rfl rfl 0 (by decide) hf44 (fun _ h9 => h9) rfl (by decide +kernel) rfl rfl (Nat.le_of_ble_eq_true rfl) dX2_build_2 (fun H locs hP hD hS => ?_)
  have hP : va_P G vwCl [((b 0), oM b 0 mo co le), ((b 4), iA cI K), ((b 5), iA cI Ah), ((b 6), iA cI Ot), ((b 7), iA cI Qm), ((b 8), iA cI Op), ((b 9), iA cI Lm), ((b 10), iA cI Hm), ((b 11), iA cI Mm), ((b 12), iA cI Rw), ((b 13), iA cI St)] H := hP
  have hD : va_D A [((b 0), oM b 0 mo co le), ((b 4), iA cI K), ((b 5), iA cI Ah), ((b 6), iA cI Ot), ((b 7), iA cI Qm), ((b 8), iA cI Op), ((b 9), iA cI Lm), ((b 10), iA cI Hm), ((b 11), iA cI Mm), ((b 12), iA cI Rw), ((b 13), iA cI St)] := hD
  refine lv_iload_n hx hb dX2_build_5 rfl (lv_at hl 1 rfl) ?_
  refine lv_iload_n hx hb dX2_build_6 rfl (lv_at hl 2 rfl) ?_
  refine cr_i (va_runS (As := [.int x, .int y]) (rest := []) FX (c_X2_isPlace l x y) (va_cwS 2 hts gX2_build_X2_isPlace rfl rfl rfl (by decide +kernel) ⟨Nat.le_of_ble_eq_true rfl, Nat.le_of_ble_eq_true rfl⟩) puS rfl rfl hl.1 rfl (lv_room (Nat.le_of_ble_eq_true rfl)) dX2_build_7 ⟨hzc, hzs⟩) hS hP (fun H locs hP hS => ?_)
  rcases hpl : (inB 0 7 x && inB 0 7 y) with _ | _
  · skip
    have hcd : (cdBuild k co x y v) = 1 := by unfold cdBuild; rw [hpl]; rfl
    refine tpi (x' := 0) (rfl) ?_
    refine lv_if_ne (tgt := 19) hx hb dX2_build_10 (by decide) (fun c => absurd (rfl) c) (fun _ => ?_)
    refine lv_aload_n hx hb dX2_build_13 rfl (lv_at hl 0 rfl) ?_
    refine lv_iconst (v := 1) hx hb dX2_build_14 (by decide) ?_
    refine cw_i (wr := [((b 4), iA cI K), ((b 5), iA cI Ah), ((b 6), iA cI Ot), ((b 7), iA cI Qm), ((b 8), iA cI Op), ((b 9), iA cI Lm), ((b 10), iA cI Hm), ((b 11), iA cI Mm), ((b 12), iA cI Rw), ((b 13), iA cI St)]) (va_runV (As := [.int 1]) (rest := []) FX (c_X2_no l G cI b 0 mo co le 1 _) (cwV 1 hts gX2_build_X2_no rfl rfl rfl (by decide +kernel) ⟨Nat.le_of_ble_eq_true rfl, Nat.le_of_ble_eq_true rfl⟩) (wrV hK hP hD hN [0] (by decide) rfl rfl (ci := 2) (q0 := 0) rfl rfl) rfl rfl hl.1 rfl (lv_room (Nat.le_of_ble_eq_true rfl)) dX2_build_15 ⟨hzc, hzs⟩) hS hP hD hA [0] [1, 2, 3, 4, 5, 6, 7, 8, 9, 10] rfl rfl (by decide) (by decide) (fun r0 u H locs hw hP hD hS => ?_)
    have hP := hP.sub (ws' := [((b 0), oM b 1 mo co le), ((b 4), iA cI K), ((b 5), iA cI Ah), ((b 6), iA cI Ot), ((b 7), iA cI Qm), ((b 8), iA cI Op), ((b 9), iA cI Lm), ((b 10), iA cI Hm), ((b 11), iA cI Mm), ((b 12), iA cI Rw), ((b 13), iA cI St)]) [10, 0, 1, 2, 3, 4, 5, 6, 7, 8, 9] rfl
    have hD := hD.sub (ws' := [((b 0), oM b 1 mo co le), ((b 4), iA cI K), ((b 5), iA cI Ah), ((b 6), iA cI Ot), ((b 7), iA cI Qm), ((b 8), iA cI Op), ((b 9), iA cI Lm), ((b 10), iA cI Hm), ((b 11), iA cI Mm), ((b 12), iA cI Rw), ((b 13), iA cI St)]) [10, 0, 1, 2, 3, 4, 5, 6, 7, 8, 9] (by decide) rfl
    refine tpi (x' := 0) (hw) ?_
    subst hQ
    subst hAe
    rw [hcd, ncO_n (by decide), nkO_n (by decide)]
    exact wr_i K (⟨fun e => absurd e (by decide), hk⟩) hx hb hr hP hD hS hlocks dX2_build_18
  · skip
    have hat := plc_at hpl
    refine tpi (x' := 1) (rfl) ?_
    refine lv_if_ne (tgt := 19) hx hb dX2_build_10 (by decide) (fun _ => ?_) (fun c => absurd c (by decide))
    refine lv_iload_n hx hb dX2_build_19 rfl (lv_at hl 3 rfl) ?_
    refine lv_iconst (v := 3) hx hb dX2_build_20 (by decide) ?_
    refine lv_iconst (v := 5) hx hb dX2_build_21 (by decide) ?_
    refine cr_i (va_runS (As := [.int v, .int 3, .int 5]) (rest := []) FX (c_X2_isIn l v 3 5) (va_cwS 3 hts gX2_build_X2_isIn rfl rfl rfl (by decide +kernel) ⟨Nat.le_of_ble_eq_true rfl, Nat.le_of_ble_eq_true rfl⟩) puS rfl rfl hl.1 rfl (lv_room (Nat.le_of_ble_eq_true rfl)) dX2_build_22 ⟨hzc, hzs⟩) hS hP (fun H locs hP hS => ?_)
    rcases hin : inB 3 5 v with _ | _
    · skip
      have hcd : (cdBuild k co x y v) = 2 := by unfold cdBuild; rw [hpl, hin]; rfl
      refine tpi (x' := 0) (rfl) ?_
      refine lv_if_ne (tgt := 34) hx hb dX2_build_25 (by decide) (fun c => absurd (rfl) c) (fun _ => ?_)
      refine lv_aload_n hx hb dX2_build_28 rfl (lv_at hl 0 rfl) ?_
      refine lv_iconst (v := 2) hx hb dX2_build_29 (by decide) ?_
      refine cw_i (wr := [((b 4), iA cI K), ((b 5), iA cI Ah), ((b 6), iA cI Ot), ((b 7), iA cI Qm), ((b 8), iA cI Op), ((b 9), iA cI Lm), ((b 10), iA cI Hm), ((b 11), iA cI Mm), ((b 12), iA cI Rw), ((b 13), iA cI St)]) (va_runV (As := [.int 2]) (rest := []) FX (c_X2_no l G cI b 0 mo co le 2 _) (cwV 1 hts gX2_build_X2_no rfl rfl rfl (by decide +kernel) ⟨Nat.le_of_ble_eq_true rfl, Nat.le_of_ble_eq_true rfl⟩) (wrV hK hP hD hN [0] (by decide) rfl rfl (ci := 2) (q0 := 0) rfl rfl) rfl rfl hl.1 rfl (lv_room (Nat.le_of_ble_eq_true rfl)) dX2_build_30 ⟨hzc, hzs⟩) hS hP hD hA [0] [1, 2, 3, 4, 5, 6, 7, 8, 9, 10] rfl rfl (by decide) (by decide) (fun r0 u H locs hw hP hD hS => ?_)
      have hP := hP.sub (ws' := [((b 0), oM b 2 mo co le), ((b 4), iA cI K), ((b 5), iA cI Ah), ((b 6), iA cI Ot), ((b 7), iA cI Qm), ((b 8), iA cI Op), ((b 9), iA cI Lm), ((b 10), iA cI Hm), ((b 11), iA cI Mm), ((b 12), iA cI Rw), ((b 13), iA cI St)]) [10, 0, 1, 2, 3, 4, 5, 6, 7, 8, 9] rfl
      have hD := hD.sub (ws' := [((b 0), oM b 2 mo co le), ((b 4), iA cI K), ((b 5), iA cI Ah), ((b 6), iA cI Ot), ((b 7), iA cI Qm), ((b 8), iA cI Op), ((b 9), iA cI Lm), ((b 10), iA cI Hm), ((b 11), iA cI Mm), ((b 12), iA cI Rw), ((b 13), iA cI St)]) [10, 0, 1, 2, 3, 4, 5, 6, 7, 8, 9] (by decide) rfl
      refine tpi (x' := 0) (hw) ?_
      subst hQ
      subst hAe
      rw [hcd, ncO_n (by decide), nkO_n (by decide)]
      exact wr_i K (⟨fun e => absurd e (by decide), hk⟩) hx hb hr hP hD hS hlocks dX2_build_33
    · skip
      refine tpi (x' := 1) (rfl) ?_
      refine lv_if_ne (tgt := 34) hx hb dX2_build_25 (by decide) (fun _ => ?_) (fun c => absurd c (by decide))
      refine lv_aload_n hx hb dX2_build_34 rfl (lv_at hl 0 rfl) ?_
      refine va_get (D := G) (ci := 2) (v := .ref (b 4)) (C := RX2) (T := TX2) (N := 14) hx hb hts hinX2 hown hK hP 0 rfl rfl 4 (by decide) hf13 (fun _ h9 => h9) rfl dX2_build_35 ?_
      refine lv_bipush (v := 8) hx hb dX2_build_38 (by decide) ?_
      refine lv_iload_n hx hb dX2_build_40 rfl (lv_at hl 2 rfl) ?_
      refine lv_imul hx hb dX2_build_41 ?_
      refine lv_iload_n hx hb dX2_build_42 rfl (lv_at hl 1 rfl) ?_
      refine lv_iadd hx hb dX2_build_43 ?_
      refine tpi (x' := nI (pAt x y)) (hat.2) ?_
      refine va_iald hx hb hK hP 1 0 rfl rfl (vp_in_nI hat.1 (by decide)) dX2_build_44 ?_
      refine tpi (x' := K (pAt x y)) (congrArg K (nI_clamp (by omega))) ?_
      refine tpi (x' := k (pAt x y)) (hk _ hat.1) ?_
      refine lv_iconst (v := 2) hx hb dX2_build_45 (by decide) ?_
      refine lv_icmp_ne (tgt := 75) hx hb dX2_build_46 (by decide) (fun c2 => ?_) (fun c2 => ?_)
      · skip
        have hcd : (cdBuild k co x y v) = 3 := by unfold cdBuild; rw [hpl, hin]; rw [if_pos rfl, if_pos rfl, if_neg (fun e => c2 e.1)]
        refine lv_aload_n hx hb dX2_build_75 rfl (lv_at hl 0 rfl) ?_
        refine lv_iconst (v := 3) hx hb dX2_build_76 (by decide) ?_
        refine cw_i (wr := [((b 4), iA cI K), ((b 5), iA cI Ah), ((b 6), iA cI Ot), ((b 7), iA cI Qm), ((b 8), iA cI Op), ((b 9), iA cI Lm), ((b 10), iA cI Hm), ((b 11), iA cI Mm), ((b 12), iA cI Rw), ((b 13), iA cI St)]) (va_runV (As := [.int 3]) (rest := []) FX (c_X2_no l G cI b 0 mo co le 3 _) (cwV 1 hts gX2_build_X2_no rfl rfl rfl (by decide +kernel) ⟨Nat.le_of_ble_eq_true rfl, Nat.le_of_ble_eq_true rfl⟩) (wrV hK hP hD hN [0] (by decide) rfl rfl (ci := 2) (q0 := 0) rfl rfl) rfl rfl hl.1 rfl (lv_room (Nat.le_of_ble_eq_true rfl)) dX2_build_77 ⟨hzc, hzs⟩) hS hP hD hA [0] [1, 2, 3, 4, 5, 6, 7, 8, 9, 10] rfl rfl (by decide) (by decide) (fun r0 u H locs hw hP hD hS => ?_)
        have hP := hP.sub (ws' := [((b 0), oM b 3 mo co le), ((b 4), iA cI K), ((b 5), iA cI Ah), ((b 6), iA cI Ot), ((b 7), iA cI Qm), ((b 8), iA cI Op), ((b 9), iA cI Lm), ((b 10), iA cI Hm), ((b 11), iA cI Mm), ((b 12), iA cI Rw), ((b 13), iA cI St)]) [10, 0, 1, 2, 3, 4, 5, 6, 7, 8, 9] rfl
        have hD := hD.sub (ws' := [((b 0), oM b 3 mo co le), ((b 4), iA cI K), ((b 5), iA cI Ah), ((b 6), iA cI Ot), ((b 7), iA cI Qm), ((b 8), iA cI Op), ((b 9), iA cI Lm), ((b 10), iA cI Hm), ((b 11), iA cI Mm), ((b 12), iA cI Rw), ((b 13), iA cI St)]) [10, 0, 1, 2, 3, 4, 5, 6, 7, 8, 9] (by decide) rfl
        refine tpi (x' := 0) (hw) ?_
        subst hQ
        subst hAe
        rw [hcd, ncO_n (by decide), nkO_n (by decide)]
        exact wr_i K (⟨fun e => absurd e (by decide), hk⟩) hx hb hr hP hD hS hlocks dX2_build_80
      · skip
        refine lv_aload_n hx hb dX2_build_49 rfl (lv_at hl 0 rfl) ?_
        refine lv_bipush (v := 8) hx hb dX2_build_50 (by decide) ?_
        refine lv_iload_n hx hb dX2_build_52 rfl (lv_at hl 2 rfl) ?_
        refine lv_imul hx hb dX2_build_53 ?_
        refine lv_iload_n hx hb dX2_build_54 rfl (lv_at hl 1 rfl) ?_
        refine lv_iadd hx hb dX2_build_55 ?_
        refine tpi (x' := nI (pAt x y)) (hat.2) ?_
        refine lv_iload_n hx hb dX2_build_56 rfl (lv_at hl 3 rfl) ?_
        refine va_gets hx hb (C := "CanalCityModel") (n := "BUILT") (d := "[I") (v := .ref bt) hZ hS hown hf97 (fun _ h9 => h9) dX2_build_57 ?_
        refine lv_iload_n hx hb dX2_build_60 rfl (lv_at hl 3 rfl) ?_
        refine va_ti hx hb hT hS ((bl_at hin).1) (v := .int (cst v)) ((bl_at hin).2) dX2_build_61 ?_
        refine cw_i (wr := [((b 5), iA cI Ah), ((b 6), iA cI Ot), ((b 7), iA cI Qm), ((b 8), iA cI Op), ((b 9), iA cI Lm), ((b 10), iA cI Hm), ((b 11), iA cI Mm), ((b 12), iA cI Rw), ((b 13), iA cI St)]) (va_runV (As := [.int (nI (pAt x y)), .int v, .int (cst v)]) (rest := []) FX (c_X2_isBuilt l G cI b 0 mo co le K (pAt x y) v (cst v) hat.1 _) (cwV 3 hts gX2_build_X2_isBuilt rfl rfl rfl (by decide +kernel) ⟨Nat.le_of_ble_eq_true rfl, Nat.le_of_ble_eq_true rfl⟩) (wrV hK hP hD hN [0, 1] (by decide) rfl rfl (ci := 2) (q0 := 0) rfl rfl) rfl rfl hl.1 rfl (lv_room (Nat.le_of_ble_eq_true rfl)) dX2_build_62 ⟨hzc, hzs⟩) hS hP hD hA [0, 1] [2, 3, 4, 5, 6, 7, 8, 9, 10] rfl rfl (by decide) (by decide) (fun r9 u H locs hw hP hD hS => ?_)
        obtain ⟨cz, K2⟩ := u
        obtain ⟨hr9, hc2, hK2⟩ := hw
        have hP := hP.sub (ws' := [((b 0), oM b 0 mo cz le), ((b 4), iA cI K2), ((b 5), iA cI Ah), ((b 6), iA cI Ot), ((b 7), iA cI Qm), ((b 8), iA cI Op), ((b 9), iA cI Lm), ((b 10), iA cI Hm), ((b 11), iA cI Mm), ((b 12), iA cI Rw), ((b 13), iA cI St)]) [9, 10, 0, 1, 2, 3, 4, 5, 6, 7, 8] rfl
        have hD := hD.sub (ws' := [((b 0), oM b 0 mo cz le), ((b 4), iA cI K2), ((b 5), iA cI Ah), ((b 6), iA cI Ot), ((b 7), iA cI Qm), ((b 8), iA cI Op), ((b 9), iA cI Lm), ((b 10), iA cI Hm), ((b 11), iA cI Mm), ((b 12), iA cI Rw), ((b 13), iA cI St)]) [9, 10, 0, 1, 2, 3, 4, 5, 6, 7, 8] (by decide) rfl
        have hc2 : cz = (if (cst v) ≤ co then co - (cst v) else co) := hc2
        have hK2 : K2 = (if (cst v) ≤ co then upd K (pAt x y) v else K) := hK2
        by_cases hcs : (cst v) ≤ co
        · skip
          have hc3 := hc2.trans (if_pos hcs)
          have hK3 := hK2.trans (if_pos hcs)
          rw [hc3, hK3] at hP hD
          have hcd : (cdBuild k co x y v) = 0 := by unfold cdBuild; rw [hpl, hin]; rw [if_pos rfl, if_pos rfl, if_pos ⟨c2, hcs⟩]
          refine tpi (x' := 1) (by rw [hr9, decide_eq_true hcs]; rfl) ?_
          refine lv_if_eq (tgt := 75) hx hb dX2_build_65 (by decide) (fun c => absurd c (by decide)) (fun _ => ?_)
          refine lv_aload_n hx hb dX2_build_68 rfl (lv_at hl 0 rfl) ?_
          refine va_get (D := G) (ci := 2) (v := .int (co - (cst v))) (C := RX2) (T := TX2) (N := 14) hx hb hts hinX2 hown hK hP 0 rfl rfl 2 (by decide) hf7 (fun _ h9 => h9) rfl dX2_build_69 ?_
          refine lv_goto (tgt := 80) hx hb dX2_build_72 (by decide) ?_
          subst hQ
          subst hAe
          rw [hcd, ncO_0, nkO_0]
          exact wr_i (upd K (pAt x y) v) (⟨fun _ => rfl, eqK_upd hk⟩) hx hb hr hP hD hS hlocks dX2_build_80
        · skip
          have hc3 := hc2.trans (if_neg hcs)
          have hK3 := hK2.trans (if_neg hcs)
          rw [hc3, hK3] at hP hD
          have hcd : (cdBuild k co x y v) = 3 := by unfold cdBuild; rw [hpl, hin]; rw [if_pos rfl, if_pos rfl, if_neg (fun e => hcs e.2)]
          refine tpi (x' := 0) (by rw [hr9, decide_eq_false hcs]; rfl) ?_
          refine lv_if_eq (tgt := 75) hx hb dX2_build_65 (by decide) (fun _ => ?_) (fun c => absurd (rfl) c)
          refine lv_aload_n hx hb dX2_build_75 rfl (lv_at hl 0 rfl) ?_
          refine lv_iconst (v := 3) hx hb dX2_build_76 (by decide) ?_
          refine cw_i (wr := [((b 4), iA cI K), ((b 5), iA cI Ah), ((b 6), iA cI Ot), ((b 7), iA cI Qm), ((b 8), iA cI Op), ((b 9), iA cI Lm), ((b 10), iA cI Hm), ((b 11), iA cI Mm), ((b 12), iA cI Rw), ((b 13), iA cI St)]) (va_runV (As := [.int 3]) (rest := []) FX (c_X2_no l G cI b 0 mo co le 3 _) (cwV 1 hts gX2_build_X2_no rfl rfl rfl (by decide +kernel) ⟨Nat.le_of_ble_eq_true rfl, Nat.le_of_ble_eq_true rfl⟩) (wrV hK hP hD hN [0] (by decide) rfl rfl (ci := 2) (q0 := 0) rfl rfl) rfl rfl hl.1 rfl (lv_room (Nat.le_of_ble_eq_true rfl)) dX2_build_77 ⟨hzc, hzs⟩) hS hP hD hA [0] [1, 2, 3, 4, 5, 6, 7, 8, 9, 10] rfl rfl (by decide) (by decide) (fun r0 u H locs hw hP hD hS => ?_)
          have hP := hP.sub (ws' := [((b 0), oM b 3 mo co le), ((b 4), iA cI K), ((b 5), iA cI Ah), ((b 6), iA cI Ot), ((b 7), iA cI Qm), ((b 8), iA cI Op), ((b 9), iA cI Lm), ((b 10), iA cI Hm), ((b 11), iA cI Mm), ((b 12), iA cI Rw), ((b 13), iA cI St)]) [10, 0, 1, 2, 3, 4, 5, 6, 7, 8, 9] rfl
          have hD := hD.sub (ws' := [((b 0), oM b 3 mo co le), ((b 4), iA cI K), ((b 5), iA cI Ah), ((b 6), iA cI Ot), ((b 7), iA cI Qm), ((b 8), iA cI Op), ((b 9), iA cI Lm), ((b 10), iA cI Hm), ((b 11), iA cI Mm), ((b 12), iA cI Rw), ((b 13), iA cI St)]) [10, 0, 1, 2, 3, 4, 5, 6, 7, 8, 9] (by decide) rfl
          refine tpi (x' := 0) (hw) ?_
          subst hQ
          subst hAe
          rw [hcd, ncO_n (by decide), nkO_n (by decide)]
          exact wr_i K (⟨fun e => absurd e (by decide), hk⟩) hx hb hr hP hD hS hlocks dX2_build_80

def rmX2_bridge : Room := { frames := 4, cells := 0, slots := 0, locals := 93 }
set_option maxHeartbeats 4000000 in
set_option maxRecDepth 100000 in
theorem c_X2_bridge (l : Launch) (G : va_G) (cI : ClassId) (b : Nat → Nat) (th mo co le : Int32) (K Ah Ot Qm Op Lm Hm Mm Rw St k : Nat → Int32) (x y : Int32) (hk : eqK K k) (hkd : ∀ x, x < 64 → kd (k x)) (sz : Nat) : Met l yX2_bridge wsX2_bridge rmX2_bridge (va_Pc [.ref (b 0), .int x, .int y] (WrPB G cI [((b 0), oM b th mo co le), ((b 4), iA cI K), ((b 5), iA cI Ah), ((b 6), iA cI Ot), ((b 7), iA cI Qm), ((b 8), iA cI Op), ((b 9), iA cI Lm), ((b 10), iA cI Hm), ((b 11), iA cI Mm), ((b 12), iA cI Rw), ((b 13), iA cI St)] sz)) (va_Qi (fun (r : Int32) (u : (Nat → Int32) × (Nat → Int32) × (Nat → Int32)) => ((cdBridge k co x y) = 0 → r = lotsQ (upd k (pAt x y) 6) (pAt x y)) ∧ eqK u.1 (nkO (cdBridge k co x y) k (pAt x y) 6)) (WrB G [((b 0), oM b th mo co le), ((b 4), iA cI K), ((b 5), iA cI Ah), ((b 6), iA cI Ot), ((b 7), iA cI Qm), ((b 8), iA cI Op), ((b 9), iA cI Lm), ((b 10), iA cI Hm), ((b 11), iA cI Mm), ((b 12), iA cI Rw), ((b 13), iA cI St)] sz (fun u => [(b 0, oM b (cdBridge k co x y) mo (ncO (cdBridge k co x y) co 7) le), (b 4, iA cI (u.1)), (b 5, iA cI Ah), (b 6, iA cI Ot), (b 7, iA cI Qm), (b 8, iA cI Op), (b 9, iA cI Lm), (b 10, iA cI Hm), (b 11, iA cI Mm), (b 12, iA cI (u.2.1)), (b 13, iA cI (u.2.2))])) (va_A [((b 0), oM b th mo co le), ((b 4), iA cI K), ((b 5), iA cI Ah), ((b 6), iA cI Ot), ((b 7), iA cI Qm), ((b 8), iA cI Op), ((b 9), iA cI Lm), ((b 10), iA cI Hm), ((b 11), iA cI Mm), ((b 12), iA cI Rw), ((b 13), iA cI St)] sz)) 0 0 (va_A [((b 0), oM b th mo co le), ((b 4), iA cI K), ((b 5), iA cI Ah), ((b 6), iA cI Ot), ((b 7), iA cI Qm), ((b 8), iA cI Op), ((b 9), iA cI Lm), ((b 10), iA cI Hm), ((b 11), iA cI Mm), ((b 12), iA cI Rw), ((b 13), iA cI St)] sz) := by
  refine Met.ofW (cc := cX2_bridge) (maxL := 4) (ret := (some .int)) (by decide) rfl ?_
  intro p e s m args below meth c s₁ B hml hv
  obtain ⟨rfl, ⟨hsz, hP, hK, hD0, hN⟩, bt, hZ, hT⟩ := hv
  have hx := B.exec
  have hb := B.bytes
  have hr := B.returns
  have hlocks := B.notSynchronized
  have hts := atoms_spec (ws := wsX2_bridge) B.pre
  have hown : s.vm.findClass RX2 = some m.cls := findClass_of_methodNamed B.named
  subst hsz
  have hD := hD0.self (sz := s.heap.size)
  have hA : ∀ q : Nat, s.heap.size ≤ q → va_A [((b 0), oM b th mo co le), ((b 4), iA cI K), ((b 5), iA cI Ah), ((b 6), iA cI Ot), ((b 7), iA cI Qm), ((b 8), iA cI Op), ((b 9), iA cI Lm), ((b 10), iA cI Hm), ((b 11), iA cI Mm), ((b 12), iA cI Rw), ((b 13), iA cI St)] s.heap.size q := fun q h => Or.inr h
  have hS : va_S (va_A [((b 0), oM b th mo co le), ((b 4), iA cI K), ((b 5), iA cI Ah), ((b 6), iA cI Ot), ((b 7), iA cI Qm), ((b 8), iA cI Op), ((b 9), iA cI Lm), ((b 10), iA cI Hm), ((b 11), iA cI Mm), ((b 12), iA cI Rw), ((b 13), iA cI St)] s.heap.size) s.heap s.heap [] := va_S.rf
  obtain ⟨A, hAe⟩ : ∃ A, A = va_A [((b 0), oM b th mo co le), ((b 4), iA cI K), ((b 5), iA cI Ah), ((b 6), iA cI Ot), ((b 7), iA cI Qm), ((b 8), iA cI Op), ((b 9), iA cI Lm), ((b 10), iA cI Hm), ((b 11), iA cI Mm), ((b 12), iA cI Rw), ((b 13), iA cI St)] s.heap.size := ⟨_, rfl⟩
  rw [← hAe] at hD hA hS hZ hT
  have FX : CallFix p m c cX2_bridge 4 s ([.ref (b 0), .int x, .int y] : List Value).toArray wsX2_bridge RX2 := ⟨hx, hb, hml, hown, hts⟩
  have hl := lv_entry ([.ref (b 0), .int x, .int y]) (n := 4) (Nat.le_of_ble_eq_true rfl)
  rw [lg_entry_eq]
  generalize (lg_sl ([.ref (b 0), .int x, .int y]) ++ List.replicate (4 - (lg_sl ([.ref (b 0), .int x, .int y])).length) Slot.unset).toArray = ls at hl ⊢
  have hl : lv_has ls 4 [(0, .ref (b 0)), (1, .int x), (2, .int y)] := hl
  refine wq (fun Q hQ => ?_)
  have hzc : 0 + 0 ≤ (headSpec wsX2_bridge rmX2_bridge).room.cells := Nat.zero_le _
  have hzs : 0 + 0 ≤ (headSpec wsX2_bridge rmX2_bridge).room.slots := Nat.zero_le _
  have hf13 := hts (.fieldLink RX2 13 "CanalCityModel" "kind" "[I") (by decide +kernel)
  have hf44 := hts (.fieldLink RX2 44 "CanalCityModel" "thrown" "I") (by decide +kernel)
  have hf97 := hts (.fieldLink RX2 97 "CanalCityModel" "BUILT" "[I") (by decide +kernel)
  have hinX2 : ∀ w ∈ u_ws RX2 TX2 14, w ∈ wsX2_bridge := by decide +kernel
  refine lv_aload_n hx hb dX2_bridge_0 rfl (lv_at hl 0 rfl) ?_
  refine lv_iconst (v := 0) hx hb dX2_bridge_1 (by decide) ?_
  refine va_put (D := G) (ci := 2) (v := .int 0) (ty := .int) (C := RX2) (T := TX2) (N := 14) hx hb hts hinX2 tyX2 tyX2_ok nmX2 hown hK hP hD hS 0 rfl rfl 0 (by decide) hf44 (fun _ h9 => h9) rfl (by decide +kernel) rfl rfl (Nat.le_of_ble_eq_true rfl) dX2_bridge_2 (fun H locs hP hD hS => ?_)
  have hP : va_P G vwCl [((b 0), oM b 0 mo co le), ((b 4), iA cI K), ((b 5), iA cI Ah), ((b 6), iA cI Ot), ((b 7), iA cI Qm), ((b 8), iA cI Op), ((b 9), iA cI Lm), ((b 10), iA cI Hm), ((b 11), iA cI Mm), ((b 12), iA cI Rw), ((b 13), iA cI St)] H := hP
  have hD : va_D A [((b 0), oM b 0 mo co le), ((b 4), iA cI K), ((b 5), iA cI Ah), ((b 6), iA cI Ot), ((b 7), iA cI Qm), ((b 8), iA cI Op), ((b 9), iA cI Lm), ((b 10), iA cI Hm), ((b 11), iA cI Mm), ((b 12), iA cI Rw), ((b 13), iA cI St)] := hD
  refine lv_iload_n hx hb dX2_bridge_5 rfl (lv_at hl 1 rfl) ?_
  refine lv_iload_n hx hb dX2_bridge_6 rfl (lv_at hl 2 rfl) ?_
  refine cr_i (va_runS (As := [.int x, .int y]) (rest := []) FX (c_X2_isPlace l x y) (va_cwS 2 hts gX2_bridge_X2_isPlace rfl rfl rfl (by decide +kernel) ⟨Nat.le_of_ble_eq_true rfl, Nat.le_of_ble_eq_true rfl⟩) puS rfl rfl hl.1 rfl (lv_room (Nat.le_of_ble_eq_true rfl)) dX2_bridge_7 ⟨hzc, hzs⟩) hS hP (fun H locs hP hS => ?_)
  rcases hpl : (inB 0 7 x && inB 0 7 y) with _ | _
  · skip
    have hcd : (cdBridge k co x y) = 1 := by unfold cdBridge; rw [hpl]; rfl
    refine tpi (x' := 0) (rfl) ?_
    refine lv_if_ne (tgt := 19) hx hb dX2_bridge_10 (by decide) (fun c => absurd (rfl) c) (fun _ => ?_)
    refine lv_aload_n hx hb dX2_bridge_13 rfl (lv_at hl 0 rfl) ?_
    refine lv_iconst (v := 1) hx hb dX2_bridge_14 (by decide) ?_
    refine cw_i (wr := [((b 4), iA cI K), ((b 5), iA cI Ah), ((b 6), iA cI Ot), ((b 7), iA cI Qm), ((b 8), iA cI Op), ((b 9), iA cI Lm), ((b 10), iA cI Hm), ((b 11), iA cI Mm), ((b 12), iA cI Rw), ((b 13), iA cI St)]) (va_runV (As := [.int 1]) (rest := []) FX (c_X2_no l G cI b 0 mo co le 1 _) (cwV 1 hts gX2_bridge_X2_no rfl rfl rfl (by decide +kernel) ⟨Nat.le_of_ble_eq_true rfl, Nat.le_of_ble_eq_true rfl⟩) (wrV hK hP hD hN [0] (by decide) rfl rfl (ci := 2) (q0 := 0) rfl rfl) rfl rfl hl.1 rfl (lv_room (Nat.le_of_ble_eq_true rfl)) dX2_bridge_15 ⟨hzc, hzs⟩) hS hP hD hA [0] [1, 2, 3, 4, 5, 6, 7, 8, 9, 10] rfl rfl (by decide) (by decide) (fun r0 u H locs hw hP hD hS => ?_)
    have hP := hP.sub (ws' := [((b 0), oM b 1 mo co le), ((b 4), iA cI K), ((b 5), iA cI Ah), ((b 6), iA cI Ot), ((b 7), iA cI Qm), ((b 8), iA cI Op), ((b 9), iA cI Lm), ((b 10), iA cI Hm), ((b 11), iA cI Mm), ((b 12), iA cI Rw), ((b 13), iA cI St)]) [10, 0, 1, 2, 3, 4, 5, 6, 7, 8, 9] rfl
    have hD := hD.sub (ws' := [((b 0), oM b 1 mo co le), ((b 4), iA cI K), ((b 5), iA cI Ah), ((b 6), iA cI Ot), ((b 7), iA cI Qm), ((b 8), iA cI Op), ((b 9), iA cI Lm), ((b 10), iA cI Hm), ((b 11), iA cI Mm), ((b 12), iA cI Rw), ((b 13), iA cI St)]) [10, 0, 1, 2, 3, 4, 5, 6, 7, 8, 9] (by decide) rfl
    refine tpi (x' := 0) (hw) ?_
    subst hQ
    subst hAe
    rw [hcd, ncO_n (by decide), nkO_n (by decide)]
    exact wr_i (K, Rw, St) (⟨fun e => absurd e (by decide), hk⟩) hx hb hr hP hD hS hlocks dX2_bridge_18
  · skip
    have hat := plc_at hpl
    refine tpi (x' := 1) (rfl) ?_
    refine lv_if_ne (tgt := 19) hx hb dX2_bridge_10 (by decide) (fun _ => ?_) (fun c => absurd c (by decide))
    refine lv_bipush (v := 8) hx hb dX2_bridge_19 (by decide) ?_
    refine lv_iload_n hx hb dX2_bridge_21 rfl (lv_at hl 2 rfl) ?_
    refine lv_imul hx hb dX2_bridge_22 ?_
    refine lv_iload_n hx hb dX2_bridge_23 rfl (lv_at hl 1 rfl) ?_
    refine lv_iadd hx hb dX2_bridge_24 ?_
    refine tpi (x' := nI (pAt x y)) (hat.2) ?_
    refine lv_istore_n (lv' := [(3, .int (nI (pAt x y))), (0, .ref (b 0)), (1, .int x), (2, .int y)]) hx hb dX2_bridge_25 rfl hl (by decide) rfl (fun ls hl => ?_)
    refine lv_aload_n hx hb dX2_bridge_26 rfl (lv_at hl 1 rfl) ?_
    refine va_get (D := G) (ci := 2) (v := .ref (b 4)) (C := RX2) (T := TX2) (N := 14) hx hb hts hinX2 hown hK hP 0 rfl rfl 4 (by decide) hf13 (fun _ h9 => h9) rfl dX2_bridge_27 ?_
    refine lv_iload_n hx hb dX2_bridge_30 rfl (lv_at hl 0 rfl) ?_
    refine va_iald hx hb hK hP 1 0 rfl rfl (vp_in_nI hat.1 (by decide)) dX2_bridge_31 ?_
    refine tpi (x' := K (pAt x y)) (congrArg K (nI_clamp (by omega))) ?_
    refine tpi (x' := k (pAt x y)) (hk _ hat.1) ?_
    refine lv_iconst (v := 1) hx hb dX2_bridge_32 (by decide) ?_
    refine lv_icmp_ne (tgt := 65) hx hb dX2_bridge_33 (by decide) (fun c1 => ?_) (fun c1 => ?_)
    · skip
      have hcd : (cdBridge k co x y) = 2 := by unfold cdBridge; rw [hpl]; rw [if_pos rfl, if_neg (fun e => c1 e.1)]
      refine lv_aload_n hx hb dX2_bridge_65 rfl (lv_at hl 1 rfl) ?_
      refine lv_iconst (v := 2) hx hb dX2_bridge_66 (by decide) ?_
      refine cw_i (wr := [((b 4), iA cI K), ((b 5), iA cI Ah), ((b 6), iA cI Ot), ((b 7), iA cI Qm), ((b 8), iA cI Op), ((b 9), iA cI Lm), ((b 10), iA cI Hm), ((b 11), iA cI Mm), ((b 12), iA cI Rw), ((b 13), iA cI St)]) (va_runV (As := [.int 2]) (rest := []) FX (c_X2_no l G cI b 0 mo co le 2 _) (cwV 1 hts gX2_bridge_X2_no rfl rfl rfl (by decide +kernel) ⟨Nat.le_of_ble_eq_true rfl, Nat.le_of_ble_eq_true rfl⟩) (wrV hK hP hD hN [0] (by decide) rfl rfl (ci := 2) (q0 := 0) rfl rfl) rfl rfl hl.1 rfl (lv_room (Nat.le_of_ble_eq_true rfl)) dX2_bridge_67 ⟨hzc, hzs⟩) hS hP hD hA [0] [1, 2, 3, 4, 5, 6, 7, 8, 9, 10] rfl rfl (by decide) (by decide) (fun r0 u H locs hw hP hD hS => ?_)
      have hP := hP.sub (ws' := [((b 0), oM b 2 mo co le), ((b 4), iA cI K), ((b 5), iA cI Ah), ((b 6), iA cI Ot), ((b 7), iA cI Qm), ((b 8), iA cI Op), ((b 9), iA cI Lm), ((b 10), iA cI Hm), ((b 11), iA cI Mm), ((b 12), iA cI Rw), ((b 13), iA cI St)]) [10, 0, 1, 2, 3, 4, 5, 6, 7, 8, 9] rfl
      have hD := hD.sub (ws' := [((b 0), oM b 2 mo co le), ((b 4), iA cI K), ((b 5), iA cI Ah), ((b 6), iA cI Ot), ((b 7), iA cI Qm), ((b 8), iA cI Op), ((b 9), iA cI Lm), ((b 10), iA cI Hm), ((b 11), iA cI Mm), ((b 12), iA cI Rw), ((b 13), iA cI St)]) [10, 0, 1, 2, 3, 4, 5, 6, 7, 8, 9] (by decide) rfl
      refine tpi (x' := 0) (hw) ?_
      subst hQ
      subst hAe
      rw [hcd, ncO_n (by decide), nkO_n (by decide)]
      exact wr_i (K, Rw, St) (⟨fun e => absurd e (by decide), hk⟩) hx hb hr hP hD hS hlocks dX2_bridge_70
    · skip
      refine lv_aload_n hx hb dX2_bridge_36 rfl (lv_at hl 1 rfl) ?_
      refine lv_iload_n hx hb dX2_bridge_37 rfl (lv_at hl 0 rfl) ?_
      refine lv_bipush (v := 6) hx hb dX2_bridge_38 (by decide) ?_
      refine va_gets hx hb (C := "CanalCityModel") (n := "BUILT") (d := "[I") (v := .ref bt) hZ hS hown hf97 (fun _ h9 => h9) dX2_bridge_40 ?_
      refine lv_bipush (v := 6) hx hb dX2_bridge_43 (by decide) ?_
      refine va_ti hx hb hT hS (vp_in_nI (n := 6) (N := 7) (by decide) (by decide)) (v := .int 7) (rfl) dX2_bridge_45 ?_
      refine cw_i (wr := [((b 5), iA cI Ah), ((b 6), iA cI Ot), ((b 7), iA cI Qm), ((b 8), iA cI Op), ((b 9), iA cI Lm), ((b 10), iA cI Hm), ((b 11), iA cI Mm), ((b 12), iA cI Rw), ((b 13), iA cI St)]) (va_runV (As := [.int (nI (pAt x y)), .int 6, .int 7]) (rest := []) FX (c_X2_isBuilt l G cI b 0 mo co le K (pAt x y) 6 7 hat.1 _) (cwV 3 hts gX2_bridge_X2_isBuilt rfl rfl rfl (by decide +kernel) ⟨Nat.le_of_ble_eq_true rfl, Nat.le_of_ble_eq_true rfl⟩) (wrV hK hP hD hN [0, 1] (by decide) rfl rfl (ci := 2) (q0 := 0) rfl rfl) rfl rfl hl.1 rfl (lv_room (Nat.le_of_ble_eq_true rfl)) dX2_bridge_46 ⟨hzc, hzs⟩) hS hP hD hA [0, 1] [2, 3, 4, 5, 6, 7, 8, 9, 10] rfl rfl (by decide) (by decide) (fun r9 u H locs hw hP hD hS => ?_)
      obtain ⟨cz, K2⟩ := u
      obtain ⟨hr9, hc2, hK2⟩ := hw
      have hP := hP.sub (ws' := [((b 0), oM b 0 mo cz le), ((b 4), iA cI K2), ((b 5), iA cI Ah), ((b 6), iA cI Ot), ((b 7), iA cI Qm), ((b 8), iA cI Op), ((b 9), iA cI Lm), ((b 10), iA cI Hm), ((b 11), iA cI Mm), ((b 12), iA cI Rw), ((b 13), iA cI St)]) [9, 10, 0, 1, 2, 3, 4, 5, 6, 7, 8] rfl
      have hD := hD.sub (ws' := [((b 0), oM b 0 mo cz le), ((b 4), iA cI K2), ((b 5), iA cI Ah), ((b 6), iA cI Ot), ((b 7), iA cI Qm), ((b 8), iA cI Op), ((b 9), iA cI Lm), ((b 10), iA cI Hm), ((b 11), iA cI Mm), ((b 12), iA cI Rw), ((b 13), iA cI St)]) [9, 10, 0, 1, 2, 3, 4, 5, 6, 7, 8] (by decide) rfl
      have hc2 : cz = (if 7 ≤ co then co - 7 else co) := hc2
      have hK2 : K2 = (if 7 ≤ co then upd K (pAt x y) 6 else K) := hK2
      by_cases hcs : 7 ≤ co
      · skip
        have hc3 := hc2.trans (if_pos hcs)
        have hK3 := hK2.trans (if_pos hcs)
        rw [hc3, hK3] at hP hD
        have hcd : (cdBridge k co x y) = 0 := by unfold cdBridge; rw [hpl]; rw [if_pos rfl, if_pos ⟨c1, hcs⟩]
        refine tpi (x' := 1) (by rw [hr9, decide_eq_true hcs]; rfl) ?_
        refine lv_if_eq (tgt := 65) hx hb dX2_bridge_49 (by decide) (fun c => absurd c (by decide)) (fun _ => ?_)
        have hkd2 : ∀ z, z < 64 → kd (upd k (pAt x y) 6 z) := kd_upd hkd ⟨by decide, by decide⟩
        refine lv_aload_n hx hb dX2_bridge_52 rfl (lv_at hl 1 rfl) ?_
        refine lv_aload_n hx hb dX2_bridge_53 rfl (lv_at hl 1 rfl) ?_
        refine va_get (D := G) (ci := 2) (v := .ref (b 4)) (C := RX2) (T := TX2) (N := 14) hx hb hts hinX2 hown hK hP 0 rfl rfl 4 (by decide) hf13 (fun _ h9 => h9) rfl dX2_bridge_54 ?_
        refine lv_iload_n hx hb dX2_bridge_57 rfl (lv_at hl 0 rfl) ?_
        refine lv_iconst (v := 1) hx hb dX2_bridge_58 (by decide) ?_
        refine tpi (x' := b2i true) (rfl) ?_
        refine cw_i (wr := [((b 5), iA cI Ah), ((b 6), iA cI Ot), ((b 7), iA cI Qm), ((b 8), iA cI Op), ((b 9), iA cI Lm), ((b 10), iA cI Hm), ((b 11), iA cI Mm)]) (va_runV (As := [.ref (b 4), .int (nI (pAt x y)), .int (b2i true)]) (rest := []) FX (c_X2_fill l G cI b (b 4) 0 mo (co - 7) le (upd K (pAt x y) 6) Rw St (upd k (pAt x y) 6) true (pAt x y) (eqK_upd hk) hkd2 hat.1 _) (cwV 3 hts gX2_bridge_X2_fill rfl rfl rfl (by decide +kernel) ⟨Nat.le_of_ble_eq_true rfl, Nat.le_of_ble_eq_true rfl⟩) (wrV hK hP hD hN [0, 1, 9, 10] (by decide) rfl rfl (ci := 2) (q0 := 0) rfl rfl) rfl rfl hl.1 rfl (lv_room (Nat.le_of_ble_eq_true rfl)) dX2_bridge_59 ⟨hzc, hzs⟩) hS hP hD hA [0, 1, 9, 10] [2, 3, 4, 5, 6, 7, 8] rfl rfl (by decide) (by decide) (fun r8 u H locs hw hP hD hS => ?_)
        obtain ⟨R1, S1⟩ := u
        obtain ⟨en, row, her, hF⟩ := hw
        have hP := hP.sub (ws' := [((b 0), oM b 0 mo (co - 7) le), ((b 4), iA cI (upd K (pAt x y) 6)), ((b 5), iA cI Ah), ((b 6), iA cI Ot), ((b 7), iA cI Qm), ((b 8), iA cI Op), ((b 9), iA cI Lm), ((b 10), iA cI Hm), ((b 11), iA cI Mm), ((b 12), iA cI R1), ((b 13), iA cI S1)]) [7, 8, 0, 1, 2, 3, 4, 5, 6, 9, 10] rfl
        have hD := hD.sub (ws' := [((b 0), oM b 0 mo (co - 7) le), ((b 4), iA cI (upd K (pAt x y) 6)), ((b 5), iA cI Ah), ((b 6), iA cI Ot), ((b 7), iA cI Qm), ((b 8), iA cI Op), ((b 9), iA cI Lm), ((b 10), iA cI Hm), ((b 11), iA cI Mm), ((b 12), iA cI R1), ((b 13), iA cI S1)]) [7, 8, 0, 1, 2, 3, 4, 5, 6, 9, 10] (by decide) rfl
        refine lv_goto (tgt := 70) hx hb dX2_bridge_62 (by decide) ?_
        subst hQ
        subst hAe
        rw [hcd, ncO_0, nkO_0]
        exact wr_i (upd K (pAt x y) 6, R1, S1) (⟨fun _ => her.trans (fill_lots hat.1 (by rw [pk_us]; decide) hF), eqK_upd hk⟩) hx hb hr hP hD hS hlocks dX2_bridge_70
      · skip
        have hc3 := hc2.trans (if_neg hcs)
        have hK3 := hK2.trans (if_neg hcs)
        rw [hc3, hK3] at hP hD
        have hcd : (cdBridge k co x y) = 2 := by unfold cdBridge; rw [hpl]; rw [if_pos rfl, if_neg (fun e => hcs e.2)]
        refine tpi (x' := 0) (by rw [hr9, decide_eq_false hcs]; rfl) ?_
        refine lv_if_eq (tgt := 65) hx hb dX2_bridge_49 (by decide) (fun _ => ?_) (fun c => absurd (rfl) c)
        refine lv_aload_n hx hb dX2_bridge_65 rfl (lv_at hl 1 rfl) ?_
        refine lv_iconst (v := 2) hx hb dX2_bridge_66 (by decide) ?_
        refine cw_i (wr := [((b 4), iA cI K), ((b 5), iA cI Ah), ((b 6), iA cI Ot), ((b 7), iA cI Qm), ((b 8), iA cI Op), ((b 9), iA cI Lm), ((b 10), iA cI Hm), ((b 11), iA cI Mm), ((b 12), iA cI Rw), ((b 13), iA cI St)]) (va_runV (As := [.int 2]) (rest := []) FX (c_X2_no l G cI b 0 mo co le 2 _) (cwV 1 hts gX2_bridge_X2_no rfl rfl rfl (by decide +kernel) ⟨Nat.le_of_ble_eq_true rfl, Nat.le_of_ble_eq_true rfl⟩) (wrV hK hP hD hN [0] (by decide) rfl rfl (ci := 2) (q0 := 0) rfl rfl) rfl rfl hl.1 rfl (lv_room (Nat.le_of_ble_eq_true rfl)) dX2_bridge_67 ⟨hzc, hzs⟩) hS hP hD hA [0] [1, 2, 3, 4, 5, 6, 7, 8, 9, 10] rfl rfl (by decide) (by decide) (fun r0 u H locs hw hP hD hS => ?_)
        have hP := hP.sub (ws' := [((b 0), oM b 2 mo co le), ((b 4), iA cI K), ((b 5), iA cI Ah), ((b 6), iA cI Ot), ((b 7), iA cI Qm), ((b 8), iA cI Op), ((b 9), iA cI Lm), ((b 10), iA cI Hm), ((b 11), iA cI Mm), ((b 12), iA cI Rw), ((b 13), iA cI St)]) [10, 0, 1, 2, 3, 4, 5, 6, 7, 8, 9] rfl
        have hD := hD.sub (ws' := [((b 0), oM b 2 mo co le), ((b 4), iA cI K), ((b 5), iA cI Ah), ((b 6), iA cI Ot), ((b 7), iA cI Qm), ((b 8), iA cI Op), ((b 9), iA cI Lm), ((b 10), iA cI Hm), ((b 11), iA cI Mm), ((b 12), iA cI Rw), ((b 13), iA cI St)]) [10, 0, 1, 2, 3, 4, 5, 6, 7, 8, 9] (by decide) rfl
        refine tpi (x' := 0) (hw) ?_
        subst hQ
        subst hAe
        rw [hcd, ncO_n (by decide), nkO_n (by decide)]
        exact wr_i (K, Rw, St) (⟨fun e => absurd e (by decide), hk⟩) hx hb hr hP hD hS hlocks dX2_bridge_70

def rmX2_duesWith : Room := { frames := 7, cells := 0, slots := 0, locals := 158 }
set_option maxHeartbeats 4000000 in
set_option maxRecDepth 100000 in
/-- the dues of all with something else on a lot -/
theorem c_X2_duesWith (l : Launch) (G : va_G) (cI : ClassId) (b : Nat → Nat) (th mo co le : Int32) (K Ah Ot Qm Op Lm Hm Mm Rw St k : Nat → Int32) (pt : Nat) (v : Int32) (hk : eqK K k) (hkd : ∀ x, x < 64 → kd (k x)) (hpt : pt < 64) (hv : kd v) (sz : Nat) : Met l yX2_duesWith wsX2_duesWith rmX2_duesWith (va_Pc [.ref (b 0), .int (nI pt), .int v] (WrP G cI [((b 0), oM b th mo co le), ((b 4), iA cI K), ((b 5), iA cI Ah), ((b 6), iA cI Ot), ((b 7), iA cI Qm), ((b 8), iA cI Op), ((b 9), iA cI Lm), ((b 10), iA cI Hm), ((b 11), iA cI Mm), ((b 12), iA cI Rw), ((b 13), iA cI St)] sz)) (va_Qi (fun (r : Int32) (u : (Nat → Int32) × (Nat → Int32) × (Nat → Int32) × (Nat → Int32) × (Nat → Int32) × (Nat → Int32) × (Nat → Int32) × (Nat → Int32)) => r = dall (upd k pt v)) (WrB G [((b 0), oM b th mo co le), ((b 4), iA cI K), ((b 5), iA cI Ah), ((b 6), iA cI Ot), ((b 7), iA cI Qm), ((b 8), iA cI Op), ((b 9), iA cI Lm), ((b 10), iA cI Hm), ((b 11), iA cI Mm), ((b 12), iA cI Rw), ((b 13), iA cI St)] sz (fun u => [(b 0, oM b th mo co le), (b 4, iA cI K), (b 5, iA cI (u.1)), (b 6, iA cI Ot), (b 7, iA cI (u.2.1)), (b 8, iA cI (u.2.2.1)), (b 9, iA cI (u.2.2.2.1)), (b 10, iA cI (u.2.2.2.2.1)), (b 11, iA cI (u.2.2.2.2.2.1)), (b 12, iA cI (u.2.2.2.2.2.2.1)), (b 13, iA cI (u.2.2.2.2.2.2.2))])) (va_A [((b 0), oM b th mo co le), ((b 4), iA cI K), ((b 5), iA cI Ah), ((b 6), iA cI Ot), ((b 7), iA cI Qm), ((b 8), iA cI Op), ((b 9), iA cI Lm), ((b 10), iA cI Hm), ((b 11), iA cI Mm), ((b 12), iA cI Rw), ((b 13), iA cI St)] sz)) 0 0 (va_A [((b 0), oM b th mo co le), ((b 4), iA cI K), ((b 5), iA cI Ah), ((b 6), iA cI Ot), ((b 7), iA cI Qm), ((b 8), iA cI Op), ((b 9), iA cI Lm), ((b 10), iA cI Hm), ((b 11), iA cI Mm), ((b 12), iA cI Rw), ((b 13), iA cI St)] sz) := by
  refine Met.ofW (cc := cX2_duesWith) (maxL := 3) (ret := (some .int)) (by decide) rfl ?_
  intro p e s m args below meth c s₁ B hml hv
  obtain ⟨rfl, hsz, hP, hK, hD0, hN⟩ := hv
  have hx := B.exec
  have hb := B.bytes
  have hr := B.returns
  have hlocks := B.notSynchronized
  have hts := atoms_spec (ws := wsX2_duesWith) B.pre
  have hown : s.vm.findClass RX2 = some m.cls := findClass_of_methodNamed B.named
  subst hsz
  have hD := hD0.self (sz := s.heap.size)
  have hA : ∀ q : Nat, s.heap.size ≤ q → va_A [((b 0), oM b th mo co le), ((b 4), iA cI K), ((b 5), iA cI Ah), ((b 6), iA cI Ot), ((b 7), iA cI Qm), ((b 8), iA cI Op), ((b 9), iA cI Lm), ((b 10), iA cI Hm), ((b 11), iA cI Mm), ((b 12), iA cI Rw), ((b 13), iA cI St)] s.heap.size q := fun q h => Or.inr h
  have hS : va_S (va_A [((b 0), oM b th mo co le), ((b 4), iA cI K), ((b 5), iA cI Ah), ((b 6), iA cI Ot), ((b 7), iA cI Qm), ((b 8), iA cI Op), ((b 9), iA cI Lm), ((b 10), iA cI Hm), ((b 11), iA cI Mm), ((b 12), iA cI Rw), ((b 13), iA cI St)] s.heap.size) s.heap s.heap [] := va_S.rf
  obtain ⟨A, hAe⟩ : ∃ A, A = va_A [((b 0), oM b th mo co le), ((b 4), iA cI K), ((b 5), iA cI Ah), ((b 6), iA cI Ot), ((b 7), iA cI Qm), ((b 8), iA cI Op), ((b 9), iA cI Lm), ((b 10), iA cI Hm), ((b 11), iA cI Mm), ((b 12), iA cI Rw), ((b 13), iA cI St)] s.heap.size := ⟨_, rfl⟩
  rw [← hAe] at hD hA hS
  have FX : CallFix p m c cX2_duesWith 3 s ([.ref (b 0), .int (nI pt), .int v] : List Value).toArray wsX2_duesWith RX2 := ⟨hx, hb, hml, hown, hts⟩
  have hl := lv_entry ([.ref (b 0), .int (nI pt), .int v]) (n := 3) (Nat.le_of_ble_eq_true rfl)
  rw [lg_entry_eq]
  generalize (lg_sl ([.ref (b 0), .int (nI pt), .int v]) ++ List.replicate (3 - (lg_sl ([.ref (b 0), .int (nI pt), .int v])).length) Slot.unset).toArray = ls at hl ⊢
  have hl : lv_has ls 3 [(0, .ref (b 0)), (1, .int (nI pt)), (2, .int v)] := hl
  refine wq (fun Q hQ => ?_)
  have hzc : 0 + 0 ≤ (headSpec wsX2_duesWith rmX2_duesWith).room.cells := Nat.zero_le _
  have hzs : 0 + 0 ≤ (headSpec wsX2_duesWith rmX2_duesWith).room.slots := Nat.zero_le _
  have hf13 := hts (.fieldLink RX2 13 "CanalCityModel" "kind" "[I") (by decide +kernel)
  have hf17 := hts (.fieldLink RX2 17 "CanalCityModel" "ahead" "[I") (by decide +kernel)
  have hinX2 : ∀ w ∈ u_ws RX2 TX2 14, w ∈ wsX2_duesWith := by decide +kernel
  refine lv_aload_n hx hb dX2_duesWith_0 rfl (lv_at hl 0 rfl) ?_
  refine va_get (D := G) (ci := 2) (v := .ref (b 4)) (C := RX2) (T := TX2) (N := 14) hx hb hts hinX2 hown hK hP 0 rfl rfl 4 (by decide) hf13 (fun _ h9 => h9) rfl dX2_duesWith_1 ?_
  refine lv_iconst (v := 0) hx hb dX2_duesWith_4 (by decide) ?_
  refine lv_aload_n hx hb dX2_duesWith_5 rfl (lv_at hl 0 rfl) ?_
  refine va_get (D := G) (ci := 2) (v := .ref (b 5)) (C := RX2) (T := TX2) (N := 14) hx hb hts hinX2 hown hK hP 0 rfl rfl 5 (by decide) hf17 (fun _ h9 => h9) rfl dX2_duesWith_6 ?_
  refine lv_iconst (v := 0) hx hb dX2_duesWith_9 (by decide) ?_
  refine lv_bipush (v := 64) hx hb dX2_duesWith_10 (by decide) ?_
  refine va_copyi hx hb (hml.trans hl.1.symm) hown (hts (.methodLink RX2 133 arraycopyName) (by decide +kernel)) (hts (.native arraycopyName) (by decide +kernel)) (hts (.static arraycopyName) (by decide +kernel)) (hts (.initialized "java/lang/System") (by decide +kernel)) hK hP hD hS 1 2 0 0 rfl rfl rfl rfl rfl (by decide) (by decide) (by decide) (by decide) (by decide) (fun _ _ => rfl) (Nat.le_of_ble_eq_true rfl) (Nat.le_of_ble_eq_true rfl) dX2_duesWith_12 (fun H locs hP hD hS => ?_)
  have hP : va_P G vwCl [((b 0), oM b th mo co le), ((b 4), iA cI K), ((b 5), iA cI (va_cpy K Ah (0 : Int32).toNatClampNeg (0 : Int32).toNatClampNeg (64 : Int32).toNatClampNeg)), ((b 6), iA cI Ot), ((b 7), iA cI Qm), ((b 8), iA cI Op), ((b 9), iA cI Lm), ((b 10), iA cI Hm), ((b 11), iA cI Mm), ((b 12), iA cI Rw), ((b 13), iA cI St)] H := hP
  have hD : va_D A [((b 0), oM b th mo co le), ((b 4), iA cI K), ((b 5), iA cI (va_cpy K Ah (0 : Int32).toNatClampNeg (0 : Int32).toNatClampNeg (64 : Int32).toNatClampNeg)), ((b 6), iA cI Ot), ((b 7), iA cI Qm), ((b 8), iA cI Op), ((b 9), iA cI Lm), ((b 10), iA cI Hm), ((b 11), iA cI Mm), ((b 12), iA cI Rw), ((b 13), iA cI St)] := hD
  obtain ⟨A1, hA1⟩ : ∃ z, z = va_cpy K Ah (0 : Int32).toNatClampNeg (0 : Int32).toNatClampNeg (64 : Int32).toNatClampNeg := ⟨_, rfl⟩
  have hA1k : eqK A1 k := by rw [hA1]; exact eqK_trans (cpy_all K Ah) hk
  rw [← hA1] at hP hD
  have hP : va_P G vwCl [((b 0), oM b th mo co le), ((b 4), iA cI K), ((b 5), iA cI A1), ((b 6), iA cI Ot), ((b 7), iA cI Qm), ((b 8), iA cI Op), ((b 9), iA cI Lm), ((b 10), iA cI Hm), ((b 11), iA cI Mm), ((b 12), iA cI Rw), ((b 13), iA cI St)] H := hP
  have hD : va_D A [((b 0), oM b th mo co le), ((b 4), iA cI K), ((b 5), iA cI A1), ((b 6), iA cI Ot), ((b 7), iA cI Qm), ((b 8), iA cI Op), ((b 9), iA cI Lm), ((b 10), iA cI Hm), ((b 11), iA cI Mm), ((b 12), iA cI Rw), ((b 13), iA cI St)] := hD
  refine lv_aload_n hx hb dX2_duesWith_15 rfl (lv_at hl 0 rfl) ?_
  refine va_get (D := G) (ci := 2) (v := .ref (b 5)) (C := RX2) (T := TX2) (N := 14) hx hb hts hinX2 hown hK hP 0 rfl rfl 5 (by decide) hf17 (fun _ h9 => h9) rfl dX2_duesWith_16 ?_
  refine lv_iload_n hx hb dX2_duesWith_19 rfl (lv_at hl 1 rfl) ?_
  refine lv_iload_n hx hb dX2_duesWith_20 rfl (lv_at hl 2 rfl) ?_
  refine va_iast hx hb hK hP hD hS 2 0 rfl rfl (vp_in_nI hpt (by decide)) dX2_duesWith_21 (fun H locs hP hD hS => ?_)
  rw [show ((nI pt)).toNatClampNeg = pt from nI_clamp (by omega)] at hP hD
  have hP : va_P G vwCl [((b 0), oM b th mo co le), ((b 4), iA cI K), ((b 5), iA cI (upd A1 pt v)), ((b 6), iA cI Ot), ((b 7), iA cI Qm), ((b 8), iA cI Op), ((b 9), iA cI Lm), ((b 10), iA cI Hm), ((b 11), iA cI Mm), ((b 12), iA cI Rw), ((b 13), iA cI St)] H := hP
  have hD : va_D A [((b 0), oM b th mo co le), ((b 4), iA cI K), ((b 5), iA cI (upd A1 pt v)), ((b 6), iA cI Ot), ((b 7), iA cI Qm), ((b 8), iA cI Op), ((b 9), iA cI Lm), ((b 10), iA cI Hm), ((b 11), iA cI Mm), ((b 12), iA cI Rw), ((b 13), iA cI St)] := hD
  refine lv_aload_n hx hb dX2_duesWith_22 rfl (lv_at hl 0 rfl) ?_
  refine lv_aload_n hx hb dX2_duesWith_23 rfl (lv_at hl 0 rfl) ?_
  refine va_get (D := G) (ci := 2) (v := .ref (b 5)) (C := RX2) (T := TX2) (N := 14) hx hb hts hinX2 hown hK hP 0 rfl rfl 5 (by decide) hf17 (fun _ h9 => h9) rfl dX2_duesWith_24 ?_
  have hkd2 : ∀ z, z < 64 → kd (upd k pt v z) := kd_upd hkd hv
  refine cw_i (wr := [((b 4), iA cI K), ((b 6), iA cI Ot)]) (va_runV (As := [.ref (b 5)]) (rest := []) FX (c_X2_look l G cI b (b 5) th mo co le (upd A1 pt v) Qm Op Lm Hm Mm Rw St (upd k pt v) (eqK_upd hA1k) hkd2 _) (cwV 1 hts gX2_duesWith_X2_look rfl rfl rfl (by decide +kernel) ⟨Nat.le_of_ble_eq_true rfl, Nat.le_of_ble_eq_true rfl⟩) (wrV hK hP hD hN [0, 2, 4, 5, 6, 7, 8, 9, 10] (by decide) rfl rfl (ci := 2) (q0 := 0) rfl rfl) rfl rfl hl.1 rfl (lv_room (Nat.le_of_ble_eq_true rfl)) dX2_duesWith_27 ⟨hzc, hzs⟩) hS hP hD hA [0, 2, 4, 5, 6, 7, 8, 9, 10] [1, 3] rfl rfl (by decide) (by decide) (fun r9 u H locs hw hP hD hS => ?_)
  obtain ⟨Q1, P1, L1, H1, M1, R1, S1⟩ := u
  obtain ⟨h9, hLK⟩ := hw
  have hP := hP.sub (ws' := [((b 0), oM b th mo co le), ((b 4), iA cI K), ((b 5), iA cI (upd A1 pt v)), ((b 6), iA cI Ot), ((b 7), iA cI Q1), ((b 8), iA cI P1), ((b 9), iA cI L1), ((b 10), iA cI H1), ((b 11), iA cI M1), ((b 12), iA cI R1), ((b 13), iA cI S1)]) [2, 0, 3, 1, 4, 5, 6, 7, 8, 9, 10] rfl
  have hD := hD.sub (ws' := [((b 0), oM b th mo co le), ((b 4), iA cI K), ((b 5), iA cI (upd A1 pt v)), ((b 6), iA cI Ot), ((b 7), iA cI Q1), ((b 8), iA cI P1), ((b 9), iA cI L1), ((b 10), iA cI H1), ((b 11), iA cI M1), ((b 12), iA cI R1), ((b 13), iA cI S1)]) [2, 0, 3, 1, 4, 5, 6, 7, 8, 9, 10] (by decide) rfl
  refine lv_pop hx hb dX2_duesWith_30 rfl ?_
  refine lv_aload_n hx hb dX2_duesWith_31 rfl (lv_at hl 0 rfl) ?_
  refine lv_aload_n hx hb dX2_duesWith_32 rfl (lv_at hl 0 rfl) ?_
  refine va_get (D := G) (ci := 2) (v := .ref (b 5)) (C := RX2) (T := TX2) (N := 14) hx hb hts hinX2 hown hK hP 0 rfl rfl 5 (by decide) hf17 (fun _ h9 => h9) rfl dX2_duesWith_33 ?_
  refine lv_iconst (v := 1) hx hb dX2_duesWith_36 (by decide) ?_
  refine tpi (x' := b2i true) (rfl) ?_
  refine cr_i (va_runV (As := [.ref (b 5), .int (b2i true)]) (rest := []) FX (c_X2_sum l G cI b (b 5) th mo co le (upd A1 pt v) Q1 P1 L1 H1 M1 R1 S1 (upd k pt v) true (eqK_upd hA1k) hkd2 hLK) (cwV 2 hts gX2_duesWith_X2_sum rfl rfl rfl (by decide +kernel) ⟨Nat.le_of_ble_eq_true rfl, Nat.le_of_ble_eq_true rfl⟩) (rdV hK hP hN [0, 2, 4, 5, 6, 7, 8, 9, 10] rfl (ci := 2) (q0 := 0) rfl rfl) rfl rfl hl.1 rfl (lv_room (Nat.le_of_ble_eq_true rfl)) dX2_duesWith_37 ⟨hzc, hzs⟩) hS hP (fun H locs hP hS => ?_)
  refine tpi (x' := dall (upd k pt v)) (rfl) ?_
  subst hQ
  subst hAe
  exact wr_i (upd A1 pt v, Q1, P1, L1, H1, M1, R1, S1) (rfl) hx hb hr hP hD hS hlocks dX2_duesWith_40

def rmX2_would : Room := { frames := 8, cells := 0, slots := 0, locals := 180 }
set_option maxHeartbeats 4000000 in
set_option maxRecDepth 100000 in
theorem c_X2_would (l : Launch) (G : va_G) (cI : ClassId) (b : Nat → Nat) (th mo co le : Int32) (K Ah Ot Qm Op Lm Hm Mm Rw St k : Nat → Int32) (x y v : Int32) (hk : eqK K k) (hkd : ∀ x, x < 64 → kd (k x)) (sz : Nat) : Met l yX2_would wsX2_would rmX2_would (va_Pc [.ref (b 0), .int x, .int y, .int v] (WrP G cI [((b 0), oM b th mo co le), ((b 4), iA cI K), ((b 5), iA cI Ah), ((b 6), iA cI Ot), ((b 7), iA cI Qm), ((b 8), iA cI Op), ((b 9), iA cI Lm), ((b 10), iA cI Hm), ((b 11), iA cI Mm), ((b 12), iA cI Rw), ((b 13), iA cI St)] sz)) (va_Qi (fun (r : Int32) (u : (Nat → Int32) × (Nat → Int32) × (Nat → Int32) × (Nat → Int32) × (Nat → Int32) × (Nat → Int32) × (Nat → Int32) × (Nat → Int32)) => (cdWould k x y v) = 0 → r = dall (upd k (pAt x y) v) - dall k) (WrB G [((b 0), oM b th mo co le), ((b 4), iA cI K), ((b 5), iA cI Ah), ((b 6), iA cI Ot), ((b 7), iA cI Qm), ((b 8), iA cI Op), ((b 9), iA cI Lm), ((b 10), iA cI Hm), ((b 11), iA cI Mm), ((b 12), iA cI Rw), ((b 13), iA cI St)] sz (fun u => [(b 0, oM b (cdWould k x y v) mo co le), (b 4, iA cI K), (b 5, iA cI (u.1)), (b 6, iA cI Ot), (b 7, iA cI (u.2.1)), (b 8, iA cI (u.2.2.1)), (b 9, iA cI (u.2.2.2.1)), (b 10, iA cI (u.2.2.2.2.1)), (b 11, iA cI (u.2.2.2.2.2.1)), (b 12, iA cI (u.2.2.2.2.2.2.1)), (b 13, iA cI (u.2.2.2.2.2.2.2))])) (va_A [((b 0), oM b th mo co le), ((b 4), iA cI K), ((b 5), iA cI Ah), ((b 6), iA cI Ot), ((b 7), iA cI Qm), ((b 8), iA cI Op), ((b 9), iA cI Lm), ((b 10), iA cI Hm), ((b 11), iA cI Mm), ((b 12), iA cI Rw), ((b 13), iA cI St)] sz)) 0 0 (va_A [((b 0), oM b th mo co le), ((b 4), iA cI K), ((b 5), iA cI Ah), ((b 6), iA cI Ot), ((b 7), iA cI Qm), ((b 8), iA cI Op), ((b 9), iA cI Lm), ((b 10), iA cI Hm), ((b 11), iA cI Mm), ((b 12), iA cI Rw), ((b 13), iA cI St)] sz) := by
  refine Met.ofW (cc := cX2_would) (maxL := 5) (ret := (some .int)) (by decide) rfl ?_
  intro p e s m args below meth c s₁ B hml hv
  obtain ⟨rfl, hsz, hP, hK, hD0, hN⟩ := hv
  have hx := B.exec
  have hb := B.bytes
  have hr := B.returns
  have hlocks := B.notSynchronized
  have hts := atoms_spec (ws := wsX2_would) B.pre
  have hown : s.vm.findClass RX2 = some m.cls := findClass_of_methodNamed B.named
  subst hsz
  have hD := hD0.self (sz := s.heap.size)
  have hA : ∀ q : Nat, s.heap.size ≤ q → va_A [((b 0), oM b th mo co le), ((b 4), iA cI K), ((b 5), iA cI Ah), ((b 6), iA cI Ot), ((b 7), iA cI Qm), ((b 8), iA cI Op), ((b 9), iA cI Lm), ((b 10), iA cI Hm), ((b 11), iA cI Mm), ((b 12), iA cI Rw), ((b 13), iA cI St)] s.heap.size q := fun q h => Or.inr h
  have hS : va_S (va_A [((b 0), oM b th mo co le), ((b 4), iA cI K), ((b 5), iA cI Ah), ((b 6), iA cI Ot), ((b 7), iA cI Qm), ((b 8), iA cI Op), ((b 9), iA cI Lm), ((b 10), iA cI Hm), ((b 11), iA cI Mm), ((b 12), iA cI Rw), ((b 13), iA cI St)] s.heap.size) s.heap s.heap [] := va_S.rf
  obtain ⟨A, hAe⟩ : ∃ A, A = va_A [((b 0), oM b th mo co le), ((b 4), iA cI K), ((b 5), iA cI Ah), ((b 6), iA cI Ot), ((b 7), iA cI Qm), ((b 8), iA cI Op), ((b 9), iA cI Lm), ((b 10), iA cI Hm), ((b 11), iA cI Mm), ((b 12), iA cI Rw), ((b 13), iA cI St)] s.heap.size := ⟨_, rfl⟩
  rw [← hAe] at hD hA hS
  have FX : CallFix p m c cX2_would 5 s ([.ref (b 0), .int x, .int y, .int v] : List Value).toArray wsX2_would RX2 := ⟨hx, hb, hml, hown, hts⟩
  have hl := lv_entry ([.ref (b 0), .int x, .int y, .int v]) (n := 5) (Nat.le_of_ble_eq_true rfl)
  rw [lg_entry_eq]
  generalize (lg_sl ([.ref (b 0), .int x, .int y, .int v]) ++ List.replicate (5 - (lg_sl ([.ref (b 0), .int x, .int y, .int v])).length) Slot.unset).toArray = ls at hl ⊢
  have hl : lv_has ls 5 [(0, .ref (b 0)), (1, .int x), (2, .int y), (3, .int v)] := hl
  refine wq (fun Q hQ => ?_)
  have hzc : 0 + 0 ≤ (headSpec wsX2_would rmX2_would).room.cells := Nat.zero_le _
  have hzs : 0 + 0 ≤ (headSpec wsX2_would rmX2_would).room.slots := Nat.zero_le _
  have hf13 := hts (.fieldLink RX2 13 "CanalCityModel" "kind" "[I") (by decide +kernel)
  have hf44 := hts (.fieldLink RX2 44 "CanalCityModel" "thrown" "I") (by decide +kernel)
  have hinX2 : ∀ w ∈ u_ws RX2 TX2 14, w ∈ wsX2_would := by decide +kernel
  refine lv_aload_n hx hb dX2_would_0 rfl (lv_at hl 0 rfl) ?_
  refine lv_iconst (v := 0) hx hb dX2_would_1 (by decide) ?_
  refine va_put (D := G) (ci := 2) (v := .int 0) (ty := .int) (C := RX2) (T := TX2) (N := 14) hx hb hts hinX2 tyX2 tyX2_ok nmX2 hown hK hP hD hS 0 rfl rfl 0 (by decide) hf44 (fun _ h9 => h9) rfl (by decide +kernel) rfl rfl (Nat.le_of_ble_eq_true rfl) dX2_would_2 (fun H locs hP hD hS => ?_)
  have hP : va_P G vwCl [((b 0), oM b 0 mo co le), ((b 4), iA cI K), ((b 5), iA cI Ah), ((b 6), iA cI Ot), ((b 7), iA cI Qm), ((b 8), iA cI Op), ((b 9), iA cI Lm), ((b 10), iA cI Hm), ((b 11), iA cI Mm), ((b 12), iA cI Rw), ((b 13), iA cI St)] H := hP
  have hD : va_D A [((b 0), oM b 0 mo co le), ((b 4), iA cI K), ((b 5), iA cI Ah), ((b 6), iA cI Ot), ((b 7), iA cI Qm), ((b 8), iA cI Op), ((b 9), iA cI Lm), ((b 10), iA cI Hm), ((b 11), iA cI Mm), ((b 12), iA cI Rw), ((b 13), iA cI St)] := hD
  refine lv_iload_n hx hb dX2_would_5 rfl (lv_at hl 1 rfl) ?_
  refine lv_iload_n hx hb dX2_would_6 rfl (lv_at hl 2 rfl) ?_
  refine cr_i (va_runS (As := [.int x, .int y]) (rest := []) FX (c_X2_isPlace l x y) (va_cwS 2 hts gX2_would_X2_isPlace rfl rfl rfl (by decide +kernel) ⟨Nat.le_of_ble_eq_true rfl, Nat.le_of_ble_eq_true rfl⟩) puS rfl rfl hl.1 rfl (lv_room (Nat.le_of_ble_eq_true rfl)) dX2_would_7 ⟨hzc, hzs⟩) hS hP (fun H locs hP hS => ?_)
  rcases hpl : (inB 0 7 x && inB 0 7 y) with _ | _
  · skip
    have hcd : (cdWould k x y v) = 1 := by unfold cdWould; rw [hpl]; rfl
    refine tpi (x' := 0) (rfl) ?_
    refine lv_if_ne (tgt := 19) hx hb dX2_would_10 (by decide) (fun c => absurd (rfl) c) (fun _ => ?_)
    refine lv_aload_n hx hb dX2_would_13 rfl (lv_at hl 0 rfl) ?_
    refine lv_iconst (v := 1) hx hb dX2_would_14 (by decide) ?_
    refine cw_i (wr := [((b 4), iA cI K), ((b 5), iA cI Ah), ((b 6), iA cI Ot), ((b 7), iA cI Qm), ((b 8), iA cI Op), ((b 9), iA cI Lm), ((b 10), iA cI Hm), ((b 11), iA cI Mm), ((b 12), iA cI Rw), ((b 13), iA cI St)]) (va_runV (As := [.int 1]) (rest := []) FX (c_X2_no l G cI b 0 mo co le 1 _) (cwV 1 hts gX2_would_X2_no rfl rfl rfl (by decide +kernel) ⟨Nat.le_of_ble_eq_true rfl, Nat.le_of_ble_eq_true rfl⟩) (wrV hK hP hD hN [0] (by decide) rfl rfl (ci := 2) (q0 := 0) rfl rfl) rfl rfl hl.1 rfl (lv_room (Nat.le_of_ble_eq_true rfl)) dX2_would_15 ⟨hzc, hzs⟩) hS hP hD hA [0] [1, 2, 3, 4, 5, 6, 7, 8, 9, 10] rfl rfl (by decide) (by decide) (fun r0 u H locs hw hP hD hS => ?_)
    have hP := hP.sub (ws' := [((b 0), oM b 1 mo co le), ((b 4), iA cI K), ((b 5), iA cI Ah), ((b 6), iA cI Ot), ((b 7), iA cI Qm), ((b 8), iA cI Op), ((b 9), iA cI Lm), ((b 10), iA cI Hm), ((b 11), iA cI Mm), ((b 12), iA cI Rw), ((b 13), iA cI St)]) [10, 0, 1, 2, 3, 4, 5, 6, 7, 8, 9] rfl
    have hD := hD.sub (ws' := [((b 0), oM b 1 mo co le), ((b 4), iA cI K), ((b 5), iA cI Ah), ((b 6), iA cI Ot), ((b 7), iA cI Qm), ((b 8), iA cI Op), ((b 9), iA cI Lm), ((b 10), iA cI Hm), ((b 11), iA cI Mm), ((b 12), iA cI Rw), ((b 13), iA cI St)]) [10, 0, 1, 2, 3, 4, 5, 6, 7, 8, 9] (by decide) rfl
    refine tpi (x' := 0) (hw) ?_
    subst hQ
    subst hAe
    rw [hcd]
    exact wr_i (Ah, Qm, Op, Lm, Hm, Mm, Rw, St) (fun e => absurd e (by decide)) hx hb hr hP hD hS hlocks dX2_would_18
  · skip
    have hat := plc_at hpl
    refine tpi (x' := 1) (rfl) ?_
    refine lv_if_ne (tgt := 19) hx hb dX2_would_10 (by decide) (fun _ => ?_) (fun c => absurd c (by decide))
    refine lv_iload_n hx hb dX2_would_19 rfl (lv_at hl 3 rfl) ?_
    refine lv_iconst (v := 3) hx hb dX2_would_20 (by decide) ?_
    refine lv_iconst (v := 5) hx hb dX2_would_21 (by decide) ?_
    refine cr_i (va_runS (As := [.int v, .int 3, .int 5]) (rest := []) FX (c_X2_isIn l v 3 5) (va_cwS 3 hts gX2_would_X2_isIn rfl rfl rfl (by decide +kernel) ⟨Nat.le_of_ble_eq_true rfl, Nat.le_of_ble_eq_true rfl⟩) puS rfl rfl hl.1 rfl (lv_room (Nat.le_of_ble_eq_true rfl)) dX2_would_22 ⟨hzc, hzs⟩) hS hP (fun H locs hP hS => ?_)
    rcases hin : inB 3 5 v with _ | _
    · skip
      have hcd : (cdWould k x y v) = 2 := by unfold cdWould; rw [hpl, hin]; rfl
      refine tpi (x' := 0) (rfl) ?_
      refine lv_if_ne (tgt := 34) hx hb dX2_would_25 (by decide) (fun c => absurd (rfl) c) (fun _ => ?_)
      refine lv_aload_n hx hb dX2_would_28 rfl (lv_at hl 0 rfl) ?_
      refine lv_iconst (v := 2) hx hb dX2_would_29 (by decide) ?_
      refine cw_i (wr := [((b 4), iA cI K), ((b 5), iA cI Ah), ((b 6), iA cI Ot), ((b 7), iA cI Qm), ((b 8), iA cI Op), ((b 9), iA cI Lm), ((b 10), iA cI Hm), ((b 11), iA cI Mm), ((b 12), iA cI Rw), ((b 13), iA cI St)]) (va_runV (As := [.int 2]) (rest := []) FX (c_X2_no l G cI b 0 mo co le 2 _) (cwV 1 hts gX2_would_X2_no rfl rfl rfl (by decide +kernel) ⟨Nat.le_of_ble_eq_true rfl, Nat.le_of_ble_eq_true rfl⟩) (wrV hK hP hD hN [0] (by decide) rfl rfl (ci := 2) (q0 := 0) rfl rfl) rfl rfl hl.1 rfl (lv_room (Nat.le_of_ble_eq_true rfl)) dX2_would_30 ⟨hzc, hzs⟩) hS hP hD hA [0] [1, 2, 3, 4, 5, 6, 7, 8, 9, 10] rfl rfl (by decide) (by decide) (fun r0 u H locs hw hP hD hS => ?_)
      have hP := hP.sub (ws' := [((b 0), oM b 2 mo co le), ((b 4), iA cI K), ((b 5), iA cI Ah), ((b 6), iA cI Ot), ((b 7), iA cI Qm), ((b 8), iA cI Op), ((b 9), iA cI Lm), ((b 10), iA cI Hm), ((b 11), iA cI Mm), ((b 12), iA cI Rw), ((b 13), iA cI St)]) [10, 0, 1, 2, 3, 4, 5, 6, 7, 8, 9] rfl
      have hD := hD.sub (ws' := [((b 0), oM b 2 mo co le), ((b 4), iA cI K), ((b 5), iA cI Ah), ((b 6), iA cI Ot), ((b 7), iA cI Qm), ((b 8), iA cI Op), ((b 9), iA cI Lm), ((b 10), iA cI Hm), ((b 11), iA cI Mm), ((b 12), iA cI Rw), ((b 13), iA cI St)]) [10, 0, 1, 2, 3, 4, 5, 6, 7, 8, 9] (by decide) rfl
      refine tpi (x' := 0) (hw) ?_
      subst hQ
      subst hAe
      rw [hcd]
      exact wr_i (Ah, Qm, Op, Lm, Hm, Mm, Rw, St) (fun e => absurd e (by decide)) hx hb hr hP hD hS hlocks dX2_would_33
    · skip
      refine tpi (x' := 1) (rfl) ?_
      refine lv_if_ne (tgt := 34) hx hb dX2_would_25 (by decide) (fun _ => ?_) (fun c => absurd c (by decide))
      refine lv_bipush (v := 8) hx hb dX2_would_34 (by decide) ?_
      refine lv_iload_n hx hb dX2_would_36 rfl (lv_at hl 2 rfl) ?_
      refine lv_imul hx hb dX2_would_37 ?_
      refine lv_iload_n hx hb dX2_would_38 rfl (lv_at hl 1 rfl) ?_
      refine lv_iadd hx hb dX2_would_39 ?_
      refine tpi (x' := nI (pAt x y)) (hat.2) ?_
      refine lv_istore (lv' := [(4, .int (nI (pAt x y))), (0, .ref (b 0)), (1, .int x), (2, .int y), (3, .int v)]) hx hb dX2_would_40 hl (by decide) rfl (fun ls hl => ?_)
      refine lv_aload_n hx hb dX2_would_42 rfl (lv_at hl 1 rfl) ?_
      refine va_get (D := G) (ci := 2) (v := .ref (b 4)) (C := RX2) (T := TX2) (N := 14) hx hb hts hinX2 hown hK hP 0 rfl rfl 4 (by decide) hf13 (fun _ h9 => h9) rfl dX2_would_43 ?_
      refine lv_iload hx hb dX2_would_46 (lv_at hl 0 rfl) ?_
      refine va_iald hx hb hK hP 1 0 rfl rfl (vp_in_nI hat.1 (by decide)) dX2_would_48 ?_
      refine tpi (x' := K (pAt x y)) (congrArg K (nI_clamp (by omega))) ?_
      refine tpi (x' := k (pAt x y)) (hk _ hat.1) ?_
      refine lv_iconst (v := 2) hx hb dX2_would_49 (by decide) ?_
      refine lv_icmp_ne (tgt := 71) hx hb dX2_would_50 (by decide) (fun c2 => ?_) (fun c2 => ?_)
      · skip
        have hcd : (cdWould k x y v) = 3 := by unfold cdWould; rw [hpl, hin]; rw [if_pos rfl, if_pos rfl, if_neg c2]
        refine lv_aload_n hx hb dX2_would_71 rfl (lv_at hl 1 rfl) ?_
        refine lv_iconst (v := 3) hx hb dX2_would_72 (by decide) ?_
        refine cw_i (wr := [((b 4), iA cI K), ((b 5), iA cI Ah), ((b 6), iA cI Ot), ((b 7), iA cI Qm), ((b 8), iA cI Op), ((b 9), iA cI Lm), ((b 10), iA cI Hm), ((b 11), iA cI Mm), ((b 12), iA cI Rw), ((b 13), iA cI St)]) (va_runV (As := [.int 3]) (rest := []) FX (c_X2_no l G cI b 0 mo co le 3 _) (cwV 1 hts gX2_would_X2_no rfl rfl rfl (by decide +kernel) ⟨Nat.le_of_ble_eq_true rfl, Nat.le_of_ble_eq_true rfl⟩) (wrV hK hP hD hN [0] (by decide) rfl rfl (ci := 2) (q0 := 0) rfl rfl) rfl rfl hl.1 rfl (lv_room (Nat.le_of_ble_eq_true rfl)) dX2_would_73 ⟨hzc, hzs⟩) hS hP hD hA [0] [1, 2, 3, 4, 5, 6, 7, 8, 9, 10] rfl rfl (by decide) (by decide) (fun r0 u H locs hw hP hD hS => ?_)
        have hP := hP.sub (ws' := [((b 0), oM b 3 mo co le), ((b 4), iA cI K), ((b 5), iA cI Ah), ((b 6), iA cI Ot), ((b 7), iA cI Qm), ((b 8), iA cI Op), ((b 9), iA cI Lm), ((b 10), iA cI Hm), ((b 11), iA cI Mm), ((b 12), iA cI Rw), ((b 13), iA cI St)]) [10, 0, 1, 2, 3, 4, 5, 6, 7, 8, 9] rfl
        have hD := hD.sub (ws' := [((b 0), oM b 3 mo co le), ((b 4), iA cI K), ((b 5), iA cI Ah), ((b 6), iA cI Ot), ((b 7), iA cI Qm), ((b 8), iA cI Op), ((b 9), iA cI Lm), ((b 10), iA cI Hm), ((b 11), iA cI Mm), ((b 12), iA cI Rw), ((b 13), iA cI St)]) [10, 0, 1, 2, 3, 4, 5, 6, 7, 8, 9] (by decide) rfl
        refine tpi (x' := 0) (hw) ?_
        subst hQ
        subst hAe
        rw [hcd]
        exact wr_i (Ah, Qm, Op, Lm, Hm, Mm, Rw, St) (fun e => absurd e (by decide)) hx hb hr hP hD hS hlocks dX2_would_76
      · skip
        have hcd : (cdWould k x y v) = 0 := by unfold cdWould; rw [hpl, hin]; rw [if_pos rfl, if_pos rfl, if_pos c2]
        refine lv_aload_n hx hb dX2_would_53 rfl (lv_at hl 1 rfl) ?_
        refine lv_iload hx hb dX2_would_54 (lv_at hl 0 rfl) ?_
        refine lv_iload_n hx hb dX2_would_56 rfl (lv_at hl 4 rfl) ?_
        refine cw_i (wr := []) (va_runV (As := [.int (nI (pAt x y)), .int v]) (rest := []) FX (c_X2_duesWith l G cI b 0 mo co le K Ah Ot Qm Op Lm Hm Mm Rw St k (pAt x y) v hk hkd hat.1 (inB_kd hin) _) (cwV 2 hts gX2_would_X2_duesWith rfl rfl rfl (by decide +kernel) ⟨Nat.le_of_ble_eq_true rfl, Nat.le_of_ble_eq_true rfl⟩) (wrV hK hP hD hN [0, 1, 2, 3, 4, 5, 6, 7, 8, 9, 10] (by decide) rfl rfl (ci := 2) (q0 := 0) rfl rfl) rfl rfl hl.1 rfl (lv_room (Nat.le_of_ble_eq_true rfl)) dX2_would_57 ⟨hzc, hzs⟩) hS hP hD hA [0, 1, 2, 3, 4, 5, 6, 7, 8, 9, 10] [] rfl rfl (by decide) (by decide) (fun r8 u H locs hw hP hD hS => ?_)
        obtain ⟨A1, Q1, P1, L1, H1, M1, R1, S1⟩ := u
        have hP := hP.sub (ws' := [((b 0), oM b 0 mo co le), ((b 4), iA cI K), ((b 5), iA cI A1), ((b 6), iA cI Ot), ((b 7), iA cI Q1), ((b 8), iA cI P1), ((b 9), iA cI L1), ((b 10), iA cI H1), ((b 11), iA cI M1), ((b 12), iA cI R1), ((b 13), iA cI S1)]) [0, 1, 2, 3, 4, 5, 6, 7, 8, 9, 10] rfl
        have hD := hD.sub (ws' := [((b 0), oM b 0 mo co le), ((b 4), iA cI K), ((b 5), iA cI A1), ((b 6), iA cI Ot), ((b 7), iA cI Q1), ((b 8), iA cI P1), ((b 9), iA cI L1), ((b 10), iA cI H1), ((b 11), iA cI M1), ((b 12), iA cI R1), ((b 13), iA cI S1)]) [0, 1, 2, 3, 4, 5, 6, 7, 8, 9, 10] (by decide) rfl
        have hw8 := hw
        refine tpi (x' := dall (upd k (pAt x y) v)) (hw8) ?_
        refine lv_aload_n hx hb dX2_would_60 rfl (lv_at hl 1 rfl) ?_
        refine lv_iload hx hb dX2_would_61 (lv_at hl 0 rfl) ?_
        refine lv_iconst (v := 2) hx hb dX2_would_63 (by decide) ?_
        refine cw_i (wr := []) (va_runV (As := [.int (nI (pAt x y)), .int 2]) (rest := [.int (dall (upd k (pAt x y) v))]) FX (c_X2_duesWith l G cI b 0 mo co le K A1 Ot Q1 P1 L1 H1 M1 R1 S1 k (pAt x y) 2 hk hkd hat.1 ⟨by decide, by decide⟩ _) (cwV 2 hts gX2_would_X2_duesWith rfl rfl rfl (by decide +kernel) ⟨Nat.le_of_ble_eq_true rfl, Nat.le_of_ble_eq_true rfl⟩) (wrV hK hP hD hN [0, 1, 2, 3, 4, 5, 6, 7, 8, 9, 10] (by decide) rfl rfl (ci := 2) (q0 := 0) rfl rfl) rfl rfl hl.1 rfl (lv_room (Nat.le_of_ble_eq_true rfl)) dX2_would_64 ⟨hzc, hzs⟩) hS hP hD hA [0, 1, 2, 3, 4, 5, 6, 7, 8, 9, 10] [] rfl rfl (by decide) (by decide) (fun r7 u H locs hw hP hD hS => ?_)
        obtain ⟨A2, Q2, P2, L2, H2, M2, R2, S2⟩ := u
        have hP := hP.sub (ws' := [((b 0), oM b 0 mo co le), ((b 4), iA cI K), ((b 5), iA cI A2), ((b 6), iA cI Ot), ((b 7), iA cI Q2), ((b 8), iA cI P2), ((b 9), iA cI L2), ((b 10), iA cI H2), ((b 11), iA cI M2), ((b 12), iA cI R2), ((b 13), iA cI S2)]) [0, 1, 2, 3, 4, 5, 6, 7, 8, 9, 10] rfl
        have hD := hD.sub (ws' := [((b 0), oM b 0 mo co le), ((b 4), iA cI K), ((b 5), iA cI A2), ((b 6), iA cI Ot), ((b 7), iA cI Q2), ((b 8), iA cI P2), ((b 9), iA cI L2), ((b 10), iA cI H2), ((b 11), iA cI M2), ((b 12), iA cI R2), ((b 13), iA cI S2)]) [0, 1, 2, 3, 4, 5, 6, 7, 8, 9, 10] (by decide) rfl
        refine tpi (x' := dall k) (by rw [hw, upd_same c2]) ?_
        refine lv_isub hx hb dX2_would_67 ?_
        refine lv_goto (tgt := 76) hx hb dX2_would_68 (by decide) ?_
        subst hQ
        subst hAe
        rw [hcd]
        exact wr_i (A2, Q2, P2, L2, H2, M2, R2, S2) (fun _ => rfl) hx hb hr hP hD hS hlocks dX2_would_76

def rmX2_best : Room := { frames := 8, cells := 0, slots := 0, locals := 180 }
set_option maxHeartbeats 4000000 in
set_option maxRecDepth 100000 in
theorem c_X2_best (l : Launch) (G : va_G) (cI : ClassId) (b : Nat → Nat) (th mo co le : Int32) (K Ah Ot Qm Op Lm Hm Mm Rw St k : Nat → Int32) (v : Int32) (hk : eqK K k) (hkd : ∀ x, x < 64 → kd (k x)) (sz : Nat) : Met l yX2_best wsX2_best rmX2_best (va_Pc [.ref (b 0), .int v] (WrP G cI [((b 0), oM b th mo co le), ((b 4), iA cI K), ((b 5), iA cI Ah), ((b 6), iA cI Ot), ((b 7), iA cI Qm), ((b 8), iA cI Op), ((b 9), iA cI Lm), ((b 10), iA cI Hm), ((b 11), iA cI Mm), ((b 12), iA cI Rw), ((b 13), iA cI St)] sz)) (va_Qi (fun (r : Int32) (u : (Nat → Int32) × (Nat → Int32) × (Nat → Int32) × (Nat → Int32) × (Nat → Int32) × (Nat → Int32) × (Nat → Int32) × (Nat → Int32)) => (cdBest v) = 0 → r = (bst k v 64).1) (WrB G [((b 0), oM b th mo co le), ((b 4), iA cI K), ((b 5), iA cI Ah), ((b 6), iA cI Ot), ((b 7), iA cI Qm), ((b 8), iA cI Op), ((b 9), iA cI Lm), ((b 10), iA cI Hm), ((b 11), iA cI Mm), ((b 12), iA cI Rw), ((b 13), iA cI St)] sz (fun u => [(b 0, oM b (cdBest v) mo co le), (b 4, iA cI K), (b 5, iA cI (u.1)), (b 6, iA cI Ot), (b 7, iA cI (u.2.1)), (b 8, iA cI (u.2.2.1)), (b 9, iA cI (u.2.2.2.1)), (b 10, iA cI (u.2.2.2.2.1)), (b 11, iA cI (u.2.2.2.2.2.1)), (b 12, iA cI (u.2.2.2.2.2.2.1)), (b 13, iA cI (u.2.2.2.2.2.2.2))])) (va_A [((b 0), oM b th mo co le), ((b 4), iA cI K), ((b 5), iA cI Ah), ((b 6), iA cI Ot), ((b 7), iA cI Qm), ((b 8), iA cI Op), ((b 9), iA cI Lm), ((b 10), iA cI Hm), ((b 11), iA cI Mm), ((b 12), iA cI Rw), ((b 13), iA cI St)] sz)) 0 0 (va_A [((b 0), oM b th mo co le), ((b 4), iA cI K), ((b 5), iA cI Ah), ((b 6), iA cI Ot), ((b 7), iA cI Qm), ((b 8), iA cI Op), ((b 9), iA cI Lm), ((b 10), iA cI Hm), ((b 11), iA cI Mm), ((b 12), iA cI Rw), ((b 13), iA cI St)] sz) := by
  refine Met.ofW (cc := cX2_best) (maxL := 6) (ret := (some .int)) (by decide) rfl ?_
  intro p e s m args below meth c s₁ B hml hv
  obtain ⟨rfl, hsz, hP, hK, hD0, hN⟩ := hv
  have hx := B.exec
  have hb := B.bytes
  have hr := B.returns
  have hlocks := B.notSynchronized
  have hts := atoms_spec (ws := wsX2_best) B.pre
  have hown : s.vm.findClass RX2 = some m.cls := findClass_of_methodNamed B.named
  subst hsz
  have hD := hD0.self (sz := s.heap.size)
  have hA : ∀ q : Nat, s.heap.size ≤ q → va_A [((b 0), oM b th mo co le), ((b 4), iA cI K), ((b 5), iA cI Ah), ((b 6), iA cI Ot), ((b 7), iA cI Qm), ((b 8), iA cI Op), ((b 9), iA cI Lm), ((b 10), iA cI Hm), ((b 11), iA cI Mm), ((b 12), iA cI Rw), ((b 13), iA cI St)] s.heap.size q := fun q h => Or.inr h
  have hS : va_S (va_A [((b 0), oM b th mo co le), ((b 4), iA cI K), ((b 5), iA cI Ah), ((b 6), iA cI Ot), ((b 7), iA cI Qm), ((b 8), iA cI Op), ((b 9), iA cI Lm), ((b 10), iA cI Hm), ((b 11), iA cI Mm), ((b 12), iA cI Rw), ((b 13), iA cI St)] s.heap.size) s.heap s.heap [] := va_S.rf
  obtain ⟨A, hAe⟩ : ∃ A, A = va_A [((b 0), oM b th mo co le), ((b 4), iA cI K), ((b 5), iA cI Ah), ((b 6), iA cI Ot), ((b 7), iA cI Qm), ((b 8), iA cI Op), ((b 9), iA cI Lm), ((b 10), iA cI Hm), ((b 11), iA cI Mm), ((b 12), iA cI Rw), ((b 13), iA cI St)] s.heap.size := ⟨_, rfl⟩
  rw [← hAe] at hD hA hS
  have FX : CallFix p m c cX2_best 6 s ([.ref (b 0), .int v] : List Value).toArray wsX2_best RX2 := ⟨hx, hb, hml, hown, hts⟩
  have hl := lv_entry ([.ref (b 0), .int v]) (n := 6) (Nat.le_of_ble_eq_true rfl)
  rw [lg_entry_eq]
  generalize (lg_sl ([.ref (b 0), .int v]) ++ List.replicate (6 - (lg_sl ([.ref (b 0), .int v])).length) Slot.unset).toArray = ls at hl ⊢
  have hl : lv_has ls 6 [(0, .ref (b 0)), (1, .int v)] := hl
  refine wq (fun Q hQ => ?_)
  have hzc : 0 + 0 ≤ (headSpec wsX2_best rmX2_best).room.cells := Nat.zero_le _
  have hzs : 0 + 0 ≤ (headSpec wsX2_best rmX2_best).room.slots := Nat.zero_le _
  have hf13 := hts (.fieldLink RX2 13 "CanalCityModel" "kind" "[I") (by decide +kernel)
  have hf44 := hts (.fieldLink RX2 44 "CanalCityModel" "thrown" "I") (by decide +kernel)
  have hinX2 : ∀ w ∈ u_ws RX2 TX2 14, w ∈ wsX2_best := by decide +kernel
  refine lv_aload_n hx hb dX2_best_0 rfl (lv_at hl 0 rfl) ?_
  refine lv_iconst (v := 0) hx hb dX2_best_1 (by decide) ?_
  refine va_put (D := G) (ci := 2) (v := .int 0) (ty := .int) (C := RX2) (T := TX2) (N := 14) hx hb hts hinX2 tyX2 tyX2_ok nmX2 hown hK hP hD hS 0 rfl rfl 0 (by decide) hf44 (fun _ h9 => h9) rfl (by decide +kernel) rfl rfl (Nat.le_of_ble_eq_true rfl) dX2_best_2 (fun H locs hP hD hS => ?_)
  have hP : va_P G vwCl [((b 0), oM b 0 mo co le), ((b 4), iA cI K), ((b 5), iA cI Ah), ((b 6), iA cI Ot), ((b 7), iA cI Qm), ((b 8), iA cI Op), ((b 9), iA cI Lm), ((b 10), iA cI Hm), ((b 11), iA cI Mm), ((b 12), iA cI Rw), ((b 13), iA cI St)] H := hP
  have hD : va_D A [((b 0), oM b 0 mo co le), ((b 4), iA cI K), ((b 5), iA cI Ah), ((b 6), iA cI Ot), ((b 7), iA cI Qm), ((b 8), iA cI Op), ((b 9), iA cI Lm), ((b 10), iA cI Hm), ((b 11), iA cI Mm), ((b 12), iA cI Rw), ((b 13), iA cI St)] := hD
  refine lv_iload_n hx hb dX2_best_5 rfl (lv_at hl 1 rfl) ?_
  refine lv_iconst (v := 3) hx hb dX2_best_6 (by decide) ?_
  refine lv_iconst (v := 5) hx hb dX2_best_7 (by decide) ?_
  refine cr_i (va_runS (As := [.int v, .int 3, .int 5]) (rest := []) FX (c_X2_isIn l v 3 5) (va_cwS 3 hts gX2_best_X2_isIn rfl rfl rfl (by decide +kernel) ⟨Nat.le_of_ble_eq_true rfl, Nat.le_of_ble_eq_true rfl⟩) puS rfl rfl hl.1 rfl (lv_room (Nat.le_of_ble_eq_true rfl)) dX2_best_8 ⟨hzc, hzs⟩) hS hP (fun H locs hP hS => ?_)
  rcases hin : inB 3 5 v with _ | _
  · skip
    have hcd : (cdBest v) = 1 := by unfold cdBest; rw [hin]; rfl
    refine tpi (x' := 0) (rfl) ?_
    refine lv_if_ne (tgt := 20) hx hb dX2_best_11 (by decide) (fun c => absurd (rfl) c) (fun _ => ?_)
    refine lv_aload_n hx hb dX2_best_14 rfl (lv_at hl 0 rfl) ?_
    refine lv_iconst (v := 1) hx hb dX2_best_15 (by decide) ?_
    refine cw_i (wr := [((b 4), iA cI K), ((b 5), iA cI Ah), ((b 6), iA cI Ot), ((b 7), iA cI Qm), ((b 8), iA cI Op), ((b 9), iA cI Lm), ((b 10), iA cI Hm), ((b 11), iA cI Mm), ((b 12), iA cI Rw), ((b 13), iA cI St)]) (va_runV (As := [.int 1]) (rest := []) FX (c_X2_no l G cI b 0 mo co le 1 _) (cwV 1 hts gX2_best_X2_no rfl rfl rfl (by decide +kernel) ⟨Nat.le_of_ble_eq_true rfl, Nat.le_of_ble_eq_true rfl⟩) (wrV hK hP hD hN [0] (by decide) rfl rfl (ci := 2) (q0 := 0) rfl rfl) rfl rfl hl.1 rfl (lv_room (Nat.le_of_ble_eq_true rfl)) dX2_best_16 ⟨hzc, hzs⟩) hS hP hD hA [0] [1, 2, 3, 4, 5, 6, 7, 8, 9, 10] rfl rfl (by decide) (by decide) (fun r0 u H locs hw hP hD hS => ?_)
    have hP := hP.sub (ws' := [((b 0), oM b 1 mo co le), ((b 4), iA cI K), ((b 5), iA cI Ah), ((b 6), iA cI Ot), ((b 7), iA cI Qm), ((b 8), iA cI Op), ((b 9), iA cI Lm), ((b 10), iA cI Hm), ((b 11), iA cI Mm), ((b 12), iA cI Rw), ((b 13), iA cI St)]) [10, 0, 1, 2, 3, 4, 5, 6, 7, 8, 9] rfl
    have hD := hD.sub (ws' := [((b 0), oM b 1 mo co le), ((b 4), iA cI K), ((b 5), iA cI Ah), ((b 6), iA cI Ot), ((b 7), iA cI Qm), ((b 8), iA cI Op), ((b 9), iA cI Lm), ((b 10), iA cI Hm), ((b 11), iA cI Mm), ((b 12), iA cI Rw), ((b 13), iA cI St)]) [10, 0, 1, 2, 3, 4, 5, 6, 7, 8, 9] (by decide) rfl
    refine tpi (x' := 0) (hw) ?_
    subst hQ
    subst hAe
    rw [hcd]
    exact wr_i (Ah, Qm, Op, Lm, Hm, Mm, Rw, St) (fun e => absurd e (by decide)) hx hb hr hP hD hS hlocks dX2_best_19
  · skip
    have hcd : (cdBest v) = 0 := by unfold cdBest; rw [hin]; rfl
    refine tpi (x' := 1) (rfl) ?_
    refine lv_if_ne (tgt := 20) hx hb dX2_best_11 (by decide) (fun _ => ?_) (fun c => absurd c (by decide))
    refine lv_iconst (v := (-1)) hx hb dX2_best_20 (by decide) ?_
    refine tpi (x' := (bst k v 0).1) (rfl) ?_
    refine lv_istore_n (lv' := [(2, .int ((bst k v 0).1)), (0, .ref (b 0)), (1, .int v)]) hx hb dX2_best_21 rfl hl (by decide) rfl (fun ls hl => ?_)
    refine lv_iconst (v := (-1)) hx hb dX2_best_22 (by decide) ?_
    refine tpi (x' := (bst k v 0).2) (rfl) ?_
    refine lv_istore_n (lv' := [(3, .int ((bst k v 0).2)), (2, .int ((bst k v 0).1)), (0, .ref (b 0)), (1, .int v)]) hx hb dX2_best_23 rfl hl (by decide) rfl (fun ls hl => ?_)
    refine lv_iconst (v := 0) hx hb dX2_best_24 (by decide) ?_
    refine tpi (x' := nI 0) (rfl) ?_
    refine lv_istore (lv' := [(4, .int (nI 0)), (3, .int ((bst k v 0).2)), (2, .int ((bst k v 0).1)), (0, .ref (b 0)), (1, .int v)]) hx hb dX2_best_25 hl (by decide) rfl (fun ls hl => ?_)
    have lp : ∀ (n : Nat) (i : Nat) (A1 Q1 P1 L1 H1 M1 R1 S1 : Nat → Int32), (hi : i ≤ 64) → (64 - i) < n → ∀ (H : Heap) (locs : List Loc) (ls : Array Slot), va_P G vwCl [((b 0), oM b 0 mo co le), ((b 4), iA cI K), ((b 5), iA cI A1), ((b 6), iA cI Ot), ((b 7), iA cI Q1), ((b 8), iA cI P1), ((b 9), iA cI L1), ((b 10), iA cI H1), ((b 11), iA cI M1), ((b 12), iA cI R1), ((b 13), iA cI S1)] H → va_D A [((b 0), oM b 0 mo co le), ((b 4), iA cI K), ((b 5), iA cI A1), ((b 6), iA cI Ot), ((b 7), iA cI Q1), ((b 8), iA cI P1), ((b 9), iA cI L1), ((b 10), iA cI H1), ((b 11), iA cI M1), ((b 12), iA cI R1), ((b 13), iA cI S1)] → va_S A s.heap H locs → lv_has ls 6 [(0, .ref (b 0)), (1, .int v), (2, .int (bst k v i).1), (3, .int (bst k v i).2), (4, .int (nI i))] → W p l e (headSpec wsX2_best rmX2_best).room s m ([.ref (b 0), .int v] : List Value).toArray below meth c H locs 0 0 Q (F0 m 27 ls []) := by
      intro n
      induction n with
      | zero => intro i A1 Q1 P1 L1 H1 M1 R1 S1 hi hn; exact absurd hn (by omega)
      | succ n ih_lp =>
        intro i A1 Q1 P1 L1 H1 M1 R1 S1 hi hn H locs ls hP hD hS hl
        refine lv_iload hx hb dX2_best_27 (lv_at hl 4 rfl) ?_
        refine lv_bipush (v := 64) hx hb dX2_best_29 (by decide) ?_
        rcases Nat.lt_or_ge i 64 with g | g
        · skip
          refine lv_icmp_ge (tgt := 79) hx hb dX2_best_31 (by decide) (fun c => absurd c (lt_n (n := 64) g (by decide))) (fun _ => ?_)
          refine lv_aload_n hx hb dX2_best_34 rfl (lv_at hl 0 rfl) ?_
          refine va_get (D := G) (ci := 2) (v := .ref (b 4)) (C := RX2) (T := TX2) (N := 14) hx hb hts hinX2 hown hK hP 0 rfl rfl 4 (by decide) hf13 (fun _ h9 => h9) rfl dX2_best_35 ?_
          refine lv_iload hx hb dX2_best_38 (lv_at hl 4 rfl) ?_
          refine va_iald hx hb hK hP 1 0 rfl rfl (vp_in_nI g (by decide)) dX2_best_40 ?_
          refine tpi (x' := K i) (congrArg K (nI_clamp (by omega))) ?_
          refine tpi (x' := k i) (hk i g) ?_
          refine lv_iconst (v := 2) hx hb dX2_best_41 (by decide) ?_
          refine lv_icmp_ne (tgt := 55) hx hb dX2_best_42 (by decide) (fun c2 => ?_) (fun c2 => ?_)
          · skip
            refine lv_iconst (v := (-1)) hx hb dX2_best_55 (by decide) ?_
            refine lv_istore (lv' := [(5, .int (-1)), (0, .ref (b 0)), (1, .int v), (2, .int (bst k v i).1), (3, .int (bst k v i).2), (4, .int (nI i))]) hx hb dX2_best_56 hl (by decide) rfl (fun ls hl => ?_)
            refine lv_iload hx hb dX2_best_58 (lv_at hl 0 rfl) ?_
            refine lv_iload_n hx hb dX2_best_60 rfl (lv_at hl 4 rfl) ?_
            refine lv_icmp_gt (tgt := 67) hx hb dX2_best_61 (by decide) (fun c => absurd c (bst_ge k v i)) (fun _ => ?_)
            refine lv_goto (tgt := 73) hx hb dX2_best_64 (by decide) ?_
            refine lv_iinc (v := nI (i + 1)) (lv' := [(4, .int (nI (i + 1))), (5, .int (-1)), (0, .ref (b 0)), (1, .int v), (2, .int (bst k v i).1), (3, .int (bst k v i).2)]) hx hb dX2_best_73 hl (k := 5) rfl (nI_inc i) (by decide) rfl (fun ls hl => ?_)
            refine lv_goto (tgt := 27) hx hb dX2_best_76 (by decide) ?_
            exact ih_lp (i + 1) A1 Q1 P1 L1 H1 M1 R1 S1 (by omega) (by omega) _ _ _ hP hD hS (lv_sub hl [2, 3, 4, 5, 0] (by rw [bst_skip c2]; rfl))
          · skip
            refine lv_aload_n hx hb dX2_best_45 rfl (lv_at hl 0 rfl) ?_
            refine lv_iload hx hb dX2_best_46 (lv_at hl 4 rfl) ?_
            refine lv_iload_n hx hb dX2_best_48 rfl (lv_at hl 1 rfl) ?_
            refine cw_i (wr := []) (va_runV (As := [.int (nI i), .int v]) (rest := []) FX (c_X2_duesWith l G cI b 0 mo co le K A1 Ot Q1 P1 L1 H1 M1 R1 S1 k i v hk hkd g (inB_kd hin) _) (cwV 2 hts gX2_best_X2_duesWith rfl rfl rfl (by decide +kernel) ⟨Nat.le_of_ble_eq_true rfl, Nat.le_of_ble_eq_true rfl⟩) (wrV hK hP hD hN [0, 1, 2, 3, 4, 5, 6, 7, 8, 9, 10] (by decide) rfl rfl (ci := 2) (q0 := 0) rfl rfl) rfl rfl hl.1 rfl (lv_room (Nat.le_of_ble_eq_true rfl)) dX2_best_49 ⟨hzc, hzs⟩) hS hP hD hA [0, 1, 2, 3, 4, 5, 6, 7, 8, 9, 10] [] rfl rfl (by decide) (by decide) (fun r8 u H locs hw hP hD hS => ?_)
            obtain ⟨A2, Q2, P2, L2, H2, M2, R2, S2⟩ := u
            have hP := hP.sub (ws' := [((b 0), oM b 0 mo co le), ((b 4), iA cI K), ((b 5), iA cI A2), ((b 6), iA cI Ot), ((b 7), iA cI Q2), ((b 8), iA cI P2), ((b 9), iA cI L2), ((b 10), iA cI H2), ((b 11), iA cI M2), ((b 12), iA cI R2), ((b 13), iA cI S2)]) [0, 1, 2, 3, 4, 5, 6, 7, 8, 9, 10] rfl
            have hD := hD.sub (ws' := [((b 0), oM b 0 mo co le), ((b 4), iA cI K), ((b 5), iA cI A2), ((b 6), iA cI Ot), ((b 7), iA cI Q2), ((b 8), iA cI P2), ((b 9), iA cI L2), ((b 10), iA cI H2), ((b 11), iA cI M2), ((b 12), iA cI R2), ((b 13), iA cI S2)]) [0, 1, 2, 3, 4, 5, 6, 7, 8, 9, 10] (by decide) rfl
            refine tpi (x' := dall (upd k i v)) (hw) ?_
            refine lv_goto (tgt := 56) hx hb dX2_best_52 (by decide) ?_
            refine lv_istore (lv' := [(5, .int (dall (upd k i v))), (0, .ref (b 0)), (1, .int v), (2, .int (bst k v i).1), (3, .int (bst k v i).2), (4, .int (nI i))]) hx hb dX2_best_56 hl (by decide) rfl (fun ls hl => ?_)
            refine lv_iload hx hb dX2_best_58 (lv_at hl 0 rfl) ?_
            refine lv_iload_n hx hb dX2_best_60 rfl (lv_at hl 4 rfl) ?_
            refine lv_icmp_gt (tgt := 67) hx hb dX2_best_61 (by decide) (fun c7 => ?_) (fun c7 => ?_)
            · skip
              refine lv_iload hx hb dX2_best_67 (lv_at hl 0 rfl) ?_
              refine lv_istore_n (lv' := [(3, .int (dall (upd k i v))), (5, .int (dall (upd k i v))), (0, .ref (b 0)), (1, .int v), (2, .int (bst k v i).1), (4, .int (nI i))]) hx hb dX2_best_69 rfl hl (by decide) rfl (fun ls hl => ?_)
              refine lv_iload hx hb dX2_best_70 (lv_at hl 5 rfl) ?_
              refine lv_istore_n (lv' := [(2, .int (nI i)), (3, .int (dall (upd k i v))), (5, .int (dall (upd k i v))), (0, .ref (b 0)), (1, .int v), (4, .int (nI i))]) hx hb dX2_best_72 rfl hl (by decide) rfl (fun ls hl => ?_)
              refine lv_iinc (v := nI (i + 1)) (lv' := [(4, .int (nI (i + 1))), (2, .int (nI i)), (3, .int (dall (upd k i v))), (5, .int (dall (upd k i v))), (0, .ref (b 0)), (1, .int v)]) hx hb dX2_best_73 hl (k := 5) rfl (nI_inc i) (by decide) rfl (fun ls hl => ?_)
              refine lv_goto (tgt := 27) hx hb dX2_best_76 (by decide) ?_
              exact ih_lp (i + 1) A2 Q2 P2 L2 H2 M2 R2 S2 (by omega) (by omega) _ _ _ hP hD hS (lv_sub hl [4, 5, 1, 2, 0] (by rw [bst_take c2 c7]; rfl))
            · skip
              refine lv_goto (tgt := 73) hx hb dX2_best_64 (by decide) ?_
              refine lv_iinc (v := nI (i + 1)) (lv' := [(4, .int (nI (i + 1))), (5, .int (dall (upd k i v))), (0, .ref (b 0)), (1, .int v), (2, .int (bst k v i).1), (3, .int (bst k v i).2)]) hx hb dX2_best_73 hl (k := 5) rfl (nI_inc i) (by decide) rfl (fun ls hl => ?_)
              refine lv_goto (tgt := 27) hx hb dX2_best_76 (by decide) ?_
              exact ih_lp (i + 1) A2 Q2 P2 L2 H2 M2 R2 S2 (by omega) (by omega) _ _ _ hP hD hS (lv_sub hl [2, 3, 4, 5, 0] (by rw [bst_keep c2 c7]; rfl))
        · skip
          have g9 : 64 = i := by omega
          subst g9
          refine lv_icmp_ge (tgt := 79) hx hb dX2_best_31 (by decide) (fun _ => ?_) (fun c => absurd (le_n (n := 64) (i := 64) (by decide) (by decide)) c)
          refine lv_iload_n hx hb dX2_best_79 rfl (lv_at hl 2 rfl) ?_
          subst hQ
          subst hAe
          rw [hcd]
          exact wr_i (A1, Q1, P1, L1, H1, M1, R1, S1) (fun _ => rfl) hx hb hr hP hD hS hlocks dX2_best_80
    exact lp (_ + 1) 0 Ah Qm Op Lm Hm Mm Rw St (by omega) (Nat.lt_succ_self _) _ _ _ hP hD hS (lv_sub hl [3, 4, 2, 1, 0] rfl)

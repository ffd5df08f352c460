def rmX0_surveyQuarters : Room := { frames := 2, cells := 0, slots := 0, locals := 53 }
set_option maxHeartbeats 4000000 in
set_option maxRecDepth 100000 in
/-- all quarters are found -/
theorem c_X0_surveyQuarters (l : Launch) (G : va_G) (cI : ClassId) (a : Nat → Nat) (mo co le : Int32) (K Qa La Ha Ma Ba Ca Da Fa Wa k : Nat → Int32) (hk : eqK K k) (sz : Nat) : Met l yX0_surveyQuarters wsX0_surveyQuarters rmX0_surveyQuarters (va_Pc [.ref (a 0)] (WrP G cI [((a 0), oC a mo co le), ((a 3), iA cI K), ((a 4), iA cI Qa), ((a 5), iA cI La), ((a 6), iA cI Ha), ((a 7), iA cI Ma), ((a 8), iA cI Ba), ((a 9), iA cI Ca), ((a 10), iA cI Da), ((a 11), iA cI Fa), ((a 12), iA cI Wa)] sz)) (va_Qv (fun (u : (Nat → Int32) × (Nat → Int32) × (Nat → Int32) × (Nat → Int32) × (Nat → Int32)) => hatQ k u.1 ∧ hatL k (u.2.1) ∧ hatV k 3 (u.2.2.1) ∧ hatV k 5 (u.2.2.2.1)) (WrB G [((a 0), oC a mo co le), ((a 3), iA cI K), ((a 4), iA cI Qa), ((a 5), iA cI La), ((a 6), iA cI Ha), ((a 7), iA cI Ma), ((a 8), iA cI Ba), ((a 9), iA cI Ca), ((a 10), iA cI Da), ((a 11), iA cI Fa), ((a 12), iA cI Wa)] sz (fun u => [(a 0, oC a mo co le), (a 3, iA cI K), (a 4, iA cI ((u.1))), (a 5, iA cI ((u.2.1))), (a 6, iA cI ((u.2.2.1))), (a 7, iA cI ((u.2.2.2.1))), (a 8, iA cI Ba), (a 9, iA cI Ca), (a 10, iA cI Da), (a 11, iA cI Fa), (a 12, iA cI ((u.2.2.2.2)))])) (va_A [((a 0), oC a mo co le), ((a 3), iA cI K), ((a 4), iA cI Qa), ((a 5), iA cI La), ((a 6), iA cI Ha), ((a 7), iA cI Ma), ((a 8), iA cI Ba), ((a 9), iA cI Ca), ((a 10), iA cI Da), ((a 11), iA cI Fa), ((a 12), iA cI Wa)] sz)) 0 0 (va_A [((a 0), oC a mo co le), ((a 3), iA cI K), ((a 4), iA cI Qa), ((a 5), iA cI La), ((a 6), iA cI Ha), ((a 7), iA cI Ma), ((a 8), iA cI Ba), ((a 9), iA cI Ca), ((a 10), iA cI Da), ((a 11), iA cI Fa), ((a 12), iA cI Wa)] sz) := by
  refine Met.ofW (cc := cX0_surveyQuarters) (maxL := 2) (ret := none) (by decide) rfl ?_
  intro p e s m args below meth c s₁ B hml hv
  obtain ⟨rfl, hsz, hP, hK, hD0, hN⟩ := hv
  have hx := B.exec
  have hb := B.bytes
  have hr := B.returns
  have hlocks := B.notSynchronized
  have hts := atoms_spec (ws := wsX0_surveyQuarters) B.pre
  have hown : s.vm.findClass RX0 = some m.cls := findClass_of_methodNamed B.named
  subst hsz
  have hD := hD0.self (sz := s.heap.size)
  have hA : ∀ q : Nat, s.heap.size ≤ q → va_A [((a 0), oC a mo co le), ((a 3), iA cI K), ((a 4), iA cI Qa), ((a 5), iA cI La), ((a 6), iA cI Ha), ((a 7), iA cI Ma), ((a 8), iA cI Ba), ((a 9), iA cI Ca), ((a 10), iA cI Da), ((a 11), iA cI Fa), ((a 12), iA cI Wa)] s.heap.size q := fun q h => Or.inr h
  have hS : va_S (va_A [((a 0), oC a mo co le), ((a 3), iA cI K), ((a 4), iA cI Qa), ((a 5), iA cI La), ((a 6), iA cI Ha), ((a 7), iA cI Ma), ((a 8), iA cI Ba), ((a 9), iA cI Ca), ((a 10), iA cI Da), ((a 11), iA cI Fa), ((a 12), iA cI Wa)] s.heap.size) s.heap s.heap [] := va_S.rf
  obtain ⟨A, hAe⟩ : ∃ A, A = va_A [((a 0), oC a mo co le), ((a 3), iA cI K), ((a 4), iA cI Qa), ((a 5), iA cI La), ((a 6), iA cI Ha), ((a 7), iA cI Ma), ((a 8), iA cI Ba), ((a 9), iA cI Ca), ((a 10), iA cI Da), ((a 11), iA cI Fa), ((a 12), iA cI Wa)] s.heap.size := ⟨_, rfl⟩
  rw [← hAe] at hD hA hS
  have FX : CallFix p m c cX0_surveyQuarters 2 s ([.ref (a 0)] : List Value).toArray wsX0_surveyQuarters RX0 := ⟨hx, hb, hml, hown, hts⟩
  have hl := lv_entry ([.ref (a 0)]) (n := 2) (Nat.le_of_ble_eq_true rfl)
  rw [lg_entry_eq]
  generalize (lg_sl ([.ref (a 0)]) ++ List.replicate (2 - (lg_sl ([.ref (a 0)])).length) Slot.unset).toArray = ls at hl ⊢
  have hl : lv_has ls 2 [(0, .ref (a 0))] := hl
  refine wq (fun Q hQ => ?_)
  have hzc : 0 + 0 ≤ (headSpec wsX0_surveyQuarters rmX0_surveyQuarters).room.cells := Nat.zero_le _
  have hzs : 0 + 0 ≤ (headSpec wsX0_surveyQuarters rmX0_surveyQuarters).room.slots := Nat.zero_le _
  have hf21 := hts (.fieldLink RX0 21 "CanalCity$City" "kinds" "[I") (by decide +kernel)
  have hf25 := hts (.fieldLink RX0 25 "CanalCity$City" "quarters" "[I") (by decide +kernel)
  have hf28 := hts (.fieldLink RX0 28 "CanalCity$City" "lotsOf" "[I") (by decide +kernel)
  have hf31 := hts (.fieldLink RX0 31 "CanalCity$City" "housesOf" "[I") (by decide +kernel)
  have hf34 := hts (.fieldLink RX0 34 "CanalCity$City" "marketsOf" "[I") (by decide +kernel)
  have hinX0 : ∀ w ∈ u_ws RX0 TX0 13, w ∈ wsX0_surveyQuarters := by decide +kernel
  have hiniX1 := hts (.initialized RX1) (by decide +kernel)
  have hstX1_isLand := hts (.static yX1_isLand) (by decide +kernel)
  refine lv_aload_n hx hb dX0_surveyQuarters_0 rfl (lv_at hl 0 rfl) ?_
  refine va_get (D := G) (ci := 0) (v := .ref (a 4)) (C := RX0) (T := TX0) (N := 13) hx hb hts hinX0 hown hK hP 0 rfl rfl 4 (by decide) hf25 (fun _ h9 => h9) rfl dX0_surveyQuarters_1 ?_
  refine lv_iconst (v := (-1)) hx hb dX0_surveyQuarters_4 (by decide) ?_
  refine cw_v (wr := [((a 0), oC a mo co le), ((a 3), iA cI K), ((a 5), iA cI La), ((a 6), iA cI Ha), ((a 7), iA cI Ma), ((a 8), iA cI Ba), ((a 9), iA cI Ca), ((a 10), iA cI Da), ((a 11), iA cI Fa), ((a 12), iA cI Wa)]) (va_runS (As := [.ref (a 4), .int (-1)]) (rest := []) FX (c_X0_clear l G cI (a 4) Qa (-1) _) (va_cwS 2 hts gX0_surveyQuarters_X0_clear rfl rfl rfl (by decide +kernel) ⟨Nat.le_of_ble_eq_true rfl, Nat.le_of_ble_eq_true rfl⟩) (wrS hK hP hD hN [2] (by decide) rfl rfl) rfl rfl hl.1 rfl (lv_room (Nat.le_of_ble_eq_true rfl)) dX0_surveyQuarters_5 ⟨hzc, hzs⟩) hS hP hD hA [2] [0, 1, 3, 4, 5, 6, 7, 8, 9, 10] rfl rfl (by decide) (by decide) (fun u H locs hw hP hD hS => ?_)
  obtain ⟨Q0, hu9⟩ : ∃ z, z = u := ⟨_, rfl⟩
  subst hu9
  have hP := hP.sub (ws' := [((a 0), oC a mo co le), ((a 3), iA cI K), ((a 4), iA cI Q0), ((a 5), iA cI La), ((a 6), iA cI Ha), ((a 7), iA cI Ma), ((a 8), iA cI Ba), ((a 9), iA cI Ca), ((a 10), iA cI Da), ((a 11), iA cI Fa), ((a 12), iA cI Wa)]) [0, 1, 10, 2, 3, 4, 5, 6, 7, 8, 9] rfl
  have hD := hD.sub (ws' := [((a 0), oC a mo co le), ((a 3), iA cI K), ((a 4), iA cI Q0), ((a 5), iA cI La), ((a 6), iA cI Ha), ((a 7), iA cI Ma), ((a 8), iA cI Ba), ((a 9), iA cI Ca), ((a 10), iA cI Da), ((a 11), iA cI Fa), ((a 12), iA cI Wa)]) [0, 1, 10, 2, 3, 4, 5, 6, 7, 8, 9] (by decide) rfl
  have hQ0 := hw
  refine lv_aload_n hx hb dX0_surveyQuarters_8 rfl (lv_at hl 0 rfl) ?_
  refine va_get (D := G) (ci := 0) (v := .ref (a 5)) (C := RX0) (T := TX0) (N := 13) hx hb hts hinX0 hown hK hP 0 rfl rfl 5 (by decide) hf28 (fun _ h9 => h9) rfl dX0_surveyQuarters_9 ?_
  refine lv_iconst (v := 0) hx hb dX0_surveyQuarters_12 (by decide) ?_
  refine cw_v (wr := [((a 0), oC a mo co le), ((a 3), iA cI K), ((a 4), iA cI Q0), ((a 6), iA cI Ha), ((a 7), iA cI Ma), ((a 8), iA cI Ba), ((a 9), iA cI Ca), ((a 10), iA cI Da), ((a 11), iA cI Fa), ((a 12), iA cI Wa)]) (va_runS (As := [.ref (a 5), .int 0]) (rest := []) FX (c_X0_clear l G cI (a 5) La 0 _) (va_cwS 2 hts gX0_surveyQuarters_X0_clear rfl rfl rfl (by decide +kernel) ⟨Nat.le_of_ble_eq_true rfl, Nat.le_of_ble_eq_true rfl⟩) (wrS hK hP hD hN [3] (by decide) rfl rfl) rfl rfl hl.1 rfl (lv_room (Nat.le_of_ble_eq_true rfl)) dX0_surveyQuarters_13 ⟨hzc, hzs⟩) hS hP hD hA [3] [0, 1, 2, 4, 5, 6, 7, 8, 9, 10] rfl rfl (by decide) (by decide) (fun u H locs hw hP hD hS => ?_)
  obtain ⟨L0, hu9⟩ : ∃ z, z = u := ⟨_, rfl⟩
  subst hu9
  have hP := hP.sub (ws' := [((a 0), oC a mo co le), ((a 3), iA cI K), ((a 4), iA cI Q0), ((a 5), iA cI L0), ((a 6), iA cI Ha), ((a 7), iA cI Ma), ((a 8), iA cI Ba), ((a 9), iA cI Ca), ((a 10), iA cI Da), ((a 11), iA cI Fa), ((a 12), iA cI Wa)]) [0, 1, 2, 10, 3, 4, 5, 6, 7, 8, 9] rfl
  have hD := hD.sub (ws' := [((a 0), oC a mo co le), ((a 3), iA cI K), ((a 4), iA cI Q0), ((a 5), iA cI L0), ((a 6), iA cI Ha), ((a 7), iA cI Ma), ((a 8), iA cI Ba), ((a 9), iA cI Ca), ((a 10), iA cI Da), ((a 11), iA cI Fa), ((a 12), iA cI Wa)]) [0, 1, 2, 10, 3, 4, 5, 6, 7, 8, 9] (by decide) rfl
  have hL0 := hw
  refine lv_aload_n hx hb dX0_surveyQuarters_16 rfl (lv_at hl 0 rfl) ?_
  refine va_get (D := G) (ci := 0) (v := .ref (a 6)) (C := RX0) (T := TX0) (N := 13) hx hb hts hinX0 hown hK hP 0 rfl rfl 6 (by decide) hf31 (fun _ h9 => h9) rfl dX0_surveyQuarters_17 ?_
  refine lv_iconst (v := 0) hx hb dX0_surveyQuarters_20 (by decide) ?_
  refine cw_v (wr := [((a 0), oC a mo co le), ((a 3), iA cI K), ((a 4), iA cI Q0), ((a 5), iA cI L0), ((a 7), iA cI Ma), ((a 8), iA cI Ba), ((a 9), iA cI Ca), ((a 10), iA cI Da), ((a 11), iA cI Fa), ((a 12), iA cI Wa)]) (va_runS (As := [.ref (a 6), .int 0]) (rest := []) FX (c_X0_clear l G cI (a 6) Ha 0 _) (va_cwS 2 hts gX0_surveyQuarters_X0_clear rfl rfl rfl (by decide +kernel) ⟨Nat.le_of_ble_eq_true rfl, Nat.le_of_ble_eq_true rfl⟩) (wrS hK hP hD hN [4] (by decide) rfl rfl) rfl rfl hl.1 rfl (lv_room (Nat.le_of_ble_eq_true rfl)) dX0_surveyQuarters_21 ⟨hzc, hzs⟩) hS hP hD hA [4] [0, 1, 2, 3, 5, 6, 7, 8, 9, 10] rfl rfl (by decide) (by decide) (fun u H locs hw hP hD hS => ?_)
  obtain ⟨H0, hu9⟩ : ∃ z, z = u := ⟨_, rfl⟩
  subst hu9
  have hP := hP.sub (ws' := [((a 0), oC a mo co le), ((a 3), iA cI K), ((a 4), iA cI Q0), ((a 5), iA cI L0), ((a 6), iA cI H0), ((a 7), iA cI Ma), ((a 8), iA cI Ba), ((a 9), iA cI Ca), ((a 10), iA cI Da), ((a 11), iA cI Fa), ((a 12), iA cI Wa)]) [0, 1, 2, 3, 10, 4, 5, 6, 7, 8, 9] rfl
  have hD := hD.sub (ws' := [((a 0), oC a mo co le), ((a 3), iA cI K), ((a 4), iA cI Q0), ((a 5), iA cI L0), ((a 6), iA cI H0), ((a 7), iA cI Ma), ((a 8), iA cI Ba), ((a 9), iA cI Ca), ((a 10), iA cI Da), ((a 11), iA cI Fa), ((a 12), iA cI Wa)]) [0, 1, 2, 3, 10, 4, 5, 6, 7, 8, 9] (by decide) rfl
  have hH0 := hw
  refine lv_aload_n hx hb dX0_surveyQuarters_24 rfl (lv_at hl 0 rfl) ?_
  refine va_get (D := G) (ci := 0) (v := .ref (a 7)) (C := RX0) (T := TX0) (N := 13) hx hb hts hinX0 hown hK hP 0 rfl rfl 7 (by decide) hf34 (fun _ h9 => h9) rfl dX0_surveyQuarters_25 ?_
  refine lv_iconst (v := 0) hx hb dX0_surveyQuarters_28 (by decide) ?_
  refine cw_v (wr := [((a 0), oC a mo co le), ((a 3), iA cI K), ((a 4), iA cI Q0), ((a 5), iA cI L0), ((a 6), iA cI H0), ((a 8), iA cI Ba), ((a 9), iA cI Ca), ((a 10), iA cI Da), ((a 11), iA cI Fa), ((a 12), iA cI Wa)]) (va_runS (As := [.ref (a 7), .int 0]) (rest := []) FX (c_X0_clear l G cI (a 7) Ma 0 _) (va_cwS 2 hts gX0_surveyQuarters_X0_clear rfl rfl rfl (by decide +kernel) ⟨Nat.le_of_ble_eq_true rfl, Nat.le_of_ble_eq_true rfl⟩) (wrS hK hP hD hN [5] (by decide) rfl rfl) rfl rfl hl.1 rfl (lv_room (Nat.le_of_ble_eq_true rfl)) dX0_surveyQuarters_29 ⟨hzc, hzs⟩) hS hP hD hA [5] [0, 1, 2, 3, 4, 6, 7, 8, 9, 10] rfl rfl (by decide) (by decide) (fun u H locs hw hP hD hS => ?_)
  obtain ⟨M0, hu9⟩ : ∃ z, z = u := ⟨_, rfl⟩
  subst hu9
  have hP := hP.sub (ws' := [((a 0), oC a mo co le), ((a 3), iA cI K), ((a 4), iA cI Q0), ((a 5), iA cI L0), ((a 6), iA cI H0), ((a 7), iA cI M0), ((a 8), iA cI Ba), ((a 9), iA cI Ca), ((a 10), iA cI Da), ((a 11), iA cI Fa), ((a 12), iA cI Wa)]) [0, 1, 2, 3, 4, 10, 5, 6, 7, 8, 9] rfl
  have hD := hD.sub (ws' := [((a 0), oC a mo co le), ((a 3), iA cI K), ((a 4), iA cI Q0), ((a 5), iA cI L0), ((a 6), iA cI H0), ((a 7), iA cI M0), ((a 8), iA cI Ba), ((a 9), iA cI Ca), ((a 10), iA cI Da), ((a 11), iA cI Fa), ((a 12), iA cI Wa)]) [0, 1, 2, 3, 4, 10, 5, 6, 7, 8, 9] (by decide) rfl
  have hM0 := hw
  refine lv_iconst (v := 0) hx hb dX0_surveyQuarters_32 (by decide) ?_
  refine tpi (x' := nI 0) (rfl) ?_
  refine lv_istore_n (lv' := [(1, .int (nI 0)), (0, .ref (a 0))]) hx hb dX0_surveyQuarters_33 rfl hl (by decide) rfl (fun ls hl => ?_)
  have lp : ∀ (n : Nat) (i : Nat) (Q1 L1 H1 M1 W1 : Nat → Int32), (hi : i ≤ 64) → (hQ1 : ∀ x, x < 64 → Q1 x = qpt k i x) → (hL1 : ∀ x, x < 64 → L1 x = lotsN k x i) → (hH1 : ∀ x, x < 64 → H1 x = kindN k 3 x i) → (hM1 : ∀ x, x < 64 → M1 x = kindN k 5 x i) → (64 - i) < n → ∀ (H : Heap) (locs : List Loc) (ls : Array Slot), va_P G vwCl [((a 0), oC a mo co le), ((a 3), iA cI K), ((a 4), iA cI Q1), ((a 5), iA cI L1), ((a 6), iA cI H1), ((a 7), iA cI M1), ((a 8), iA cI Ba), ((a 9), iA cI Ca), ((a 10), iA cI Da), ((a 11), iA cI Fa), ((a 12), iA cI W1)] H → va_D A [((a 0), oC a mo co le), ((a 3), iA cI K), ((a 4), iA cI Q1), ((a 5), iA cI L1), ((a 6), iA cI H1), ((a 7), iA cI M1), ((a 8), iA cI Ba), ((a 9), iA cI Ca), ((a 10), iA cI Da), ((a 11), iA cI Fa), ((a 12), iA cI W1)] → va_S A s.heap H locs → lv_has ls 2 [(0, .ref (a 0)), (1, .int (nI i))] → W p l e (headSpec wsX0_surveyQuarters rmX0_surveyQuarters).room s m ([.ref (a 0)] : List Value).toArray below meth c H locs 0 0 Q (F0 m 34 ls []) := by
    intro n
    induction n with
    | zero => intro i Q1 L1 H1 M1 W1 hi hQ1 hL1 hH1 hM1 hn; exact absurd hn (by omega)
    | succ n ih_lp =>
      intro i Q1 L1 H1 M1 W1 hi hQ1 hL1 hH1 hM1 hn H locs ls hP hD hS hl
      refine lv_iload_n hx hb dX0_surveyQuarters_34 rfl (lv_at hl 1 rfl) ?_
      refine lv_bipush (v := 64) hx hb dX0_surveyQuarters_35 (by decide) ?_
      rcases Nat.lt_or_ge i 64 with g | g
      · skip
        refine lv_icmp_ge (tgt := 95) hx hb dX0_surveyQuarters_37 (by decide) (fun c => absurd c (lt_n (n := 64) g (by decide))) (fun _ => ?_)
        refine lv_aload_n hx hb dX0_surveyQuarters_40 rfl (lv_at hl 0 rfl) ?_
        refine va_get (D := G) (ci := 0) (v := .ref (a 3)) (C := RX0) (T := TX0) (N := 13) hx hb hts hinX0 hown hK hP 0 rfl rfl 3 (by decide) hf21 (fun _ h9 => h9) rfl dX0_surveyQuarters_41 ?_
        refine lv_iload_n hx hb dX0_surveyQuarters_44 rfl (lv_at hl 1 rfl) ?_
        refine va_iald hx hb hK hP 1 0 rfl rfl (vp_in_nI g (by decide)) dX0_surveyQuarters_45 ?_
        refine tpi (x' := K i) (congrArg K (nI_clamp (by omega))) ?_
        refine tpi (x' := k i) (hk i g) ?_
        refine cr_i (va_runSN (As := [.int (k i)]) (rest := []) FX (c_X1_isLand l (k i)) ⟨va_cnB 1 hts gX0_surveyQuarters_X1_isLand_n98 rfl rfl rfl (NW_at hN 5 rfl) hiniX1 (by decide +kernel) ⟨Nat.le_of_ble_eq_true rfl, Nat.le_of_ble_eq_true rfl⟩, hstX1_isLand, trivial⟩ puS rfl rfl hl.1 rfl (lv_room (Nat.le_of_ble_eq_true rfl)) dX0_surveyQuarters_46 ⟨hzc, hzs⟩) hS hP (fun H locs hP hS => ?_)
        rcases ho : lnd (k i) with _ | _
        · skip
          have hno := qrt_none.mpr ho
          refine tpi (x' := 0) (rfl) ?_
          refine lv_if_eq (tgt := 89) hx hb dX0_surveyQuarters_49 (by decide) (fun _ => ?_) (fun c => absurd (rfl) c)
          refine lv_iinc (v := nI (i + 1)) (lv' := [(1, .int (nI (i + 1))), (0, .ref (a 0))]) hx hb dX0_surveyQuarters_89 hl (k := 1) rfl (nI_inc i) (by decide) rfl (fun ls hl => ?_)
          refine lv_goto (tgt := 34) hx hb dX0_surveyQuarters_92 (by decide) ?_
          exact ih_lp (i + 1) Q1 L1 H1 M1 W1 (by omega) (fun x hx => by rw [qpt_skip (fun e => by have e9 := qrt_idem hx e; rw [hno] at e9; cases e9)]; exact hQ1 x hx) (fun x hx => by rw [hL1 x hx]; unfold lotsN; rw [csum]; rw [if_neg (by rw [hno]; exact fun e => (by cases e)), Int32.add_zero]) (fun x hx => by rw [hH1 x hx]; unfold kindN; rw [csum]; rw [if_neg (by rw [hno]; exact fun e => (by cases e)), Int32.add_zero]) (fun x hx => by rw [hM1 x hx]; unfold kindN; rw [csum]; rw [if_neg (by rw [hno]; exact fun e => (by cases e)), Int32.add_zero]) (by omega) _ _ _ hP hD hS (lv_sub hl [1, 0] (rfl))
        · skip
          refine tpi (x' := 1) (rfl) ?_
          refine lv_if_eq (tgt := 89) hx hb dX0_surveyQuarters_49 (by decide) (fun c => absurd c (by decide)) (fun _ => ?_)
          refine lv_aload_n hx hb dX0_surveyQuarters_52 rfl (lv_at hl 0 rfl) ?_
          refine va_get (D := G) (ci := 0) (v := .ref (a 4)) (C := RX0) (T := TX0) (N := 13) hx hb hts hinX0 hown hK hP 0 rfl rfl 4 (by decide) hf25 (fun _ h9 => h9) rfl dX0_surveyQuarters_53 ?_
          refine lv_iload_n hx hb dX0_surveyQuarters_56 rfl (lv_at hl 1 rfl) ?_
          refine va_iald hx hb hK hP 2 0 rfl rfl (vp_in_nI g (by decide)) dX0_surveyQuarters_57 ?_
          refine tpi (x' := Q1 i) (congrArg Q1 (nI_clamp (by omega))) ?_
          refine tpi (x' := qpt k i i) (hQ1 i g) ?_
          obtain ⟨j, hj⟩ : ∃ j, qrt k i = some j := by cases e : qrt k i with | none => rw [qrt_none, ho] at e; cases e | some j => exact ⟨j, rfl⟩
          have hji := qrt_le hj
          rcases Nat.lt_or_ge j i with hlt | hge
          · skip
            refine tpi (x' := nI j) (qpt_in hj hlt) ?_
            refine lv_if_ge (tgt := 73) hx hb dX0_surveyQuarters_58 (by decide) (fun _ => ?_) (fun c => absurd (nI_pos' (n := j) (by omega)) c)
            have hQ2 : ∀ x, x < 64 → Q1 x = qpt k (i + 1) x := fun x hx => by rw [qpt_skip (fun e => by have e9 := qrt_idem hx e; rw [hj] at e9; cases e9; omega)]; exact hQ1 x hx
            refine lv_aload_n hx hb dX0_surveyQuarters_73 rfl (lv_at hl 0 rfl) ?_
            refine lv_aload_n hx hb dX0_surveyQuarters_74 rfl (lv_at hl 0 rfl) ?_
            refine va_get (D := G) (ci := 0) (v := .ref (a 4)) (C := RX0) (T := TX0) (N := 13) hx hb hts hinX0 hown hK hP 0 rfl rfl 4 (by decide) hf25 (fun _ h9 => h9) rfl dX0_surveyQuarters_75 ?_
            refine lv_iload_n hx hb dX0_surveyQuarters_78 rfl (lv_at hl 1 rfl) ?_
            refine va_iald hx hb hK hP 2 0 rfl rfl (vp_in_nI g (by decide)) dX0_surveyQuarters_79 ?_
            refine tpi (x' := Q1 i) (congrArg Q1 (nI_clamp (by omega))) ?_
            refine tpi (x' := nI j) ((hQ2 i g).trans (qpt_in hj (by omega))) ?_
            refine lv_aload_n hx hb dX0_surveyQuarters_80 rfl (lv_at hl 0 rfl) ?_
            refine va_get (D := G) (ci := 0) (v := .ref (a 3)) (C := RX0) (T := TX0) (N := 13) hx hb hts hinX0 hown hK hP 0 rfl rfl 3 (by decide) hf21 (fun _ h9 => h9) rfl dX0_surveyQuarters_81 ?_
            refine lv_iload_n hx hb dX0_surveyQuarters_84 rfl (lv_at hl 1 rfl) ?_
            refine va_iald hx hb hK hP 1 0 rfl rfl (vp_in_nI g (by decide)) dX0_surveyQuarters_85 ?_
            refine tpi (x' := K i) (congrArg K (nI_clamp (by omega))) ?_
            refine tpi (x' := k i) (hk i g) ?_
            refine cw_v (wr := [((a 3), iA cI K), ((a 4), iA cI Q1), ((a 8), iA cI Ba), ((a 9), iA cI Ca), ((a 10), iA cI Da), ((a 11), iA cI Fa), ((a 12), iA cI W1)]) (va_runV (As := [.int (nI j), .int (k i)]) (rest := []) FX (c_X0_enter l G cI a mo co le L1 H1 M1 j (k i) (by omega) _) (cwV 2 hts gX0_surveyQuarters_X0_enter rfl rfl rfl (by decide +kernel) ⟨Nat.le_of_ble_eq_true rfl, Nat.le_of_ble_eq_true rfl⟩) (wrV hK hP hD hN [0, 3, 4, 5] (by decide) rfl rfl (ci := 0) (q0 := 0) rfl rfl) rfl rfl hl.1 rfl (lv_room (Nat.le_of_ble_eq_true rfl)) dX0_surveyQuarters_86 ⟨hzc, hzs⟩) hS hP hD hA [0, 3, 4, 5] [1, 2, 6, 7, 8, 9, 10] rfl rfl (by decide) (by decide) (fun u H locs hw hP hD hS => ?_)
            obtain ⟨L2, H2, M2⟩ := u
            obtain ⟨e1, e2, e3⟩ := hw
            have hP := hP.sub (ws' := [((a 0), oC a mo co le), ((a 3), iA cI K), ((a 4), iA cI Q1), ((a 5), iA cI L2), ((a 6), iA cI H2), ((a 7), iA cI M2), ((a 8), iA cI Ba), ((a 9), iA cI Ca), ((a 10), iA cI Da), ((a 11), iA cI Fa), ((a 12), iA cI W1)]) [7, 0, 1, 8, 9, 10, 2, 3, 4, 5, 6] rfl
            have hD := hD.sub (ws' := [((a 0), oC a mo co le), ((a 3), iA cI K), ((a 4), iA cI Q1), ((a 5), iA cI L2), ((a 6), iA cI H2), ((a 7), iA cI M2), ((a 8), iA cI Ba), ((a 9), iA cI Ca), ((a 10), iA cI Da), ((a 11), iA cI Fa), ((a 12), iA cI W1)]) [7, 0, 1, 8, 9, 10, 2, 3, 4, 5, 6] (by decide) rfl
            have e1 : L2 = upd L1 j (L1 j + 1) := e1
            have e2 : H2 = (if k i = 3 then upd H1 j (H1 j + 1) else H1) := e2
            have e3 : M2 = (if k i = 5 then upd M1 j (M1 j + 1) else M1) := e3
            refine lv_iinc (v := nI (i + 1)) (lv' := [(1, .int (nI (i + 1))), (0, .ref (a 0))]) hx hb dX0_surveyQuarters_89 hl (k := 1) rfl (nI_inc i) (by decide) rfl (fun ls hl => ?_)
            refine lv_goto (tgt := 34) hx hb dX0_surveyQuarters_92 (by decide) ?_
            exact ih_lp (i + 1) Q1 L2 H2 M2 W1 (by omega) (hQ2) (fun x hx => by rw [e1]; exact lots_step hj (hL1 x hx) (hL1 j (by omega))) (fun x hx => by rw [e2]; exact kind_step hj (hH1 x hx) (hH1 j (by omega))) (fun x hx => by rw [e3]; exact kind_step hj (hM1 x hx) (hM1 j (by omega))) (by omega) _ _ _ hP hD hS (lv_sub hl [1, 0] (rfl))
          · skip
            have g9 : i = j := by omega
            subst g9
            refine tpi (x' := -1) (qpt_out hj (by omega)) ?_
            refine lv_if_ge (tgt := 73) hx hb dX0_surveyQuarters_58 (by decide) (fun c => absurd c (by decide)) (fun _ => ?_)
            refine lv_aload_n hx hb dX0_surveyQuarters_61 rfl (lv_at hl 0 rfl) ?_
            refine lv_aload_n hx hb dX0_surveyQuarters_62 rfl (lv_at hl 0 rfl) ?_
            refine va_get (D := G) (ci := 0) (v := .ref (a 4)) (C := RX0) (T := TX0) (N := 13) hx hb hts hinX0 hown hK hP 0 rfl rfl 4 (by decide) hf25 (fun _ h9 => h9) rfl dX0_surveyQuarters_63 ?_
            refine lv_iload_n hx hb dX0_surveyQuarters_66 rfl (lv_at hl 1 rfl) ?_
            refine lv_iconst (v := 1) hx hb dX0_surveyQuarters_67 (by decide) ?_
            refine tpi (x' := b2i true) (rfl) ?_
            refine lv_iload_n hx hb dX0_surveyQuarters_68 rfl (lv_at hl 1 rfl) ?_
            refine lv_iconst (v := 0) hx hb dX0_surveyQuarters_69 (by decide) ?_
            refine tpi (x' := nI 0) (rfl) ?_
            refine cw_v (wr := [((a 5), iA cI L1), ((a 6), iA cI H1), ((a 7), iA cI M1), ((a 8), iA cI Ba), ((a 9), iA cI Ca), ((a 10), iA cI Da), ((a 11), iA cI Fa)]) (va_runV (As := [.ref (a 4), .int (nI i), .int (b2i true), .int (nI i), .int (nI 0)]) (rest := []) FX (c_X0_spread l G cI a (a 4) mo co le K Q1 W1 k true i i 0 hk g g (by omega) (fun x hx hr => by obtain ⟨n9, hn9⟩ := hr; rw [hQ1 x hx, qpt_out (j := i) ((qrt_same g ho hn9).trans hj) (by omega)]; decide) _) (cwV 5 hts gX0_surveyQuarters_X0_spread rfl rfl rfl (by decide +kernel) ⟨Nat.le_of_ble_eq_true rfl, Nat.le_of_ble_eq_true rfl⟩) (wrV hK hP hD hN [0, 2, 1, 10] (by decide) rfl rfl (ci := 0) (q0 := 0) rfl rfl) rfl rfl hl.1 rfl (lv_room (Nat.le_of_ble_eq_true rfl)) dX0_surveyQuarters_70 ⟨hzc, hzs⟩) hS hP hD hA [0, 2, 1, 10] [3, 4, 5, 6, 7, 8, 9] rfl rfl (by decide) (by decide) (fun u H locs hw hP hD hS => ?_)
            obtain ⟨Q2, W2⟩ := u
            have hP := hP.sub (ws' := [((a 0), oC a mo co le), ((a 3), iA cI K), ((a 4), iA cI Q2), ((a 5), iA cI L1), ((a 6), iA cI H1), ((a 7), iA cI M1), ((a 8), iA cI Ba), ((a 9), iA cI Ca), ((a 10), iA cI Da), ((a 11), iA cI Fa), ((a 12), iA cI W2)]) [7, 9, 8, 0, 1, 2, 3, 4, 5, 6, 10] rfl
            have hD := hD.sub (ws' := [((a 0), oC a mo co le), ((a 3), iA cI K), ((a 4), iA cI Q2), ((a 5), iA cI L1), ((a 6), iA cI H1), ((a 7), iA cI M1), ((a 8), iA cI Ba), ((a 9), iA cI Ca), ((a 10), iA cI Da), ((a 11), iA cI Fa), ((a 12), iA cI W2)]) [7, 9, 8, 0, 1, 2, 3, 4, 5, 6, 10] (by decide) rfl
            have hQ2 : ∀ x, x < 64 → Q2 x = qpt k (i + 1) x := fun x hx => by rw [show Q2 x = mkd i 0 (dst (PB true k) i x) (Q1 x) from hw x hx, hQ1 x hx]; exact qpt_mark g hj
            refine lv_aload_n hx hb dX0_surveyQuarters_73 rfl (lv_at hl 0 rfl) ?_
            refine lv_aload_n hx hb dX0_surveyQuarters_74 rfl (lv_at hl 0 rfl) ?_
            refine va_get (D := G) (ci := 0) (v := .ref (a 4)) (C := RX0) (T := TX0) (N := 13) hx hb hts hinX0 hown hK hP 0 rfl rfl 4 (by decide) hf25 (fun _ h9 => h9) rfl dX0_surveyQuarters_75 ?_
            refine lv_iload_n hx hb dX0_surveyQuarters_78 rfl (lv_at hl 1 rfl) ?_
            refine va_iald hx hb hK hP 2 0 rfl rfl (vp_in_nI g (by decide)) dX0_surveyQuarters_79 ?_
            refine tpi (x' := Q2 i) (congrArg Q2 (nI_clamp (by omega))) ?_
            refine tpi (x' := nI i) ((hQ2 i g).trans (qpt_in hj (by omega))) ?_
            refine lv_aload_n hx hb dX0_surveyQuarters_80 rfl (lv_at hl 0 rfl) ?_
            refine va_get (D := G) (ci := 0) (v := .ref (a 3)) (C := RX0) (T := TX0) (N := 13) hx hb hts hinX0 hown hK hP 0 rfl rfl 3 (by decide) hf21 (fun _ h9 => h9) rfl dX0_surveyQuarters_81 ?_
            refine lv_iload_n hx hb dX0_surveyQuarters_84 rfl (lv_at hl 1 rfl) ?_
            refine va_iald hx hb hK hP 1 0 rfl rfl (vp_in_nI g (by decide)) dX0_surveyQuarters_85 ?_
            refine tpi (x' := K i) (congrArg K (nI_clamp (by omega))) ?_
            refine tpi (x' := k i) (hk i g) ?_
            refine cw_v (wr := [((a 3), iA cI K), ((a 4), iA cI Q2), ((a 8), iA cI Ba), ((a 9), iA cI Ca), ((a 10), iA cI Da), ((a 11), iA cI Fa), ((a 12), iA cI W2)]) (va_runV (As := [.int (nI i), .int (k i)]) (rest := []) FX (c_X0_enter l G cI a mo co le L1 H1 M1 i (k i) (by omega) _) (cwV 2 hts gX0_surveyQuarters_X0_enter rfl rfl rfl (by decide +kernel) ⟨Nat.le_of_ble_eq_true rfl, Nat.le_of_ble_eq_true rfl⟩) (wrV hK hP hD hN [0, 3, 4, 5] (by decide) rfl rfl (ci := 0) (q0 := 0) rfl rfl) rfl rfl hl.1 rfl (lv_room (Nat.le_of_ble_eq_true rfl)) dX0_surveyQuarters_86 ⟨hzc, hzs⟩) hS hP hD hA [0, 3, 4, 5] [1, 2, 6, 7, 8, 9, 10] rfl rfl (by decide) (by decide) (fun u H locs hw hP hD hS => ?_)
            obtain ⟨L2, H2, M2⟩ := u
            obtain ⟨e1, e2, e3⟩ := hw
            have hP := hP.sub (ws' := [((a 0), oC a mo co le), ((a 3), iA cI K), ((a 4), iA cI Q2), ((a 5), iA cI L2), ((a 6), iA cI H2), ((a 7), iA cI M2), ((a 8), iA cI Ba), ((a 9), iA cI Ca), ((a 10), iA cI Da), ((a 11), iA cI Fa), ((a 12), iA cI W2)]) [7, 0, 1, 8, 9, 10, 2, 3, 4, 5, 6] rfl
            have hD := hD.sub (ws' := [((a 0), oC a mo co le), ((a 3), iA cI K), ((a 4), iA cI Q2), ((a 5), iA cI L2), ((a 6), iA cI H2), ((a 7), iA cI M2), ((a 8), iA cI Ba), ((a 9), iA cI Ca), ((a 10), iA cI Da), ((a 11), iA cI Fa), ((a 12), iA cI W2)]) [7, 0, 1, 8, 9, 10, 2, 3, 4, 5, 6] (by decide) rfl
            have e1 : L2 = upd L1 i (L1 i + 1) := e1
            have e2 : H2 = (if k i = 3 then upd H1 i (H1 i + 1) else H1) := e2
            have e3 : M2 = (if k i = 5 then upd M1 i (M1 i + 1) else M1) := e3
            refine lv_iinc (v := nI (i + 1)) (lv' := [(1, .int (nI (i + 1))), (0, .ref (a 0))]) hx hb dX0_surveyQuarters_89 hl (k := 1) rfl (nI_inc i) (by decide) rfl (fun ls hl => ?_)
            refine lv_goto (tgt := 34) hx hb dX0_surveyQuarters_92 (by decide) ?_
            exact ih_lp (i + 1) Q2 L2 H2 M2 W2 (by omega) (hQ2) (fun x hx => by rw [e1]; exact lots_step hj (hL1 x hx) (hL1 i g)) (fun x hx => by rw [e2]; exact kind_step hj (hH1 x hx) (hH1 i g)) (fun x hx => by rw [e3]; exact kind_step hj (hM1 x hx) (hM1 i g)) (by omega) _ _ _ hP hD hS (lv_sub hl [1, 0] (rfl))
      · skip
        have g9 : 64 = i := by omega
        subst g9
        refine lv_icmp_ge (tgt := 95) hx hb dX0_surveyQuarters_37 (by decide) (fun _ => ?_) (fun c => absurd (le_n (n := 64) (i := 64) (by decide) (by decide)) c)
        subst hQ
        subst hAe
        exact wr_v (Q1, L1, H1, M1, W1) (⟨fun x hx => by rw [← qpt_64 hx]; exact hQ1 x hx, hL1, hH1, hM1⟩) hx hb hr hP hD hS hlocks dX0_surveyQuarters_95
  exact lp (_ + 1) 0 Q0 L0 H0 M0 Wa (by omega) (fun x hx => by rw [hQ0 x hx, qpt_0]) (fun x hx => hL0 x hx) (fun x hx => hH0 x hx) (fun x hx => hM0 x hx) (Nat.lt_succ_self _) _ _ _ hP hD hS (lv_sub hl [1, 0] rfl)

def rmX0_survey : Room := { frames := 3, cells := 0, slots := 0, locals := 74 }
set_option maxHeartbeats 4000000 in
set_option maxRecDepth 100000 in
/-- all is found anew -/
theorem c_X0_survey (l : Launch) (G : va_G) (cI : ClassId) (a : Nat → Nat) (mo co le : Int32) (K Qa La Ha Ma Ba Ca Da Fa Wa k : Nat → Int32) (hk : eqK K k) (hg : wtr (k 3) = true) (sz : Nat) : Met l yX0_survey wsX0_survey rmX0_survey (va_Pc [.ref (a 0)] (WrP G cI [((a 0), oC a mo co le), ((a 3), iA cI K), ((a 4), iA cI Qa), ((a 5), iA cI La), ((a 6), iA cI Ha), ((a 7), iA cI Ma), ((a 8), iA cI Ba), ((a 9), iA cI Ca), ((a 10), iA cI Da), ((a 11), iA cI Fa), ((a 12), iA cI Wa)] sz)) (va_Qv (fun (u : (Nat → Int32) × (Nat → Int32) × (Nat → Int32) × (Nat → Int32) × (Nat → Int32) × (Nat → Int32) × (Nat → Int32) × (Nat → Int32)) => SVd k (u.1) (u.2.1) (u.2.2.1) (u.2.2.2.1) (u.2.2.2.2.1) (u.2.2.2.2.2.1) (u.2.2.2.2.2.2.1)) (WrB G [((a 0), oC a mo co le), ((a 3), iA cI K), ((a 4), iA cI Qa), ((a 5), iA cI La), ((a 6), iA cI Ha), ((a 7), iA cI Ma), ((a 8), iA cI Ba), ((a 9), iA cI Ca), ((a 10), iA cI Da), ((a 11), iA cI Fa), ((a 12), iA cI Wa)] sz (fun u => [(a 0, oC a mo co le), (a 3, iA cI K), (a 4, iA cI ((u.1))), (a 5, iA cI ((u.2.1))), (a 6, iA cI ((u.2.2.1))), (a 7, iA cI ((u.2.2.2.1))), (a 8, iA cI ((u.2.2.2.2.1))), (a 9, iA cI ((u.2.2.2.2.2.1))), (a 10, iA cI ((u.2.2.2.2.2.2.1))), (a 11, iA cI Fa), (a 12, iA cI ((u.2.2.2.2.2.2.2)))])) (va_A [((a 0), oC a mo co le), ((a 3), iA cI K), ((a 4), iA cI Qa), ((a 5), iA cI La), ((a 6), iA cI Ha), ((a 7), iA cI Ma), ((a 8), iA cI Ba), ((a 9), iA cI Ca), ((a 10), iA cI Da), ((a 11), iA cI Fa), ((a 12), iA cI Wa)] sz)) 0 0 (va_A [((a 0), oC a mo co le), ((a 3), iA cI K), ((a 4), iA cI Qa), ((a 5), iA cI La), ((a 6), iA cI Ha), ((a 7), iA cI Ma), ((a 8), iA cI Ba), ((a 9), iA cI Ca), ((a 10), iA cI Da), ((a 11), iA cI Fa), ((a 12), iA cI Wa)] sz) := by
  refine Met.ofW (cc := cX0_survey) (maxL := 2) (ret := none) (by decide) rfl ?_
  intro p e s m args below meth c s₁ B hml hv
  obtain ⟨rfl, hsz, hP, hK, hD0, hN⟩ := hv
  have hx := B.exec
  have hb := B.bytes
  have hr := B.returns
  have hlocks := B.notSynchronized
  have hts := atoms_spec (ws := wsX0_survey) B.pre
  have hown : s.vm.findClass RX0 = some m.cls := findClass_of_methodNamed B.named
  subst hsz
  have hD := hD0.self (sz := s.heap.size)
  have hA : ∀ q : Nat, s.heap.size ≤ q → va_A [((a 0), oC a mo co le), ((a 3), iA cI K), ((a 4), iA cI Qa), ((a 5), iA cI La), ((a 6), iA cI Ha), ((a 7), iA cI Ma), ((a 8), iA cI Ba), ((a 9), iA cI Ca), ((a 10), iA cI Da), ((a 11), iA cI Fa), ((a 12), iA cI Wa)] s.heap.size q := fun q h => Or.inr h
  have hS : va_S (va_A [((a 0), oC a mo co le), ((a 3), iA cI K), ((a 4), iA cI Qa), ((a 5), iA cI La), ((a 6), iA cI Ha), ((a 7), iA cI Ma), ((a 8), iA cI Ba), ((a 9), iA cI Ca), ((a 10), iA cI Da), ((a 11), iA cI Fa), ((a 12), iA cI Wa)] s.heap.size) s.heap s.heap [] := va_S.rf
  obtain ⟨A, hAe⟩ : ∃ A, A = va_A [((a 0), oC a mo co le), ((a 3), iA cI K), ((a 4), iA cI Qa), ((a 5), iA cI La), ((a 6), iA cI Ha), ((a 7), iA cI Ma), ((a 8), iA cI Ba), ((a 9), iA cI Ca), ((a 10), iA cI Da), ((a 11), iA cI Fa), ((a 12), iA cI Wa)] s.heap.size := ⟨_, rfl⟩
  rw [← hAe] at hD hA hS
  have FX : CallFix p m c cX0_survey 2 s ([.ref (a 0)] : List Value).toArray wsX0_survey RX0 := ⟨hx, hb, hml, hown, hts⟩
  have hl := lv_entry ([.ref (a 0)]) (n := 2) (Nat.le_of_ble_eq_true rfl)
  rw [lg_entry_eq]
  generalize (lg_sl ([.ref (a 0)]) ++ List.replicate (2 - (lg_sl ([.ref (a 0)])).length) Slot.unset).toArray = ls at hl ⊢
  have hl : lv_has ls 2 [(0, .ref (a 0))] := hl
  refine wq (fun Q hQ => ?_)
  have hzc : 0 + 0 ≤ (headSpec wsX0_survey rmX0_survey).room.cells := Nat.zero_le _
  have hzs : 0 + 0 ≤ (headSpec wsX0_survey rmX0_survey).room.slots := Nat.zero_le _
  have hf21 := hts (.fieldLink RX0 21 "CanalCity$City" "kinds" "[I") (by decide +kernel)
  have hf37 := hts (.fieldLink RX0 37 "CanalCity$City" "boatSteps" "[I") (by decide +kernel)
  have hf40 := hts (.fieldLink RX0 40 "CanalCity$City" "complaints" "[I") (by decide +kernel)
  have hf43 := hts (.fieldLink RX0 43 "CanalCity$City" "dues" "[I") (by decide +kernel)
  have hinX0 : ∀ w ∈ u_ws RX0 TX0 13, w ∈ wsX0_survey := by decide +kernel
  have hiniX1 := hts (.initialized RX1) (by decide +kernel)
  have hstX1_isWater := hts (.static yX1_isWater) (by decide +kernel)
  refine lv_aload_n hx hb dX0_survey_0 rfl (lv_at hl 0 rfl) ?_
  refine cw_v (wr := []) (va_runV (As := []) (rest := []) FX (c_X0_surveyQuarters l G cI a mo co le K Qa La Ha Ma Ba Ca Da Fa Wa k hk _) (cwV 0 hts gX0_survey_X0_surveyQuarters rfl rfl rfl (by decide +kernel) ⟨Nat.le_of_ble_eq_true rfl, Nat.le_of_ble_eq_true rfl⟩) (wrV hK hP hD hN [0, 1, 2, 3, 4, 5, 6, 7, 8, 9, 10] (by decide) rfl rfl (ci := 0) (q0 := 0) rfl rfl) rfl rfl hl.1 rfl (lv_room (Nat.le_of_ble_eq_true rfl)) dX0_survey_1 ⟨hzc, hzs⟩) hS hP hD hA [0, 1, 2, 3, 4, 5, 6, 7, 8, 9, 10] [] rfl rfl (by decide) (by decide) (fun u H locs hw hP hD hS => ?_)
  obtain ⟨Q1, L1, H1, M1, W1⟩ := u
  obtain ⟨hQ1, hL1, hH1, hM1⟩ := hw
  have hP := hP.sub (ws' := [((a 0), oC a mo co le), ((a 3), iA cI K), ((a 4), iA cI Q1), ((a 5), iA cI L1), ((a 6), iA cI H1), ((a 7), iA cI M1), ((a 8), iA cI Ba), ((a 9), iA cI Ca), ((a 10), iA cI Da), ((a 11), iA cI Fa), ((a 12), iA cI W1)]) [0, 1, 2, 3, 4, 5, 6, 7, 8, 9, 10] rfl
  have hD := hD.sub (ws' := [((a 0), oC a mo co le), ((a 3), iA cI K), ((a 4), iA cI Q1), ((a 5), iA cI L1), ((a 6), iA cI H1), ((a 7), iA cI M1), ((a 8), iA cI Ba), ((a 9), iA cI Ca), ((a 10), iA cI Da), ((a 11), iA cI Fa), ((a 12), iA cI W1)]) [0, 1, 2, 3, 4, 5, 6, 7, 8, 9, 10] (by decide) rfl
  refine lv_aload_n hx hb dX0_survey_4 rfl (lv_at hl 0 rfl) ?_
  refine va_get (D := G) (ci := 0) (v := .ref (a 8)) (C := RX0) (T := TX0) (N := 13) hx hb hts hinX0 hown hK hP 0 rfl rfl 8 (by decide) hf37 (fun _ h9 => h9) rfl dX0_survey_5 ?_
  refine lv_iconst (v := (-1)) hx hb dX0_survey_8 (by decide) ?_
  refine cw_v (wr := [((a 0), oC a mo co le), ((a 3), iA cI K), ((a 4), iA cI Q1), ((a 5), iA cI L1), ((a 6), iA cI H1), ((a 7), iA cI M1), ((a 9), iA cI Ca), ((a 10), iA cI Da), ((a 11), iA cI Fa), ((a 12), iA cI W1)]) (va_runS (As := [.ref (a 8), .int (-1)]) (rest := []) FX (c_X0_clear l G cI (a 8) Ba (-1) _) (va_cwS 2 hts gX0_survey_X0_clear rfl rfl rfl (by decide +kernel) ⟨Nat.le_of_ble_eq_true rfl, Nat.le_of_ble_eq_true rfl⟩) (wrS hK hP hD hN [6] (by decide) rfl rfl) rfl rfl hl.1 rfl (lv_room (Nat.le_of_ble_eq_true rfl)) dX0_survey_9 ⟨hzc, hzs⟩) hS hP hD hA [6] [0, 1, 2, 3, 4, 5, 7, 8, 9, 10] rfl rfl (by decide) (by decide) (fun u H locs hw hP hD hS => ?_)
  obtain ⟨B0, hu9⟩ : ∃ z, z = u := ⟨_, rfl⟩
  subst hu9
  have hP := hP.sub (ws' := [((a 0), oC a mo co le), ((a 3), iA cI K), ((a 4), iA cI Q1), ((a 5), iA cI L1), ((a 6), iA cI H1), ((a 7), iA cI M1), ((a 8), iA cI B0), ((a 9), iA cI Ca), ((a 10), iA cI Da), ((a 11), iA cI Fa), ((a 12), iA cI W1)]) [0, 1, 2, 3, 4, 5, 10, 6, 7, 8, 9] rfl
  have hD := hD.sub (ws' := [((a 0), oC a mo co le), ((a 3), iA cI K), ((a 4), iA cI Q1), ((a 5), iA cI L1), ((a 6), iA cI H1), ((a 7), iA cI M1), ((a 8), iA cI B0), ((a 9), iA cI Ca), ((a 10), iA cI Da), ((a 11), iA cI Fa), ((a 12), iA cI W1)]) [0, 1, 2, 3, 4, 5, 10, 6, 7, 8, 9] (by decide) rfl
  have hB0 := hw
  refine lv_aload_n hx hb dX0_survey_12 rfl (lv_at hl 0 rfl) ?_
  refine va_get (D := G) (ci := 0) (v := .ref (a 3)) (C := RX0) (T := TX0) (N := 13) hx hb hts hinX0 hown hK hP 0 rfl rfl 3 (by decide) hf21 (fun _ h9 => h9) rfl dX0_survey_13 ?_
  refine lv_iconst (v := 3) hx hb dX0_survey_16 (by decide) ?_
  refine tpi (x' := nI 3) (rfl) ?_
  refine va_iald hx hb hK hP 1 0 rfl rfl (vp_in_nI (n := 3) (by decide) (by decide)) dX0_survey_17 ?_
  refine tpi (x' := K 3) (congrArg K (nI_clamp (by omega))) ?_
  refine tpi (x' := k 3) (hk 3 (by decide)) ?_
  refine cr_i (va_runSN (As := [.int (k 3)]) (rest := []) FX (c_X1_isWater l (k 3)) ⟨va_cnB 1 hts gX0_survey_X1_isWater_n84 rfl rfl rfl (NW_at hN 4 rfl) hiniX1 (by decide +kernel) ⟨Nat.le_of_ble_eq_true rfl, Nat.le_of_ble_eq_true rfl⟩, hstX1_isWater, trivial⟩ puS rfl rfl hl.1 rfl (lv_room (Nat.le_of_ble_eq_true rfl)) dX0_survey_18 ⟨hzc, hzs⟩) hS hP (fun H locs hP hS => ?_)
  refine tpi (x' := 1) (by rw [hg]; rfl) ?_
  refine lv_if_eq (tgt := 36) hx hb dX0_survey_21 (by decide) (fun c => absurd c (by decide)) (fun _ => ?_)
  refine lv_aload_n hx hb dX0_survey_24 rfl (lv_at hl 0 rfl) ?_
  refine lv_aload_n hx hb dX0_survey_25 rfl (lv_at hl 0 rfl) ?_
  refine va_get (D := G) (ci := 0) (v := .ref (a 8)) (C := RX0) (T := TX0) (N := 13) hx hb hts hinX0 hown hK hP 0 rfl rfl 8 (by decide) hf37 (fun _ h9 => h9) rfl dX0_survey_26 ?_
  refine lv_iconst (v := 3) hx hb dX0_survey_29 (by decide) ?_
  refine tpi (x' := nI 3) (rfl) ?_
  refine lv_iconst (v := 0) hx hb dX0_survey_30 (by decide) ?_
  refine tpi (x' := b2i false) (rfl) ?_
  refine lv_iconst (v := 0) hx hb dX0_survey_31 (by decide) ?_
  refine tpi (x' := nI 0) (rfl) ?_
  refine lv_iconst (v := 1) hx hb dX0_survey_32 (by decide) ?_
  refine tpi (x' := nI 1) (rfl) ?_
  refine cw_v (wr := [((a 4), iA cI Q1), ((a 5), iA cI L1), ((a 6), iA cI H1), ((a 7), iA cI M1), ((a 9), iA cI Ca), ((a 10), iA cI Da), ((a 11), iA cI Fa)]) (va_runV (As := [.ref (a 8), .int (nI 3), .int (b2i false), .int (nI 0), .int (nI 1)]) (rest := []) FX (c_X0_spread l G cI a (a 8) mo co le K B0 W1 k false 3 0 1 hk (by decide) (by decide) (by decide) (fun x hx _ => by rw [hB0 x hx]; decide) _) (cwV 5 hts gX0_survey_X0_spread rfl rfl rfl (by decide +kernel) ⟨Nat.le_of_ble_eq_true rfl, Nat.le_of_ble_eq_true rfl⟩) (wrV hK hP hD hN [0, 6, 1, 10] (by decide) rfl rfl (ci := 0) (q0 := 0) rfl rfl) rfl rfl hl.1 rfl (lv_room (Nat.le_of_ble_eq_true rfl)) dX0_survey_33 ⟨hzc, hzs⟩) hS hP hD hA [0, 6, 1, 10] [2, 3, 4, 5, 7, 8, 9] rfl rfl (by decide) (by decide) (fun u H locs hw hP hD hS => ?_)
  obtain ⟨B1, W2⟩ := u
  have hP := hP.sub (ws' := [((a 0), oC a mo co le), ((a 3), iA cI K), ((a 4), iA cI Q1), ((a 5), iA cI L1), ((a 6), iA cI H1), ((a 7), iA cI M1), ((a 8), iA cI B1), ((a 9), iA cI Ca), ((a 10), iA cI Da), ((a 11), iA cI Fa), ((a 12), iA cI W2)]) [7, 9, 0, 1, 2, 3, 8, 4, 5, 6, 10] rfl
  have hD := hD.sub (ws' := [((a 0), oC a mo co le), ((a 3), iA cI K), ((a 4), iA cI Q1), ((a 5), iA cI L1), ((a 6), iA cI H1), ((a 7), iA cI M1), ((a 8), iA cI B1), ((a 9), iA cI Ca), ((a 10), iA cI Da), ((a 11), iA cI Fa), ((a 12), iA cI W2)]) [7, 9, 0, 1, 2, 3, 8, 4, 5, 6, 10] (by decide) rfl
  have hB1 : hatB k B1 := fun x hx => by rw [show B1 x = mkd 0 1 (dst (PB false k) 3 x) (B0 x) from hw x hx, hB0 x hx]; exact mkd_toI _
  refine lv_iconst (v := 0) hx hb dX0_survey_36 (by decide) ?_
  refine tpi (x' := nI 0) (rfl) ?_
  refine lv_istore_n (lv' := [(1, .int (nI 0)), (0, .ref (a 0))]) hx hb dX0_survey_37 rfl hl (by decide) rfl (fun ls hl => ?_)
  have lp : ∀ (n : Nat) (i : Nat) (C1 D1 : Nat → Int32), (hi : i ≤ 64) → (hC1 : ∀ x, x < i → C1 x = cpl k x) → (hD1 : ∀ x, x < i → D1 x = due k x) → (64 - i) < n → ∀ (H : Heap) (locs : List Loc) (ls : Array Slot), va_P G vwCl [((a 0), oC a mo co le), ((a 3), iA cI K), ((a 4), iA cI Q1), ((a 5), iA cI L1), ((a 6), iA cI H1), ((a 7), iA cI M1), ((a 8), iA cI B1), ((a 9), iA cI C1), ((a 10), iA cI D1), ((a 11), iA cI Fa), ((a 12), iA cI W2)] H → va_D A [((a 0), oC a mo co le), ((a 3), iA cI K), ((a 4), iA cI Q1), ((a 5), iA cI L1), ((a 6), iA cI H1), ((a 7), iA cI M1), ((a 8), iA cI B1), ((a 9), iA cI C1), ((a 10), iA cI D1), ((a 11), iA cI Fa), ((a 12), iA cI W2)] → va_S A s.heap H locs → lv_has ls 2 [(0, .ref (a 0)), (1, .int (nI i))] → W p l e (headSpec wsX0_survey rmX0_survey).room s m ([.ref (a 0)] : List Value).toArray below meth c H locs 0 0 Q (F0 m 38 ls []) := by
    intro n
    induction n with
    | zero => intro i C1 D1 hi hC1 hD1 hn; exact absurd hn (by omega)
    | succ n ih_lp =>
      intro i C1 D1 hi hC1 hD1 hn H locs ls hP hD hS hl
      refine lv_iload_n hx hb dX0_survey_38 rfl (lv_at hl 1 rfl) ?_
      refine lv_bipush (v := 64) hx hb dX0_survey_39 (by decide) ?_
      rcases Nat.lt_or_ge i 64 with g | g
      · skip
        refine lv_icmp_ge (tgt := 72) hx hb dX0_survey_41 (by decide) (fun c => absurd c (lt_n (n := 64) g (by decide))) (fun _ => ?_)
        refine lv_aload_n hx hb dX0_survey_44 rfl (lv_at hl 0 rfl) ?_
        refine va_get (D := G) (ci := 0) (v := .ref (a 9)) (C := RX0) (T := TX0) (N := 13) hx hb hts hinX0 hown hK hP 0 rfl rfl 9 (by decide) hf40 (fun _ h9 => h9) rfl dX0_survey_45 ?_
        refine lv_iload_n hx hb dX0_survey_48 rfl (lv_at hl 1 rfl) ?_
        refine lv_aload_n hx hb dX0_survey_49 rfl (lv_at hl 0 rfl) ?_
        refine lv_iload_n hx hb dX0_survey_50 rfl (lv_at hl 1 rfl) ?_
        refine cr_i (va_runV (As := [.int (nI i)]) (rest := [.int (nI i), .ref (a 9)]) FX (c_X0_complaintsAt l G cI a mo co le K Q1 L1 H1 M1 B1 C1 D1 Fa W2 k i hk hQ1 hM1 hB1 g) (cwV 1 hts gX0_survey_X0_complaintsAt rfl rfl rfl (by decide +kernel) ⟨Nat.le_of_ble_eq_true rfl, Nat.le_of_ble_eq_true rfl⟩) (rdV hK hP hN [0, 1, 2, 3, 4, 5, 6, 7, 8, 9, 10] rfl (ci := 0) (q0 := 0) rfl rfl) rfl rfl hl.1 rfl (lv_room (Nat.le_of_ble_eq_true rfl)) dX0_survey_51 ⟨hzc, hzs⟩) hS hP (fun H locs hP hS => ?_)
        refine va_iast hx hb hK hP hD hS 7 0 rfl rfl (vp_in_nI g (by decide)) dX0_survey_54 (fun H locs hP hD hS => ?_)
        rw [show ((nI i)).toNatClampNeg = i from nI_clamp (by omega)] at hP hD
        have hP : va_P G vwCl [((a 0), oC a mo co le), ((a 3), iA cI K), ((a 4), iA cI Q1), ((a 5), iA cI L1), ((a 6), iA cI H1), ((a 7), iA cI M1), ((a 8), iA cI B1), ((a 9), iA cI (upd C1 i (cpl k i))), ((a 10), iA cI D1), ((a 11), iA cI Fa), ((a 12), iA cI W2)] H := hP
        have hD : va_D A [((a 0), oC a mo co le), ((a 3), iA cI K), ((a 4), iA cI Q1), ((a 5), iA cI L1), ((a 6), iA cI H1), ((a 7), iA cI M1), ((a 8), iA cI B1), ((a 9), iA cI (upd C1 i (cpl k i))), ((a 10), iA cI D1), ((a 11), iA cI Fa), ((a 12), iA cI W2)] := hD
        refine lv_aload_n hx hb dX0_survey_55 rfl (lv_at hl 0 rfl) ?_
        refine va_get (D := G) (ci := 0) (v := .ref (a 10)) (C := RX0) (T := TX0) (N := 13) hx hb hts hinX0 hown hK hP 0 rfl rfl 10 (by decide) hf43 (fun _ h9 => h9) rfl dX0_survey_56 ?_
        refine lv_iload_n hx hb dX0_survey_59 rfl (lv_at hl 1 rfl) ?_
        refine lv_aload_n hx hb dX0_survey_60 rfl (lv_at hl 0 rfl) ?_
        refine lv_iload_n hx hb dX0_survey_61 rfl (lv_at hl 1 rfl) ?_
        refine cr_i (va_runV (As := [.int (nI i)]) (rest := [.int (nI i), .ref (a 10)]) FX (c_X0_duesAt l G cI a mo co le K Q1 L1 H1 M1 B1 (upd C1 i (cpl k i)) D1 Fa W2 k i hk hQ1 hH1 hB1 pk_us g) (cwV 1 hts gX0_survey_X0_duesAt rfl rfl rfl (by decide +kernel) ⟨Nat.le_of_ble_eq_true rfl, Nat.le_of_ble_eq_true rfl⟩) (rdV hK hP hN [0, 1, 2, 3, 4, 5, 6, 7, 8, 9, 10] rfl (ci := 0) (q0 := 0) rfl rfl) rfl rfl hl.1 rfl (lv_room (Nat.le_of_ble_eq_true rfl)) dX0_survey_62 ⟨hzc, hzs⟩) hS hP (fun H locs hP hS => ?_)
        refine va_iast hx hb hK hP hD hS 8 0 rfl rfl (vp_in_nI g (by decide)) dX0_survey_65 (fun H locs hP hD hS => ?_)
        rw [show ((nI i)).toNatClampNeg = i from nI_clamp (by omega)] at hP hD
        have hP : va_P G vwCl [((a 0), oC a mo co le), ((a 3), iA cI K), ((a 4), iA cI Q1), ((a 5), iA cI L1), ((a 6), iA cI H1), ((a 7), iA cI M1), ((a 8), iA cI B1), ((a 9), iA cI (upd C1 i (cpl k i))), ((a 10), iA cI (upd D1 i (due k i))), ((a 11), iA cI Fa), ((a 12), iA cI W2)] H := hP
        have hD : va_D A [((a 0), oC a mo co le), ((a 3), iA cI K), ((a 4), iA cI Q1), ((a 5), iA cI L1), ((a 6), iA cI H1), ((a 7), iA cI M1), ((a 8), iA cI B1), ((a 9), iA cI (upd C1 i (cpl k i))), ((a 10), iA cI (upd D1 i (due k i))), ((a 11), iA cI Fa), ((a 12), iA cI W2)] := hD
        refine lv_iinc (v := nI (i + 1)) (lv' := [(1, .int (nI (i + 1))), (0, .ref (a 0))]) hx hb dX0_survey_66 hl (k := 1) rfl (nI_inc i) (by decide) rfl (fun ls hl => ?_)
        refine lv_goto (tgt := 38) hx hb dX0_survey_69 (by decide) ?_
        exact ih_lp (i + 1) (upd C1 i (cpl k i)) (upd D1 i (due k i)) (by omega) (fun x hx => by rcases Nat.lt_or_ge x i with q9 | q9; rw [pk_un (by omega)]; exact hC1 x q9; rw [show x = i by omega, pk_us]) (fun x hx => by rcases Nat.lt_or_ge x i with q9 | q9; rw [pk_un (by omega)]; exact hD1 x q9; rw [show x = i by omega, pk_us]) (by omega) _ _ _ hP hD hS (lv_sub hl [1, 0] (rfl))
      · skip
        have g9 : 64 = i := by omega
        subst g9
        refine lv_icmp_ge (tgt := 72) hx hb dX0_survey_41 (by decide) (fun _ => ?_) (fun c => absurd (le_n (n := 64) (i := 64) (by decide) (by decide)) c)
        subst hQ
        subst hAe
        exact wr_v (Q1, L1, H1, M1, B1, C1, D1, W2) (⟨hQ1, hL1, hH1, hM1, hB1, hC1, hD1⟩) hx hb hr hP hD hS hlocks dX0_survey_72
  exact lp (_ + 1) 0 Ca Da (by omega) (fun x hx => absurd hx (Nat.not_lt_zero _)) (fun x hx => absurd hx (Nat.not_lt_zero _)) (Nat.lt_succ_self _) _ _ _ hP hD hS (lv_sub hl [1, 0] rfl)

def rmX0_stepsOnFoot : Room := { frames := 2, cells := 0, slots := 0, locals := 53 }
set_option maxHeartbeats 4000000 in
set_option maxRecDepth 100000 in
/-- steps on foot -/
theorem c_X0_stepsOnFoot (l : Launch) (G : va_G) (cI : ClassId) (a : Nat → Nat) (mo co le : Int32) (K Qa La Ha Ma Ba Ca Da Fa Wa k : Nat → Int32) (st pt : Nat) (hk : eqK K k) (hst : st < 64) (hpt : pt < 64) (sz : Nat) : Met l yX0_stepsOnFoot wsX0_stepsOnFoot rmX0_stepsOnFoot (va_Pc [.ref (a 0), .int (nI st), .int (nI pt)] (WrP G cI [((a 0), oC a mo co le), ((a 3), iA cI K), ((a 4), iA cI Qa), ((a 5), iA cI La), ((a 6), iA cI Ha), ((a 7), iA cI Ma), ((a 8), iA cI Ba), ((a 9), iA cI Ca), ((a 10), iA cI Da), ((a 11), iA cI Fa), ((a 12), iA cI Wa)] sz)) (va_Qi (fun (r : Int32) (u : (Nat → Int32) × (Nat → Int32)) => r = toI (dst (PB true k) st pt)) (WrB G [((a 0), oC a mo co le), ((a 3), iA cI K), ((a 4), iA cI Qa), ((a 5), iA cI La), ((a 6), iA cI Ha), ((a 7), iA cI Ma), ((a 8), iA cI Ba), ((a 9), iA cI Ca), ((a 10), iA cI Da), ((a 11), iA cI Fa), ((a 12), iA cI Wa)] sz (fun u => [(a 0, oC a mo co le), (a 3, iA cI K), (a 4, iA cI Qa), (a 5, iA cI La), (a 6, iA cI Ha), (a 7, iA cI Ma), (a 8, iA cI Ba), (a 9, iA cI Ca), (a 10, iA cI Da), (a 11, iA cI ((u.1))), (a 12, iA cI ((u.2)))])) (va_A [((a 0), oC a mo co le), ((a 3), iA cI K), ((a 4), iA cI Qa), ((a 5), iA cI La), ((a 6), iA cI Ha), ((a 7), iA cI Ma), ((a 8), iA cI Ba), ((a 9), iA cI Ca), ((a 10), iA cI Da), ((a 11), iA cI Fa), ((a 12), iA cI Wa)] sz)) 0 0 (va_A [((a 0), oC a mo co le), ((a 3), iA cI K), ((a 4), iA cI Qa), ((a 5), iA cI La), ((a 6), iA cI Ha), ((a 7), iA cI Ma), ((a 8), iA cI Ba), ((a 9), iA cI Ca), ((a 10), iA cI Da), ((a 11), iA cI Fa), ((a 12), iA cI Wa)] sz) := by
  refine Met.ofW (cc := cX0_stepsOnFoot) (maxL := 3) (ret := (some .int)) (by decide) rfl ?_
  intro p e s m args below meth c s₁ B hml hv
  obtain ⟨rfl, hsz, hP, hK, hD0, hN⟩ := hv
  have hx := B.exec
  have hb := B.bytes
  have hr := B.returns
  have hlocks := B.notSynchronized
  have hts := atoms_spec (ws := wsX0_stepsOnFoot) B.pre
  have hown : s.vm.findClass RX0 = some m.cls := findClass_of_methodNamed B.named
  subst hsz
  have hD := hD0.self (sz := s.heap.size)
  have hA : ∀ q : Nat, s.heap.size ≤ q → va_A [((a 0), oC a mo co le), ((a 3), iA cI K), ((a 4), iA cI Qa), ((a 5), iA cI La), ((a 6), iA cI Ha), ((a 7), iA cI Ma), ((a 8), iA cI Ba), ((a 9), iA cI Ca), ((a 10), iA cI Da), ((a 11), iA cI Fa), ((a 12), iA cI Wa)] s.heap.size q := fun q h => Or.inr h
  have hS : va_S (va_A [((a 0), oC a mo co le), ((a 3), iA cI K), ((a 4), iA cI Qa), ((a 5), iA cI La), ((a 6), iA cI Ha), ((a 7), iA cI Ma), ((a 8), iA cI Ba), ((a 9), iA cI Ca), ((a 10), iA cI Da), ((a 11), iA cI Fa), ((a 12), iA cI Wa)] s.heap.size) s.heap s.heap [] := va_S.rf
  obtain ⟨A, hAe⟩ : ∃ A, A = va_A [((a 0), oC a mo co le), ((a 3), iA cI K), ((a 4), iA cI Qa), ((a 5), iA cI La), ((a 6), iA cI Ha), ((a 7), iA cI Ma), ((a 8), iA cI Ba), ((a 9), iA cI Ca), ((a 10), iA cI Da), ((a 11), iA cI Fa), ((a 12), iA cI Wa)] s.heap.size := ⟨_, rfl⟩
  rw [← hAe] at hD hA hS
  have FX : CallFix p m c cX0_stepsOnFoot 3 s ([.ref (a 0), .int (nI st), .int (nI pt)] : List Value).toArray wsX0_stepsOnFoot RX0 := ⟨hx, hb, hml, hown, hts⟩
  have hl := lv_entry ([.ref (a 0), .int (nI st), .int (nI pt)]) (n := 3) (Nat.le_of_ble_eq_true rfl)
  rw [lg_entry_eq]
  generalize (lg_sl ([.ref (a 0), .int (nI st), .int (nI pt)]) ++ List.replicate (3 - (lg_sl ([.ref (a 0), .int (nI st), .int (nI pt)])).length) Slot.unset).toArray = ls at hl ⊢
  have hl : lv_has ls 3 [(0, .ref (a 0)), (1, .int (nI st)), (2, .int (nI pt))] := hl
  refine wq (fun Q hQ => ?_)
  have hzc : 0 + 0 ≤ (headSpec wsX0_stepsOnFoot rmX0_stepsOnFoot).room.cells := Nat.zero_le _
  have hzs : 0 + 0 ≤ (headSpec wsX0_stepsOnFoot rmX0_stepsOnFoot).room.slots := Nat.zero_le _
  have hf46 := hts (.fieldLink RX0 46 "CanalCity$City" "footSteps" "[I") (by decide +kernel)
  have hinX0 : ∀ w ∈ u_ws RX0 TX0 13, w ∈ wsX0_stepsOnFoot := by decide +kernel
  refine lv_aload_n hx hb dX0_stepsOnFoot_0 rfl (lv_at hl 0 rfl) ?_
  refine va_get (D := G) (ci := 0) (v := .ref (a 11)) (C := RX0) (T := TX0) (N := 13) hx hb hts hinX0 hown hK hP 0 rfl rfl 11 (by decide) hf46 (fun _ h9 => h9) rfl dX0_stepsOnFoot_1 ?_
  refine lv_iconst (v := (-1)) hx hb dX0_stepsOnFoot_4 (by decide) ?_
  refine cw_v (wr := [((a 0), oC a mo co le), ((a 3), iA cI K), ((a 4), iA cI Qa), ((a 5), iA cI La), ((a 6), iA cI Ha), ((a 7), iA cI Ma), ((a 8), iA cI Ba), ((a 9), iA cI Ca), ((a 10), iA cI Da), ((a 12), iA cI Wa)]) (va_runS (As := [.ref (a 11), .int (-1)]) (rest := []) FX (c_X0_clear l G cI (a 11) Fa (-1) _) (va_cwS 2 hts gX0_stepsOnFoot_X0_clear rfl rfl rfl (by decide +kernel) ⟨Nat.le_of_ble_eq_true rfl, Nat.le_of_ble_eq_true rfl⟩) (wrS hK hP hD hN [9] (by decide) rfl rfl) rfl rfl hl.1 rfl (lv_room (Nat.le_of_ble_eq_true rfl)) dX0_stepsOnFoot_5 ⟨hzc, hzs⟩) hS hP hD hA [9] [0, 1, 2, 3, 4, 5, 6, 7, 8, 10] rfl rfl (by decide) (by decide) (fun u H locs hw hP hD hS => ?_)
  obtain ⟨F0, hu9⟩ : ∃ z, z = u := ⟨_, rfl⟩
  subst hu9
  have hP := hP.sub (ws' := [((a 0), oC a mo co le), ((a 3), iA cI K), ((a 4), iA cI Qa), ((a 5), iA cI La), ((a 6), iA cI Ha), ((a 7), iA cI Ma), ((a 8), iA cI Ba), ((a 9), iA cI Ca), ((a 10), iA cI Da), ((a 11), iA cI F0), ((a 12), iA cI Wa)]) [0, 1, 2, 3, 4, 5, 6, 7, 8, 10, 9] rfl
  have hD := hD.sub (ws' := [((a 0), oC a mo co le), ((a 3), iA cI K), ((a 4), iA cI Qa), ((a 5), iA cI La), ((a 6), iA cI Ha), ((a 7), iA cI Ma), ((a 8), iA cI Ba), ((a 9), iA cI Ca), ((a 10), iA cI Da), ((a 11), iA cI F0), ((a 12), iA cI Wa)]) [0, 1, 2, 3, 4, 5, 6, 7, 8, 10, 9] (by decide) rfl
  have hF0 := hw
  refine lv_aload_n hx hb dX0_stepsOnFoot_8 rfl (lv_at hl 0 rfl) ?_
  refine lv_aload_n hx hb dX0_stepsOnFoot_9 rfl (lv_at hl 0 rfl) ?_
  refine va_get (D := G) (ci := 0) (v := .ref (a 11)) (C := RX0) (T := TX0) (N := 13) hx hb hts hinX0 hown hK hP 0 rfl rfl 11 (by decide) hf46 (fun _ h9 => h9) rfl dX0_stepsOnFoot_10 ?_
  refine lv_iload_n hx hb dX0_stepsOnFoot_13 rfl (lv_at hl 1 rfl) ?_
  refine lv_iconst (v := 1) hx hb dX0_stepsOnFoot_14 (by decide) ?_
  refine tpi (x' := b2i true) (rfl) ?_
  refine lv_iconst (v := 0) hx hb dX0_stepsOnFoot_15 (by decide) ?_
  refine tpi (x' := nI 0) (rfl) ?_
  refine lv_iconst (v := 1) hx hb dX0_stepsOnFoot_16 (by decide) ?_
  refine tpi (x' := nI 1) (rfl) ?_
  refine cw_v (wr := [((a 4), iA cI Qa), ((a 5), iA cI La), ((a 6), iA cI Ha), ((a 7), iA cI Ma), ((a 8), iA cI Ba), ((a 9), iA cI Ca), ((a 10), iA cI Da)]) (va_runV (As := [.ref (a 11), .int (nI st), .int (b2i true), .int (nI 0), .int (nI 1)]) (rest := []) FX (c_X0_spread l G cI a (a 11) mo co le K F0 Wa k true st 0 1 hk hst (by decide) (by decide) (fun x hx _ => by rw [hF0 x hx]; decide) _) (cwV 5 hts gX0_stepsOnFoot_X0_spread rfl rfl rfl (by decide +kernel) ⟨Nat.le_of_ble_eq_true rfl, Nat.le_of_ble_eq_true rfl⟩) (wrV hK hP hD hN [0, 9, 1, 10] (by decide) rfl rfl (ci := 0) (q0 := 0) rfl rfl) rfl rfl hl.1 rfl (lv_room (Nat.le_of_ble_eq_true rfl)) dX0_stepsOnFoot_17 ⟨hzc, hzs⟩) hS hP hD hA [0, 9, 1, 10] [2, 3, 4, 5, 6, 7, 8] rfl rfl (by decide) (by decide) (fun u H locs hw hP hD hS => ?_)
  obtain ⟨F2, W2⟩ := u
  have hP := hP.sub (ws' := [((a 0), oC a mo co le), ((a 3), iA cI K), ((a 4), iA cI Qa), ((a 5), iA cI La), ((a 6), iA cI Ha), ((a 7), iA cI Ma), ((a 8), iA cI Ba), ((a 9), iA cI Ca), ((a 10), iA cI Da), ((a 11), iA cI F2), ((a 12), iA cI W2)]) [7, 9, 0, 1, 2, 3, 4, 5, 6, 8, 10] rfl
  have hD := hD.sub (ws' := [((a 0), oC a mo co le), ((a 3), iA cI K), ((a 4), iA cI Qa), ((a 5), iA cI La), ((a 6), iA cI Ha), ((a 7), iA cI Ma), ((a 8), iA cI Ba), ((a 9), iA cI Ca), ((a 10), iA cI Da), ((a 11), iA cI F2), ((a 12), iA cI W2)]) [7, 9, 0, 1, 2, 3, 4, 5, 6, 8, 10] (by decide) rfl
  refine lv_aload_n hx hb dX0_stepsOnFoot_20 rfl (lv_at hl 0 rfl) ?_
  refine va_get (D := G) (ci := 0) (v := .ref (a 11)) (C := RX0) (T := TX0) (N := 13) hx hb hts hinX0 hown hK hP 0 rfl rfl 11 (by decide) hf46 (fun _ h9 => h9) rfl dX0_stepsOnFoot_21 ?_
  refine lv_iload_n hx hb dX0_stepsOnFoot_24 rfl (lv_at hl 2 rfl) ?_
  refine va_iald hx hb hK hP 9 0 rfl rfl (vp_in_nI hpt (by decide)) dX0_stepsOnFoot_25 ?_
  refine tpi (x' := F2 pt) (congrArg F2 (nI_clamp (by omega))) ?_
  subst hQ
  subst hAe
  exact wr_i (F2, W2) (by rw [show F2 pt = mkd 0 1 (dst (PB true k) st pt) (F0 pt) from hw pt hpt, hF0 pt hpt]; exact mkd_toI _) hx hb hr hP hD hS hlocks dX0_stepsOnFoot_26

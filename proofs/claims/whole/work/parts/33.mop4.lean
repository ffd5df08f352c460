def rmX2_pass : Room := { frames := 7, cells := 0, slots := 0, locals := 158 }
set_option maxHeartbeats 4000000 in
set_option maxRecDepth 100000 in
theorem c_X2_pass (l : Launch) (G : va_G) (cI : ClassId) (b : Nat → Nat) (th mo co le : Int32) (K Ah Ot Qm Op Lm Hm Mm Rw St k : Nat → Int32) (n9 : Int32) (hk : eqK K k) (hkd : ∀ x, x < 64 → kd (k x)) (sz : Nat) : Met l yX2_pass wsX2_pass rmX2_pass (va_Pc [.ref (b 0), .int n9] (WrP G cI [((b 0), oM b th mo co le), ((b 4), iA cI K), ((b 5), iA cI Ah), ((b 6), iA cI Ot), ((b 7), iA cI Qm), ((b 8), iA cI Op), ((b 9), iA cI Lm), ((b 10), iA cI Hm), ((b 11), iA cI Mm), ((b 12), iA cI Rw), ((b 13), iA cI St)] sz)) (va_Qi (fun (r : Int32) (u : (Nat → Int32) × (Nat → Int32) × (Nat → Int32) × (Nat → Int32) × (Nat → Int32) × (Nat → Int32) × (Nat → Int32) × (Nat → Int32) × (Nat → Int32)) => ((cdPass n9) = 0 → r = incS k n9.toNatClampNeg) ∧ eqK (u.1) (nmK (cdPass n9) k n9.toNatClampNeg)) (WrB G [((b 0), oM b th mo co le), ((b 4), iA cI K), ((b 5), iA cI Ah), ((b 6), iA cI Ot), ((b 7), iA cI Qm), ((b 8), iA cI Op), ((b 9), iA cI Lm), ((b 10), iA cI Hm), ((b 11), iA cI Mm), ((b 12), iA cI Rw), ((b 13), iA cI St)] sz (fun u => [(b 0, oM b (cdPass n9) (nmM (cdPass n9) mo n9.toNatClampNeg) (nmC (cdPass n9) k co n9.toNatClampNeg) (nmL (cdPass n9) k le n9.toNatClampNeg)), (b 4, iA cI (u.1)), (b 5, iA cI Ah), (b 6, iA cI (u.2.1)), (b 7, iA cI (u.2.2.1)), (b 8, iA cI (u.2.2.2.1)), (b 9, iA cI (u.2.2.2.2.1)), (b 10, iA cI (u.2.2.2.2.2.1)), (b 11, iA cI (u.2.2.2.2.2.2.1)), (b 12, iA cI (u.2.2.2.2.2.2.2.1)), (b 13, iA cI (u.2.2.2.2.2.2.2.2))])) (va_A [((b 0), oM b th mo co le), ((b 4), iA cI K), ((b 5), iA cI Ah), ((b 6), iA cI Ot), ((b 7), iA cI Qm), ((b 8), iA cI Op), ((b 9), iA cI Lm), ((b 10), iA cI Hm), ((b 11), iA cI Mm), ((b 12), iA cI Rw), ((b 13), iA cI St)] sz)) 0 0 (va_A [((b 0), oM b th mo co le), ((b 4), iA cI K), ((b 5), iA cI Ah), ((b 6), iA cI Ot), ((b 7), iA cI Qm), ((b 8), iA cI Op), ((b 9), iA cI Lm), ((b 10), iA cI Hm), ((b 11), iA cI Mm), ((b 12), iA cI Rw), ((b 13), iA cI St)] sz) := by
  refine Met.ofW (cc := cX2_pass) (maxL := 4) (ret := (some .int)) (by decide) rfl ?_
  intro p e s m args below meth c s₁ B hml hv
  obtain ⟨rfl, hsz, hP, hK, hD0, hN⟩ := hv
  have hx := B.exec
  have hb := B.bytes
  have hr := B.returns
  have hlocks := B.notSynchronized
  have hts := atoms_spec (ws := wsX2_pass) B.pre
  have hown : s.vm.findClass RX2 = some m.cls := findClass_of_methodNamed B.named
  subst hsz
  have hD := hD0.self (sz := s.heap.size)
  have hA : ∀ q : Nat, s.heap.size ≤ q → va_A [((b 0), oM b th mo co le), ((b 4), iA cI K), ((b 5), iA cI Ah), ((b 6), iA cI Ot), ((b 7), iA cI Qm), ((b 8), iA cI Op), ((b 9), iA cI Lm), ((b 10), iA cI Hm), ((b 11), iA cI Mm), ((b 12), iA cI Rw), ((b 13), iA cI St)] s.heap.size q := fun q h => Or.inr h
  have hS : va_S (va_A [((b 0), oM b th mo co le), ((b 4), iA cI K), ((b 5), iA cI Ah), ((b 6), iA cI Ot), ((b 7), iA cI Qm), ((b 8), iA cI Op), ((b 9), iA cI Lm), ((b 10), iA cI Hm), ((b 11), iA cI Mm), ((b 12), iA cI Rw), ((b 13), iA cI St)] s.heap.size) s.heap s.heap [] := va_S.rf
  obtain ⟨A, hAe⟩ : ∃ A, A = va_A [((b 0), oM b th mo co le), ((b 4), iA cI K), ((b 5), iA cI Ah), ((b 6), iA cI Ot), ((b 7), iA cI Qm), ((b 8), iA cI Op), ((b 9), iA cI Lm), ((b 10), iA cI Hm), ((b 11), iA cI Mm), ((b 12), iA cI Rw), ((b 13), iA cI St)] s.heap.size := ⟨_, rfl⟩
  rw [← hAe] at hD hA hS
  have FX : CallFix p m c cX2_pass 4 s ([.ref (b 0), .int n9] : List Value).toArray wsX2_pass RX2 := ⟨hx, hb, hml, hown, hts⟩
  have hl := lv_entry ([.ref (b 0), .int n9]) (n := 4) (Nat.le_of_ble_eq_true rfl)
  rw [lg_entry_eq]
  generalize (lg_sl ([.ref (b 0), .int n9]) ++ List.replicate (4 - (lg_sl ([.ref (b 0), .int n9])).length) Slot.unset).toArray = ls at hl ⊢
  have hl : lv_has ls 4 [(0, .ref (b 0)), (1, .int n9)] := hl
  refine wq (fun Q hQ => ?_)
  have hzc : 0 + 0 ≤ (headSpec wsX2_pass rmX2_pass).room.cells := Nat.zero_le _
  have hzs : 0 + 0 ≤ (headSpec wsX2_pass rmX2_pass).room.slots := Nat.zero_le _
  have hf114 := hts (.fieldLink RX2 114 "CanalCityModel" "month" "I") (by decide +kernel)
  have hf117 := hts (.fieldLink RX2 117 "CanalCityModel" "left" "I") (by decide +kernel)
  have hf13 := hts (.fieldLink RX2 13 "CanalCityModel" "kind" "[I") (by decide +kernel)
  have hf44 := hts (.fieldLink RX2 44 "CanalCityModel" "thrown" "I") (by decide +kernel)
  have hf7 := hts (.fieldLink RX2 7 "CanalCityModel" "coins" "I") (by decide +kernel)
  have hinX2 : ∀ w ∈ u_ws RX2 TX2 14, w ∈ wsX2_pass := by decide +kernel
  refine lv_aload_n hx hb dX2_pass_0 rfl (lv_at hl 0 rfl) ?_
  refine lv_iconst (v := 0) hx hb dX2_pass_1 (by decide) ?_
  refine va_put (D := G) (ci := 2) (v := .int 0) (ty := .int) (C := RX2) (T := TX2) (N := 14) hx hb hts hinX2 tyX2 tyX2_ok nmX2 hown hK hP hD hS 0 rfl rfl 0 (by decide) hf44 (fun _ h9 => h9) rfl (by decide +kernel) rfl rfl (Nat.le_of_ble_eq_true rfl) dX2_pass_2 (fun H locs hP hD hS => ?_)
  have hP : va_P G vwCl [((b 0), oM b 0 mo co le), ((b 4), iA cI K), ((b 5), iA cI Ah), ((b 6), iA cI Ot), ((b 7), iA cI Qm), ((b 8), iA cI Op), ((b 9), iA cI Lm), ((b 10), iA cI Hm), ((b 11), iA cI Mm), ((b 12), iA cI Rw), ((b 13), iA cI St)] H := hP
  have hD : va_D A [((b 0), oM b 0 mo co le), ((b 4), iA cI K), ((b 5), iA cI Ah), ((b 6), iA cI Ot), ((b 7), iA cI Qm), ((b 8), iA cI Op), ((b 9), iA cI Lm), ((b 10), iA cI Hm), ((b 11), iA cI Mm), ((b 12), iA cI Rw), ((b 13), iA cI St)] := hD
  refine lv_iload_n hx hb dX2_pass_5 rfl (lv_at hl 1 rfl) ?_
  refine lv_iconst (v := 1) hx hb dX2_pass_6 (by decide) ?_
  refine lv_bipush (v := 60) hx hb dX2_pass_7 (by decide) ?_
  refine cr_i (va_runS (As := [.int n9, .int 1, .int 60]) (rest := []) FX (c_X2_isIn l n9 1 60) (va_cwS 3 hts gX2_pass_X2_isIn rfl rfl rfl (by decide +kernel) ⟨Nat.le_of_ble_eq_true rfl, Nat.le_of_ble_eq_true rfl⟩) puS rfl rfl hl.1 rfl (lv_room (Nat.le_of_ble_eq_true rfl)) dX2_pass_9 ⟨hzc, hzs⟩) hS hP (fun H locs hP hS => ?_)
  rcases hin : inB 1 60 n9 with _ | _
  · skip
    have hcd : (cdPass n9) = 1 := by unfold cdPass; rw [hin]; rfl
    refine tpi (x' := 0) (rfl) ?_
    refine lv_if_ne (tgt := 21) hx hb dX2_pass_12 (by decide) (fun c => absurd (rfl) c) (fun _ => ?_)
    refine lv_aload_n hx hb dX2_pass_15 rfl (lv_at hl 0 rfl) ?_
    refine lv_iconst (v := 1) hx hb dX2_pass_16 (by decide) ?_
    refine cw_i (wr := [((b 4), iA cI K), ((b 5), iA cI Ah), ((b 6), iA cI Ot), ((b 7), iA cI Qm), ((b 8), iA cI Op), ((b 9), iA cI Lm), ((b 10), iA cI Hm), ((b 11), iA cI Mm), ((b 12), iA cI Rw), ((b 13), iA cI St)]) (va_runV (As := [.int 1]) (rest := []) FX (c_X2_no l G cI b 0 mo co le 1 _) (cwV 1 hts gX2_pass_X2_no rfl rfl rfl (by decide +kernel) ⟨Nat.le_of_ble_eq_true rfl, Nat.le_of_ble_eq_true rfl⟩) (wrV hK hP hD hN [0] (by decide) rfl rfl (ci := 2) (q0 := 0) rfl rfl) rfl rfl hl.1 rfl (lv_room (Nat.le_of_ble_eq_true rfl)) dX2_pass_17 ⟨hzc, hzs⟩) hS hP hD hA [0] [1, 2, 3, 4, 5, 6, 7, 8, 9, 10] rfl rfl (by decide) (by decide) (fun r0 u H locs hw hP hD hS => ?_)
    have hP := hP.sub (ws' := [((b 0), oM b 1 mo co le), ((b 4), iA cI K), ((b 5), iA cI Ah), ((b 6), iA cI Ot), ((b 7), iA cI Qm), ((b 8), iA cI Op), ((b 9), iA cI Lm), ((b 10), iA cI Hm), ((b 11), iA cI Mm), ((b 12), iA cI Rw), ((b 13), iA cI St)]) [10, 0, 1, 2, 3, 4, 5, 6, 7, 8, 9] rfl
    have hD := hD.sub (ws' := [((b 0), oM b 1 mo co le), ((b 4), iA cI K), ((b 5), iA cI Ah), ((b 6), iA cI Ot), ((b 7), iA cI Qm), ((b 8), iA cI Op), ((b 9), iA cI Lm), ((b 10), iA cI Hm), ((b 11), iA cI Mm), ((b 12), iA cI Rw), ((b 13), iA cI St)]) [10, 0, 1, 2, 3, 4, 5, 6, 7, 8, 9] (by decide) rfl
    refine tpi (x' := 0) (hw) ?_
    subst hQ
    subst hAe
    rw [hcd, nmM_n (by decide), nmC_n (by decide), nmL_n (by decide), nm_n (by decide)]
    exact wr_i (K, Ot, Qm, Op, Lm, Hm, Mm, Rw, St) (⟨fun e => absurd e (by decide), hk⟩) hx hb hr hP hD hS hlocks dX2_pass_20
  · skip
    have hcd : (cdPass n9) = 0 := by unfold cdPass; rw [hin]; rfl
    have hma := mon_at hin
    obtain ⟨mn, hmn⟩ : ∃ z, z = n9.toNatClampNeg := ⟨_, rfl⟩
    rw [← hmn] at hma
    refine tpi (x' := 1) (rfl) ?_
    refine lv_if_ne (tgt := 21) hx hb dX2_pass_12 (by decide) (fun _ => ?_) (fun c => absurd c (by decide))
    refine lv_aload_n hx hb dX2_pass_21 rfl (lv_at hl 0 rfl) ?_
    refine va_get (D := G) (ci := 2) (v := .int co) (C := RX2) (T := TX2) (N := 14) hx hb hts hinX2 hown hK hP 0 rfl rfl 2 (by decide) hf7 (fun _ h9 => h9) rfl dX2_pass_22 ?_
    refine lv_istore_n (lv' := [(2, .int co), (0, .ref (b 0)), (1, .int n9)]) hx hb dX2_pass_25 rfl hl (by decide) rfl (fun ls hl => ?_)
    refine lv_iconst (v := 0) hx hb dX2_pass_26 (by decide) ?_
    refine tpi (x' := nI 0) (rfl) ?_
    refine lv_istore_n (lv' := [(3, .int (nI 0)), (2, .int co), (0, .ref (b 0)), (1, .int n9)]) hx hb dX2_pass_27 rfl hl (by decide) rfl (fun ls hl => ?_)
    have w0 : oM b 0 mo co le = oM b 0 (mo + nI 0) (co + incS k 0) (le + lftS k 0) := by rw [show mo + nI 0 = mo from Int32.add_zero mo, show co + incS k 0 = co from Int32.add_zero co, show le + lftS k 0 = le from Int32.add_zero le]
    rw [w0] at hP hD
    have lp : ∀ (n : Nat) (i : Nat) (K1 O1 Q1 P1 L1 H1 M1 R1 S1 : Nat → Int32), (hi : i ≤ mn) → (hK1 : eqK K1 (itK k i)) → (mn - i) < n → ∀ (H : Heap) (locs : List Loc) (ls : Array Slot), va_P G vwCl [((b 0), oM b 0 (mo + nI i) (co + incS k i) (le + lftS k i)), ((b 4), iA cI K1), ((b 5), iA cI Ah), ((b 6), iA cI O1), ((b 7), iA cI Q1), ((b 8), iA cI P1), ((b 9), iA cI L1), ((b 10), iA cI H1), ((b 11), iA cI M1), ((b 12), iA cI R1), ((b 13), iA cI S1)] H → va_D A [((b 0), oM b 0 (mo + nI i) (co + incS k i) (le + lftS k i)), ((b 4), iA cI K1), ((b 5), iA cI Ah), ((b 6), iA cI O1), ((b 7), iA cI Q1), ((b 8), iA cI P1), ((b 9), iA cI L1), ((b 10), iA cI H1), ((b 11), iA cI M1), ((b 12), iA cI R1), ((b 13), iA cI S1)] → va_S A s.heap H locs → lv_has ls 4 [(0, .ref (b 0)), (1, .int n9), (2, .int co), (3, .int (nI i))] → W p l e (headSpec wsX2_pass rmX2_pass).room s m ([.ref (b 0), .int n9] : List Value).toArray below meth c H locs 0 0 Q (F0 m 28 ls []) := by
      intro n
      induction n with
      | zero => intro i K1 O1 Q1 P1 L1 H1 M1 R1 S1 hi hK1 hn; exact absurd hn (by omega)
      | succ n ih_lp =>
        intro i K1 O1 Q1 P1 L1 H1 M1 R1 S1 hi hK1 hn H locs ls hP hD hS hl
        refine lv_iload_n hx hb dX2_pass_28 rfl (lv_at hl 3 rfl) ?_
        refine lv_iload_n hx hb dX2_pass_29 rfl (lv_at hl 1 rfl) ?_
        rcases Nat.lt_or_ge i mn with g | g
        · skip
          have c30 : ¬ n9 ≤ nI i := by rw [hma.2]; exact lt_n g (by omega)
          refine lv_icmp_ge (tgt := 101) hx hb dX2_pass_30 (by decide) (fun c => absurd c (c30)) (fun _ => ?_)
          have hkd1 := kd_itK hkd i
          refine lv_aload_n hx hb dX2_pass_33 rfl (lv_at hl 0 rfl) ?_
          refine lv_aload_n hx hb dX2_pass_34 rfl (lv_at hl 0 rfl) ?_
          refine va_get (D := G) (ci := 2) (v := .ref (b 4)) (C := RX2) (T := TX2) (N := 14) hx hb hts hinX2 hown hK hP 0 rfl rfl 4 (by decide) hf13 (fun _ h9 => h9) rfl dX2_pass_35 ?_
          refine cw_i (wr := [((b 5), iA cI Ah), ((b 6), iA cI O1)]) (va_runV (As := [.ref (b 4)]) (rest := []) FX (c_X2_look l G cI b (b 4) 0 (mo + nI i) (co + incS k i) (le + lftS k i) K1 Q1 P1 L1 H1 M1 R1 S1 (itK k i) hK1 hkd1 _) (cwV 1 hts gX2_pass_X2_look rfl rfl rfl (by decide +kernel) ⟨Nat.le_of_ble_eq_true rfl, Nat.le_of_ble_eq_true rfl⟩) (wrV hK hP hD hN [0, 1, 4, 5, 6, 7, 8, 9, 10] (by decide) rfl rfl (ci := 2) (q0 := 0) rfl rfl) rfl rfl hl.1 rfl (lv_room (Nat.le_of_ble_eq_true rfl)) dX2_pass_38 ⟨hzc, hzs⟩) hS hP hD hA [0, 1, 4, 5, 6, 7, 8, 9, 10] [2, 3] rfl rfl (by decide) (by decide) (fun r9 u H locs hw hP hD hS => ?_)
          obtain ⟨Q2, P2, L2, H2, M2, R2, S2⟩ := u
          obtain ⟨h9, hLK⟩ := hw
          have hP := hP.sub (ws' := [((b 0), oM b 0 (mo + nI i) (co + incS k i) (le + lftS k i)), ((b 4), iA cI K1), ((b 5), iA cI Ah), ((b 6), iA cI O1), ((b 7), iA cI Q2), ((b 8), iA cI P2), ((b 9), iA cI L2), ((b 10), iA cI H2), ((b 11), iA cI M2), ((b 12), iA cI R2), ((b 13), iA cI S2)]) [2, 3, 0, 1, 4, 5, 6, 7, 8, 9, 10] rfl
          have hD := hD.sub (ws' := [((b 0), oM b 0 (mo + nI i) (co + incS k i) (le + lftS k i)), ((b 4), iA cI K1), ((b 5), iA cI Ah), ((b 6), iA cI O1), ((b 7), iA cI Q2), ((b 8), iA cI P2), ((b 9), iA cI L2), ((b 10), iA cI H2), ((b 11), iA cI M2), ((b 12), iA cI R2), ((b 13), iA cI S2)]) [2, 3, 0, 1, 4, 5, 6, 7, 8, 9, 10] (by decide) rfl
          refine lv_pop hx hb dX2_pass_41 rfl ?_
          refine lv_aload_n hx hb dX2_pass_42 rfl (lv_at hl 0 rfl) ?_
          refine lv_dup hx hb dX2_pass_43 rfl ?_
          refine va_get (D := G) (ci := 2) (v := .int (co + incS k i)) (C := RX2) (T := TX2) (N := 14) hx hb hts hinX2 hown hK hP 0 rfl rfl 2 (by decide) hf7 (fun _ h9 => h9) rfl dX2_pass_44 ?_
          refine lv_aload_n hx hb dX2_pass_47 rfl (lv_at hl 0 rfl) ?_
          refine lv_aload_n hx hb dX2_pass_48 rfl (lv_at hl 0 rfl) ?_
          refine va_get (D := G) (ci := 2) (v := .ref (b 4)) (C := RX2) (T := TX2) (N := 14) hx hb hts hinX2 hown hK hP 0 rfl rfl 4 (by decide) hf13 (fun _ h9 => h9) rfl dX2_pass_49 ?_
          refine lv_iconst (v := 1) hx hb dX2_pass_52 (by decide) ?_
          refine tpi (x' := b2i true) (rfl) ?_
          refine cr_i (va_runV (As := [.ref (b 4), .int (b2i true)]) (rest := [.int (co + incS k i), .ref (b 0)]) FX (c_X2_sum l G cI b (b 4) 0 (mo + nI i) (co + incS k i) (le + lftS k i) K1 Q2 P2 L2 H2 M2 R2 S2 (itK k i) true hK1 hkd1 hLK) (cwV 2 hts gX2_pass_X2_sum rfl rfl rfl (by decide +kernel) ⟨Nat.le_of_ble_eq_true rfl, Nat.le_of_ble_eq_true rfl⟩) (rdV hK hP hN [0, 1, 4, 5, 6, 7, 8, 9, 10] rfl (ci := 2) (q0 := 0) rfl rfl) rfl rfl hl.1 rfl (lv_room (Nat.le_of_ble_eq_true rfl)) dX2_pass_53 ⟨hzc, hzs⟩) hS hP (fun H locs hP hS => ?_)
          refine tpi (x' := dall (itK k i)) (rfl) ?_
          refine lv_iadd hx hb dX2_pass_56 ?_
          refine tpi (x' := co + incS k (i + 1)) (by rw [Int32.add_assoc]; rfl) ?_
          refine va_put (D := G) (ci := 2) (v := .int (co + incS k (i + 1))) (ty := .int) (C := RX2) (T := TX2) (N := 14) hx hb hts hinX2 tyX2 tyX2_ok nmX2 hown hK hP hD hS 0 rfl rfl 2 (by decide) hf7 (fun _ h9 => h9) rfl (by decide +kernel) rfl rfl (Nat.le_of_ble_eq_true rfl) dX2_pass_57 (fun H locs hP hD hS => ?_)
          have hP : va_P G vwCl [((b 0), oM b 0 (mo + nI i) (co + incS k (i + 1)) (le + lftS k i)), ((b 4), iA cI K1), ((b 5), iA cI Ah), ((b 6), iA cI O1), ((b 7), iA cI Q2), ((b 8), iA cI P2), ((b 9), iA cI L2), ((b 10), iA cI H2), ((b 11), iA cI M2), ((b 12), iA cI R2), ((b 13), iA cI S2)] H := hP
          have hD : va_D A [((b 0), oM b 0 (mo + nI i) (co + incS k (i + 1)) (le + lftS k i)), ((b 4), iA cI K1), ((b 5), iA cI Ah), ((b 6), iA cI O1), ((b 7), iA cI Q2), ((b 8), iA cI P2), ((b 9), iA cI L2), ((b 10), iA cI H2), ((b 11), iA cI M2), ((b 12), iA cI R2), ((b 13), iA cI S2)] := hD
          refine lv_aload_n hx hb dX2_pass_60 rfl (lv_at hl 0 rfl) ?_
          refine lv_dup hx hb dX2_pass_61 rfl ?_
          refine va_get (D := G) (ci := 2) (v := .int (le + lftS k i)) (C := RX2) (T := TX2) (N := 14) hx hb hts hinX2 hown hK hP 0 rfl rfl 3 (by decide) hf117 (fun _ h9 => h9) rfl dX2_pass_62 ?_
          refine lv_aload_n hx hb dX2_pass_65 rfl (lv_at hl 0 rfl) ?_
          refine lv_aload_n hx hb dX2_pass_66 rfl (lv_at hl 0 rfl) ?_
          refine va_get (D := G) (ci := 2) (v := .ref (b 4)) (C := RX2) (T := TX2) (N := 14) hx hb hts hinX2 hown hK hP 0 rfl rfl 4 (by decide) hf13 (fun _ h9 => h9) rfl dX2_pass_67 ?_
          refine cw_i (wr := [((b 5), iA cI Ah)]) (va_runV (As := [.ref (b 4)]) (rest := [.int (le + lftS k i), .ref (b 0)]) FX (c_X2_leave l G cI b (b 4) 0 (mo + nI i) (co + incS k (i + 1)) (le + lftS k i) K1 O1 Q2 P2 L2 H2 M2 R2 S2 (itK k i) hK1 hkd1 hLK _) (cwV 1 hts gX2_pass_X2_leave rfl rfl rfl (by decide +kernel) ⟨Nat.le_of_ble_eq_true rfl, Nat.le_of_ble_eq_true rfl⟩) (wrV hK hP hD hN [0, 1, 3, 4, 5, 6, 7, 8, 9, 10] (by decide) rfl rfl (ci := 2) (q0 := 0) rfl rfl) rfl rfl hl.1 rfl (lv_room (Nat.le_of_ble_eq_true rfl)) dX2_pass_70 ⟨hzc, hzs⟩) hS hP hD hA [0, 1, 3, 4, 5, 6, 7, 8, 9, 10] [2] rfl rfl (by decide) (by decide) (fun r8 u H locs hw hP hD hS => ?_)
          obtain ⟨O2, hu9⟩ : ∃ z, z = u := ⟨_, rfl⟩
          subst hu9
          obtain ⟨hr8, hO2⟩ := hw
          have hP := hP.sub (ws' := [((b 0), oM b 0 (mo + nI i) (co + incS k (i + 1)) (le + lftS k i)), ((b 4), iA cI K1), ((b 5), iA cI Ah), ((b 6), iA cI O2), ((b 7), iA cI Q2), ((b 8), iA cI P2), ((b 9), iA cI L2), ((b 10), iA cI H2), ((b 11), iA cI M2), ((b 12), iA cI R2), ((b 13), iA cI S2)]) [1, 2, 0, 3, 4, 5, 6, 7, 8, 9, 10] rfl
          have hD := hD.sub (ws' := [((b 0), oM b 0 (mo + nI i) (co + incS k (i + 1)) (le + lftS k i)), ((b 4), iA cI K1), ((b 5), iA cI Ah), ((b 6), iA cI O2), ((b 7), iA cI Q2), ((b 8), iA cI P2), ((b 9), iA cI L2), ((b 10), iA cI H2), ((b 11), iA cI M2), ((b 12), iA cI R2), ((b 13), iA cI S2)]) [1, 2, 0, 3, 4, 5, 6, 7, 8, 9, 10] (by decide) rfl
          refine tpi (x' := lvN (itK k i)) (hr8) ?_
          refine lv_iadd hx hb dX2_pass_73 ?_
          refine tpi (x' := le + lftS k (i + 1)) (by rw [Int32.add_assoc]; rfl) ?_
          refine va_put (D := G) (ci := 2) (v := .int (le + lftS k (i + 1))) (ty := .int) (C := RX2) (T := TX2) (N := 14) hx hb hts hinX2 tyX2 tyX2_ok nmX2 hown hK hP hD hS 0 rfl rfl 3 (by decide) hf117 (fun _ h9 => h9) rfl (by decide +kernel) rfl rfl (Nat.le_of_ble_eq_true rfl) dX2_pass_74 (fun H locs hP hD hS => ?_)
          have hP : va_P G vwCl [((b 0), oM b 0 (mo + nI i) (co + incS k (i + 1)) (le + lftS k (i + 1))), ((b 4), iA cI K1), ((b 5), iA cI Ah), ((b 6), iA cI O2), ((b 7), iA cI Q2), ((b 8), iA cI P2), ((b 9), iA cI L2), ((b 10), iA cI H2), ((b 11), iA cI M2), ((b 12), iA cI R2), ((b 13), iA cI S2)] H := hP
          have hD : va_D A [((b 0), oM b 0 (mo + nI i) (co + incS k (i + 1)) (le + lftS k (i + 1))), ((b 4), iA cI K1), ((b 5), iA cI Ah), ((b 6), iA cI O2), ((b 7), iA cI Q2), ((b 8), iA cI P2), ((b 9), iA cI L2), ((b 10), iA cI H2), ((b 11), iA cI M2), ((b 12), iA cI R2), ((b 13), iA cI S2)] := hD
          refine lv_aload_n hx hb dX2_pass_77 rfl (lv_at hl 0 rfl) ?_
          refine lv_aload_n hx hb dX2_pass_78 rfl (lv_at hl 0 rfl) ?_
          refine va_get (D := G) (ci := 2) (v := .ref (b 4)) (C := RX2) (T := TX2) (N := 14) hx hb hts hinX2 hown hK hP 0 rfl rfl 4 (by decide) hf13 (fun _ h9 => h9) rfl dX2_pass_79 ?_
          refine cw_v (wr := [((b 5), iA cI Ah), ((b 7), iA cI Q2), ((b 8), iA cI P2), ((b 9), iA cI L2), ((b 10), iA cI H2), ((b 11), iA cI M2), ((b 12), iA cI R2), ((b 13), iA cI S2)]) (va_runV (As := [.ref (b 4)]) (rest := []) FX (c_X2_sink l G cI b (b 4) 0 (mo + nI i) (co + incS k (i + 1)) (le + lftS k (i + 1)) K1 O2 (lv1 (itK k i)) hO2 _) (cwV 1 hts gX2_pass_X2_sink rfl rfl rfl (by decide +kernel) ⟨Nat.le_of_ble_eq_true rfl, Nat.le_of_ble_eq_true rfl⟩) (wrV hK hP hD hN [0, 1, 3] (by decide) rfl rfl (ci := 2) (q0 := 0) rfl rfl) rfl rfl hl.1 rfl (lv_room (Nat.le_of_ble_eq_true rfl)) dX2_pass_82 ⟨hzc, hzs⟩) hS hP hD hA [0, 1, 3] [2, 4, 5, 6, 7, 8, 9, 10] rfl rfl (by decide) (by decide) (fun u H locs hw hP hD hS => ?_)
          obtain ⟨K3, hu9⟩ : ∃ z, z = u := ⟨_, rfl⟩
          subst hu9
          have hP := hP.sub (ws' := [((b 0), oM b 0 (mo + nI i) (co + incS k (i + 1)) (le + lftS k (i + 1))), ((b 4), iA cI K3), ((b 5), iA cI Ah), ((b 6), iA cI O2), ((b 7), iA cI Q2), ((b 8), iA cI P2), ((b 9), iA cI L2), ((b 10), iA cI H2), ((b 11), iA cI M2), ((b 12), iA cI R2), ((b 13), iA cI S2)]) [8, 9, 0, 10, 1, 2, 3, 4, 5, 6, 7] rfl
          have hD := hD.sub (ws' := [((b 0), oM b 0 (mo + nI i) (co + incS k (i + 1)) (le + lftS k (i + 1))), ((b 4), iA cI K3), ((b 5), iA cI Ah), ((b 6), iA cI O2), ((b 7), iA cI Q2), ((b 8), iA cI P2), ((b 9), iA cI L2), ((b 10), iA cI H2), ((b 11), iA cI M2), ((b 12), iA cI R2), ((b 13), iA cI S2)]) [8, 9, 0, 10, 1, 2, 3, 4, 5, 6, 7] (by decide) rfl
          have hK3 : eqK K3 (itK k (i + 1)) := hw
          refine lv_aload_n hx hb dX2_pass_85 rfl (lv_at hl 0 rfl) ?_
          refine lv_dup hx hb dX2_pass_86 rfl ?_
          refine va_get (D := G) (ci := 2) (v := .int (mo + nI i)) (C := RX2) (T := TX2) (N := 14) hx hb hts hinX2 hown hK hP 0 rfl rfl 1 (by decide) hf114 (fun _ h9 => h9) rfl dX2_pass_87 ?_
          refine lv_iconst (v := 1) hx hb dX2_pass_90 (by decide) ?_
          refine lv_iadd hx hb dX2_pass_91 ?_
          refine tpi (x' := mo + nI (i + 1)) (by rw [Int32.add_assoc, nI_1]) ?_
          refine va_put (D := G) (ci := 2) (v := .int (mo + nI (i + 1))) (ty := .int) (C := RX2) (T := TX2) (N := 14) hx hb hts hinX2 tyX2 tyX2_ok nmX2 hown hK hP hD hS 0 rfl rfl 1 (by decide) hf114 (fun _ h9 => h9) rfl (by decide +kernel) rfl rfl (Nat.le_of_ble_eq_true rfl) dX2_pass_92 (fun H locs hP hD hS => ?_)
          have hP : va_P G vwCl [((b 0), oM b 0 (mo + nI (i + 1)) (co + incS k (i + 1)) (le + lftS k (i + 1))), ((b 4), iA cI K3), ((b 5), iA cI Ah), ((b 6), iA cI O2), ((b 7), iA cI Q2), ((b 8), iA cI P2), ((b 9), iA cI L2), ((b 10), iA cI H2), ((b 11), iA cI M2), ((b 12), iA cI R2), ((b 13), iA cI S2)] H := hP
          have hD : va_D A [((b 0), oM b 0 (mo + nI (i + 1)) (co + incS k (i + 1)) (le + lftS k (i + 1))), ((b 4), iA cI K3), ((b 5), iA cI Ah), ((b 6), iA cI O2), ((b 7), iA cI Q2), ((b 8), iA cI P2), ((b 9), iA cI L2), ((b 10), iA cI H2), ((b 11), iA cI M2), ((b 12), iA cI R2), ((b 13), iA cI S2)] := hD
          refine lv_iinc (v := nI (i + 1)) (lv' := [(3, .int (nI (i + 1))), (0, .ref (b 0)), (1, .int n9), (2, .int co)]) hx hb dX2_pass_95 hl (k := 3) rfl (nI_inc i) (by decide) rfl (fun ls hl => ?_)
          refine lv_goto (tgt := 28) hx hb dX2_pass_98 (by decide) ?_
          exact ih_lp (i + 1) K3 O2 Q2 P2 L2 H2 M2 R2 S2 (by omega) (hK3) (by omega) _ _ _ hP hD hS (lv_sub hl [1, 2, 3, 0] (rfl))
        · skip
          have g8 : i = mn := by omega
          have c30 : n9 ≤ nI i := by rw [hma.2]; exact le_n g (by omega)
          refine lv_icmp_ge (tgt := 101) hx hb dX2_pass_30 (by decide) (fun _ => ?_) (fun c => absurd (c30) c)
          refine lv_aload_n hx hb dX2_pass_101 rfl (lv_at hl 0 rfl) ?_
          refine va_get (D := G) (ci := 2) (v := .int (co + incS k i)) (C := RX2) (T := TX2) (N := 14) hx hb hts hinX2 hown hK hP 0 rfl rfl 2 (by decide) hf7 (fun _ h9 => h9) rfl dX2_pass_102 ?_
          refine lv_iload_n hx hb dX2_pass_105 rfl (lv_at hl 2 rfl) ?_
          refine lv_isub hx hb dX2_pass_106 ?_
          refine tpi (x' := incS k i) (i32_back co (incS k i)) ?_
          subst hQ
          subst hAe
          rw [hcd, nmM_0, nmC_0, nmL_0, nm_0, ← hmn, ← g8]
          exact wr_i (K1, O1, Q1, P1, L1, H1, M1, R1, S1) (⟨fun _ => rfl, hK1⟩) hx hb hr hP hD hS hlocks dX2_pass_107
    exact lp (_ + 1) 0 K Ot Qm Op Lm Hm Mm Rw St (by omega) (hk) (Nat.lt_succ_self _) _ _ _ hP hD hS (lv_sub hl [2, 3, 1, 0] rfl)

def rmX2_foresee : Room := { frames := 8, cells := 0, slots := 0, locals := 183 }
set_option maxHeartbeats 4000000 in
set_option maxRecDepth 100000 in
theorem c_X2_foresee (l : Launch) (G : va_G) (cI : ClassId) (b : Nat → Nat) (th mo co le : Int32) (K Ah Ot Qm Op Lm Hm Mm Rw St k : Nat → Int32) (n9 w : Int32) (hk : eqK K k) (hkd : ∀ x, x < 64 → kd (k x)) (sz : Nat) : Met l yX2_foresee wsX2_foresee rmX2_foresee (va_Pc [.ref (b 0), .int n9, .int w] (WrP G cI [((b 0), oM b th mo co le), ((b 4), iA cI K), ((b 5), iA cI Ah), ((b 6), iA cI Ot), ((b 7), iA cI Qm), ((b 8), iA cI Op), ((b 9), iA cI Lm), ((b 10), iA cI Hm), ((b 11), iA cI Mm), ((b 12), iA cI Rw), ((b 13), iA cI St)] sz)) (va_Qi (fun (r : Int32) (u : (Nat → Int32) × (Nat → Int32) × (Nat → Int32) × (Nat → Int32) × (Nat → Int32) × (Nat → Int32) × (Nat → Int32) × (Nat → Int32) × (Nat → Int32)) => (cdFore n9 w) = 0 → r = tot (itK k n9.toNatClampNeg) (mo + nI n9.toNatClampNeg) (co + incS k n9.toNatClampNeg) (le + lftS k n9.toNatClampNeg) w) (WrB G [((b 0), oM b th mo co le), ((b 4), iA cI K), ((b 5), iA cI Ah), ((b 6), iA cI Ot), ((b 7), iA cI Qm), ((b 8), iA cI Op), ((b 9), iA cI Lm), ((b 10), iA cI Hm), ((b 11), iA cI Mm), ((b 12), iA cI Rw), ((b 13), iA cI St)] sz (fun u => [(b 0, oM b (cdFore n9 w) mo co le), (b 4, iA cI K), (b 5, iA cI (u.1)), (b 6, iA cI (u.2.1)), (b 7, iA cI (u.2.2.1)), (b 8, iA cI (u.2.2.2.1)), (b 9, iA cI (u.2.2.2.2.1)), (b 10, iA cI (u.2.2.2.2.2.1)), (b 11, iA cI (u.2.2.2.2.2.2.1)), (b 12, iA cI (u.2.2.2.2.2.2.2.1)), (b 13, iA cI (u.2.2.2.2.2.2.2.2))])) (va_A [((b 0), oM b th mo co le), ((b 4), iA cI K), ((b 5), iA cI Ah), ((b 6), iA cI Ot), ((b 7), iA cI Qm), ((b 8), iA cI Op), ((b 9), iA cI Lm), ((b 10), iA cI Hm), ((b 11), iA cI Mm), ((b 12), iA cI Rw), ((b 13), iA cI St)] sz)) 0 0 (va_A [((b 0), oM b th mo co le), ((b 4), iA cI K), ((b 5), iA cI Ah), ((b 6), iA cI Ot), ((b 7), iA cI Qm), ((b 8), iA cI Op), ((b 9), iA cI Lm), ((b 10), iA cI Hm), ((b 11), iA cI Mm), ((b 12), iA cI Rw), ((b 13), iA cI St)] sz) := by
  refine Met.ofW (cc := cX2_foresee) (maxL := 6) (ret := (some .int)) (by decide) rfl ?_
  intro p e s m args below meth c s₁ B hml hv
  obtain ⟨rfl, hsz, hP, hK, hD0, hN⟩ := hv
  have hx := B.exec
  have hb := B.bytes
  have hr := B.returns
  have hlocks := B.notSynchronized
  have hts := atoms_spec (ws := wsX2_foresee) B.pre
  have hown : s.vm.findClass RX2 = some m.cls := findClass_of_methodNamed B.named
  subst hsz
  have hD := hD0.self (sz := s.heap.size)
  have hA : ∀ q : Nat, s.heap.size ≤ q → va_A [((b 0), oM b th mo co le), ((b 4), iA cI K), ((b 5), iA cI Ah), ((b 6), iA cI Ot), ((b 7), iA cI Qm), ((b 8), iA cI Op), ((b 9), iA cI Lm), ((b 10), iA cI Hm), ((b 11), iA cI Mm), ((b 12), iA cI Rw), ((b 13), iA cI St)] s.heap.size q := fun q h => Or.inr h
  have hS : va_S (va_A [((b 0), oM b th mo co le), ((b 4), iA cI K), ((b 5), iA cI Ah), ((b 6), iA cI Ot), ((b 7), iA cI Qm), ((b 8), iA cI Op), ((b 9), iA cI Lm), ((b 10), iA cI Hm), ((b 11), iA cI Mm), ((b 12), iA cI Rw), ((b 13), iA cI St)] s.heap.size) s.heap s.heap [] := va_S.rf
  obtain ⟨A, hAe⟩ : ∃ A, A = va_A [((b 0), oM b th mo co le), ((b 4), iA cI K), ((b 5), iA cI Ah), ((b 6), iA cI Ot), ((b 7), iA cI Qm), ((b 8), iA cI Op), ((b 9), iA cI Lm), ((b 10), iA cI Hm), ((b 11), iA cI Mm), ((b 12), iA cI Rw), ((b 13), iA cI St)] s.heap.size := ⟨_, rfl⟩
  rw [← hAe] at hD hA hS
  have FX : CallFix p m c cX2_foresee 6 s ([.ref (b 0), .int n9, .int w] : List Value).toArray wsX2_foresee RX2 := ⟨hx, hb, hml, hown, hts⟩
  have hl := lv_entry ([.ref (b 0), .int n9, .int w]) (n := 6) (Nat.le_of_ble_eq_true rfl)
  rw [lg_entry_eq]
  generalize (lg_sl ([.ref (b 0), .int n9, .int w]) ++ List.replicate (6 - (lg_sl ([.ref (b 0), .int n9, .int w])).length) Slot.unset).toArray = ls at hl ⊢
  have hl : lv_has ls 6 [(0, .ref (b 0)), (1, .int n9), (2, .int w)] := hl
  refine wq (fun Q hQ => ?_)
  have hzc : 0 + 0 ≤ (headSpec wsX2_foresee rmX2_foresee).room.cells := Nat.zero_le _
  have hzs : 0 + 0 ≤ (headSpec wsX2_foresee rmX2_foresee).room.slots := Nat.zero_le _
  have hf114 := hts (.fieldLink RX2 114 "CanalCityModel" "month" "I") (by decide +kernel)
  have hf117 := hts (.fieldLink RX2 117 "CanalCityModel" "left" "I") (by decide +kernel)
  have hf13 := hts (.fieldLink RX2 13 "CanalCityModel" "kind" "[I") (by decide +kernel)
  have hf17 := hts (.fieldLink RX2 17 "CanalCityModel" "ahead" "[I") (by decide +kernel)
  have hf44 := hts (.fieldLink RX2 44 "CanalCityModel" "thrown" "I") (by decide +kernel)
  have hf7 := hts (.fieldLink RX2 7 "CanalCityModel" "coins" "I") (by decide +kernel)
  have hinX2 : ∀ w ∈ u_ws RX2 TX2 14, w ∈ wsX2_foresee := by decide +kernel
  refine lv_aload_n hx hb dX2_foresee_0 rfl (lv_at hl 0 rfl) ?_
  refine lv_iconst (v := 0) hx hb dX2_foresee_1 (by decide) ?_
  refine va_put (D := G) (ci := 2) (v := .int 0) (ty := .int) (C := RX2) (T := TX2) (N := 14) hx hb hts hinX2 tyX2 tyX2_ok nmX2 hown hK hP hD hS 0 rfl rfl 0 (by decide) hf44 (fun _ h9 => h9) rfl (by decide +kernel) rfl rfl (Nat.le_of_ble_eq_true rfl) dX2_foresee_2 (fun H locs hP hD hS => ?_)
  have hP : va_P G vwCl [((b 0), oM b 0 mo co le), ((b 4), iA cI K), ((b 5), iA cI Ah), ((b 6), iA cI Ot), ((b 7), iA cI Qm), ((b 8), iA cI Op), ((b 9), iA cI Lm), ((b 10), iA cI Hm), ((b 11), iA cI Mm), ((b 12), iA cI Rw), ((b 13), iA cI St)] H := hP
  have hD : va_D A [((b 0), oM b 0 mo co le), ((b 4), iA cI K), ((b 5), iA cI Ah), ((b 6), iA cI Ot), ((b 7), iA cI Qm), ((b 8), iA cI Op), ((b 9), iA cI Lm), ((b 10), iA cI Hm), ((b 11), iA cI Mm), ((b 12), iA cI Rw), ((b 13), iA cI St)] := hD
  refine lv_iload_n hx hb dX2_foresee_5 rfl (lv_at hl 1 rfl) ?_
  refine lv_iconst (v := 1) hx hb dX2_foresee_6 (by decide) ?_
  refine lv_bipush (v := 60) hx hb dX2_foresee_7 (by decide) ?_
  refine cr_i (va_runS (As := [.int n9, .int 1, .int 60]) (rest := []) FX (c_X2_isIn l n9 1 60) (va_cwS 3 hts gX2_foresee_X2_isIn rfl rfl rfl (by decide +kernel) ⟨Nat.le_of_ble_eq_true rfl, Nat.le_of_ble_eq_true rfl⟩) puS rfl rfl hl.1 rfl (lv_room (Nat.le_of_ble_eq_true rfl)) dX2_foresee_9 ⟨hzc, hzs⟩) hS hP (fun H locs hP hS => ?_)
  rcases hin : inB 1 60 n9 with _ | _
  · skip
    have hcd : (cdFore n9 w) = 1 := by unfold cdFore; rw [hin]; rfl
    refine tpi (x' := 0) (rfl) ?_
    refine lv_if_ne (tgt := 21) hx hb dX2_foresee_12 (by decide) (fun c => absurd (rfl) c) (fun _ => ?_)
    refine lv_aload_n hx hb dX2_foresee_15 rfl (lv_at hl 0 rfl) ?_
    refine lv_iconst (v := 1) hx hb dX2_foresee_16 (by decide) ?_
    refine cw_i (wr := [((b 4), iA cI K), ((b 5), iA cI Ah), ((b 6), iA cI Ot), ((b 7), iA cI Qm), ((b 8), iA cI Op), ((b 9), iA cI Lm), ((b 10), iA cI Hm), ((b 11), iA cI Mm), ((b 12), iA cI Rw), ((b 13), iA cI St)]) (va_runV (As := [.int 1]) (rest := []) FX (c_X2_no l G cI b 0 mo co le 1 _) (cwV 1 hts gX2_foresee_X2_no rfl rfl rfl (by decide +kernel) ⟨Nat.le_of_ble_eq_true rfl, Nat.le_of_ble_eq_true rfl⟩) (wrV hK hP hD hN [0] (by decide) rfl rfl (ci := 2) (q0 := 0) rfl rfl) rfl rfl hl.1 rfl (lv_room (Nat.le_of_ble_eq_true rfl)) dX2_foresee_17 ⟨hzc, hzs⟩) hS hP hD hA [0] [1, 2, 3, 4, 5, 6, 7, 8, 9, 10] rfl rfl (by decide) (by decide) (fun r0 u H locs hw hP hD hS => ?_)
    have hP := hP.sub (ws' := [((b 0), oM b 1 mo co le), ((b 4), iA cI K), ((b 5), iA cI Ah), ((b 6), iA cI Ot), ((b 7), iA cI Qm), ((b 8), iA cI Op), ((b 9), iA cI Lm), ((b 10), iA cI Hm), ((b 11), iA cI Mm), ((b 12), iA cI Rw), ((b 13), iA cI St)]) [10, 0, 1, 2, 3, 4, 5, 6, 7, 8, 9] rfl
    have hD := hD.sub (ws' := [((b 0), oM b 1 mo co le), ((b 4), iA cI K), ((b 5), iA cI Ah), ((b 6), iA cI Ot), ((b 7), iA cI Qm), ((b 8), iA cI Op), ((b 9), iA cI Lm), ((b 10), iA cI Hm), ((b 11), iA cI Mm), ((b 12), iA cI Rw), ((b 13), iA cI St)]) [10, 0, 1, 2, 3, 4, 5, 6, 7, 8, 9] (by decide) rfl
    refine tpi (x' := 0) (hw) ?_
    subst hQ
    subst hAe
    rw [hcd]
    exact wr_i (Ah, Ot, Qm, Op, Lm, Hm, Mm, Rw, St) (fun e => absurd e (by decide)) hx hb hr hP hD hS hlocks dX2_foresee_20
  · skip
    refine tpi (x' := 1) (rfl) ?_
    refine lv_if_ne (tgt := 21) hx hb dX2_foresee_12 (by decide) (fun _ => ?_) (fun c => absurd c (by decide))
    refine lv_iload_n hx hb dX2_foresee_21 rfl (lv_at hl 2 rfl) ?_
    refine lv_iconst (v := 1) hx hb dX2_foresee_22 (by decide) ?_
    refine lv_bipush (v := 12) hx hb dX2_foresee_23 (by decide) ?_
    refine cr_i (va_runS (As := [.int w, .int 1, .int 12]) (rest := []) FX (c_X2_isIn l w 1 12) (va_cwS 3 hts gX2_foresee_X2_isIn rfl rfl rfl (by decide +kernel) ⟨Nat.le_of_ble_eq_true rfl, Nat.le_of_ble_eq_true rfl⟩) puS rfl rfl hl.1 rfl (lv_room (Nat.le_of_ble_eq_true rfl)) dX2_foresee_25 ⟨hzc, hzs⟩) hS hP (fun H locs hP hS => ?_)
    rcases hin2 : inB 1 12 w with _ | _
    · skip
      have hcd : (cdFore n9 w) = 2 := by unfold cdFore; rw [hin, hin2]; rfl
      refine tpi (x' := 0) (rfl) ?_
      refine lv_if_ne (tgt := 37) hx hb dX2_foresee_28 (by decide) (fun c => absurd (rfl) c) (fun _ => ?_)
      refine lv_aload_n hx hb dX2_foresee_31 rfl (lv_at hl 0 rfl) ?_
      refine lv_iconst (v := 2) hx hb dX2_foresee_32 (by decide) ?_
      refine cw_i (wr := [((b 4), iA cI K), ((b 5), iA cI Ah), ((b 6), iA cI Ot), ((b 7), iA cI Qm), ((b 8), iA cI Op), ((b 9), iA cI Lm), ((b 10), iA cI Hm), ((b 11), iA cI Mm), ((b 12), iA cI Rw), ((b 13), iA cI St)]) (va_runV (As := [.int 2]) (rest := []) FX (c_X2_no l G cI b 0 mo co le 2 _) (cwV 1 hts gX2_foresee_X2_no rfl rfl rfl (by decide +kernel) ⟨Nat.le_of_ble_eq_true rfl, Nat.le_of_ble_eq_true rfl⟩) (wrV hK hP hD hN [0] (by decide) rfl rfl (ci := 2) (q0 := 0) rfl rfl) rfl rfl hl.1 rfl (lv_room (Nat.le_of_ble_eq_true rfl)) dX2_foresee_33 ⟨hzc, hzs⟩) hS hP hD hA [0] [1, 2, 3, 4, 5, 6, 7, 8, 9, 10] rfl rfl (by decide) (by decide) (fun r0 u H locs hw hP hD hS => ?_)
      have hP := hP.sub (ws' := [((b 0), oM b 2 mo co le), ((b 4), iA cI K), ((b 5), iA cI Ah), ((b 6), iA cI Ot), ((b 7), iA cI Qm), ((b 8), iA cI Op), ((b 9), iA cI Lm), ((b 10), iA cI Hm), ((b 11), iA cI Mm), ((b 12), iA cI Rw), ((b 13), iA cI St)]) [10, 0, 1, 2, 3, 4, 5, 6, 7, 8, 9] rfl
      have hD := hD.sub (ws' := [((b 0), oM b 2 mo co le), ((b 4), iA cI K), ((b 5), iA cI Ah), ((b 6), iA cI Ot), ((b 7), iA cI Qm), ((b 8), iA cI Op), ((b 9), iA cI Lm), ((b 10), iA cI Hm), ((b 11), iA cI Mm), ((b 12), iA cI Rw), ((b 13), iA cI St)]) [10, 0, 1, 2, 3, 4, 5, 6, 7, 8, 9] (by decide) rfl
      refine tpi (x' := 0) (hw) ?_
      subst hQ
      subst hAe
      rw [hcd]
      exact wr_i (Ah, Ot, Qm, Op, Lm, Hm, Mm, Rw, St) (fun e => absurd e (by decide)) hx hb hr hP hD hS hlocks dX2_foresee_36
    · skip
      have hcd : (cdFore n9 w) = 0 := by unfold cdFore; rw [hin, hin2]; rfl
      have hma := mon_at hin
      obtain ⟨mn, hmn⟩ : ∃ z, z = n9.toNatClampNeg := ⟨_, rfl⟩
      rw [← hmn] at hma
      refine tpi (x' := 1) (rfl) ?_
      refine lv_if_ne (tgt := 37) hx hb dX2_foresee_28 (by decide) (fun _ => ?_) (fun c => absurd c (by decide))
      refine lv_aload_n hx hb dX2_foresee_37 rfl (lv_at hl 0 rfl) ?_
      refine va_get (D := G) (ci := 2) (v := .ref (b 4)) (C := RX2) (T := TX2) (N := 14) hx hb hts hinX2 hown hK hP 0 rfl rfl 4 (by decide) hf13 (fun _ h9 => h9) rfl dX2_foresee_38 ?_
      refine lv_iconst (v := 0) hx hb dX2_foresee_41 (by decide) ?_
      refine lv_aload_n hx hb dX2_foresee_42 rfl (lv_at hl 0 rfl) ?_
      refine va_get (D := G) (ci := 2) (v := .ref (b 5)) (C := RX2) (T := TX2) (N := 14) hx hb hts hinX2 hown hK hP 0 rfl rfl 5 (by decide) hf17 (fun _ h9 => h9) rfl dX2_foresee_43 ?_
      refine lv_iconst (v := 0) hx hb dX2_foresee_46 (by decide) ?_
      refine lv_bipush (v := 64) hx hb dX2_foresee_47 (by decide) ?_
      refine va_copyi hx hb (hml.trans hl.1.symm) hown (hts (.methodLink RX2 133 arraycopyName) (by decide +kernel)) (hts (.native arraycopyName) (by decide +kernel)) (hts (.static arraycopyName) (by decide +kernel)) (hts (.initialized "java/lang/System") (by decide +kernel)) hK hP hD hS 1 2 0 0 rfl rfl rfl rfl rfl (by decide) (by decide) (by decide) (by decide) (by decide) (fun _ _ => rfl) (Nat.le_of_ble_eq_true rfl) (Nat.le_of_ble_eq_true rfl) dX2_foresee_49 (fun H locs hP hD hS => ?_)
      have hP : va_P G vwCl [((b 0), oM b 0 mo co le), ((b 4), iA cI K), ((b 5), iA cI (va_cpy K Ah (0 : Int32).toNatClampNeg (0 : Int32).toNatClampNeg (64 : Int32).toNatClampNeg)), ((b 6), iA cI Ot), ((b 7), iA cI Qm), ((b 8), iA cI Op), ((b 9), iA cI Lm), ((b 10), iA cI Hm), ((b 11), iA cI Mm), ((b 12), iA cI Rw), ((b 13), iA cI St)] H := hP
      have hD : va_D A [((b 0), oM b 0 mo co le), ((b 4), iA cI K), ((b 5), iA cI (va_cpy K Ah (0 : Int32).toNatClampNeg (0 : Int32).toNatClampNeg (64 : Int32).toNatClampNeg)), ((b 6), iA cI Ot), ((b 7), iA cI Qm), ((b 8), iA cI Op), ((b 9), iA cI Lm), ((b 10), iA cI Hm), ((b 11), iA cI Mm), ((b 12), iA cI Rw), ((b 13), iA cI St)] := hD
      obtain ⟨A0, hA0⟩ : ∃ z, z = va_cpy K Ah (0 : Int32).toNatClampNeg (0 : Int32).toNatClampNeg (64 : Int32).toNatClampNeg := ⟨_, rfl⟩
      have hA0k : eqK A0 k := by rw [hA0]; exact eqK_trans (cpy_all K Ah) hk
      rw [← hA0] at hP hD
      have hP : va_P G vwCl [((b 0), oM b 0 mo co le), ((b 4), iA cI K), ((b 5), iA cI A0), ((b 6), iA cI Ot), ((b 7), iA cI Qm), ((b 8), iA cI Op), ((b 9), iA cI Lm), ((b 10), iA cI Hm), ((b 11), iA cI Mm), ((b 12), iA cI Rw), ((b 13), iA cI St)] H := hP
      have hD : va_D A [((b 0), oM b 0 mo co le), ((b 4), iA cI K), ((b 5), iA cI A0), ((b 6), iA cI Ot), ((b 7), iA cI Qm), ((b 8), iA cI Op), ((b 9), iA cI Lm), ((b 10), iA cI Hm), ((b 11), iA cI Mm), ((b 12), iA cI Rw), ((b 13), iA cI St)] := hD
      refine lv_aload_n hx hb dX2_foresee_52 rfl (lv_at hl 0 rfl) ?_
      refine va_get (D := G) (ci := 2) (v := .int co) (C := RX2) (T := TX2) (N := 14) hx hb hts hinX2 hown hK hP 0 rfl rfl 2 (by decide) hf7 (fun _ h9 => h9) rfl dX2_foresee_53 ?_
      refine tpi (x' := co + incS k 0) ((Int32.add_zero co).symm) ?_
      refine lv_istore_n (lv' := [(3, .int (co + incS k 0)), (0, .ref (b 0)), (1, .int n9), (2, .int w)]) hx hb dX2_foresee_56 rfl hl (by decide) rfl (fun ls hl => ?_)
      refine lv_aload_n hx hb dX2_foresee_57 rfl (lv_at hl 1 rfl) ?_
      refine va_get (D := G) (ci := 2) (v := .int le) (C := RX2) (T := TX2) (N := 14) hx hb hts hinX2 hown hK hP 0 rfl rfl 3 (by decide) hf117 (fun _ h9 => h9) rfl dX2_foresee_58 ?_
      refine tpi (x' := le + lftS k 0) ((Int32.add_zero le).symm) ?_
      refine lv_istore (lv' := [(4, .int (le + lftS k 0)), (3, .int (co + incS k 0)), (0, .ref (b 0)), (1, .int n9), (2, .int w)]) hx hb dX2_foresee_61 hl (by decide) rfl (fun ls hl => ?_)
      refine lv_iconst (v := 0) hx hb dX2_foresee_63 (by decide) ?_
      refine tpi (x' := nI 0) (rfl) ?_
      refine lv_istore (lv' := [(5, .int (nI 0)), (4, .int (le + lftS k 0)), (3, .int (co + incS k 0)), (0, .ref (b 0)), (1, .int n9), (2, .int w)]) hx hb dX2_foresee_64 hl (by decide) rfl (fun ls hl => ?_)
      have lp : ∀ (n : Nat) (i : Nat) (A1 O1 Q1 P1 L1 H1 M1 R1 S1 : Nat → Int32), (hi : i ≤ mn) → (hA1 : eqK A1 (itK k i)) → (mn - i) < n → ∀ (H : Heap) (locs : List Loc) (ls : Array Slot), va_P G vwCl [((b 0), oM b 0 mo co le), ((b 4), iA cI K), ((b 5), iA cI A1), ((b 6), iA cI O1), ((b 7), iA cI Q1), ((b 8), iA cI P1), ((b 9), iA cI L1), ((b 10), iA cI H1), ((b 11), iA cI M1), ((b 12), iA cI R1), ((b 13), iA cI S1)] H → va_D A [((b 0), oM b 0 mo co le), ((b 4), iA cI K), ((b 5), iA cI A1), ((b 6), iA cI O1), ((b 7), iA cI Q1), ((b 8), iA cI P1), ((b 9), iA cI L1), ((b 10), iA cI H1), ((b 11), iA cI M1), ((b 12), iA cI R1), ((b 13), iA cI S1)] → va_S A s.heap H locs → lv_has ls 6 [(0, .ref (b 0)), (1, .int n9), (2, .int w), (3, .int (co + incS k i)), (4, .int (le + lftS k i)), (5, .int (nI i))] → W p l e (headSpec wsX2_foresee rmX2_foresee).room s m ([.ref (b 0), .int n9, .int w] : List Value).toArray below meth c H locs 0 0 Q (F0 m 66 ls []) := by
        intro n
        induction n with
        | zero => intro i A1 O1 Q1 P1 L1 H1 M1 R1 S1 hi hA1 hn; exact absurd hn (by omega)
        | succ n ih_lp =>
          intro i A1 O1 Q1 P1 L1 H1 M1 R1 S1 hi hA1 hn H locs ls hP hD hS hl
          refine lv_iload hx hb dX2_foresee_66 (lv_at hl 5 rfl) ?_
          refine lv_iload_n hx hb dX2_foresee_68 rfl (lv_at hl 1 rfl) ?_
          rcases Nat.lt_or_ge i mn with g | g
          · skip
            have c30 : ¬ n9 ≤ nI i := by rw [hma.2]; exact lt_n g (by omega)
            refine lv_icmp_ge (tgt := 120) hx hb dX2_foresee_69 (by decide) (fun c => absurd c (c30)) (fun _ => ?_)
            have hkd1 := kd_itK hkd i
            refine lv_aload_n hx hb dX2_foresee_72 rfl (lv_at hl 0 rfl) ?_
            refine lv_aload_n hx hb dX2_foresee_73 rfl (lv_at hl 0 rfl) ?_
            refine va_get (D := G) (ci := 2) (v := .ref (b 5)) (C := RX2) (T := TX2) (N := 14) hx hb hts hinX2 hown hK hP 0 rfl rfl 5 (by decide) hf17 (fun _ h9 => h9) rfl dX2_foresee_74 ?_
            refine cw_i (wr := [((b 4), iA cI K), ((b 6), iA cI O1)]) (va_runV (As := [.ref (b 5)]) (rest := []) FX (c_X2_look l G cI b (b 5) 0 mo co le A1 Q1 P1 L1 H1 M1 R1 S1 (itK k i) hA1 hkd1 _) (cwV 1 hts gX2_foresee_X2_look rfl rfl rfl (by decide +kernel) ⟨Nat.le_of_ble_eq_true rfl, Nat.le_of_ble_eq_true rfl⟩) (wrV hK hP hD hN [0, 2, 4, 5, 6, 7, 8, 9, 10] (by decide) rfl rfl (ci := 2) (q0 := 0) rfl rfl) rfl rfl hl.1 rfl (lv_room (Nat.le_of_ble_eq_true rfl)) dX2_foresee_77 ⟨hzc, hzs⟩) hS hP hD hA [0, 2, 4, 5, 6, 7, 8, 9, 10] [1, 3] rfl rfl (by decide) (by decide) (fun r9 u H locs hw hP hD hS => ?_)
            obtain ⟨Q2, P2, L2, H2, M2, R2, S2⟩ := u
            obtain ⟨h9, hLK⟩ := hw
            have hP := hP.sub (ws' := [((b 0), oM b 0 mo co le), ((b 4), iA cI K), ((b 5), iA cI A1), ((b 6), iA cI O1), ((b 7), iA cI Q2), ((b 8), iA cI P2), ((b 9), iA cI L2), ((b 10), iA cI H2), ((b 11), iA cI M2), ((b 12), iA cI R2), ((b 13), iA cI S2)]) [2, 0, 3, 1, 4, 5, 6, 7, 8, 9, 10] rfl
            have hD := hD.sub (ws' := [((b 0), oM b 0 mo co le), ((b 4), iA cI K), ((b 5), iA cI A1), ((b 6), iA cI O1), ((b 7), iA cI Q2), ((b 8), iA cI P2), ((b 9), iA cI L2), ((b 10), iA cI H2), ((b 11), iA cI M2), ((b 12), iA cI R2), ((b 13), iA cI S2)]) [2, 0, 3, 1, 4, 5, 6, 7, 8, 9, 10] (by decide) rfl
            refine lv_pop hx hb dX2_foresee_80 rfl ?_
            refine lv_iload_n hx hb dX2_foresee_81 rfl (lv_at hl 3 rfl) ?_
            refine lv_aload_n hx hb dX2_foresee_82 rfl (lv_at hl 0 rfl) ?_
            refine lv_aload_n hx hb dX2_foresee_83 rfl (lv_at hl 0 rfl) ?_
            refine va_get (D := G) (ci := 2) (v := .ref (b 5)) (C := RX2) (T := TX2) (N := 14) hx hb hts hinX2 hown hK hP 0 rfl rfl 5 (by decide) hf17 (fun _ h9 => h9) rfl dX2_foresee_84 ?_
            refine lv_iconst (v := 1) hx hb dX2_foresee_87 (by decide) ?_
            refine tpi (x' := b2i true) (rfl) ?_
            refine cr_i (va_runV (As := [.ref (b 5), .int (b2i true)]) (rest := [.int (co + incS k i)]) FX (c_X2_sum l G cI b (b 5) 0 mo co le A1 Q2 P2 L2 H2 M2 R2 S2 (itK k i) true hA1 hkd1 hLK) (cwV 2 hts gX2_foresee_X2_sum rfl rfl rfl (by decide +kernel) ⟨Nat.le_of_ble_eq_true rfl, Nat.le_of_ble_eq_true rfl⟩) (rdV hK hP hN [0, 2, 4, 5, 6, 7, 8, 9, 10] rfl (ci := 2) (q0 := 0) rfl rfl) rfl rfl hl.1 rfl (lv_room (Nat.le_of_ble_eq_true rfl)) dX2_foresee_88 ⟨hzc, hzs⟩) hS hP (fun H locs hP hS => ?_)
            refine tpi (x' := dall (itK k i)) (rfl) ?_
            refine lv_iadd hx hb dX2_foresee_91 ?_
            refine tpi (x' := co + incS k (i + 1)) (by rw [Int32.add_assoc]; rfl) ?_
            refine lv_istore_n (lv' := [(3, .int (co + incS k (i + 1))), (0, .ref (b 0)), (1, .int n9), (2, .int w), (4, .int (le + lftS k i)), (5, .int (nI i))]) hx hb dX2_foresee_92 rfl hl (by decide) rfl (fun ls hl => ?_)
            refine lv_iload hx hb dX2_foresee_93 (lv_at hl 4 rfl) ?_
            refine lv_aload_n hx hb dX2_foresee_95 rfl (lv_at hl 1 rfl) ?_
            refine lv_aload_n hx hb dX2_foresee_96 rfl (lv_at hl 1 rfl) ?_
            refine va_get (D := G) (ci := 2) (v := .ref (b 5)) (C := RX2) (T := TX2) (N := 14) hx hb hts hinX2 hown hK hP 0 rfl rfl 5 (by decide) hf17 (fun _ h9 => h9) rfl dX2_foresee_97 ?_
            refine cw_i (wr := [((b 4), iA cI K)]) (va_runV (As := [.ref (b 5)]) (rest := [.int (le + lftS k i)]) FX (c_X2_leave l G cI b (b 5) 0 mo co le A1 O1 Q2 P2 L2 H2 M2 R2 S2 (itK k i) hA1 hkd1 hLK _) (cwV 1 hts gX2_foresee_X2_leave rfl rfl rfl (by decide +kernel) ⟨Nat.le_of_ble_eq_true rfl, Nat.le_of_ble_eq_true rfl⟩) (wrV hK hP hD hN [0, 2, 3, 4, 5, 6, 7, 8, 9, 10] (by decide) rfl rfl (ci := 2) (q0 := 0) rfl rfl) rfl rfl hl.1 rfl (lv_room (Nat.le_of_ble_eq_true rfl)) dX2_foresee_100 ⟨hzc, hzs⟩) hS hP hD hA [0, 2, 3, 4, 5, 6, 7, 8, 9, 10] [1] rfl rfl (by decide) (by decide) (fun r8 u H locs hw hP hD hS => ?_)
            obtain ⟨O2, hu9⟩ : ∃ z, z = u := ⟨_, rfl⟩
            subst hu9
            obtain ⟨hr8, hO2⟩ := hw
            have hP := hP.sub (ws' := [((b 0), oM b 0 mo co le), ((b 4), iA cI K), ((b 5), iA cI A1), ((b 6), iA cI O2), ((b 7), iA cI Q2), ((b 8), iA cI P2), ((b 9), iA cI L2), ((b 10), iA cI H2), ((b 11), iA cI M2), ((b 12), iA cI R2), ((b 13), iA cI S2)]) [1, 0, 2, 3, 4, 5, 6, 7, 8, 9, 10] rfl
            have hD := hD.sub (ws' := [((b 0), oM b 0 mo co le), ((b 4), iA cI K), ((b 5), iA cI A1), ((b 6), iA cI O2), ((b 7), iA cI Q2), ((b 8), iA cI P2), ((b 9), iA cI L2), ((b 10), iA cI H2), ((b 11), iA cI M2), ((b 12), iA cI R2), ((b 13), iA cI S2)]) [1, 0, 2, 3, 4, 5, 6, 7, 8, 9, 10] (by decide) rfl
            refine tpi (x' := lvN (itK k i)) (hr8) ?_
            refine lv_iadd hx hb dX2_foresee_103 ?_
            refine tpi (x' := le + lftS k (i + 1)) (by rw [Int32.add_assoc]; rfl) ?_
            refine lv_istore (lv' := [(4, .int (le + lftS k (i + 1))), (3, .int (co + incS k (i + 1))), (0, .ref (b 0)), (1, .int n9), (2, .int w), (5, .int (nI i))]) hx hb dX2_foresee_104 hl (by decide) rfl (fun ls hl => ?_)
            refine lv_aload_n hx hb dX2_foresee_106 rfl (lv_at hl 2 rfl) ?_
            refine lv_aload_n hx hb dX2_foresee_107 rfl (lv_at hl 2 rfl) ?_
            refine va_get (D := G) (ci := 2) (v := .ref (b 5)) (C := RX2) (T := TX2) (N := 14) hx hb hts hinX2 hown hK hP 0 rfl rfl 5 (by decide) hf17 (fun _ h9 => h9) rfl dX2_foresee_108 ?_
            refine cw_v (wr := [((b 4), iA cI K), ((b 7), iA cI Q2), ((b 8), iA cI P2), ((b 9), iA cI L2), ((b 10), iA cI H2), ((b 11), iA cI M2), ((b 12), iA cI R2), ((b 13), iA cI S2)]) (va_runV (As := [.ref (b 5)]) (rest := []) FX (c_X2_sink l G cI b (b 5) 0 mo co le A1 O2 (lv1 (itK k i)) hO2 _) (cwV 1 hts gX2_foresee_X2_sink rfl rfl rfl (by decide +kernel) ⟨Nat.le_of_ble_eq_true rfl, Nat.le_of_ble_eq_true rfl⟩) (wrV hK hP hD hN [0, 2, 3] (by decide) rfl rfl (ci := 2) (q0 := 0) rfl rfl) rfl rfl hl.1 rfl (lv_room (Nat.le_of_ble_eq_true rfl)) dX2_foresee_111 ⟨hzc, hzs⟩) hS hP hD hA [0, 2, 3] [1, 4, 5, 6, 7, 8, 9, 10] rfl rfl (by decide) (by decide) (fun u H locs hw hP hD hS => ?_)
            obtain ⟨A3, hu9⟩ : ∃ z, z = u := ⟨_, rfl⟩
            subst hu9
            have hP := hP.sub (ws' := [((b 0), oM b 0 mo co le), ((b 4), iA cI K), ((b 5), iA cI A3), ((b 6), iA cI O2), ((b 7), iA cI Q2), ((b 8), iA cI P2), ((b 9), iA cI L2), ((b 10), iA cI H2), ((b 11), iA cI M2), ((b 12), iA cI R2), ((b 13), iA cI S2)]) [8, 0, 9, 10, 1, 2, 3, 4, 5, 6, 7] rfl
            have hD := hD.sub (ws' := [((b 0), oM b 0 mo co le), ((b 4), iA cI K), ((b 5), iA cI A3), ((b 6), iA cI O2), ((b 7), iA cI Q2), ((b 8), iA cI P2), ((b 9), iA cI L2), ((b 10), iA cI H2), ((b 11), iA cI M2), ((b 12), iA cI R2), ((b 13), iA cI S2)]) [8, 0, 9, 10, 1, 2, 3, 4, 5, 6, 7] (by decide) rfl
            have hA3 : eqK A3 (itK k (i + 1)) := hw
            refine lv_iinc (v := nI (i + 1)) (lv' := [(5, .int (nI (i + 1))), (4, .int (le + lftS k (i + 1))), (3, .int (co + incS k (i + 1))), (0, .ref (b 0)), (1, .int n9), (2, .int w)]) hx hb dX2_foresee_114 hl (k := 5) rfl (nI_inc i) (by decide) rfl (fun ls hl => ?_)
            refine lv_goto (tgt := 66) hx hb dX2_foresee_117 (by decide) ?_
            exact ih_lp (i + 1) A3 O2 Q2 P2 L2 H2 M2 R2 S2 (by omega) (hA3) (by omega) _ _ _ hP hD hS (lv_sub hl [3, 4, 5, 2, 1, 0] (rfl))
          · skip
            have g8 : i = mn := by omega
            have c30 : n9 ≤ nI i := by rw [hma.2]; exact le_n g (by omega)
            refine lv_icmp_ge (tgt := 120) hx hb dX2_foresee_69 (by decide) (fun _ => ?_) (fun c => absurd (c30) c)
            refine lv_aload_n hx hb dX2_foresee_120 rfl (lv_at hl 0 rfl) ?_
            refine lv_aload_n hx hb dX2_foresee_121 rfl (lv_at hl 0 rfl) ?_
            refine va_get (D := G) (ci := 2) (v := .ref (b 5)) (C := RX2) (T := TX2) (N := 14) hx hb hts hinX2 hown hK hP 0 rfl rfl 5 (by decide) hf17 (fun _ h9 => h9) rfl dX2_foresee_122 ?_
            refine lv_iload_n hx hb dX2_foresee_125 rfl (lv_at hl 2 rfl) ?_
            refine lv_aload_n hx hb dX2_foresee_126 rfl (lv_at hl 0 rfl) ?_
            refine va_get (D := G) (ci := 2) (v := .int mo) (C := RX2) (T := TX2) (N := 14) hx hb hts hinX2 hown hK hP 0 rfl rfl 1 (by decide) hf114 (fun _ h9 => h9) rfl dX2_foresee_127 ?_
            refine lv_iload_n hx hb dX2_foresee_130 rfl (lv_at hl 1 rfl) ?_
            refine lv_iadd hx hb dX2_foresee_131 ?_
            refine tpi (x' := mo + nI i) (by rw [hma.2, g8]) ?_
            refine lv_iload_n hx hb dX2_foresee_132 rfl (lv_at hl 3 rfl) ?_
            refine lv_iload hx hb dX2_foresee_133 (lv_at hl 4 rfl) ?_
            refine cw_i (wr := [((b 4), iA cI K), ((b 6), iA cI O1)]) (va_runV (As := [.ref (b 5), .int w, .int (mo + nI i), .int (co + incS k i), .int (le + lftS k i)]) (rest := []) FX (c_X2_counted l G cI b (b 5) 0 mo co le A1 Q1 P1 L1 H1 M1 R1 S1 (itK k i) w (mo + nI i) (co + incS k i) (le + lftS k i) hA1 (kd_itK hkd i) _) (cwV 5 hts gX2_foresee_X2_counted rfl rfl rfl (by decide +kernel) ⟨Nat.le_of_ble_eq_true rfl, Nat.le_of_ble_eq_true rfl⟩) (wrV hK hP hD hN [0, 2, 4, 5, 6, 7, 8, 9, 10] (by decide) rfl rfl (ci := 2) (q0 := 0) rfl rfl) rfl rfl hl.1 rfl (lv_room (Nat.le_of_ble_eq_true rfl)) dX2_foresee_135 ⟨hzc, hzs⟩) hS hP hD hA [0, 2, 4, 5, 6, 7, 8, 9, 10] [1, 3] rfl rfl (by decide) (by decide) (fun r9 u H locs hw hP hD hS => ?_)
            obtain ⟨Q2, P2, L2, H2, M2, R2, S2⟩ := u
            have hP := hP.sub (ws' := [((b 0), oM b 0 mo co le), ((b 4), iA cI K), ((b 5), iA cI A1), ((b 6), iA cI O1), ((b 7), iA cI Q2), ((b 8), iA cI P2), ((b 9), iA cI L2), ((b 10), iA cI H2), ((b 11), iA cI M2), ((b 12), iA cI R2), ((b 13), iA cI S2)]) [2, 0, 3, 1, 4, 5, 6, 7, 8, 9, 10] rfl
            have hD := hD.sub (ws' := [((b 0), oM b 0 mo co le), ((b 4), iA cI K), ((b 5), iA cI A1), ((b 6), iA cI O1), ((b 7), iA cI Q2), ((b 8), iA cI P2), ((b 9), iA cI L2), ((b 10), iA cI H2), ((b 11), iA cI M2), ((b 12), iA cI R2), ((b 13), iA cI S2)]) [2, 0, 3, 1, 4, 5, 6, 7, 8, 9, 10] (by decide) rfl
            subst hQ
            subst hAe
            rw [hcd, ← hmn, ← g8]
            exact wr_i (A1, O1, Q2, P2, L2, H2, M2, R2, S2) (fun _ => hw) hx hb hr hP hD hS hlocks dX2_foresee_138
      exact lp (_ + 1) 0 A0 Ot Qm Op Lm Hm Mm Rw St (by omega) (hA0k) (Nat.lt_succ_self _) _ _ _ hP hD hS (lv_sub hl [3, 4, 5, 2, 1, 0] rfl)

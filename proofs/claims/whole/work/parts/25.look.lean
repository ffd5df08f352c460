def rmX2_look : Room := { frames := 4, cells := 0, slots := 0, locals := 93 }
set_option maxHeartbeats 4000000 in
set_option maxRecDepth 100000 in
/-- looks at a city -/
theorem c_X2_look (l : Launch) (G : va_G) (cI : ClassId) (b : Nat → Nat) (ac : Nat) (th mo co le : Int32) (X Qm Op Lm Hm Mm Rw St k : Nat → Int32) (hk : eqK X k) (hkd : ∀ x, x < 64 → kd (k x)) (sz : Nat) : Met l yX2_look wsX2_look rmX2_look (va_Pc [.ref (b 0), .ref ac] (WrP G cI [((b 0), oM b th mo co le), (ac, iA cI X), ((b 7), iA cI Qm), ((b 8), iA cI Op), ((b 9), iA cI Lm), ((b 10), iA cI Hm), ((b 11), iA cI Mm), ((b 12), iA cI Rw), ((b 13), iA cI St)] sz)) (va_Qi (fun (r : Int32) (u : (Nat → Int32) × (Nat → Int32) × (Nat → Int32) × (Nat → Int32) × (Nat → Int32) × (Nat → Int32) × (Nat → Int32)) => r = qall k ∧ LK k (u.1) (u.2.1) (u.2.2.1) (u.2.2.2.1) (u.2.2.2.2.1)) (WrB G [((b 0), oM b th mo co le), (ac, iA cI X), ((b 7), iA cI Qm), ((b 8), iA cI Op), ((b 9), iA cI Lm), ((b 10), iA cI Hm), ((b 11), iA cI Mm), ((b 12), iA cI Rw), ((b 13), iA cI St)] sz (fun u => [(b 0, oM b th mo co le), (ac, iA cI X), (b 7, iA cI (u.1)), (b 8, iA cI (u.2.1)), (b 9, iA cI (u.2.2.1)), (b 10, iA cI (u.2.2.2.1)), (b 11, iA cI (u.2.2.2.2.1)), (b 12, iA cI (u.2.2.2.2.2.1)), (b 13, iA cI (u.2.2.2.2.2.2))])) (va_A [((b 0), oM b th mo co le), (ac, iA cI X), ((b 7), iA cI Qm), ((b 8), iA cI Op), ((b 9), iA cI Lm), ((b 10), iA cI Hm), ((b 11), iA cI Mm), ((b 12), iA cI Rw), ((b 13), iA cI St)] sz)) 0 0 (va_A [((b 0), oM b th mo co le), (ac, iA cI X), ((b 7), iA cI Qm), ((b 8), iA cI Op), ((b 9), iA cI Lm), ((b 10), iA cI Hm), ((b 11), iA cI Mm), ((b 12), iA cI Rw), ((b 13), iA cI St)] sz) := by
  refine Met.ofW (cc := cX2_look) (maxL := 5) (ret := (some .int)) (by decide) rfl ?_
  intro p e s m args below meth c s₁ B hml hv
  obtain ⟨rfl, hsz, hP, hK, hD0, hN⟩ := hv
  have hx := B.exec
  have hb := B.bytes
  have hr := B.returns
  have hlocks := B.notSynchronized
  have hts := atoms_spec (ws := wsX2_look) B.pre
  have hown : s.vm.findClass RX2 = some m.cls := findClass_of_methodNamed B.named
  subst hsz
  have hD := hD0.self (sz := s.heap.size)
  have hA : ∀ q : Nat, s.heap.size ≤ q → va_A [((b 0), oM b th mo co le), (ac, iA cI X), ((b 7), iA cI Qm), ((b 8), iA cI Op), ((b 9), iA cI Lm), ((b 10), iA cI Hm), ((b 11), iA cI Mm), ((b 12), iA cI Rw), ((b 13), iA cI St)] s.heap.size q := fun q h => Or.inr h
  have hS : va_S (va_A [((b 0), oM b th mo co le), (ac, iA cI X), ((b 7), iA cI Qm), ((b 8), iA cI Op), ((b 9), iA cI Lm), ((b 10), iA cI Hm), ((b 11), iA cI Mm), ((b 12), iA cI Rw), ((b 13), iA cI St)] s.heap.size) s.heap s.heap [] := va_S.rf
  obtain ⟨A, hAe⟩ : ∃ A, A = va_A [((b 0), oM b th mo co le), (ac, iA cI X), ((b 7), iA cI Qm), ((b 8), iA cI Op), ((b 9), iA cI Lm), ((b 10), iA cI Hm), ((b 11), iA cI Mm), ((b 12), iA cI Rw), ((b 13), iA cI St)] s.heap.size := ⟨_, rfl⟩
  rw [← hAe] at hD hA hS
  have FX : CallFix p m c cX2_look 5 s ([.ref (b 0), .ref ac] : List Value).toArray wsX2_look RX2 := ⟨hx, hb, hml, hown, hts⟩
  have hl := lv_entry ([.ref (b 0), .ref ac]) (n := 5) (Nat.le_of_ble_eq_true rfl)
  rw [lg_entry_eq]
  generalize (lg_sl ([.ref (b 0), .ref ac]) ++ List.replicate (5 - (lg_sl ([.ref (b 0), .ref ac])).length) Slot.unset).toArray = ls at hl ⊢
  have hl : lv_has ls 5 [(0, .ref (b 0)), (1, .ref ac)] := hl
  refine wq (fun Q hQ => ?_)
  have hzc : 0 + 0 ≤ (headSpec wsX2_look rmX2_look).room.cells := Nat.zero_le _
  have hzs : 0 + 0 ≤ (headSpec wsX2_look rmX2_look).room.slots := Nat.zero_le _
  have hf23 := hts (.fieldLink RX2 23 "CanalCityModel" "quarter" "[I") (by decide +kernel)
  have hf26 := hts (.fieldLink RX2 26 "CanalCityModel" "open" "[I") (by decide +kernel)
  have hf29 := hts (.fieldLink RX2 29 "CanalCityModel" "lots" "[I") (by decide +kernel)
  have hf32 := hts (.fieldLink RX2 32 "CanalCityModel" "houses" "[I") (by decide +kernel)
  have hf35 := hts (.fieldLink RX2 35 "CanalCityModel" "markets" "[I") (by decide +kernel)
  have hf38 := hts (.fieldLink RX2 38 "CanalCityModel" "row" "[I") (by decide +kernel)
  have hf41 := hts (.fieldLink RX2 41 "CanalCityModel" "steps" "[I") (by decide +kernel)
  have hinX2 : ∀ w ∈ u_ws RX2 TX2 14, w ∈ wsX2_look := by decide +kernel
  refine lv_aload_n hx hb dX2_look_0 rfl (lv_at hl 0 rfl) ?_
  refine lv_aload_n hx hb dX2_look_1 rfl (lv_at hl 1 rfl) ?_
  refine lv_iconst (v := 3) hx hb dX2_look_2 (by decide) ?_
  refine tpi (x' := nI 3) (rfl) ?_
  refine lv_iconst (v := 0) hx hb dX2_look_3 (by decide) ?_
  refine tpi (x' := b2i false) (rfl) ?_
  refine cw_i (wr := [((b 7), iA cI Qm), ((b 8), iA cI Op), ((b 9), iA cI Lm), ((b 10), iA cI Hm), ((b 11), iA cI Mm)]) (va_runV (As := [.ref ac, .int (nI 3), .int (b2i false)]) (rest := []) FX (c_X2_fill l G cI b ac th mo co le X Rw St k false 3 hk hkd (by decide) _) (cwV 3 hts gX2_look_X2_fill rfl rfl rfl (by decide +kernel) ⟨Nat.le_of_ble_eq_true rfl, Nat.le_of_ble_eq_true rfl⟩) (wrV hK hP hD hN [0, 1, 7, 8] (by decide) rfl rfl (ci := 2) (q0 := 0) rfl rfl) rfl rfl hl.1 rfl (lv_room (Nat.le_of_ble_eq_true rfl)) dX2_look_4 ⟨hzc, hzs⟩) hS hP hD hA [0, 1, 7, 8] [2, 3, 4, 5, 6] rfl rfl (by decide) (by decide) (fun r1 u H locs hw hP hD hS => ?_)
  obtain ⟨R1, S1⟩ := u
  obtain ⟨en0, row0, -, hF0⟩ := hw
  have hP := hP.sub (ws' := [((b 0), oM b th mo co le), (ac, iA cI X), ((b 7), iA cI Qm), ((b 8), iA cI Op), ((b 9), iA cI Lm), ((b 10), iA cI Hm), ((b 11), iA cI Mm), ((b 12), iA cI R1), ((b 13), iA cI S1)]) [5, 6, 0, 1, 2, 3, 4, 7, 8] rfl
  have hD := hD.sub (ws' := [((b 0), oM b th mo co le), (ac, iA cI X), ((b 7), iA cI Qm), ((b 8), iA cI Op), ((b 9), iA cI Lm), ((b 10), iA cI Hm), ((b 11), iA cI Mm), ((b 12), iA cI R1), ((b 13), iA cI S1)]) [5, 6, 0, 1, 2, 3, 4, 7, 8] (by decide) rfl
  have hS1 : ∀ x, x < 64 → S1 x = mkd 0 1 (dst (PB false k) 3 x) 999 := hF0.2.2.2.2.2
  refine lv_pop hx hb dX2_look_7 rfl ?_
  refine lv_iconst (v := 0) hx hb dX2_look_8 (by decide) ?_
  refine tpi (x' := nI 0) (rfl) ?_
  refine lv_istore_n (lv' := [(2, .int (nI 0)), (0, .ref (b 0)), (1, .ref ac)]) hx hb dX2_look_9 rfl hl (by decide) rfl (fun ls hl => ?_)
  have lo : ∀ (n : Nat) (i : Nat) (Q1 P1 : Nat → Int32), (hi : i ≤ 64) → (hQ1 : ∀ x, x < i → Q1 x = -1) → (hP1 : ∀ x, x < i → P1 x = b2i (opn k x)) → (64 - i) < n → ∀ (H : Heap) (locs : List Loc) (ls : Array Slot), va_P G vwCl [((b 0), oM b th mo co le), (ac, iA cI X), ((b 7), iA cI Q1), ((b 8), iA cI P1), ((b 9), iA cI Lm), ((b 10), iA cI Hm), ((b 11), iA cI Mm), ((b 12), iA cI R1), ((b 13), iA cI S1)] H → va_D A [((b 0), oM b th mo co le), (ac, iA cI X), ((b 7), iA cI Q1), ((b 8), iA cI P1), ((b 9), iA cI Lm), ((b 10), iA cI Hm), ((b 11), iA cI Mm), ((b 12), iA cI R1), ((b 13), iA cI S1)] → va_S A s.heap H locs → lv_has ls 5 [(0, .ref (b 0)), (1, .ref ac), (2, .int (nI i))] → W p l e (headSpec wsX2_look rmX2_look).room s m ([.ref (b 0), .ref ac] : List Value).toArray below meth c H locs 0 0 Q (F0 m 10 ls []) := by
    intro n
    induction n with
    | zero => intro i Q1 P1 hi hQ1 hP1 hn; exact absurd hn (by omega)
    | succ n ih_lo =>
      intro i Q1 P1 hi hQ1 hP1 hn H locs ls hP hD hS hl
      refine lv_iload_n hx hb dX2_look_10 rfl (lv_at hl 2 rfl) ?_
      refine lv_bipush (v := 64) hx hb dX2_look_11 (by decide) ?_
      rcases Nat.lt_or_ge i 64 with g | g
      · skip
        refine lv_icmp_ge (tgt := 52) hx hb dX2_look_13 (by decide) (fun c => absurd c (lt_n (n := 64) g (by decide))) (fun _ => ?_)
        refine lv_aload_n hx hb dX2_look_16 rfl (lv_at hl 0 rfl) ?_
        refine va_get (D := G) (ci := 2) (v := .ref (b 8)) (C := RX2) (T := TX2) (N := 14) hx hb hts hinX2 hown hK hP 0 rfl rfl 8 (by decide) hf26 (fun _ h9 => h9) rfl dX2_look_17 ?_
        refine lv_iload_n hx hb dX2_look_20 rfl (lv_at hl 2 rfl) ?_
        refine lv_aload_n hx hb dX2_look_21 rfl (lv_at hl 0 rfl) ?_
        refine va_get (D := G) (ci := 2) (v := .ref (b 13)) (C := RX2) (T := TX2) (N := 14) hx hb hts hinX2 hown hK hP 0 rfl rfl 13 (by decide) hf41 (fun _ h9 => h9) rfl dX2_look_22 ?_
        refine lv_iload_n hx hb dX2_look_25 rfl (lv_at hl 2 rfl) ?_
        refine va_iald hx hb hK hP 8 0 rfl rfl (vp_in_nI g (by decide)) dX2_look_26 ?_
        refine tpi (x' := S1 i) (congrArg S1 (nI_clamp (by omega))) ?_
        refine tpi (x' := mkd 0 1 (dst (PB false k) 3 i) 999) (hS1 i g) ?_
        rcases hd : dst (PB false k) 3 i with _ | d
        · skip
          refine tpi (x' := 999) (rfl) ?_
          refine lv_sipush (v := 999) hx hb dX2_look_27 (by decide) ?_
          refine lv_icmp_ge (tgt := 37) hx hb dX2_look_30 (by decide) (fun _ => ?_) (fun c => absurd (by decide) c)
          refine lv_iconst (v := 0) hx hb dX2_look_37 (by decide) ?_
          refine tpi (x' := b2i (opn k i)) (by unfold opn; rw [hd]; rfl) ?_
          refine va_iast hx hb hK hP hD hS 3 0 rfl rfl (vp_in_nI g (by decide)) dX2_look_38 (fun H locs hP hD hS => ?_)
          rw [show ((nI i)).toNatClampNeg = i from nI_clamp (by omega)] at hP hD
          have hP : va_P G vwCl [((b 0), oM b th mo co le), (ac, iA cI X), ((b 7), iA cI Q1), ((b 8), iA cI (upd P1 i (b2i (opn k i)))), ((b 9), iA cI Lm), ((b 10), iA cI Hm), ((b 11), iA cI Mm), ((b 12), iA cI R1), ((b 13), iA cI S1)] H := hP
          have hD : va_D A [((b 0), oM b th mo co le), (ac, iA cI X), ((b 7), iA cI Q1), ((b 8), iA cI (upd P1 i (b2i (opn k i)))), ((b 9), iA cI Lm), ((b 10), iA cI Hm), ((b 11), iA cI Mm), ((b 12), iA cI R1), ((b 13), iA cI S1)] := hD
          refine lv_aload_n hx hb dX2_look_39 rfl (lv_at hl 0 rfl) ?_
          refine va_get (D := G) (ci := 2) (v := .ref (b 7)) (C := RX2) (T := TX2) (N := 14) hx hb hts hinX2 hown hK hP 0 rfl rfl 7 (by decide) hf23 (fun _ h9 => h9) rfl dX2_look_40 ?_
          refine lv_iload_n hx hb dX2_look_43 rfl (lv_at hl 2 rfl) ?_
          refine lv_iconst (v := (-1)) hx hb dX2_look_44 (by decide) ?_
          refine va_iast hx hb hK hP hD hS 2 0 rfl rfl (vp_in_nI g (by decide)) dX2_look_45 (fun H locs hP hD hS => ?_)
          rw [show ((nI i)).toNatClampNeg = i from nI_clamp (by omega)] at hP hD
          have hP : va_P G vwCl [((b 0), oM b th mo co le), (ac, iA cI X), ((b 7), iA cI (upd Q1 i (-1))), ((b 8), iA cI (upd P1 i (b2i (opn k i)))), ((b 9), iA cI Lm), ((b 10), iA cI Hm), ((b 11), iA cI Mm), ((b 12), iA cI R1), ((b 13), iA cI S1)] H := hP
          have hD : va_D A [((b 0), oM b th mo co le), (ac, iA cI X), ((b 7), iA cI (upd Q1 i (-1))), ((b 8), iA cI (upd P1 i (b2i (opn k i)))), ((b 9), iA cI Lm), ((b 10), iA cI Hm), ((b 11), iA cI Mm), ((b 12), iA cI R1), ((b 13), iA cI S1)] := hD
          refine lv_iinc (v := nI (i + 1)) (lv' := [(2, .int (nI (i + 1))), (0, .ref (b 0)), (1, .ref ac)]) hx hb dX2_look_46 hl (k := 2) rfl (nI_inc i) (by decide) rfl (fun ls hl => ?_)
          refine lv_goto (tgt := 10) hx hb dX2_look_49 (by decide) ?_
          exact ih_lo (i + 1) (upd Q1 i (-1)) (upd P1 i (b2i (opn k i))) (by omega) (fun x hx => by rcases Nat.lt_or_ge x i with q9 | q9; rw [pk_un (by omega)]; exact hQ1 x q9; rw [show x = i by omega, pk_us]) (fun x hx => by rcases Nat.lt_or_ge x i with q9 | q9; rw [pk_un (by omega)]; exact hP1 x q9; rw [show x = i by omega, pk_us]) (by omega) _ _ _ hP hD hS (lv_sub hl [1, 2, 0] (rfl))
        · skip
          have hd64 := dst_lt (by decide) hd
          refine tpi (x' := nI (0 + d * 1)) (rfl) ?_
          refine lv_sipush (v := 999) hx hb dX2_look_27 (by decide) ?_
          refine lv_icmp_ge (tgt := 37) hx hb dX2_look_30 (by decide) (fun c => absurd c (lt_n (n := 999) (by omega) (by decide))) (fun _ => ?_)
          refine lv_iconst (v := 1) hx hb dX2_look_33 (by decide) ?_
          refine lv_goto (tgt := 38) hx hb dX2_look_34 (by decide) ?_
          refine tpi (x' := b2i (opn k i)) (by unfold opn; rw [hd]; rfl) ?_
          refine va_iast hx hb hK hP hD hS 3 0 rfl rfl (vp_in_nI g (by decide)) dX2_look_38 (fun H locs hP hD hS => ?_)
          rw [show ((nI i)).toNatClampNeg = i from nI_clamp (by omega)] at hP hD
          have hP : va_P G vwCl [((b 0), oM b th mo co le), (ac, iA cI X), ((b 7), iA cI Q1), ((b 8), iA cI (upd P1 i (b2i (opn k i)))), ((b 9), iA cI Lm), ((b 10), iA cI Hm), ((b 11), iA cI Mm), ((b 12), iA cI R1), ((b 13), iA cI S1)] H := hP
          have hD : va_D A [((b 0), oM b th mo co le), (ac, iA cI X), ((b 7), iA cI Q1), ((b 8), iA cI (upd P1 i (b2i (opn k i)))), ((b 9), iA cI Lm), ((b 10), iA cI Hm), ((b 11), iA cI Mm), ((b 12), iA cI R1), ((b 13), iA cI S1)] := hD
          refine lv_aload_n hx hb dX2_look_39 rfl (lv_at hl 0 rfl) ?_
          refine va_get (D := G) (ci := 2) (v := .ref (b 7)) (C := RX2) (T := TX2) (N := 14) hx hb hts hinX2 hown hK hP 0 rfl rfl 7 (by decide) hf23 (fun _ h9 => h9) rfl dX2_look_40 ?_
          refine lv_iload_n hx hb dX2_look_43 rfl (lv_at hl 2 rfl) ?_
          refine lv_iconst (v := (-1)) hx hb dX2_look_44 (by decide) ?_
          refine va_iast hx hb hK hP hD hS 2 0 rfl rfl (vp_in_nI g (by decide)) dX2_look_45 (fun H locs hP hD hS => ?_)
          rw [show ((nI i)).toNatClampNeg = i from nI_clamp (by omega)] at hP hD
          have hP : va_P G vwCl [((b 0), oM b th mo co le), (ac, iA cI X), ((b 7), iA cI (upd Q1 i (-1))), ((b 8), iA cI (upd P1 i (b2i (opn k i)))), ((b 9), iA cI Lm), ((b 10), iA cI Hm), ((b 11), iA cI Mm), ((b 12), iA cI R1), ((b 13), iA cI S1)] H := hP
          have hD : va_D A [((b 0), oM b th mo co le), (ac, iA cI X), ((b 7), iA cI (upd Q1 i (-1))), ((b 8), iA cI (upd P1 i (b2i (opn k i)))), ((b 9), iA cI Lm), ((b 10), iA cI Hm), ((b 11), iA cI Mm), ((b 12), iA cI R1), ((b 13), iA cI S1)] := hD
          refine lv_iinc (v := nI (i + 1)) (lv' := [(2, .int (nI (i + 1))), (0, .ref (b 0)), (1, .ref ac)]) hx hb dX2_look_46 hl (k := 2) rfl (nI_inc i) (by decide) rfl (fun ls hl => ?_)
          refine lv_goto (tgt := 10) hx hb dX2_look_49 (by decide) ?_
          exact ih_lo (i + 1) (upd Q1 i (-1)) (upd P1 i (b2i (opn k i))) (by omega) (fun x hx => by rcases Nat.lt_or_ge x i with q9 | q9; rw [pk_un (by omega)]; exact hQ1 x q9; rw [show x = i by omega, pk_us]) (fun x hx => by rcases Nat.lt_or_ge x i with q9 | q9; rw [pk_un (by omega)]; exact hP1 x q9; rw [show x = i by omega, pk_us]) (by omega) _ _ _ hP hD hS (lv_sub hl [1, 2, 0] (rfl))
      · skip
        have g9 : 64 = i := by omega
        subst g9
        refine lv_icmp_ge (tgt := 52) hx hb dX2_look_13 (by decide) (fun _ => ?_) (fun c => absurd (le_n (n := 64) (i := 64) (by decide) (by decide)) c)
        refine lv_iconst (v := 0) hx hb dX2_look_52 (by decide) ?_
        refine tpi (x' := csum (fun p => if qrt k p = some p then 1 else 0) 0) (rfl) ?_
        refine lv_istore_n (lv' := [(2, .int (csum (fun p => if qrt k p = some p then 1 else 0) 0)), (0, .ref (b 0)), (1, .ref ac)]) hx hb dX2_look_53 rfl hl (by decide) rfl (fun ls hl => ?_)
        refine lv_iconst (v := 0) hx hb dX2_look_54 (by decide) ?_
        refine tpi (x' := nI 0) (rfl) ?_
        refine lv_istore_n (lv' := [(3, .int (nI 0)), (2, .int (csum (fun p => if qrt k p = some p then 1 else 0) 0)), (0, .ref (b 0)), (1, .ref ac)]) hx hb dX2_look_55 rfl hl (by decide) rfl (fun ls hl => ?_)
        have lp : ∀ (n : Nat) (y : Nat) (Q2 L2 H2 M2 R2 S2 : Nat → Int32), (hy : y ≤ 64) → (hQ2 : ∀ x, x < 64 → Q2 x = qpt k y x) → (hL2 : ∀ x, x < y → qrt k x = some x → L2 x = lotsN k x 64) → (hH2 : ∀ x, x < y → qrt k x = some x → H2 x = kindN k 3 x 64) → (hM2 : ∀ x, x < y → qrt k x = some x → M2 x = kindN k 5 x 64) → (64 - y) < n → ∀ (H : Heap) (locs : List Loc) (ls : Array Slot), va_P G vwCl [((b 0), oM b th mo co le), (ac, iA cI X), ((b 7), iA cI Q2), ((b 8), iA cI P1), ((b 9), iA cI L2), ((b 10), iA cI H2), ((b 11), iA cI M2), ((b 12), iA cI R2), ((b 13), iA cI S2)] H → va_D A [((b 0), oM b th mo co le), (ac, iA cI X), ((b 7), iA cI Q2), ((b 8), iA cI P1), ((b 9), iA cI L2), ((b 10), iA cI H2), ((b 11), iA cI M2), ((b 12), iA cI R2), ((b 13), iA cI S2)] → va_S A s.heap H locs → lv_has ls 5 [(0, .ref (b 0)), (1, .ref ac), (2, .int (csum (fun p => if qrt k p = some p then 1 else 0) y)), (3, .int (nI y))] → W p l e (headSpec wsX2_look rmX2_look).room s m ([.ref (b 0), .ref ac] : List Value).toArray below meth c H locs 0 0 Q (F0 m 56 ls []) := by
          intro n
          induction n with
          | zero => intro y Q2 L2 H2 M2 R2 S2 hy hQ2 hL2 hH2 hM2 hn; exact absurd hn (by omega)
          | succ n ih_lp =>
            intro y Q2 L2 H2 M2 R2 S2 hy hQ2 hL2 hH2 hM2 hn H locs ls hP hD hS hl
            refine lv_iload_n hx hb dX2_look_56 rfl (lv_at hl 3 rfl) ?_
            refine lv_bipush (v := 64) hx hb dX2_look_57 (by decide) ?_
            rcases Nat.lt_or_ge y 64 with g | g
            · skip
              refine lv_icmp_ge (tgt := 207) hx hb dX2_look_59 (by decide) (fun c => absurd c (lt_n (n := 64) g (by decide))) (fun _ => ?_)
              refine lv_aload_n hx hb dX2_look_62 rfl (lv_at hl 1 rfl) ?_
              refine lv_iload_n hx hb dX2_look_63 rfl (lv_at hl 3 rfl) ?_
              refine va_iald hx hb hK hP 1 0 rfl rfl (vp_in_nI g (by decide)) dX2_look_64 ?_
              refine tpi (x' := X y) (congrArg X (nI_clamp (by omega))) ?_
              refine tpi (x' := k y) (hk y g) ?_
              refine cr_i (va_runS (As := [.int (k y)]) (rest := []) FX (c_X2_isLand l (k y)) (va_cwS 1 hts gX2_look_X2_isLand rfl rfl rfl (by decide +kernel) ⟨Nat.le_of_ble_eq_true rfl, Nat.le_of_ble_eq_true rfl⟩) puS rfl rfl hl.1 rfl (lv_room (Nat.le_of_ble_eq_true rfl)) dX2_look_65 ⟨hzc, hzs⟩) hS hP (fun H locs hP hS => ?_)
              refine tpi (x' := b2i (lnd (k y))) (by rw [lnd_ge (hkd y g)]) ?_
              rcases ho : lnd (k y) with _ | _
              · skip
                have hnr : ¬ qrt k y = some y := by rw [qrt_none.mpr ho]; exact fun e => (by cases e)
                refine tpi (x' := 0) (rfl) ?_
                refine lv_if_eq (tgt := 201) hx hb dX2_look_68 (by decide) (fun _ => ?_) (fun c => absurd (rfl) c)
                refine lv_iinc (v := nI (y + 1)) (lv' := [(3, .int (nI (y + 1))), (0, .ref (b 0)), (1, .ref ac), (2, .int (csum (fun p => if qrt k p = some p then 1 else 0) y))]) hx hb dX2_look_201 hl (k := 3) rfl (nI_inc y) (by decide) rfl (fun ls hl => ?_)
                refine lv_goto (tgt := 56) hx hb dX2_look_204 (by decide) ?_
                exact ih_lp (y + 1) Q2 L2 H2 M2 R2 S2 (by omega) (fun x hx => by rw [qpt_skip (no_root hx hnr)]; exact hQ2 x hx) (fun x hx hx2 => by rcases Nat.lt_or_ge x y with q9 | q9; exact hL2 x q9 hx2; have e9 : x = y := (by omega); subst e9; exact absurd hx2 hnr) (fun x hx hx2 => by rcases Nat.lt_or_ge x y with q9 | q9; exact hH2 x q9 hx2; have e9 : x = y := (by omega); subst e9; exact absurd hx2 hnr) (fun x hx hx2 => by rcases Nat.lt_or_ge x y with q9 | q9; exact hM2 x q9 hx2; have e9 : x = y := (by omega); subst e9; exact absurd hx2 hnr) (by omega) _ _ _ hP hD hS (lv_sub hl [1, 2, 3, 0] (by rw [show csum (fun p => if qrt k p = some p then 1 else 0) (y + 1) = csum (fun p => if qrt k p = some p then 1 else 0) y from by rw [csum]; rw [if_neg hnr]; exact Int32.add_zero _]; rfl))
              · skip
                refine tpi (x' := 1) (rfl) ?_
                refine lv_if_eq (tgt := 201) hx hb dX2_look_68 (by decide) (fun c => absurd c (by decide)) (fun _ => ?_)
                refine lv_aload_n hx hb dX2_look_71 rfl (lv_at hl 0 rfl) ?_
                refine va_get (D := G) (ci := 2) (v := .ref (b 7)) (C := RX2) (T := TX2) (N := 14) hx hb hts hinX2 hown hK hP 0 rfl rfl 7 (by decide) hf23 (fun _ h9 => h9) rfl dX2_look_72 ?_
                refine lv_iload_n hx hb dX2_look_75 rfl (lv_at hl 3 rfl) ?_
                refine va_iald hx hb hK hP 2 0 rfl rfl (vp_in_nI g (by decide)) dX2_look_76 ?_
                refine tpi (x' := Q2 y) (congrArg Q2 (nI_clamp (by omega))) ?_
                refine tpi (x' := qpt k y y) (hQ2 y g) ?_
                obtain ⟨j, hj⟩ := qrt_land ho
                have hji := qrt_le hj
                rcases Nat.lt_or_ge j y with hlt | hge
                · skip
                  have hnr : ¬ qrt k y = some y := by rw [hj]; exact fun e => absurd (Option.some.inj e) (by omega)
                  refine tpi (x' := nI j) (qpt_in hj hlt) ?_
                  refine lv_iconst (v := (-1)) hx hb dX2_look_77 (by decide) ?_
                  refine lv_icmp_eq (tgt := 84) hx hb dX2_look_78 (by decide) (fun c => absurd c (nI_m1 (by omega))) (fun _ => ?_)
                  refine lv_goto (tgt := 201) hx hb dX2_look_81 (by decide) ?_
                  refine lv_iinc (v := nI (y + 1)) (lv' := [(3, .int (nI (y + 1))), (0, .ref (b 0)), (1, .ref ac), (2, .int (csum (fun p => if qrt k p = some p then 1 else 0) y))]) hx hb dX2_look_201 hl (k := 3) rfl (nI_inc y) (by decide) rfl (fun ls hl => ?_)
                  refine lv_goto (tgt := 56) hx hb dX2_look_204 (by decide) ?_
                  exact ih_lp (y + 1) Q2 L2 H2 M2 R2 S2 (by omega) (fun x hx => by rw [qpt_skip (no_root hx hnr)]; exact hQ2 x hx) (fun x hx hx2 => by rcases Nat.lt_or_ge x y with q9 | q9; exact hL2 x q9 hx2; have e9 : x = y := (by omega); subst e9; exact absurd hx2 hnr) (fun x hx hx2 => by rcases Nat.lt_or_ge x y with q9 | q9; exact hH2 x q9 hx2; have e9 : x = y := (by omega); subst e9; exact absurd hx2 hnr) (fun x hx hx2 => by rcases Nat.lt_or_ge x y with q9 | q9; exact hM2 x q9 hx2; have e9 : x = y := (by omega); subst e9; exact absurd hx2 hnr) (by omega) _ _ _ hP hD hS (lv_sub hl [1, 2, 3, 0] (by rw [show csum (fun p => if qrt k p = some p then 1 else 0) (y + 1) = csum (fun p => if qrt k p = some p then 1 else 0) y from by rw [csum]; rw [if_neg hnr]; exact Int32.add_zero _]; rfl))
                · skip
                  have g9 : y = j := by omega
                  subst g9
                  refine tpi (x' := -1) (qpt_out hj (Nat.le_refl y)) ?_
                  refine lv_iconst (v := (-1)) hx hb dX2_look_77 (by decide) ?_
                  refine lv_icmp_eq (tgt := 84) hx hb dX2_look_78 (by decide) (fun _ => ?_) (fun c => absurd (rfl) c)
                  refine lv_iinc (v := csum (fun p => if qrt k p = some p then 1 else 0) (y + 1)) (lv' := [(2, .int (csum (fun p => if qrt k p = some p then 1 else 0) (y + 1))), (0, .ref (b 0)), (1, .ref ac), (3, .int (nI y))]) hx hb dX2_look_84 hl (k := 2) rfl (by rw [inc1, csum]; rw [if_pos hj]) (by decide) rfl (fun ls hl => ?_)
                  refine lv_aload_n hx hb dX2_look_87 rfl (lv_at hl 1 rfl) ?_
                  refine va_get (D := G) (ci := 2) (v := .ref (b 9)) (C := RX2) (T := TX2) (N := 14) hx hb hts hinX2 hown hK hP 0 rfl rfl 9 (by decide) hf29 (fun _ h9 => h9) rfl dX2_look_88 ?_
                  refine lv_iload_n hx hb dX2_look_91 rfl (lv_at hl 3 rfl) ?_
                  refine lv_aload_n hx hb dX2_look_92 rfl (lv_at hl 1 rfl) ?_
                  refine lv_aload_n hx hb dX2_look_93 rfl (lv_at hl 2 rfl) ?_
                  refine lv_iload_n hx hb dX2_look_94 rfl (lv_at hl 3 rfl) ?_
                  refine lv_iconst (v := 1) hx hb dX2_look_95 (by decide) ?_
                  refine tpi (x' := b2i true) (rfl) ?_
                  refine cw_i (wr := [((b 7), iA cI Q2), ((b 8), iA cI P1), ((b 9), iA cI L2), ((b 10), iA cI H2), ((b 11), iA cI M2)]) (va_runV (As := [.ref ac, .int (nI y), .int (b2i true)]) (rest := [.int (nI y), .ref (b 9)]) FX (c_X2_fill l G cI b ac th mo co le X R2 S2 k true y hk hkd g _) (cwV 3 hts gX2_look_X2_fill rfl rfl rfl (by decide +kernel) ⟨Nat.le_of_ble_eq_true rfl, Nat.le_of_ble_eq_true rfl⟩) (wrV hK hP hD hN [0, 1, 7, 8] (by decide) rfl rfl (ci := 2) (q0 := 0) rfl rfl) rfl rfl hl.1 rfl (lv_room (Nat.le_of_ble_eq_true rfl)) dX2_look_96 ⟨hzc, hzs⟩) hS hP hD hA [0, 1, 7, 8] [2, 3, 4, 5, 6] rfl rfl (by decide) (by decide) (fun r4 u H locs hw hP hD hS => ?_)
                  obtain ⟨R4, S4⟩ := u
                  obtain ⟨en, row, hr4, hF⟩ := hw
                  have hP := hP.sub (ws' := [((b 0), oM b th mo co le), (ac, iA cI X), ((b 7), iA cI Q2), ((b 8), iA cI P1), ((b 9), iA cI L2), ((b 10), iA cI H2), ((b 11), iA cI M2), ((b 12), iA cI R4), ((b 13), iA cI S4)]) [5, 6, 0, 1, 2, 3, 4, 7, 8] rfl
                  have hD := hD.sub (ws' := [((b 0), oM b th mo co le), (ac, iA cI X), ((b 7), iA cI Q2), ((b 8), iA cI P1), ((b 9), iA cI L2), ((b 10), iA cI H2), ((b 11), iA cI M2), ((b 12), iA cI R4), ((b 13), iA cI S4)]) [5, 6, 0, 1, 2, 3, 4, 7, 8] (by decide) rfl
                  refine tpi (x' := nI en) (hr4) ?_
                  obtain ⟨f1, f2, f3, f4, f5, -⟩ := hF
                  try dsimp only at f2
                  refine va_iast hx hb hK hP hD hS 4 0 rfl rfl (vp_in_nI g (by decide)) dX2_look_99 (fun H locs hP hD hS => ?_)
                  rw [show ((nI y)).toNatClampNeg = y from nI_clamp (by omega)] at hP hD
                  have hP : va_P G vwCl [((b 0), oM b th mo co le), (ac, iA cI X), ((b 7), iA cI Q2), ((b 8), iA cI P1), ((b 9), iA cI (upd L2 y (nI en))), ((b 10), iA cI H2), ((b 11), iA cI M2), ((b 12), iA cI R4), ((b 13), iA cI S4)] H := hP
                  have hD : va_D A [((b 0), oM b th mo co le), (ac, iA cI X), ((b 7), iA cI Q2), ((b 8), iA cI P1), ((b 9), iA cI (upd L2 y (nI en))), ((b 10), iA cI H2), ((b 11), iA cI M2), ((b 12), iA cI R4), ((b 13), iA cI S4)] := hD
                  refine lv_aload_n hx hb dX2_look_100 rfl (lv_at hl 1 rfl) ?_
                  refine va_get (D := G) (ci := 2) (v := .ref (b 10)) (C := RX2) (T := TX2) (N := 14) hx hb hts hinX2 hown hK hP 0 rfl rfl 10 (by decide) hf32 (fun _ h9 => h9) rfl dX2_look_101 ?_
                  refine lv_iload_n hx hb dX2_look_104 rfl (lv_at hl 3 rfl) ?_
                  refine lv_iconst (v := 0) hx hb dX2_look_105 (by decide) ?_
                  refine va_iast hx hb hK hP hD hS 5 0 rfl rfl (vp_in_nI g (by decide)) dX2_look_106 (fun H locs hP hD hS => ?_)
                  rw [show ((nI y)).toNatClampNeg = y from nI_clamp (by omega)] at hP hD
                  have hP : va_P G vwCl [((b 0), oM b th mo co le), (ac, iA cI X), ((b 7), iA cI Q2), ((b 8), iA cI P1), ((b 9), iA cI (upd L2 y (nI en))), ((b 10), iA cI (upd H2 y 0)), ((b 11), iA cI M2), ((b 12), iA cI R4), ((b 13), iA cI S4)] H := hP
                  have hD : va_D A [((b 0), oM b th mo co le), (ac, iA cI X), ((b 7), iA cI Q2), ((b 8), iA cI P1), ((b 9), iA cI (upd L2 y (nI en))), ((b 10), iA cI (upd H2 y 0)), ((b 11), iA cI M2), ((b 12), iA cI R4), ((b 13), iA cI S4)] := hD
                  refine lv_aload_n hx hb dX2_look_107 rfl (lv_at hl 1 rfl) ?_
                  refine va_get (D := G) (ci := 2) (v := .ref (b 11)) (C := RX2) (T := TX2) (N := 14) hx hb hts hinX2 hown hK hP 0 rfl rfl 11 (by decide) hf35 (fun _ h9 => h9) rfl dX2_look_108 ?_
                  refine lv_iload_n hx hb dX2_look_111 rfl (lv_at hl 3 rfl) ?_
                  refine lv_iconst (v := 0) hx hb dX2_look_112 (by decide) ?_
                  refine va_iast hx hb hK hP hD hS 6 0 rfl rfl (vp_in_nI g (by decide)) dX2_look_113 (fun H locs hP hD hS => ?_)
                  rw [show ((nI y)).toNatClampNeg = y from nI_clamp (by omega)] at hP hD
                  have hP : va_P G vwCl [((b 0), oM b th mo co le), (ac, iA cI X), ((b 7), iA cI Q2), ((b 8), iA cI P1), ((b 9), iA cI (upd L2 y (nI en))), ((b 10), iA cI (upd H2 y 0)), ((b 11), iA cI (upd M2 y 0)), ((b 12), iA cI R4), ((b 13), iA cI S4)] H := hP
                  have hD : va_D A [((b 0), oM b th mo co le), (ac, iA cI X), ((b 7), iA cI Q2), ((b 8), iA cI P1), ((b 9), iA cI (upd L2 y (nI en))), ((b 10), iA cI (upd H2 y 0)), ((b 11), iA cI (upd M2 y 0)), ((b 12), iA cI R4), ((b 13), iA cI S4)] := hD
                  refine lv_iconst (v := 0) hx hb dX2_look_114 (by decide) ?_
                  refine tpi (x' := nI 0) (rfl) ?_
                  refine lv_istore (lv' := [(4, .int (nI 0)), (2, .int (csum (fun p => if qrt k p = some p then 1 else 0) (y + 1))), (0, .ref (b 0)), (1, .ref ac), (3, .int (nI y))]) hx hb dX2_look_115 hl (by decide) rfl (fun ls hl => ?_)
                  have lq : ∀ (n : Nat) (t : Nat) (Q3 H3 M3 : Nat → Int32), (ht : t ≤ en) → (hQa : ∀ x, x < 64 → (∃ z, z < t ∧ row z = x) → Q3 x = nI y) → (hQb : ∀ x, x < 64 → ¬ (∃ z, z < t ∧ row z = x) → Q3 x = qpt k y x) → (hHa : H3 y = csum (fun z => if k (row z) = 3 then 1 else 0) t) → (hHb : ∀ x, x ≠ y → H3 x = H2 x) → (hMa : M3 y = csum (fun z => if k (row z) = 5 then 1 else 0) t) → (hMb : ∀ x, x ≠ y → M3 x = M2 x) → (en - t) < n → ∀ (H : Heap) (locs : List Loc) (ls : Array Slot), va_P G vwCl [((b 0), oM b th mo co le), (ac, iA cI X), ((b 7), iA cI Q3), ((b 8), iA cI P1), ((b 9), iA cI (upd L2 y (nI en))), ((b 10), iA cI H3), ((b 11), iA cI M3), ((b 12), iA cI R4), ((b 13), iA cI S4)] H → va_D A [((b 0), oM b th mo co le), (ac, iA cI X), ((b 7), iA cI Q3), ((b 8), iA cI P1), ((b 9), iA cI (upd L2 y (nI en))), ((b 10), iA cI H3), ((b 11), iA cI M3), ((b 12), iA cI R4), ((b 13), iA cI S4)] → va_S A s.heap H locs → lv_has ls 5 [(0, .ref (b 0)), (1, .ref ac), (2, .int (csum (fun p => if qrt k p = some p then 1 else 0) (y + 1))), (3, .int (nI y)), (4, .int (nI t))] → W p l e (headSpec wsX2_look rmX2_look).room s m ([.ref (b 0), .ref ac] : List Value).toArray below meth c H locs 0 0 Q (F0 m 117 ls []) := by
                    intro n
                    induction n with
                    | zero => intro t Q3 H3 M3 ht hQa hQb hHa hHb hMa hMb hn; exact absurd hn (by omega)
                    | succ n ih_lq =>
                      intro t Q3 H3 M3 ht hQa hQb hHa hHb hMa hMb hn H locs ls hP hD hS hl
                      refine lv_iload hx hb dX2_look_117 (lv_at hl 4 rfl) ?_
                      refine lv_aload_n hx hb dX2_look_119 rfl (lv_at hl 0 rfl) ?_
                      refine va_get (D := G) (ci := 2) (v := .ref (b 9)) (C := RX2) (T := TX2) (N := 14) hx hb hts hinX2 hown hK hP 0 rfl rfl 9 (by decide) hf29 (fun _ h9 => h9) rfl dX2_look_120 ?_
                      refine lv_iload_n hx hb dX2_look_123 rfl (lv_at hl 3 rfl) ?_
                      refine va_iald hx hb hK hP 4 0 rfl rfl (vp_in_nI g (by decide)) dX2_look_124 ?_
                      refine tpi (x' := (upd L2 y (nI en)) y) (congrArg (upd L2 y (nI en)) (nI_clamp (by omega))) ?_
                      refine tpi (x' := nI en) (pk_us) ?_
                      rcases Nat.lt_or_ge t en with gt | gt
                      · skip
                        refine lv_icmp_ge (tgt := 201) hx hb dX2_look_125 (by decide) (fun c => absurd c (lt_n gt (by omega))) (fun _ => ?_)
                        have hrt := f1 t gt
                        refine lv_aload_n hx hb dX2_look_128 rfl (lv_at hl 0 rfl) ?_
                        refine va_get (D := G) (ci := 2) (v := .ref (b 7)) (C := RX2) (T := TX2) (N := 14) hx hb hts hinX2 hown hK hP 0 rfl rfl 7 (by decide) hf23 (fun _ h9 => h9) rfl dX2_look_129 ?_
                        refine lv_aload_n hx hb dX2_look_132 rfl (lv_at hl 0 rfl) ?_
                        refine va_get (D := G) (ci := 2) (v := .ref (b 12)) (C := RX2) (T := TX2) (N := 14) hx hb hts hinX2 hown hK hP 0 rfl rfl 12 (by decide) hf38 (fun _ h9 => h9) rfl dX2_look_133 ?_
                        refine lv_iload hx hb dX2_look_136 (lv_at hl 4 rfl) ?_
                        refine va_iald hx hb hK hP 7 0 rfl rfl (vp_in_nI (n := t) (by omega) (by decide)) dX2_look_138 ?_
                        refine tpi (x' := R4 t) (congrArg R4 (nI_clamp (by omega))) ?_
                        refine tpi (x' := nI (row t)) (f2 t gt) ?_
                        refine lv_iload_n hx hb dX2_look_139 rfl (lv_at hl 3 rfl) ?_
                        refine va_iast hx hb hK hP hD hS 2 0 rfl rfl (vp_in_nI hrt (by decide)) dX2_look_140 (fun H locs hP hD hS => ?_)
                        rw [show ((nI (row t))).toNatClampNeg = (row t) from nI_clamp (by omega)] at hP hD
                        have hP : va_P G vwCl [((b 0), oM b th mo co le), (ac, iA cI X), ((b 7), iA cI (upd Q3 (row t) (nI y))), ((b 8), iA cI P1), ((b 9), iA cI (upd L2 y (nI en))), ((b 10), iA cI H3), ((b 11), iA cI M3), ((b 12), iA cI R4), ((b 13), iA cI S4)] H := hP
                        have hD : va_D A [((b 0), oM b th mo co le), (ac, iA cI X), ((b 7), iA cI (upd Q3 (row t) (nI y))), ((b 8), iA cI P1), ((b 9), iA cI (upd L2 y (nI en))), ((b 10), iA cI H3), ((b 11), iA cI M3), ((b 12), iA cI R4), ((b 13), iA cI S4)] := hD
                        refine lv_aload_n hx hb dX2_look_141 rfl (lv_at hl 0 rfl) ?_
                        refine va_get (D := G) (ci := 2) (v := .ref (b 10)) (C := RX2) (T := TX2) (N := 14) hx hb hts hinX2 hown hK hP 0 rfl rfl 10 (by decide) hf32 (fun _ h9 => h9) rfl dX2_look_142 ?_
                        refine lv_iload_n hx hb dX2_look_145 rfl (lv_at hl 3 rfl) ?_
                        refine lv_dup2_11 hx hb dX2_look_146 rfl rfl ?_
                        refine va_iald hx hb hK hP 5 0 rfl rfl (vp_in_nI g (by decide)) dX2_look_147 ?_
                        refine tpi (x' := H3 y) (congrArg H3 (nI_clamp (by omega))) ?_
                        refine lv_aload_n hx hb dX2_look_148 rfl (lv_at hl 1 rfl) ?_
                        refine lv_aload_n hx hb dX2_look_149 rfl (lv_at hl 0 rfl) ?_
                        refine va_get (D := G) (ci := 2) (v := .ref (b 12)) (C := RX2) (T := TX2) (N := 14) hx hb hts hinX2 hown hK hP 0 rfl rfl 12 (by decide) hf38 (fun _ h9 => h9) rfl dX2_look_150 ?_
                        refine lv_iload hx hb dX2_look_153 (lv_at hl 4 rfl) ?_
                        refine va_iald hx hb hK hP 7 0 rfl rfl (vp_in_nI (n := t) (by omega) (by decide)) dX2_look_155 ?_
                        refine tpi (x' := R4 t) (congrArg R4 (nI_clamp (by omega))) ?_
                        refine tpi (x' := nI (row t)) (f2 t gt) ?_
                        refine va_iald hx hb hK hP 1 0 rfl rfl (vp_in_nI hrt (by decide)) dX2_look_156 ?_
                        refine tpi (x' := X (row t)) (congrArg X (nI_clamp (by omega))) ?_
                        refine tpi (x' := k (row t)) (hk (row t) hrt) ?_
                        refine lv_iconst (v := 3) hx hb dX2_look_157 (by decide) ?_
                        refine lv_icmp_ne (tgt := 165) hx hb dX2_look_158 (by decide) (fun c3 => ?_) (fun c3 => ?_)
                        · skip
                          refine lv_iconst (v := 0) hx hb dX2_look_165 (by decide) ?_
                          refine lv_iadd hx hb dX2_look_166 ?_
                          refine tpi (x' := H3 y + (if k (row t) = 3 then 1 else 0)) (by rw [if_neg c3]) ?_
                          refine va_iast hx hb hK hP hD hS 5 0 rfl rfl (vp_in_nI g (by decide)) dX2_look_167 (fun H locs hP hD hS => ?_)
                          rw [show ((nI y)).toNatClampNeg = y from nI_clamp (by omega)] at hP hD
                          have hP : va_P G vwCl [((b 0), oM b th mo co le), (ac, iA cI X), ((b 7), iA cI (upd Q3 (row t) (nI y))), ((b 8), iA cI P1), ((b 9), iA cI (upd L2 y (nI en))), ((b 10), iA cI (upd H3 y (H3 y + (if k (row t) = 3 then 1 else 0)))), ((b 11), iA cI M3), ((b 12), iA cI R4), ((b 13), iA cI S4)] H := hP
                          have hD : va_D A [((b 0), oM b th mo co le), (ac, iA cI X), ((b 7), iA cI (upd Q3 (row t) (nI y))), ((b 8), iA cI P1), ((b 9), iA cI (upd L2 y (nI en))), ((b 10), iA cI (upd H3 y (H3 y + (if k (row t) = 3 then 1 else 0)))), ((b 11), iA cI M3), ((b 12), iA cI R4), ((b 13), iA cI S4)] := hD
                          refine lv_aload_n hx hb dX2_look_168 rfl (lv_at hl 0 rfl) ?_
                          refine va_get (D := G) (ci := 2) (v := .ref (b 11)) (C := RX2) (T := TX2) (N := 14) hx hb hts hinX2 hown hK hP 0 rfl rfl 11 (by decide) hf35 (fun _ h9 => h9) rfl dX2_look_169 ?_
                          refine lv_iload_n hx hb dX2_look_172 rfl (lv_at hl 3 rfl) ?_
                          refine lv_dup2_11 hx hb dX2_look_173 rfl rfl ?_
                          refine va_iald hx hb hK hP 6 0 rfl rfl (vp_in_nI g (by decide)) dX2_look_174 ?_
                          refine tpi (x' := M3 y) (congrArg M3 (nI_clamp (by omega))) ?_
                          refine lv_aload_n hx hb dX2_look_175 rfl (lv_at hl 1 rfl) ?_
                          refine lv_aload_n hx hb dX2_look_176 rfl (lv_at hl 0 rfl) ?_
                          refine va_get (D := G) (ci := 2) (v := .ref (b 12)) (C := RX2) (T := TX2) (N := 14) hx hb hts hinX2 hown hK hP 0 rfl rfl 12 (by decide) hf38 (fun _ h9 => h9) rfl dX2_look_177 ?_
                          refine lv_iload hx hb dX2_look_180 (lv_at hl 4 rfl) ?_
                          refine va_iald hx hb hK hP 7 0 rfl rfl (vp_in_nI (n := t) (by omega) (by decide)) dX2_look_182 ?_
                          refine tpi (x' := R4 t) (congrArg R4 (nI_clamp (by omega))) ?_
                          refine tpi (x' := nI (row t)) (f2 t gt) ?_
                          refine va_iald hx hb hK hP 1 0 rfl rfl (vp_in_nI hrt (by decide)) dX2_look_183 ?_
                          refine tpi (x' := X (row t)) (congrArg X (nI_clamp (by omega))) ?_
                          refine tpi (x' := k (row t)) (hk (row t) hrt) ?_
                          refine lv_iconst (v := 5) hx hb dX2_look_184 (by decide) ?_
                          refine lv_icmp_ne (tgt := 192) hx hb dX2_look_185 (by decide) (fun c5 => ?_) (fun c5 => ?_)
                          · skip
                            refine lv_iconst (v := 0) hx hb dX2_look_192 (by decide) ?_
                            refine lv_iadd hx hb dX2_look_193 ?_
                            refine tpi (x' := M3 y + (if k (row t) = 5 then 1 else 0)) (by rw [if_neg c5]) ?_
                            refine va_iast hx hb hK hP hD hS 6 0 rfl rfl (vp_in_nI g (by decide)) dX2_look_194 (fun H locs hP hD hS => ?_)
                            rw [show ((nI y)).toNatClampNeg = y from nI_clamp (by omega)] at hP hD
                            have hP : va_P G vwCl [((b 0), oM b th mo co le), (ac, iA cI X), ((b 7), iA cI (upd Q3 (row t) (nI y))), ((b 8), iA cI P1), ((b 9), iA cI (upd L2 y (nI en))), ((b 10), iA cI (upd H3 y (H3 y + (if k (row t) = 3 then 1 else 0)))), ((b 11), iA cI (upd M3 y (M3 y + (if k (row t) = 5 then 1 else 0)))), ((b 12), iA cI R4), ((b 13), iA cI S4)] H := hP
                            have hD : va_D A [((b 0), oM b th mo co le), (ac, iA cI X), ((b 7), iA cI (upd Q3 (row t) (nI y))), ((b 8), iA cI P1), ((b 9), iA cI (upd L2 y (nI en))), ((b 10), iA cI (upd H3 y (H3 y + (if k (row t) = 3 then 1 else 0)))), ((b 11), iA cI (upd M3 y (M3 y + (if k (row t) = 5 then 1 else 0)))), ((b 12), iA cI R4), ((b 13), iA cI S4)] := hD
                            refine lv_iinc (v := nI (t + 1)) (lv' := [(4, .int (nI (t + 1))), (0, .ref (b 0)), (1, .ref ac), (2, .int (csum (fun p => if qrt k p = some p then 1 else 0) (y + 1))), (3, .int (nI y))]) hx hb dX2_look_195 hl (k := 4) rfl (nI_inc t) (by decide) rfl (fun ls hl => ?_)
                            refine lv_goto (tgt := 117) hx hb dX2_look_198 (by decide) ?_
                            exact ih_lq (t + 1) (upd Q3 (row t) (nI y)) (upd H3 y (H3 y + (if k (row t) = 3 then 1 else 0))) (upd M3 y (M3 y + (if k (row t) = 5 then 1 else 0))) (by omega) (fun x hx h9 => by by_cases e9 : x = row t; rw [e9, pk_us]; rw [pk_un e9]; obtain ⟨z, hz, he⟩ := h9; exact hQa x hx ⟨z, by rcases Nat.lt_or_ge z t with q9 | q9; exact q9; exact absurd (by rw [← he, show z = t by omega]) e9, he⟩) (fun x hx h9 => by rw [pk_un (fun e => h9 ⟨t, Nat.lt_succ_self t, e.symm⟩)]; exact hQb x hx (fun e => by obtain ⟨z, hz, he⟩ := e; exact h9 ⟨z, by omega, he⟩)) (by rw [pk_us, hHa]; rfl) (fun x hx => by rw [pk_un hx]; exact hHb x hx) (by rw [pk_us, hMa]; rfl) (fun x hx => by rw [pk_un hx]; exact hMb x hx) (by omega) _ _ _ hP hD hS (lv_sub hl [1, 2, 3, 4, 0] (rfl))
                          · skip
                            refine lv_iconst (v := 1) hx hb dX2_look_188 (by decide) ?_
                            refine lv_goto (tgt := 193) hx hb dX2_look_189 (by decide) ?_
                            refine lv_iadd hx hb dX2_look_193 ?_
                            refine tpi (x' := M3 y + (if k (row t) = 5 then 1 else 0)) (by rw [if_pos c5]) ?_
                            refine va_iast hx hb hK hP hD hS 6 0 rfl rfl (vp_in_nI g (by decide)) dX2_look_194 (fun H locs hP hD hS => ?_)
                            rw [show ((nI y)).toNatClampNeg = y from nI_clamp (by omega)] at hP hD
                            have hP : va_P G vwCl [((b 0), oM b th mo co le), (ac, iA cI X), ((b 7), iA cI (upd Q3 (row t) (nI y))), ((b 8), iA cI P1), ((b 9), iA cI (upd L2 y (nI en))), ((b 10), iA cI (upd H3 y (H3 y + (if k (row t) = 3 then 1 else 0)))), ((b 11), iA cI (upd M3 y (M3 y + (if k (row t) = 5 then 1 else 0)))), ((b 12), iA cI R4), ((b 13), iA cI S4)] H := hP
                            have hD : va_D A [((b 0), oM b th mo co le), (ac, iA cI X), ((b 7), iA cI (upd Q3 (row t) (nI y))), ((b 8), iA cI P1), ((b 9), iA cI (upd L2 y (nI en))), ((b 10), iA cI (upd H3 y (H3 y + (if k (row t) = 3 then 1 else 0)))), ((b 11), iA cI (upd M3 y (M3 y + (if k (row t) = 5 then 1 else 0)))), ((b 12), iA cI R4), ((b 13), iA cI S4)] := hD
                            refine lv_iinc (v := nI (t + 1)) (lv' := [(4, .int (nI (t + 1))), (0, .ref (b 0)), (1, .ref ac), (2, .int (csum (fun p => if qrt k p = some p then 1 else 0) (y + 1))), (3, .int (nI y))]) hx hb dX2_look_195 hl (k := 4) rfl (nI_inc t) (by decide) rfl (fun ls hl => ?_)
                            refine lv_goto (tgt := 117) hx hb dX2_look_198 (by decide) ?_
                            exact ih_lq (t + 1) (upd Q3 (row t) (nI y)) (upd H3 y (H3 y + (if k (row t) = 3 then 1 else 0))) (upd M3 y (M3 y + (if k (row t) = 5 then 1 else 0))) (by omega) (fun x hx h9 => by by_cases e9 : x = row t; rw [e9, pk_us]; rw [pk_un e9]; obtain ⟨z, hz, he⟩ := h9; exact hQa x hx ⟨z, by rcases Nat.lt_or_ge z t with q9 | q9; exact q9; exact absurd (by rw [← he, show z = t by omega]) e9, he⟩) (fun x hx h9 => by rw [pk_un (fun e => h9 ⟨t, Nat.lt_succ_self t, e.symm⟩)]; exact hQb x hx (fun e => by obtain ⟨z, hz, he⟩ := e; exact h9 ⟨z, by omega, he⟩)) (by rw [pk_us, hHa]; rfl) (fun x hx => by rw [pk_un hx]; exact hHb x hx) (by rw [pk_us, hMa]; rfl) (fun x hx => by rw [pk_un hx]; exact hMb x hx) (by omega) _ _ _ hP hD hS (lv_sub hl [1, 2, 3, 4, 0] (rfl))
                        · skip
                          refine lv_iconst (v := 1) hx hb dX2_look_161 (by decide) ?_
                          refine lv_goto (tgt := 166) hx hb dX2_look_162 (by decide) ?_
                          refine lv_iadd hx hb dX2_look_166 ?_
                          refine tpi (x' := H3 y + (if k (row t) = 3 then 1 else 0)) (by rw [if_pos c3]) ?_
                          refine va_iast hx hb hK hP hD hS 5 0 rfl rfl (vp_in_nI g (by decide)) dX2_look_167 (fun H locs hP hD hS => ?_)
                          rw [show ((nI y)).toNatClampNeg = y from nI_clamp (by omega)] at hP hD
                          have hP : va_P G vwCl [((b 0), oM b th mo co le), (ac, iA cI X), ((b 7), iA cI (upd Q3 (row t) (nI y))), ((b 8), iA cI P1), ((b 9), iA cI (upd L2 y (nI en))), ((b 10), iA cI (upd H3 y (H3 y + (if k (row t) = 3 then 1 else 0)))), ((b 11), iA cI M3), ((b 12), iA cI R4), ((b 13), iA cI S4)] H := hP
                          have hD : va_D A [((b 0), oM b th mo co le), (ac, iA cI X), ((b 7), iA cI (upd Q3 (row t) (nI y))), ((b 8), iA cI P1), ((b 9), iA cI (upd L2 y (nI en))), ((b 10), iA cI (upd H3 y (H3 y + (if k (row t) = 3 then 1 else 0)))), ((b 11), iA cI M3), ((b 12), iA cI R4), ((b 13), iA cI S4)] := hD
                          refine lv_aload_n hx hb dX2_look_168 rfl (lv_at hl 0 rfl) ?_
                          refine va_get (D := G) (ci := 2) (v := .ref (b 11)) (C := RX2) (T := TX2) (N := 14) hx hb hts hinX2 hown hK hP 0 rfl rfl 11 (by decide) hf35 (fun _ h9 => h9) rfl dX2_look_169 ?_
                          refine lv_iload_n hx hb dX2_look_172 rfl (lv_at hl 3 rfl) ?_
                          refine lv_dup2_11 hx hb dX2_look_173 rfl rfl ?_
                          refine va_iald hx hb hK hP 6 0 rfl rfl (vp_in_nI g (by decide)) dX2_look_174 ?_
                          refine tpi (x' := M3 y) (congrArg M3 (nI_clamp (by omega))) ?_
                          refine lv_aload_n hx hb dX2_look_175 rfl (lv_at hl 1 rfl) ?_
                          refine lv_aload_n hx hb dX2_look_176 rfl (lv_at hl 0 rfl) ?_
                          refine va_get (D := G) (ci := 2) (v := .ref (b 12)) (C := RX2) (T := TX2) (N := 14) hx hb hts hinX2 hown hK hP 0 rfl rfl 12 (by decide) hf38 (fun _ h9 => h9) rfl dX2_look_177 ?_
                          refine lv_iload hx hb dX2_look_180 (lv_at hl 4 rfl) ?_
                          refine va_iald hx hb hK hP 7 0 rfl rfl (vp_in_nI (n := t) (by omega) (by decide)) dX2_look_182 ?_
                          refine tpi (x' := R4 t) (congrArg R4 (nI_clamp (by omega))) ?_
                          refine tpi (x' := nI (row t)) (f2 t gt) ?_
                          refine va_iald hx hb hK hP 1 0 rfl rfl (vp_in_nI hrt (by decide)) dX2_look_183 ?_
                          refine tpi (x' := X (row t)) (congrArg X (nI_clamp (by omega))) ?_
                          refine tpi (x' := k (row t)) (hk (row t) hrt) ?_
                          refine lv_iconst (v := 5) hx hb dX2_look_184 (by decide) ?_
                          refine lv_icmp_ne (tgt := 192) hx hb dX2_look_185 (by decide) (fun c5 => ?_) (fun c5 => ?_)
                          · skip
                            refine lv_iconst (v := 0) hx hb dX2_look_192 (by decide) ?_
                            refine lv_iadd hx hb dX2_look_193 ?_
                            refine tpi (x' := M3 y + (if k (row t) = 5 then 1 else 0)) (by rw [if_neg c5]) ?_
                            refine va_iast hx hb hK hP hD hS 6 0 rfl rfl (vp_in_nI g (by decide)) dX2_look_194 (fun H locs hP hD hS => ?_)
                            rw [show ((nI y)).toNatClampNeg = y from nI_clamp (by omega)] at hP hD
                            have hP : va_P G vwCl [((b 0), oM b th mo co le), (ac, iA cI X), ((b 7), iA cI (upd Q3 (row t) (nI y))), ((b 8), iA cI P1), ((b 9), iA cI (upd L2 y (nI en))), ((b 10), iA cI (upd H3 y (H3 y + (if k (row t) = 3 then 1 else 0)))), ((b 11), iA cI (upd M3 y (M3 y + (if k (row t) = 5 then 1 else 0)))), ((b 12), iA cI R4), ((b 13), iA cI S4)] H := hP
                            have hD : va_D A [((b 0), oM b th mo co le), (ac, iA cI X), ((b 7), iA cI (upd Q3 (row t) (nI y))), ((b 8), iA cI P1), ((b 9), iA cI (upd L2 y (nI en))), ((b 10), iA cI (upd H3 y (H3 y + (if k (row t) = 3 then 1 else 0)))), ((b 11), iA cI (upd M3 y (M3 y + (if k (row t) = 5 then 1 else 0)))), ((b 12), iA cI R4), ((b 13), iA cI S4)] := hD
                            refine lv_iinc (v := nI (t + 1)) (lv' := [(4, .int (nI (t + 1))), (0, .ref (b 0)), (1, .ref ac), (2, .int (csum (fun p => if qrt k p = some p then 1 else 0) (y + 1))), (3, .int (nI y))]) hx hb dX2_look_195 hl (k := 4) rfl (nI_inc t) (by decide) rfl (fun ls hl => ?_)
                            refine lv_goto (tgt := 117) hx hb dX2_look_198 (by decide) ?_
                            exact ih_lq (t + 1) (upd Q3 (row t) (nI y)) (upd H3 y (H3 y + (if k (row t) = 3 then 1 else 0))) (upd M3 y (M3 y + (if k (row t) = 5 then 1 else 0))) (by omega) (fun x hx h9 => by by_cases e9 : x = row t; rw [e9, pk_us]; rw [pk_un e9]; obtain ⟨z, hz, he⟩ := h9; exact hQa x hx ⟨z, by rcases Nat.lt_or_ge z t with q9 | q9; exact q9; exact absurd (by rw [← he, show z = t by omega]) e9, he⟩) (fun x hx h9 => by rw [pk_un (fun e => h9 ⟨t, Nat.lt_succ_self t, e.symm⟩)]; exact hQb x hx (fun e => by obtain ⟨z, hz, he⟩ := e; exact h9 ⟨z, by omega, he⟩)) (by rw [pk_us, hHa]; rfl) (fun x hx => by rw [pk_un hx]; exact hHb x hx) (by rw [pk_us, hMa]; rfl) (fun x hx => by rw [pk_un hx]; exact hMb x hx) (by omega) _ _ _ hP hD hS (lv_sub hl [1, 2, 3, 4, 0] (rfl))
                          · skip
                            refine lv_iconst (v := 1) hx hb dX2_look_188 (by decide) ?_
                            refine lv_goto (tgt := 193) hx hb dX2_look_189 (by decide) ?_
                            refine lv_iadd hx hb dX2_look_193 ?_
                            refine tpi (x' := M3 y + (if k (row t) = 5 then 1 else 0)) (by rw [if_pos c5]) ?_
                            refine va_iast hx hb hK hP hD hS 6 0 rfl rfl (vp_in_nI g (by decide)) dX2_look_194 (fun H locs hP hD hS => ?_)
                            rw [show ((nI y)).toNatClampNeg = y from nI_clamp (by omega)] at hP hD
                            have hP : va_P G vwCl [((b 0), oM b th mo co le), (ac, iA cI X), ((b 7), iA cI (upd Q3 (row t) (nI y))), ((b 8), iA cI P1), ((b 9), iA cI (upd L2 y (nI en))), ((b 10), iA cI (upd H3 y (H3 y + (if k (row t) = 3 then 1 else 0)))), ((b 11), iA cI (upd M3 y (M3 y + (if k (row t) = 5 then 1 else 0)))), ((b 12), iA cI R4), ((b 13), iA cI S4)] H := hP
                            have hD : va_D A [((b 0), oM b th mo co le), (ac, iA cI X), ((b 7), iA cI (upd Q3 (row t) (nI y))), ((b 8), iA cI P1), ((b 9), iA cI (upd L2 y (nI en))), ((b 10), iA cI (upd H3 y (H3 y + (if k (row t) = 3 then 1 else 0)))), ((b 11), iA cI (upd M3 y (M3 y + (if k (row t) = 5 then 1 else 0)))), ((b 12), iA cI R4), ((b 13), iA cI S4)] := hD
                            refine lv_iinc (v := nI (t + 1)) (lv' := [(4, .int (nI (t + 1))), (0, .ref (b 0)), (1, .ref ac), (2, .int (csum (fun p => if qrt k p = some p then 1 else 0) (y + 1))), (3, .int (nI y))]) hx hb dX2_look_195 hl (k := 4) rfl (nI_inc t) (by decide) rfl (fun ls hl => ?_)
                            refine lv_goto (tgt := 117) hx hb dX2_look_198 (by decide) ?_
                            exact ih_lq (t + 1) (upd Q3 (row t) (nI y)) (upd H3 y (H3 y + (if k (row t) = 3 then 1 else 0))) (upd M3 y (M3 y + (if k (row t) = 5 then 1 else 0))) (by omega) (fun x hx h9 => by by_cases e9 : x = row t; rw [e9, pk_us]; rw [pk_un e9]; obtain ⟨z, hz, he⟩ := h9; exact hQa x hx ⟨z, by rcases Nat.lt_or_ge z t with q9 | q9; exact q9; exact absurd (by rw [← he, show z = t by omega]) e9, he⟩) (fun x hx h9 => by rw [pk_un (fun e => h9 ⟨t, Nat.lt_succ_self t, e.symm⟩)]; exact hQb x hx (fun e => by obtain ⟨z, hz, he⟩ := e; exact h9 ⟨z, by omega, he⟩)) (by rw [pk_us, hHa]; rfl) (fun x hx => by rw [pk_un hx]; exact hHb x hx) (by rw [pk_us, hMa]; rfl) (fun x hx => by rw [pk_un hx]; exact hMb x hx) (by omega) _ _ _ hP hD hS (lv_sub hl [1, 2, 3, 4, 0] (rfl))
                      · skip
                        have gt9 : t = en := by omega
                        refine lv_icmp_ge (tgt := 201) hx hb dX2_look_125 (by decide) (fun _ => ?_) (fun c => absurd (le_n gt (by omega)) c)
                        refine lv_iinc (v := nI (y + 1)) (lv' := [(3, .int (nI (y + 1))), (0, .ref (b 0)), (1, .ref ac), (2, .int (csum (fun p => if qrt k p = some p then 1 else 0) (y + 1))), (4, .int (nI t))]) hx hb dX2_look_201 hl (k := 3) rfl (nI_inc y) (by decide) rfl (fun ls hl => ?_)
                        refine lv_goto (tgt := 56) hx hb dX2_look_204 (by decide) ?_
                        exact ih_lp (y + 1) Q3 (upd L2 y (nI en)) H3 M3 R4 S4 (by omega) (fun x hx => look_q g hj f4 (fun h9 => hQa x hx (by rw [gt9]; exact h9)) (fun h9 => hQb x hx (by rw [gt9]; exact h9))) (fun x hx hx2 => by by_cases e9 : x = y; rw [e9, pk_us]; exact look_l g hj f1 f3 f4; rw [pk_un e9]; exact hL2 x (by omega) hx2) (fun x hx hx2 => by by_cases e9 : x = y; rw [e9, hHa, gt9]; exact look_k 3 g hj f1 f3 f4; rw [hHb x e9]; exact hH2 x (by omega) hx2) (fun x hx hx2 => by by_cases e9 : x = y; rw [e9, hMa, gt9]; exact look_k 5 g hj f1 f3 f4; rw [hMb x e9]; exact hM2 x (by omega) hx2) (by omega) _ _ _ hP hD hS (lv_sub hl [1, 2, 3, 0] (rfl))
                  exact lq (_ + 1) 0 Q2 (upd H2 y 0) (upd M2 y 0) (by omega) (fun x _ h9 => by obtain ⟨z, hz, -⟩ := h9; exact absurd hz (Nat.not_lt_zero _)) (fun x hx _ => hQ2 x hx) (pk_us) (fun x hx => pk_un hx) (pk_us) (fun x hx => pk_un hx) (Nat.lt_succ_self _) _ _ _ hP hD hS (lv_sub hl [2, 3, 1, 4, 0] rfl)
            · skip
              have g9 : 64 = y := by omega
              subst g9
              refine lv_icmp_ge (tgt := 207) hx hb dX2_look_59 (by decide) (fun _ => ?_) (fun c => absurd (le_n (n := 64) (i := 64) (by decide) (by decide)) c)
              refine lv_iload_n hx hb dX2_look_207 rfl (lv_at hl 2 rfl) ?_
              subst hQ
              subst hAe
              exact wr_i (Q2, P1, L2, H2, M2, R2, S2) (⟨rfl, fun x hx => by rw [← qpt_64 hx]; exact hQ2 x hx, hP1, hL2, hH2, hM2⟩) hx hb hr hP hD hS hlocks dX2_look_208
        exact lp (_ + 1) 0 Q1 Lm Hm Mm R1 S1 (by omega) (fun x hx => by rw [hQ1 x hx, qpt_0]) (fun x hx => absurd hx (Nat.not_lt_zero _)) (fun x hx => absurd hx (Nat.not_lt_zero _)) (fun x hx => absurd hx (Nat.not_lt_zero _)) (Nat.lt_succ_self _) _ _ _ hP hD hS (lv_sub hl [2, 3, 1, 0] rfl)
  exact lo (_ + 1) 0 Qm Op (by omega) (fun x hx => absurd hx (Nat.not_lt_zero _)) (fun x hx => absurd hx (Nat.not_lt_zero _)) (Nat.lt_succ_self _) _ _ _ hP hD hS (lv_sub hl [1, 2, 0] rfl)

def rmX2_lotTold : Room := { frames := 6, cells := 0, slots := 0, locals := 134 }
set_option maxHeartbeats 4000000 in
set_option maxRecDepth 100000 in
/-- what lot tells -/
theorem c_X2_lotTold (l : Launch) (G : va_G) (cI : ClassId) (b : Nat → Nat) (th mo co le : Int32) (K Qm Op Lm Hm Mm Rw St k : Nat → Int32) (pt : Nat) (w : Int32) (hk : eqK K k) (hkd : ∀ x, x < 64 → kd (k x)) (hLK : LK k Qm Op Lm Hm Mm) (hpt : pt < 64) : Met l yX2_lotTold wsX2_lotTold rmX2_lotTold (va_Pc [.ref (b 0), .int (nI pt), .int w] (RdP G cI [((b 0), oM b th mo co le), ((b 4), iA cI K), ((b 7), iA cI Qm), ((b 8), iA cI Op), ((b 9), iA cI Lm), ((b 10), iA cI Hm), ((b 11), iA cI Mm), ((b 12), iA cI Rw), ((b 13), iA cI St)])) (RdQ (fct k pt w)) 0 0 No := by
  refine Met.ofW (cc := cX2_lotTold) (maxL := 4) (ret := (some .int)) (by decide) rfl ?_
  intro p e s m args below meth c s₁ B hml hv
  obtain ⟨rfl, hP, hK, hN⟩ := hv
  have hx := B.exec
  have hb := B.bytes
  have hr := B.returns
  have hlocks := B.notSynchronized
  have hts := atoms_spec (ws := wsX2_lotTold) B.pre
  have hown : s.vm.findClass RX2 = some m.cls := findClass_of_methodNamed B.named
  have hS : va_S No s.heap s.heap [] := va_S.rf
  have FX : CallFix p m c cX2_lotTold 4 s ([.ref (b 0), .int (nI pt), .int w] : List Value).toArray wsX2_lotTold RX2 := ⟨hx, hb, hml, hown, hts⟩
  have hl := lv_entry ([.ref (b 0), .int (nI pt), .int w]) (n := 4) (Nat.le_of_ble_eq_true rfl)
  rw [lg_entry_eq]
  generalize (lg_sl ([.ref (b 0), .int (nI pt), .int w]) ++ List.replicate (4 - (lg_sl ([.ref (b 0), .int (nI pt), .int w])).length) Slot.unset).toArray = ls at hl ⊢
  have hl : lv_has ls 4 [(0, .ref (b 0)), (1, .int (nI pt)), (2, .int w)] := hl
  refine wq (fun Q hQ => ?_)
  have hzc : 0 + 0 ≤ (headSpec wsX2_lotTold rmX2_lotTold).room.cells := Nat.zero_le _
  have hzs : 0 + 0 ≤ (headSpec wsX2_lotTold rmX2_lotTold).room.slots := Nat.zero_le _
  have hf13 := hts (.fieldLink RX2 13 "CanalCityModel" "kind" "[I") (by decide +kernel)
  have hf23 := hts (.fieldLink RX2 23 "CanalCityModel" "quarter" "[I") (by decide +kernel)
  have hf26 := hts (.fieldLink RX2 26 "CanalCityModel" "open" "[I") (by decide +kernel)
  have hf29 := hts (.fieldLink RX2 29 "CanalCityModel" "lots" "[I") (by decide +kernel)
  have hinX2 : ∀ w ∈ u_ws RX2 TX2 14, w ∈ wsX2_lotTold := by decide +kernel
  refine lv_aload_n hx hb dX2_lotTold_0 rfl (lv_at hl 0 rfl) ?_
  refine va_get (D := G) (ci := 2) (v := .ref (b 4)) (C := RX2) (T := TX2) (N := 14) hx hb hts hinX2 hown hK hP 0 rfl rfl 4 (by decide) hf13 (fun _ h9 => h9) rfl dX2_lotTold_1 ?_
  refine lv_iload_n hx hb dX2_lotTold_4 rfl (lv_at hl 1 rfl) ?_
  refine va_iald hx hb hK hP 1 0 rfl rfl (vp_in_nI hpt (by decide)) dX2_lotTold_5 ?_
  refine tpi (x' := K pt) (congrArg K (nI_clamp (by omega))) ?_
  refine tpi (x' := k pt) (hk pt hpt) ?_
  refine cr_i (va_runS (As := [.int (k pt)]) (rest := []) FX (c_X2_isLand l (k pt)) (va_cwS 1 hts gX2_lotTold_X2_isLand rfl rfl rfl (by decide +kernel) ⟨Nat.le_of_ble_eq_true rfl, Nat.le_of_ble_eq_true rfl⟩) puS rfl rfl hl.1 rfl (lv_room (Nat.le_of_ble_eq_true rfl)) dX2_lotTold_6 ⟨hzc, hzs⟩) hS hP (fun H locs hP hS => ?_)
  refine tpi (x' := b2i (lnd (k pt))) (by rw [lnd_ge (hkd pt hpt)]) ?_
  refine lv_istore_n (lv' := [(3, .int (b2i (lnd (k pt)))), (0, .ref (b 0)), (1, .int (nI pt)), (2, .int w)]) hx hb dX2_lotTold_9 rfl hl (by decide) rfl (fun ls hl => ?_)
  refine lv_iload_n hx hb dX2_lotTold_10 rfl (lv_at hl 3 rfl) ?_
  by_cases w0 : w = 0
  · skip
    refine tpi (x' := 0) (w0) ?_
    refine lv_tableIn (off := 33) (tgt := 44) hx hb dX2_lotTold_11 (by decide +kernel) (by decide +kernel) (by decide +kernel) (by decide) ?_
    refine lv_aload_n hx hb dX2_lotTold_44 rfl (lv_at hl 1 rfl) ?_
    refine va_get (D := G) (ci := 2) (v := .ref (b 4)) (C := RX2) (T := TX2) (N := 14) hx hb hts hinX2 hown hK hP 0 rfl rfl 4 (by decide) hf13 (fun _ h9 => h9) rfl dX2_lotTold_45 ?_
    refine lv_iload_n hx hb dX2_lotTold_48 rfl (lv_at hl 2 rfl) ?_
    refine va_iald hx hb hK hP 1 0 rfl rfl (vp_in_nI hpt (by decide)) dX2_lotTold_49 ?_
    refine tpi (x' := K pt) (congrArg K (nI_clamp (by omega))) ?_
    subst hQ
    exact rd_i (by unfold fct; rw [if_pos w0]; exact hk pt hpt) hx hb hr hS hlocks dX2_lotTold_50
  by_cases w1 : w = 1
  · skip
    refine tpi (x' := 1) (w1) ?_
    refine lv_tableIn (off := 40) (tgt := 51) hx hb dX2_lotTold_11 (by decide +kernel) (by decide +kernel) (by decide +kernel) (by decide) ?_
    refine lv_aload_n hx hb dX2_lotTold_51 rfl (lv_at hl 1 rfl) ?_
    refine va_get (D := G) (ci := 2) (v := .ref (b 7)) (C := RX2) (T := TX2) (N := 14) hx hb hts hinX2 hown hK hP 0 rfl rfl 7 (by decide) hf23 (fun _ h9 => h9) rfl dX2_lotTold_52 ?_
    refine lv_iload_n hx hb dX2_lotTold_55 rfl (lv_at hl 2 rfl) ?_
    refine va_iald hx hb hK hP 2 0 rfl rfl (vp_in_nI hpt (by decide)) dX2_lotTold_56 ?_
    refine tpi (x' := Qm pt) (congrArg Qm (nI_clamp (by omega))) ?_
    subst hQ
    exact rd_i (by unfold fct; rw [if_neg w0, if_pos w1]; exact hLK.1 pt hpt) hx hb hr hS hlocks dX2_lotTold_57
  by_cases w2 : w = 2
  · skip
    refine tpi (x' := 2) (w2) ?_
    refine lv_tableIn (off := 47) (tgt := 58) hx hb dX2_lotTold_11 (by decide +kernel) (by decide +kernel) (by decide +kernel) (by decide) ?_
    refine lv_iload_n hx hb dX2_lotTold_58 rfl (lv_at hl 0 rfl) ?_
    rcases hln : lnd (k pt) with _ | _
    · skip
      refine tpi (x' := 0) (rfl) ?_
      refine lv_if_eq (tgt := 76) hx hb dX2_lotTold_59 (by decide) (fun _ => ?_) (fun c => absurd (rfl) c)
      refine lv_iconst (v := 0) hx hb dX2_lotTold_76 (by decide) ?_
      subst hQ
      exact rd_i (by unfold fct; rw [if_neg w0, if_neg w1, if_pos w2]; unfold lotsQ; rw [qrt_none.mpr hln]) hx hb hr hS hlocks dX2_lotTold_77
    · skip
      obtain ⟨j, hj⟩ := qrt_land hln
      have hj64 : j < 64 := Nat.lt_of_le_of_lt (qrt_le hj) hpt
      refine tpi (x' := 1) (rfl) ?_
      refine lv_if_eq (tgt := 76) hx hb dX2_lotTold_59 (by decide) (fun c => absurd c (by decide)) (fun _ => ?_)
      refine lv_aload_n hx hb dX2_lotTold_62 rfl (lv_at hl 1 rfl) ?_
      refine va_get (D := G) (ci := 2) (v := .ref (b 9)) (C := RX2) (T := TX2) (N := 14) hx hb hts hinX2 hown hK hP 0 rfl rfl 9 (by decide) hf29 (fun _ h9 => h9) rfl dX2_lotTold_63 ?_
      refine lv_aload_n hx hb dX2_lotTold_66 rfl (lv_at hl 1 rfl) ?_
      refine va_get (D := G) (ci := 2) (v := .ref (b 7)) (C := RX2) (T := TX2) (N := 14) hx hb hts hinX2 hown hK hP 0 rfl rfl 7 (by decide) hf23 (fun _ h9 => h9) rfl dX2_lotTold_67 ?_
      refine lv_iload_n hx hb dX2_lotTold_70 rfl (lv_at hl 2 rfl) ?_
      refine va_iald hx hb hK hP 2 0 rfl rfl (vp_in_nI hpt (by decide)) dX2_lotTold_71 ?_
      refine tpi (x' := Qm pt) (congrArg Qm (nI_clamp (by omega))) ?_
      refine tpi (x' := nI j) (by rw [hLK.1 pt hpt, hj]; rfl) ?_
      refine va_iald hx hb hK hP 4 0 rfl rfl (vp_in_nI hj64 (by decide)) dX2_lotTold_72 ?_
      refine tpi (x' := Lm j) (congrArg Lm (nI_clamp (by omega))) ?_
      refine lv_goto (tgt := 77) hx hb dX2_lotTold_73 (by decide) ?_
      subst hQ
      exact rd_i (by unfold fct; rw [if_neg w0, if_neg w1, if_pos w2]; unfold lotsQ; rw [hj]; exact hLK.2.2.1 j hj64 (qrt_idem hpt hj)) hx hb hr hS hlocks dX2_lotTold_77
  by_cases w3 : w = 3
  · skip
    refine tpi (x' := 3) (w3) ?_
    refine lv_tableIn (off := 67) (tgt := 78) hx hb dX2_lotTold_11 (by decide +kernel) (by decide +kernel) (by decide +kernel) (by decide) ?_
    refine lv_aload_n hx hb dX2_lotTold_78 rfl (lv_at hl 1 rfl) ?_
    refine va_get (D := G) (ci := 2) (v := .ref (b 8)) (C := RX2) (T := TX2) (N := 14) hx hb hts hinX2 hown hK hP 0 rfl rfl 8 (by decide) hf26 (fun _ h9 => h9) rfl dX2_lotTold_79 ?_
    refine lv_iload_n hx hb dX2_lotTold_82 rfl (lv_at hl 2 rfl) ?_
    refine va_iald hx hb hK hP 3 0 rfl rfl (vp_in_nI hpt (by decide)) dX2_lotTold_83 ?_
    refine tpi (x' := Op pt) (congrArg Op (nI_clamp (by omega))) ?_
    refine tpi (x' := b2i (opn k pt)) (hLK.2.1 pt hpt) ?_
    rcases hp : opn k pt with _ | _
    · skip
      refine tpi (x' := 0) (rfl) ?_
      refine lv_iconst (v := 1) hx hb dX2_lotTold_84 (by decide) ?_
      refine lv_icmp_eq (tgt := 100) hx hb dX2_lotTold_85 (by decide) (fun c => absurd c (by decide)) (fun _ => ?_)
      refine lv_aload_n hx hb dX2_lotTold_88 rfl (lv_at hl 1 rfl) ?_
      refine lv_aload_n hx hb dX2_lotTold_89 rfl (lv_at hl 1 rfl) ?_
      refine va_get (D := G) (ci := 2) (v := .ref (b 4)) (C := RX2) (T := TX2) (N := 14) hx hb hts hinX2 hown hK hP 0 rfl rfl 4 (by decide) hf13 (fun _ h9 => h9) rfl dX2_lotTold_90 ?_
      refine lv_iload_n hx hb dX2_lotTold_93 rfl (lv_at hl 2 rfl) ?_
      refine cr_i (va_runV (As := [.ref (b 4), .int (nI pt)]) (rest := []) FX (c_X2_isByBoat l G cI b (b 4) th mo co le K Qm Op Lm Hm Mm Rw St k pt hk hkd hLK.2.1 hpt) (cwV 2 hts gX2_lotTold_X2_isByBoat rfl rfl rfl (by decide +kernel) ⟨Nat.le_of_ble_eq_true rfl, Nat.le_of_ble_eq_true rfl⟩) (rdV hK hP hN [0, 1, 2, 3, 4, 5, 6, 7, 8] rfl (ci := 2) (q0 := 0) rfl rfl) rfl rfl hl.1 rfl (lv_room (Nat.le_of_ble_eq_true rfl)) dX2_lotTold_94 ⟨hzc, hzs⟩) hS hP (fun H locs hP hS => ?_)
      rcases ho : byB k pt with _ | _
      · skip
        refine tpi (x' := 0) (rfl) ?_
        refine lv_if_eq (tgt := 104) hx hb dX2_lotTold_97 (by decide) (fun _ => ?_) (fun c => absurd (rfl) c)
        refine lv_iconst (v := 0) hx hb dX2_lotTold_104 (by decide) ?_
        subst hQ
        exact rd_i (by unfold fct; rw [if_neg w0, if_neg w1, if_neg w2, if_pos w3, hp, ho]; rfl) hx hb hr hS hlocks dX2_lotTold_105
      · skip
        refine tpi (x' := 1) (rfl) ?_
        refine lv_if_eq (tgt := 104) hx hb dX2_lotTold_97 (by decide) (fun c => absurd c (by decide)) (fun _ => ?_)
        refine lv_iconst (v := 1) hx hb dX2_lotTold_100 (by decide) ?_
        refine lv_goto (tgt := 105) hx hb dX2_lotTold_101 (by decide) ?_
        subst hQ
        exact rd_i (by unfold fct; rw [if_neg w0, if_neg w1, if_neg w2, if_pos w3, hp, ho]; rfl) hx hb hr hS hlocks dX2_lotTold_105
    · skip
      refine tpi (x' := 1) (rfl) ?_
      refine lv_iconst (v := 1) hx hb dX2_lotTold_84 (by decide) ?_
      refine lv_icmp_eq (tgt := 100) hx hb dX2_lotTold_85 (by decide) (fun _ => ?_) (fun c => absurd (rfl) c)
      refine lv_iconst (v := 1) hx hb dX2_lotTold_100 (by decide) ?_
      refine lv_goto (tgt := 105) hx hb dX2_lotTold_101 (by decide) ?_
      subst hQ
      exact rd_i (by unfold fct; rw [if_neg w0, if_neg w1, if_neg w2, if_pos w3, hp]; cases byB k pt <;> rfl) hx hb hr hS hlocks dX2_lotTold_105
  by_cases w4 : w = 4
  · skip
    refine tpi (x' := 4) (w4) ?_
    refine lv_tableIn (off := 95) (tgt := 106) hx hb dX2_lotTold_11 (by decide +kernel) (by decide +kernel) (by decide +kernel) (by decide) ?_
    refine lv_aload_n hx hb dX2_lotTold_106 rfl (lv_at hl 1 rfl) ?_
    refine lv_aload_n hx hb dX2_lotTold_107 rfl (lv_at hl 1 rfl) ?_
    refine va_get (D := G) (ci := 2) (v := .ref (b 4)) (C := RX2) (T := TX2) (N := 14) hx hb hts hinX2 hown hK hP 0 rfl rfl 4 (by decide) hf13 (fun _ h9 => h9) rfl dX2_lotTold_108 ?_
    refine lv_iload_n hx hb dX2_lotTold_111 rfl (lv_at hl 2 rfl) ?_
    refine cr_i (va_runV (As := [.ref (b 4), .int (nI pt)]) (rest := []) FX (c_X2_complaints l G cI b (b 4) th mo co le K Qm Op Lm Hm Mm Rw St k pt hk hkd hLK hpt) (cwV 2 hts gX2_lotTold_X2_complaints rfl rfl rfl (by decide +kernel) ⟨Nat.le_of_ble_eq_true rfl, Nat.le_of_ble_eq_true rfl⟩) (rdV hK hP hN [0, 1, 2, 3, 4, 5, 6, 7, 8] rfl (ci := 2) (q0 := 0) rfl rfl) rfl rfl hl.1 rfl (lv_room (Nat.le_of_ble_eq_true rfl)) dX2_lotTold_112 ⟨hzc, hzs⟩) hS hP (fun H locs hP hS => ?_)
    subst hQ
    exact rd_i (by unfold fct; rw [if_neg w0, if_neg w1, if_neg w2, if_neg w3, if_pos w4]) hx hb hr hS hlocks dX2_lotTold_115
  refine lv_tableOut (tgt := 116) hx hb dX2_lotTold_11 (tbl04 w0 w1 w2 w3 w4) (by decide) ?_
  refine lv_aload_n hx hb dX2_lotTold_116 rfl (lv_at hl 1 rfl) ?_
  refine lv_aload_n hx hb dX2_lotTold_117 rfl (lv_at hl 1 rfl) ?_
  refine va_get (D := G) (ci := 2) (v := .ref (b 4)) (C := RX2) (T := TX2) (N := 14) hx hb hts hinX2 hown hK hP 0 rfl rfl 4 (by decide) hf13 (fun _ h9 => h9) rfl dX2_lotTold_118 ?_
  refine lv_iload_n hx hb dX2_lotTold_121 rfl (lv_at hl 2 rfl) ?_
  refine cr_i (va_runV (As := [.ref (b 4), .int (nI pt)]) (rest := []) FX (c_X2_dues l G cI b (b 4) th mo co le K Qm Op Lm Hm Mm Rw St k pt hk hkd hLK hpt) (cwV 2 hts gX2_lotTold_X2_dues rfl rfl rfl (by decide +kernel) ⟨Nat.le_of_ble_eq_true rfl, Nat.le_of_ble_eq_true rfl⟩) (rdV hK hP hN [0, 1, 2, 3, 4, 5, 6, 7, 8] rfl (ci := 2) (q0 := 0) rfl rfl) rfl rfl hl.1 rfl (lv_room (Nat.le_of_ble_eq_true rfl)) dX2_lotTold_122 ⟨hzc, hzs⟩) hS hP (fun H locs hP hS => ?_)
  subst hQ
  exact rd_i (by unfold fct; rw [if_neg w0, if_neg w1, if_neg w2, if_neg w3, if_neg w4]) hx hb hr hS hlocks dX2_lotTold_125

def rmX2_counted : Room := { frames := 7, cells := 0, slots := 0, locals := 158 }
set_option maxHeartbeats 4000000 in
set_option maxRecDepth 100000 in
/-- what count tells of a city -/
theorem c_X2_counted (l : Launch) (G : va_G) (cI : ClassId) (b : Nat → Nat) (ac : Nat) (th mo co le : Int32) (X Qm Op Lm Hm Mm Rw St k : Nat → Int32) (w m1 c1 g1 : Int32) (hk : eqK X k) (hkd : ∀ x, x < 64 → kd (k x)) (sz : Nat) : Met l yX2_counted wsX2_counted rmX2_counted (va_Pc [.ref (b 0), .ref ac, .int w, .int m1, .int c1, .int g1] (WrP G cI [((b 0), oM b th mo co le), (ac, iA cI X), ((b 7), iA cI Qm), ((b 8), iA cI Op), ((b 9), iA cI Lm), ((b 10), iA cI Hm), ((b 11), iA cI Mm), ((b 12), iA cI Rw), ((b 13), iA cI St)] sz)) (va_Qi (fun (r : Int32) (u : (Nat → Int32) × (Nat → Int32) × (Nat → Int32) × (Nat → Int32) × (Nat → Int32) × (Nat → Int32) × (Nat → Int32)) => r = tot k m1 c1 g1 w) (WrB G [((b 0), oM b th mo co le), (ac, iA cI X), ((b 7), iA cI Qm), ((b 8), iA cI Op), ((b 9), iA cI Lm), ((b 10), iA cI Hm), ((b 11), iA cI Mm), ((b 12), iA cI Rw), ((b 13), iA cI St)] sz (fun u => [(b 0, oM b th mo co le), (ac, iA cI X), (b 7, iA cI (u.1)), (b 8, iA cI (u.2.1)), (b 9, iA cI (u.2.2.1)), (b 10, iA cI (u.2.2.2.1)), (b 11, iA cI (u.2.2.2.2.1)), (b 12, iA cI (u.2.2.2.2.2.1)), (b 13, iA cI (u.2.2.2.2.2.2))])) (va_A [((b 0), oM b th mo co le), (ac, iA cI X), ((b 7), iA cI Qm), ((b 8), iA cI Op), ((b 9), iA cI Lm), ((b 10), iA cI Hm), ((b 11), iA cI Mm), ((b 12), iA cI Rw), ((b 13), iA cI St)] sz)) 0 0 (va_A [((b 0), oM b th mo co le), (ac, iA cI X), ((b 7), iA cI Qm), ((b 8), iA cI Op), ((b 9), iA cI Lm), ((b 10), iA cI Hm), ((b 11), iA cI Mm), ((b 12), iA cI Rw), ((b 13), iA cI St)] sz) := by
  refine Met.ofW (cc := cX2_counted) (maxL := 6) (ret := (some .int)) (by decide) rfl ?_
  intro p e s m args below meth c s₁ B hml hv
  obtain ⟨rfl, hsz, hP, hK, hD0, hN⟩ := hv
  have hx := B.exec
  have hb := B.bytes
  have hr := B.returns
  have hlocks := B.notSynchronized
  have hts := atoms_spec (ws := wsX2_counted) B.pre
  have hown : s.vm.findClass RX2 = some m.cls := findClass_of_methodNamed B.named
  subst hsz
  have hD := hD0.self (sz := s.heap.size)
  have hA : ∀ q : Nat, s.heap.size ≤ q → va_A [((b 0), oM b th mo co le), (ac, iA cI X), ((b 7), iA cI Qm), ((b 8), iA cI Op), ((b 9), iA cI Lm), ((b 10), iA cI Hm), ((b 11), iA cI Mm), ((b 12), iA cI Rw), ((b 13), iA cI St)] s.heap.size q := fun q h => Or.inr h
  have hS : va_S (va_A [((b 0), oM b th mo co le), (ac, iA cI X), ((b 7), iA cI Qm), ((b 8), iA cI Op), ((b 9), iA cI Lm), ((b 10), iA cI Hm), ((b 11), iA cI Mm), ((b 12), iA cI Rw), ((b 13), iA cI St)] s.heap.size) s.heap s.heap [] := va_S.rf
  obtain ⟨A, hAe⟩ : ∃ A, A = va_A [((b 0), oM b th mo co le), (ac, iA cI X), ((b 7), iA cI Qm), ((b 8), iA cI Op), ((b 9), iA cI Lm), ((b 10), iA cI Hm), ((b 11), iA cI Mm), ((b 12), iA cI Rw), ((b 13), iA cI St)] s.heap.size := ⟨_, rfl⟩
  rw [← hAe] at hD hA hS
  have FX : CallFix p m c cX2_counted 6 s ([.ref (b 0), .ref ac, .int w, .int m1, .int c1, .int g1] : List Value).toArray wsX2_counted RX2 := ⟨hx, hb, hml, hown, hts⟩
  have hl := lv_entry ([.ref (b 0), .ref ac, .int w, .int m1, .int c1, .int g1]) (n := 6) (Nat.le_of_ble_eq_true rfl)
  rw [lg_entry_eq]
  generalize (lg_sl ([.ref (b 0), .ref ac, .int w, .int m1, .int c1, .int g1]) ++ List.replicate (6 - (lg_sl ([.ref (b 0), .ref ac, .int w, .int m1, .int c1, .int g1])).length) Slot.unset).toArray = ls at hl ⊢
  have hl : lv_has ls 6 [(0, .ref (b 0)), (1, .ref ac), (2, .int w), (3, .int m1), (4, .int c1), (5, .int g1)] := hl
  refine wq (fun Q hQ => ?_)
  have hzc : 0 + 0 ≤ (headSpec wsX2_counted rmX2_counted).room.cells := Nat.zero_le _
  have hzs : 0 + 0 ≤ (headSpec wsX2_counted rmX2_counted).room.slots := Nat.zero_le _
  refine lv_iload_n hx hb dX2_counted_0 rfl (lv_at hl 2 rfl) ?_
  by_cases w0 : w = 0
  · skip
    refine tpi (x' := 0) (w0) ?_
    refine lv_tableIn (off := 67) (tgt := 68) hx hb dX2_counted_1 (by decide +kernel) (by decide +kernel) (by decide +kernel) (by decide) ?_
    refine lv_iload_n hx hb dX2_counted_68 rfl (lv_at hl 3 rfl) ?_
    subst hQ
    subst hAe
    exact wr_i (Qm, Op, Lm, Hm, Mm, Rw, St) (by unfold tot; rw [if_pos w0]) hx hb hr hP hD hS hlocks dX2_counted_69
  by_cases w1 : w = 1
  · skip
    refine tpi (x' := 1) (w1) ?_
    refine lv_tableIn (off := 69) (tgt := 70) hx hb dX2_counted_1 (by decide +kernel) (by decide +kernel) (by decide +kernel) (by decide) ?_
    refine lv_iload hx hb dX2_counted_70 (lv_at hl 4 rfl) ?_
    subst hQ
    subst hAe
    exact wr_i (Qm, Op, Lm, Hm, Mm, Rw, St) (by unfold tot; rw [if_neg w0, if_pos w1]) hx hb hr hP hD hS hlocks dX2_counted_72
  by_cases w9 : w = 9
  · skip
    refine tpi (x' := 9) (w9) ?_
    refine lv_tableIn (off := 72) (tgt := 73) hx hb dX2_counted_1 (by decide +kernel) (by decide +kernel) (by decide +kernel) (by decide) ?_
    refine lv_aload_n hx hb dX2_counted_73 rfl (lv_at hl 0 rfl) ?_
    refine lv_aload_n hx hb dX2_counted_74 rfl (lv_at hl 1 rfl) ?_
    refine cw_i (wr := []) (va_runV (As := [.ref ac]) (rest := []) FX (c_X2_look l G cI b ac th mo co le X Qm Op Lm Hm Mm Rw St k hk hkd _) (cwV 1 hts gX2_counted_X2_look rfl rfl rfl (by decide +kernel) ⟨Nat.le_of_ble_eq_true rfl, Nat.le_of_ble_eq_true rfl⟩) (wrV hK hP hD hN [0, 1, 2, 3, 4, 5, 6, 7, 8] (by decide) rfl rfl (ci := 2) (q0 := 0) rfl rfl) rfl rfl hl.1 rfl (lv_room (Nat.le_of_ble_eq_true rfl)) dX2_counted_75 ⟨hzc, hzs⟩) hS hP hD hA [0, 1, 2, 3, 4, 5, 6, 7, 8] [] rfl rfl (by decide) (by decide) (fun r9 u H locs hw hP hD hS => ?_)
    obtain ⟨Q1, P1, L1, H1, M1, R1, S1⟩ := u
    obtain ⟨hr9, hLK⟩ := hw
    have hP := hP.sub (ws' := [((b 0), oM b th mo co le), (ac, iA cI X), ((b 7), iA cI Q1), ((b 8), iA cI P1), ((b 9), iA cI L1), ((b 10), iA cI H1), ((b 11), iA cI M1), ((b 12), iA cI R1), ((b 13), iA cI S1)]) [0, 1, 2, 3, 4, 5, 6, 7, 8] rfl
    have hD := hD.sub (ws' := [((b 0), oM b th mo co le), (ac, iA cI X), ((b 7), iA cI Q1), ((b 8), iA cI P1), ((b 9), iA cI L1), ((b 10), iA cI H1), ((b 11), iA cI M1), ((b 12), iA cI R1), ((b 13), iA cI S1)]) [0, 1, 2, 3, 4, 5, 6, 7, 8] (by decide) rfl
    refine tpi (x' := qall k) (hr9) ?_
    subst hQ
    subst hAe
    exact wr_i (Q1, P1, L1, H1, M1, R1, S1) (by unfold tot; rw [if_neg w0, if_neg w1, if_pos w9]) hx hb hr hP hD hS hlocks dX2_counted_78
  by_cases w10 : w = 10
  · skip
    refine tpi (x' := 10) (w10) ?_
    refine lv_tableIn (off := 78) (tgt := 79) hx hb dX2_counted_1 (by decide +kernel) (by decide +kernel) (by decide +kernel) (by decide) ?_
    refine lv_aload_n hx hb dX2_counted_79 rfl (lv_at hl 0 rfl) ?_
    refine lv_aload_n hx hb dX2_counted_80 rfl (lv_at hl 1 rfl) ?_
    refine cw_i (wr := []) (va_runV (As := [.ref ac]) (rest := []) FX (c_X2_look l G cI b ac th mo co le X Qm Op Lm Hm Mm Rw St k hk hkd _) (cwV 1 hts gX2_counted_X2_look rfl rfl rfl (by decide +kernel) ⟨Nat.le_of_ble_eq_true rfl, Nat.le_of_ble_eq_true rfl⟩) (wrV hK hP hD hN [0, 1, 2, 3, 4, 5, 6, 7, 8] (by decide) rfl rfl (ci := 2) (q0 := 0) rfl rfl) rfl rfl hl.1 rfl (lv_room (Nat.le_of_ble_eq_true rfl)) dX2_counted_81 ⟨hzc, hzs⟩) hS hP hD hA [0, 1, 2, 3, 4, 5, 6, 7, 8] [] rfl rfl (by decide) (by decide) (fun r9 u H locs hw hP hD hS => ?_)
    obtain ⟨Q1, P1, L1, H1, M1, R1, S1⟩ := u
    obtain ⟨hr9, hLK⟩ := hw
    have hP := hP.sub (ws' := [((b 0), oM b th mo co le), (ac, iA cI X), ((b 7), iA cI Q1), ((b 8), iA cI P1), ((b 9), iA cI L1), ((b 10), iA cI H1), ((b 11), iA cI M1), ((b 12), iA cI R1), ((b 13), iA cI S1)]) [0, 1, 2, 3, 4, 5, 6, 7, 8] rfl
    have hD := hD.sub (ws' := [((b 0), oM b th mo co le), (ac, iA cI X), ((b 7), iA cI Q1), ((b 8), iA cI P1), ((b 9), iA cI L1), ((b 10), iA cI H1), ((b 11), iA cI M1), ((b 12), iA cI R1), ((b 13), iA cI S1)]) [0, 1, 2, 3, 4, 5, 6, 7, 8] (by decide) rfl
    refine lv_pop hx hb dX2_counted_84 rfl ?_
    refine lv_aload_n hx hb dX2_counted_85 rfl (lv_at hl 0 rfl) ?_
    refine lv_aload_n hx hb dX2_counted_86 rfl (lv_at hl 1 rfl) ?_
    refine lv_iload_n hx hb dX2_counted_87 rfl (lv_at hl 2 rfl) ?_
    refine tpi (x' := 10) (w10) ?_
    refine lv_bipush (v := 11) hx hb dX2_counted_88 (by decide) ?_
    refine lv_icmp_ne (tgt := 97) hx hb dX2_counted_90 (by decide) (fun _ => ?_) (fun c => absurd c (by decide))
    refine lv_iconst (v := 0) hx hb dX2_counted_97 (by decide) ?_
    refine tpi (x' := b2i false) (rfl) ?_
    refine cr_i (va_runV (As := [.ref ac, .int (b2i false)]) (rest := []) FX (c_X2_sum l G cI b ac th mo co le X Q1 P1 L1 H1 M1 R1 S1 k false hk hkd hLK) (cwV 2 hts gX2_counted_X2_sum rfl rfl rfl (by decide +kernel) ⟨Nat.le_of_ble_eq_true rfl, Nat.le_of_ble_eq_true rfl⟩) (rdV hK hP hN [0, 1, 2, 3, 4, 5, 6, 7, 8] rfl (ci := 2) (q0 := 0) rfl rfl) rfl rfl hl.1 rfl (lv_room (Nat.le_of_ble_eq_true rfl)) dX2_counted_98 ⟨hzc, hzs⟩) hS hP (fun H locs hP hS => ?_)
    refine tpi (x' := call k) (rfl) ?_
    subst hQ
    subst hAe
    exact wr_i (Q1, P1, L1, H1, M1, R1, S1) (by unfold tot; rw [if_neg w0, if_neg w1, if_neg w9, if_pos w10]) hx hb hr hP hD hS hlocks dX2_counted_101
  by_cases w11 : w = 11
  · skip
    refine tpi (x' := 11) (w11) ?_
    refine lv_tableIn (off := 78) (tgt := 79) hx hb dX2_counted_1 (by decide +kernel) (by decide +kernel) (by decide +kernel) (by decide) ?_
    refine lv_aload_n hx hb dX2_counted_79 rfl (lv_at hl 0 rfl) ?_
    refine lv_aload_n hx hb dX2_counted_80 rfl (lv_at hl 1 rfl) ?_
    refine cw_i (wr := []) (va_runV (As := [.ref ac]) (rest := []) FX (c_X2_look l G cI b ac th mo co le X Qm Op Lm Hm Mm Rw St k hk hkd _) (cwV 1 hts gX2_counted_X2_look rfl rfl rfl (by decide +kernel) ⟨Nat.le_of_ble_eq_true rfl, Nat.le_of_ble_eq_true rfl⟩) (wrV hK hP hD hN [0, 1, 2, 3, 4, 5, 6, 7, 8] (by decide) rfl rfl (ci := 2) (q0 := 0) rfl rfl) rfl rfl hl.1 rfl (lv_room (Nat.le_of_ble_eq_true rfl)) dX2_counted_81 ⟨hzc, hzs⟩) hS hP hD hA [0, 1, 2, 3, 4, 5, 6, 7, 8] [] rfl rfl (by decide) (by decide) (fun r9 u H locs hw hP hD hS => ?_)
    obtain ⟨Q1, P1, L1, H1, M1, R1, S1⟩ := u
    obtain ⟨hr9, hLK⟩ := hw
    have hP := hP.sub (ws' := [((b 0), oM b th mo co le), (ac, iA cI X), ((b 7), iA cI Q1), ((b 8), iA cI P1), ((b 9), iA cI L1), ((b 10), iA cI H1), ((b 11), iA cI M1), ((b 12), iA cI R1), ((b 13), iA cI S1)]) [0, 1, 2, 3, 4, 5, 6, 7, 8] rfl
    have hD := hD.sub (ws' := [((b 0), oM b th mo co le), (ac, iA cI X), ((b 7), iA cI Q1), ((b 8), iA cI P1), ((b 9), iA cI L1), ((b 10), iA cI H1), ((b 11), iA cI M1), ((b 12), iA cI R1), ((b 13), iA cI S1)]) [0, 1, 2, 3, 4, 5, 6, 7, 8] (by decide) rfl
    refine lv_pop hx hb dX2_counted_84 rfl ?_
    refine lv_aload_n hx hb dX2_counted_85 rfl (lv_at hl 0 rfl) ?_
    refine lv_aload_n hx hb dX2_counted_86 rfl (lv_at hl 1 rfl) ?_
    refine lv_iload_n hx hb dX2_counted_87 rfl (lv_at hl 2 rfl) ?_
    refine tpi (x' := 11) (w11) ?_
    refine lv_bipush (v := 11) hx hb dX2_counted_88 (by decide) ?_
    refine lv_icmp_ne (tgt := 97) hx hb dX2_counted_90 (by decide) (fun c => absurd (by decide) c) (fun _ => ?_)
    refine lv_iconst (v := 1) hx hb dX2_counted_93 (by decide) ?_
    refine lv_goto (tgt := 98) hx hb dX2_counted_94 (by decide) ?_
    refine tpi (x' := b2i true) (rfl) ?_
    refine cr_i (va_runV (As := [.ref ac, .int (b2i true)]) (rest := []) FX (c_X2_sum l G cI b ac th mo co le X Q1 P1 L1 H1 M1 R1 S1 k true hk hkd hLK) (cwV 2 hts gX2_counted_X2_sum rfl rfl rfl (by decide +kernel) ⟨Nat.le_of_ble_eq_true rfl, Nat.le_of_ble_eq_true rfl⟩) (rdV hK hP hN [0, 1, 2, 3, 4, 5, 6, 7, 8] rfl (ci := 2) (q0 := 0) rfl rfl) rfl rfl hl.1 rfl (lv_room (Nat.le_of_ble_eq_true rfl)) dX2_counted_98 ⟨hzc, hzs⟩) hS hP (fun H locs hP hS => ?_)
    refine tpi (x' := dall k) (rfl) ?_
    subst hQ
    subst hAe
    exact wr_i (Q1, P1, L1, H1, M1, R1, S1) (by unfold tot; rw [if_neg w0, if_neg w1, if_neg w9, if_neg w10, if_pos w11]) hx hb hr hP hD hS hlocks dX2_counted_101
  by_cases w12 : w = 12
  · skip
    refine tpi (x' := 12) (w12) ?_
    refine lv_tableIn (off := 101) (tgt := 102) hx hb dX2_counted_1 (by decide +kernel) (by decide +kernel) (by decide +kernel) (by decide) ?_
    refine lv_iload hx hb dX2_counted_102 (lv_at hl 5 rfl) ?_
    subst hQ
    subst hAe
    exact wr_i (Qm, Op, Lm, Hm, Mm, Rw, St) (by unfold tot; rw [if_neg w0, if_neg w1, if_neg w9, if_neg w10, if_neg w11, if_pos w12]) hx hb hr hP hD hS hlocks dX2_counted_104
  refine tbl_totM (pc := 1) hx hb dX2_counted_1 rfl w0 w1 w9 w10 w11 w12 ?_
  refine lv_aload_n hx hb dX2_counted_105 rfl (lv_at hl 1 rfl) ?_
  refine lv_iload_n hx hb dX2_counted_106 rfl (lv_at hl 2 rfl) ?_
  refine lv_iconst (v := 2) hx hb dX2_counted_107 (by decide) ?_
  refine lv_isub hx hb dX2_counted_108 ?_
  refine cr_i (va_runS (As := [.ref ac, .int (w - 2)]) (rest := []) FX (c_X2_many l G cI ac X k (w - 2) hk) (va_cwS 2 hts gX2_counted_X2_many rfl rfl rfl (by decide +kernel) ⟨Nat.le_of_ble_eq_true rfl, Nat.le_of_ble_eq_true rfl⟩) (rdS hK hP hN [1] rfl) rfl rfl hl.1 rfl (lv_room (Nat.le_of_ble_eq_true rfl)) dX2_counted_109 ⟨hzc, hzs⟩) hS hP (fun H locs hP hS => ?_)
  subst hQ
  subst hAe
  exact wr_i (Qm, Op, Lm, Hm, Mm, Rw, St) (by unfold tot; rw [if_neg w0, if_neg w1, if_neg w9, if_neg w10, if_neg w11, if_neg w12]) hx hb hr hP hD hS hlocks dX2_counted_112

def rmX2_counted_ : Room := { frames := 8, cells := 0, slots := 0, locals := 183 }
set_option maxHeartbeats 4000000 in
set_option maxRecDepth 100000 in
/-- what count tells -/
theorem c_X2_counted_ (l : Launch) (G : va_G) (cI : ClassId) (b : Nat → Nat) (th mo co le : Int32) (K Qm Op Lm Hm Mm Rw St k : Nat → Int32) (w : Int32) (hk : eqK K k) (hkd : ∀ x, x < 64 → kd (k x)) (sz : Nat) : Met l yX2_counted_ wsX2_counted_ rmX2_counted_ (va_Pc [.ref (b 0), .int w] (WrP G cI [((b 0), oM b th mo co le), ((b 4), iA cI K), ((b 7), iA cI Qm), ((b 8), iA cI Op), ((b 9), iA cI Lm), ((b 10), iA cI Hm), ((b 11), iA cI Mm), ((b 12), iA cI Rw), ((b 13), iA cI St)] sz)) (va_Qi (fun (r : Int32) (u : (Nat → Int32) × (Nat → Int32) × (Nat → Int32) × (Nat → Int32) × (Nat → Int32) × (Nat → Int32) × (Nat → Int32)) => r = tot k mo co le w) (WrB G [((b 0), oM b th mo co le), ((b 4), iA cI K), ((b 7), iA cI Qm), ((b 8), iA cI Op), ((b 9), iA cI Lm), ((b 10), iA cI Hm), ((b 11), iA cI Mm), ((b 12), iA cI Rw), ((b 13), iA cI St)] sz (fun u => [(b 0, oM b th mo co le), (b 4, iA cI K), (b 7, iA cI (u.1)), (b 8, iA cI (u.2.1)), (b 9, iA cI (u.2.2.1)), (b 10, iA cI (u.2.2.2.1)), (b 11, iA cI (u.2.2.2.2.1)), (b 12, iA cI (u.2.2.2.2.2.1)), (b 13, iA cI (u.2.2.2.2.2.2))])) (va_A [((b 0), oM b th mo co le), ((b 4), iA cI K), ((b 7), iA cI Qm), ((b 8), iA cI Op), ((b 9), iA cI Lm), ((b 10), iA cI Hm), ((b 11), iA cI Mm), ((b 12), iA cI Rw), ((b 13), iA cI St)] sz)) 0 0 (va_A [((b 0), oM b th mo co le), ((b 4), iA cI K), ((b 7), iA cI Qm), ((b 8), iA cI Op), ((b 9), iA cI Lm), ((b 10), iA cI Hm), ((b 11), iA cI Mm), ((b 12), iA cI Rw), ((b 13), iA cI St)] sz) := by
  refine Met.ofW (cc := cX2_counted_) (maxL := 2) (ret := (some .int)) (by decide) rfl ?_
  intro p e s m args below meth c s₁ B hml hv
  obtain ⟨rfl, hsz, hP, hK, hD0, hN⟩ := hv
  have hx := B.exec
  have hb := B.bytes
  have hr := B.returns
  have hlocks := B.notSynchronized
  have hts := atoms_spec (ws := wsX2_counted_) B.pre
  have hown : s.vm.findClass RX2 = some m.cls := findClass_of_methodNamed B.named
  subst hsz
  have hD := hD0.self (sz := s.heap.size)
  have hA : ∀ q : Nat, s.heap.size ≤ q → va_A [((b 0), oM b th mo co le), ((b 4), iA cI K), ((b 7), iA cI Qm), ((b 8), iA cI Op), ((b 9), iA cI Lm), ((b 10), iA cI Hm), ((b 11), iA cI Mm), ((b 12), iA cI Rw), ((b 13), iA cI St)] s.heap.size q := fun q h => Or.inr h
  have hS : va_S (va_A [((b 0), oM b th mo co le), ((b 4), iA cI K), ((b 7), iA cI Qm), ((b 8), iA cI Op), ((b 9), iA cI Lm), ((b 10), iA cI Hm), ((b 11), iA cI Mm), ((b 12), iA cI Rw), ((b 13), iA cI St)] s.heap.size) s.heap s.heap [] := va_S.rf
  obtain ⟨A, hAe⟩ : ∃ A, A = va_A [((b 0), oM b th mo co le), ((b 4), iA cI K), ((b 7), iA cI Qm), ((b 8), iA cI Op), ((b 9), iA cI Lm), ((b 10), iA cI Hm), ((b 11), iA cI Mm), ((b 12), iA cI Rw), ((b 13), iA cI St)] s.heap.size := ⟨_, rfl⟩
  rw [← hAe] at hD hA hS
  have FX : CallFix p m c cX2_counted_ 2 s ([.ref (b 0), .int w] : List Value).toArray wsX2_counted_ RX2 := ⟨hx, hb, hml, hown, hts⟩
  have hl := lv_entry ([.ref (b 0), .int w]) (n := 2) (Nat.le_of_ble_eq_true rfl)
  rw [lg_entry_eq]
  generalize (lg_sl ([.ref (b 0), .int w]) ++ List.replicate (2 - (lg_sl ([.ref (b 0), .int w])).length) Slot.unset).toArray = ls at hl ⊢
  have hl : lv_has ls 2 [(0, .ref (b 0)), (1, .int w)] := hl
  refine wq (fun Q hQ => ?_)
  have hzc : 0 + 0 ≤ (headSpec wsX2_counted_ rmX2_counted_).room.cells := Nat.zero_le _
  have hzs : 0 + 0 ≤ (headSpec wsX2_counted_ rmX2_counted_).room.slots := Nat.zero_le _
  have hf114 := hts (.fieldLink RX2 114 "CanalCityModel" "month" "I") (by decide +kernel)
  have hf117 := hts (.fieldLink RX2 117 "CanalCityModel" "left" "I") (by decide +kernel)
  have hf13 := hts (.fieldLink RX2 13 "CanalCityModel" "kind" "[I") (by decide +kernel)
  have hf7 := hts (.fieldLink RX2 7 "CanalCityModel" "coins" "I") (by decide +kernel)
  have hinX2 : ∀ w ∈ u_ws RX2 TX2 14, w ∈ wsX2_counted_ := by decide +kernel
  refine lv_aload_n hx hb dX2_counted__0 rfl (lv_at hl 0 rfl) ?_
  refine lv_aload_n hx hb dX2_counted__1 rfl (lv_at hl 0 rfl) ?_
  refine va_get (D := G) (ci := 2) (v := .ref (b 4)) (C := RX2) (T := TX2) (N := 14) hx hb hts hinX2 hown hK hP 0 rfl rfl 4 (by decide) hf13 (fun _ h9 => h9) rfl dX2_counted__2 ?_
  refine lv_iload_n hx hb dX2_counted__5 rfl (lv_at hl 1 rfl) ?_
  refine lv_aload_n hx hb dX2_counted__6 rfl (lv_at hl 0 rfl) ?_
  refine va_get (D := G) (ci := 2) (v := .int mo) (C := RX2) (T := TX2) (N := 14) hx hb hts hinX2 hown hK hP 0 rfl rfl 1 (by decide) hf114 (fun _ h9 => h9) rfl dX2_counted__7 ?_
  refine lv_aload_n hx hb dX2_counted__10 rfl (lv_at hl 0 rfl) ?_
  refine va_get (D := G) (ci := 2) (v := .int co) (C := RX2) (T := TX2) (N := 14) hx hb hts hinX2 hown hK hP 0 rfl rfl 2 (by decide) hf7 (fun _ h9 => h9) rfl dX2_counted__11 ?_
  refine lv_aload_n hx hb dX2_counted__14 rfl (lv_at hl 0 rfl) ?_
  refine va_get (D := G) (ci := 2) (v := .int le) (C := RX2) (T := TX2) (N := 14) hx hb hts hinX2 hown hK hP 0 rfl rfl 3 (by decide) hf117 (fun _ h9 => h9) rfl dX2_counted__15 ?_
  refine cw_i (wr := []) (va_runV (As := [.ref (b 4), .int w, .int mo, .int co, .int le]) (rest := []) FX (c_X2_counted l G cI b (b 4) th mo co le K Qm Op Lm Hm Mm Rw St k w mo co le hk hkd _) (cwV 5 hts gX2_counted__X2_counted rfl rfl rfl (by decide +kernel) ⟨Nat.le_of_ble_eq_true rfl, Nat.le_of_ble_eq_true rfl⟩) (wrV hK hP hD hN [0, 1, 2, 3, 4, 5, 6, 7, 8] (by decide) rfl rfl (ci := 2) (q0 := 0) rfl rfl) rfl rfl hl.1 rfl (lv_room (Nat.le_of_ble_eq_true rfl)) dX2_counted__18 ⟨hzc, hzs⟩) hS hP hD hA [0, 1, 2, 3, 4, 5, 6, 7, 8] [] rfl rfl (by decide) (by decide) (fun r9 u H locs hw hP hD hS => ?_)
  obtain ⟨Q1, P1, L1, H1, M1, R1, S1⟩ := u
  have hP := hP.sub (ws' := [((b 0), oM b th mo co le), ((b 4), iA cI K), ((b 7), iA cI Q1), ((b 8), iA cI P1), ((b 9), iA cI L1), ((b 10), iA cI H1), ((b 11), iA cI M1), ((b 12), iA cI R1), ((b 13), iA cI S1)]) [0, 1, 2, 3, 4, 5, 6, 7, 8] rfl
  have hD := hD.sub (ws' := [((b 0), oM b th mo co le), ((b 4), iA cI K), ((b 7), iA cI Q1), ((b 8), iA cI P1), ((b 9), iA cI L1), ((b 10), iA cI H1), ((b 11), iA cI M1), ((b 12), iA cI R1), ((b 13), iA cI S1)]) [0, 1, 2, 3, 4, 5, 6, 7, 8] (by decide) rfl
  subst hQ
  subst hAe
  exact wr_i (Q1, P1, L1, H1, M1, R1, S1) (hw) hx hb hr hP hD hS hlocks dX2_counted__21

def rmX2_leave : Room := { frames := 5, cells := 0, slots := 0, locals := 112 }
set_option maxHeartbeats 4000000 in
set_option maxRecDepth 100000 in
/-- who leaves -/
theorem c_X2_leave (l : Launch) (G : va_G) (cI : ClassId) (b : Nat → Nat) (ac : Nat) (th mo co le : Int32) (X Ot Qm Op Lm Hm Mm Rw St k : Nat → Int32) (hk : eqK X k) (hkd : ∀ x, x < 64 → kd (k x)) (hLK : LK k Qm Op Lm Hm Mm) (sz : Nat) : Met l yX2_leave wsX2_leave rmX2_leave (va_Pc [.ref (b 0), .ref ac] (WrP G cI [((b 0), oM b th mo co le), (ac, iA cI X), ((b 6), iA cI Ot), ((b 7), iA cI Qm), ((b 8), iA cI Op), ((b 9), iA cI Lm), ((b 10), iA cI Hm), ((b 11), iA cI Mm), ((b 12), iA cI Rw), ((b 13), iA cI St)] sz)) (va_Qi (fun (r : Int32) (u : Nat → Int32) => r = lvN k ∧ eqK u (lv1 k)) (WrB G [((b 0), oM b th mo co le), (ac, iA cI X), ((b 6), iA cI Ot), ((b 7), iA cI Qm), ((b 8), iA cI Op), ((b 9), iA cI Lm), ((b 10), iA cI Hm), ((b 11), iA cI Mm), ((b 12), iA cI Rw), ((b 13), iA cI St)] sz (fun u => [(b 0, oM b th mo co le), (ac, iA cI X), (b 6, iA cI u), (b 7, iA cI Qm), (b 8, iA cI Op), (b 9, iA cI Lm), (b 10, iA cI Hm), (b 11, iA cI Mm), (b 12, iA cI Rw), (b 13, iA cI St)])) (va_A [((b 0), oM b th mo co le), (ac, iA cI X), ((b 6), iA cI Ot), ((b 7), iA cI Qm), ((b 8), iA cI Op), ((b 9), iA cI Lm), ((b 10), iA cI Hm), ((b 11), iA cI Mm), ((b 12), iA cI Rw), ((b 13), iA cI St)] sz)) 0 0 (va_A [((b 0), oM b th mo co le), (ac, iA cI X), ((b 6), iA cI Ot), ((b 7), iA cI Qm), ((b 8), iA cI Op), ((b 9), iA cI Lm), ((b 10), iA cI Hm), ((b 11), iA cI Mm), ((b 12), iA cI Rw), ((b 13), iA cI St)] sz) := by
  refine Met.ofW (cc := cX2_leave) (maxL := 4) (ret := (some .int)) (by decide) rfl ?_
  intro p e s m args below meth c s₁ B hml hv
  obtain ⟨rfl, hsz, hP, hK, hD0, hN⟩ := hv
  have hx := B.exec
  have hb := B.bytes
  have hr := B.returns
  have hlocks := B.notSynchronized
  have hts := atoms_spec (ws := wsX2_leave) B.pre
  have hown : s.vm.findClass RX2 = some m.cls := findClass_of_methodNamed B.named
  subst hsz
  have hD := hD0.self (sz := s.heap.size)
  have hA : ∀ q : Nat, s.heap.size ≤ q → va_A [((b 0), oM b th mo co le), (ac, iA cI X), ((b 6), iA cI Ot), ((b 7), iA cI Qm), ((b 8), iA cI Op), ((b 9), iA cI Lm), ((b 10), iA cI Hm), ((b 11), iA cI Mm), ((b 12), iA cI Rw), ((b 13), iA cI St)] s.heap.size q := fun q h => Or.inr h
  have hS : va_S (va_A [((b 0), oM b th mo co le), (ac, iA cI X), ((b 6), iA cI Ot), ((b 7), iA cI Qm), ((b 8), iA cI Op), ((b 9), iA cI Lm), ((b 10), iA cI Hm), ((b 11), iA cI Mm), ((b 12), iA cI Rw), ((b 13), iA cI St)] s.heap.size) s.heap s.heap [] := va_S.rf
  obtain ⟨A, hAe⟩ : ∃ A, A = va_A [((b 0), oM b th mo co le), (ac, iA cI X), ((b 6), iA cI Ot), ((b 7), iA cI Qm), ((b 8), iA cI Op), ((b 9), iA cI Lm), ((b 10), iA cI Hm), ((b 11), iA cI Mm), ((b 12), iA cI Rw), ((b 13), iA cI St)] s.heap.size := ⟨_, rfl⟩
  rw [← hAe] at hD hA hS
  have FX : CallFix p m c cX2_leave 4 s ([.ref (b 0), .ref ac] : List Value).toArray wsX2_leave RX2 := ⟨hx, hb, hml, hown, hts⟩
  have hl := lv_entry ([.ref (b 0), .ref ac]) (n := 4) (Nat.le_of_ble_eq_true rfl)
  rw [lg_entry_eq]
  generalize (lg_sl ([.ref (b 0), .ref ac]) ++ List.replicate (4 - (lg_sl ([.ref (b 0), .ref ac])).length) Slot.unset).toArray = ls at hl ⊢
  have hl : lv_has ls 4 [(0, .ref (b 0)), (1, .ref ac)] := hl
  refine wq (fun Q hQ => ?_)
  have hzc : 0 + 0 ≤ (headSpec wsX2_leave rmX2_leave).room.cells := Nat.zero_le _
  have hzs : 0 + 0 ≤ (headSpec wsX2_leave rmX2_leave).room.slots := Nat.zero_le _
  have hf20 := hts (.fieldLink RX2 20 "CanalCityModel" "other" "[I") (by decide +kernel)
  have hinX2 : ∀ w ∈ u_ws RX2 TX2 14, w ∈ wsX2_leave := by decide +kernel
  refine lv_iconst (v := 0) hx hb dX2_leave_0 (by decide) ?_
  refine lv_istore_n (lv' := [(2, .int 0), (0, .ref (b 0)), (1, .ref ac)]) hx hb dX2_leave_1 rfl hl (by decide) rfl (fun ls hl => ?_)
  refine lv_iconst (v := 0) hx hb dX2_leave_2 (by decide) ?_
  refine tpi (x' := nI 0) (rfl) ?_
  refine lv_istore_n (lv' := [(3, .int (nI 0)), (2, .int 0), (0, .ref (b 0)), (1, .ref ac)]) hx hb dX2_leave_3 rfl hl (by decide) rfl (fun ls hl => ?_)
  have lp : ∀ (n : Nat) (i : Nat) (O1 : Nat → Int32), (hi : i ≤ 64) → (hO1 : ∀ x, x < i → O1 x = lv1 k x) → (64 - i) < n → ∀ (H : Heap) (locs : List Loc) (ls : Array Slot), va_P G vwCl [((b 0), oM b th mo co le), (ac, iA cI X), ((b 6), iA cI O1), ((b 7), iA cI Qm), ((b 8), iA cI Op), ((b 9), iA cI Lm), ((b 10), iA cI Hm), ((b 11), iA cI Mm), ((b 12), iA cI Rw), ((b 13), iA cI St)] H → va_D A [((b 0), oM b th mo co le), (ac, iA cI X), ((b 6), iA cI O1), ((b 7), iA cI Qm), ((b 8), iA cI Op), ((b 9), iA cI Lm), ((b 10), iA cI Hm), ((b 11), iA cI Mm), ((b 12), iA cI Rw), ((b 13), iA cI St)] → va_S A s.heap H locs → lv_has ls 4 [(0, .ref (b 0)), (1, .ref ac), (2, .int (csum (fun p => if lft k p then 1 else 0) i)), (3, .int (nI i))] → W p l e (headSpec wsX2_leave rmX2_leave).room s m ([.ref (b 0), .ref ac] : List Value).toArray below meth c H locs 0 0 Q (F0 m 4 ls []) := by
    intro n
    induction n with
    | zero => intro i O1 hi hO1 hn; exact absurd hn (by omega)
    | succ n ih_lp =>
      intro i O1 hi hO1 hn H locs ls hP hD hS hl
      refine lv_iload_n hx hb dX2_leave_4 rfl (lv_at hl 3 rfl) ?_
      refine lv_bipush (v := 64) hx hb dX2_leave_5 (by decide) ?_
      rcases Nat.lt_or_ge i 64 with g | g
      · skip
        refine lv_icmp_ge (tgt := 59) hx hb dX2_leave_7 (by decide) (fun c => absurd c (lt_n (n := 64) g (by decide))) (fun _ => ?_)
        refine lv_aload_n hx hb dX2_leave_10 rfl (lv_at hl 0 rfl) ?_
        refine va_get (D := G) (ci := 2) (v := .ref (b 6)) (C := RX2) (T := TX2) (N := 14) hx hb hts hinX2 hown hK hP 0 rfl rfl 6 (by decide) hf20 (fun _ h9 => h9) rfl dX2_leave_11 ?_
        refine lv_iload_n hx hb dX2_leave_14 rfl (lv_at hl 3 rfl) ?_
        refine lv_aload_n hx hb dX2_leave_15 rfl (lv_at hl 0 rfl) ?_
        refine lv_aload_n hx hb dX2_leave_16 rfl (lv_at hl 1 rfl) ?_
        refine lv_iload_n hx hb dX2_leave_17 rfl (lv_at hl 3 rfl) ?_
        refine cr_i (va_runV (As := [.ref ac, .int (nI i)]) (rest := [.int (nI i), .ref (b 6)]) FX (c_X2_complaints l G cI b ac th mo co le X Qm Op Lm Hm Mm Rw St k i hk hkd hLK g) (cwV 2 hts gX2_leave_X2_complaints rfl rfl rfl (by decide +kernel) ⟨Nat.le_of_ble_eq_true rfl, Nat.le_of_ble_eq_true rfl⟩) (rdV hK hP hN [0, 1, 3, 4, 5, 6, 7, 8, 9] rfl (ci := 2) (q0 := 0) rfl rfl) rfl rfl hl.1 rfl (lv_room (Nat.le_of_ble_eq_true rfl)) dX2_leave_18 ⟨hzc, hzs⟩) hS hP (fun H locs hP hS => ?_)
        refine lv_iconst (v := 4) hx hb dX2_leave_21 (by decide) ?_
        refine lv_icmp_lt (tgt := 29) hx hb dX2_leave_22 (by decide) (fun c4 => ?_) (fun c4 => ?_)
        · skip
          refine lv_aload_n hx hb dX2_leave_29 rfl (lv_at hl 1 rfl) ?_
          refine lv_iload_n hx hb dX2_leave_30 rfl (lv_at hl 3 rfl) ?_
          refine va_iald hx hb hK hP 1 0 rfl rfl (vp_in_nI g (by decide)) dX2_leave_31 ?_
          refine tpi (x' := X i) (congrArg X (nI_clamp (by omega))) ?_
          refine tpi (x' := k i) (hk i g) ?_
          have hnl := lv1_no4 c4
          refine tpi (x' := lv1 k i) (by unfold lv1; rw [hnl]; rfl) ?_
          refine va_iast hx hb hK hP hD hS 2 0 rfl rfl (vp_in_nI g (by decide)) dX2_leave_32 (fun H locs hP hD hS => ?_)
          rw [show ((nI i)).toNatClampNeg = i from nI_clamp (by omega)] at hP hD
          have hP : va_P G vwCl [((b 0), oM b th mo co le), (ac, iA cI X), ((b 6), iA cI (upd O1 i (lv1 k i))), ((b 7), iA cI Qm), ((b 8), iA cI Op), ((b 9), iA cI Lm), ((b 10), iA cI Hm), ((b 11), iA cI Mm), ((b 12), iA cI Rw), ((b 13), iA cI St)] H := hP
          have hD : va_D A [((b 0), oM b th mo co le), (ac, iA cI X), ((b 6), iA cI (upd O1 i (lv1 k i))), ((b 7), iA cI Qm), ((b 8), iA cI Op), ((b 9), iA cI Lm), ((b 10), iA cI Hm), ((b 11), iA cI Mm), ((b 12), iA cI Rw), ((b 13), iA cI St)] := hD
          refine lv_iload_n hx hb dX2_leave_33 rfl (lv_at hl 2 rfl) ?_
          refine lv_aload_n hx hb dX2_leave_34 rfl (lv_at hl 0 rfl) ?_
          refine va_get (D := G) (ci := 2) (v := .ref (b 6)) (C := RX2) (T := TX2) (N := 14) hx hb hts hinX2 hown hK hP 0 rfl rfl 6 (by decide) hf20 (fun _ h9 => h9) rfl dX2_leave_35 ?_
          refine lv_iload_n hx hb dX2_leave_38 rfl (lv_at hl 3 rfl) ?_
          refine va_iald hx hb hK hP 2 0 rfl rfl (vp_in_nI g (by decide)) dX2_leave_39 ?_
          refine tpi (x' := (upd O1 i (lv1 k i)) i) (congrArg (upd O1 i (lv1 k i)) (nI_clamp (by omega))) ?_
          refine tpi (x' := lv1 k i) (pk_us) ?_
          refine lv_aload_n hx hb dX2_leave_40 rfl (lv_at hl 1 rfl) ?_
          refine lv_iload_n hx hb dX2_leave_41 rfl (lv_at hl 3 rfl) ?_
          refine va_iald hx hb hK hP 1 0 rfl rfl (vp_in_nI g (by decide)) dX2_leave_42 ?_
          refine tpi (x' := X i) (congrArg X (nI_clamp (by omega))) ?_
          refine tpi (x' := k i) (hk i g) ?_
          refine lv_icmp_ne (tgt := 50) hx hb dX2_leave_43 (by decide) (fun c => absurd (by unfold lv1; rw [hnl]; rfl) c) (fun _ => ?_)
          refine lv_iconst (v := 0) hx hb dX2_leave_46 (by decide) ?_
          refine lv_goto (tgt := 51) hx hb dX2_leave_47 (by decide) ?_
          refine lv_iadd hx hb dX2_leave_51 ?_
          refine tpi (x' := csum (fun p => if lft k p then 1 else 0) (i + 1)) (by rw [csum]; rw [hnl]; rfl) ?_
          refine lv_istore_n (lv' := [(2, .int (csum (fun p => if lft k p then 1 else 0) (i + 1))), (0, .ref (b 0)), (1, .ref ac), (3, .int (nI i))]) hx hb dX2_leave_52 rfl hl (by decide) rfl (fun ls hl => ?_)
          refine lv_iinc (v := nI (i + 1)) (lv' := [(3, .int (nI (i + 1))), (2, .int (csum (fun p => if lft k p then 1 else 0) (i + 1))), (0, .ref (b 0)), (1, .ref ac)]) hx hb dX2_leave_53 hl (k := 3) rfl (nI_inc i) (by decide) rfl (fun ls hl => ?_)
          refine lv_goto (tgt := 4) hx hb dX2_leave_56 (by decide) ?_
          exact ih_lp (i + 1) (upd O1 i (lv1 k i)) (by omega) (fun x hx => by rcases Nat.lt_or_ge x i with q9 | q9; rw [pk_un (by omega)]; exact hO1 x q9; rw [show x = i by omega, pk_us]) (by omega) _ _ _ hP hD hS (lv_sub hl [2, 3, 1, 0] (rfl))
        · skip
          refine lv_iconst (v := 2) hx hb dX2_leave_25 (by decide) ?_
          refine lv_goto (tgt := 32) hx hb dX2_leave_26 (by decide) ?_
          have hk3 : k i = 3 := Classical.byContradiction fun e9 => absurd (show cpl k i < 4 by unfold cpl; rw [if_neg e9]; decide) c4
          have hyl := lv1_hit hk3 c4
          refine tpi (x' := lv1 k i) (by unfold lv1; rw [hyl]; rfl) ?_
          refine va_iast hx hb hK hP hD hS 2 0 rfl rfl (vp_in_nI g (by decide)) dX2_leave_32 (fun H locs hP hD hS => ?_)
          rw [show ((nI i)).toNatClampNeg = i from nI_clamp (by omega)] at hP hD
          have hP : va_P G vwCl [((b 0), oM b th mo co le), (ac, iA cI X), ((b 6), iA cI (upd O1 i (lv1 k i))), ((b 7), iA cI Qm), ((b 8), iA cI Op), ((b 9), iA cI Lm), ((b 10), iA cI Hm), ((b 11), iA cI Mm), ((b 12), iA cI Rw), ((b 13), iA cI St)] H := hP
          have hD : va_D A [((b 0), oM b th mo co le), (ac, iA cI X), ((b 6), iA cI (upd O1 i (lv1 k i))), ((b 7), iA cI Qm), ((b 8), iA cI Op), ((b 9), iA cI Lm), ((b 10), iA cI Hm), ((b 11), iA cI Mm), ((b 12), iA cI Rw), ((b 13), iA cI St)] := hD
          refine lv_iload_n hx hb dX2_leave_33 rfl (lv_at hl 2 rfl) ?_
          refine lv_aload_n hx hb dX2_leave_34 rfl (lv_at hl 0 rfl) ?_
          refine va_get (D := G) (ci := 2) (v := .ref (b 6)) (C := RX2) (T := TX2) (N := 14) hx hb hts hinX2 hown hK hP 0 rfl rfl 6 (by decide) hf20 (fun _ h9 => h9) rfl dX2_leave_35 ?_
          refine lv_iload_n hx hb dX2_leave_38 rfl (lv_at hl 3 rfl) ?_
          refine va_iald hx hb hK hP 2 0 rfl rfl (vp_in_nI g (by decide)) dX2_leave_39 ?_
          refine tpi (x' := (upd O1 i (lv1 k i)) i) (congrArg (upd O1 i (lv1 k i)) (nI_clamp (by omega))) ?_
          refine tpi (x' := lv1 k i) (pk_us) ?_
          refine lv_aload_n hx hb dX2_leave_40 rfl (lv_at hl 1 rfl) ?_
          refine lv_iload_n hx hb dX2_leave_41 rfl (lv_at hl 3 rfl) ?_
          refine va_iald hx hb hK hP 1 0 rfl rfl (vp_in_nI g (by decide)) dX2_leave_42 ?_
          refine tpi (x' := X i) (congrArg X (nI_clamp (by omega))) ?_
          refine tpi (x' := k i) (hk i g) ?_
          refine lv_icmp_ne (tgt := 50) hx hb dX2_leave_43 (by decide) (fun _ => ?_) (fun c => absurd c (by unfold lv1; rw [hyl, hk3]; decide))
          refine lv_iconst (v := 1) hx hb dX2_leave_50 (by decide) ?_
          refine lv_iadd hx hb dX2_leave_51 ?_
          refine tpi (x' := csum (fun p => if lft k p then 1 else 0) (i + 1)) (by rw [csum]; rw [hyl]; rfl) ?_
          refine lv_istore_n (lv' := [(2, .int (csum (fun p => if lft k p then 1 else 0) (i + 1))), (0, .ref (b 0)), (1, .ref ac), (3, .int (nI i))]) hx hb dX2_leave_52 rfl hl (by decide) rfl (fun ls hl => ?_)
          refine lv_iinc (v := nI (i + 1)) (lv' := [(3, .int (nI (i + 1))), (2, .int (csum (fun p => if lft k p then 1 else 0) (i + 1))), (0, .ref (b 0)), (1, .ref ac)]) hx hb dX2_leave_53 hl (k := 3) rfl (nI_inc i) (by decide) rfl (fun ls hl => ?_)
          refine lv_goto (tgt := 4) hx hb dX2_leave_56 (by decide) ?_
          exact ih_lp (i + 1) (upd O1 i (lv1 k i)) (by omega) (fun x hx => by rcases Nat.lt_or_ge x i with q9 | q9; rw [pk_un (by omega)]; exact hO1 x q9; rw [show x = i by omega, pk_us]) (by omega) _ _ _ hP hD hS (lv_sub hl [2, 3, 1, 0] (rfl))
      · skip
        have g9 : 64 = i := by omega
        subst g9
        refine lv_icmp_ge (tgt := 59) hx hb dX2_leave_7 (by decide) (fun _ => ?_) (fun c => absurd (le_n (n := 64) (i := 64) (by decide) (by decide)) c)
        refine lv_iload_n hx hb dX2_leave_59 rfl (lv_at hl 2 rfl) ?_
        subst hQ
        subst hAe
        exact wr_i O1 (⟨rfl, hO1⟩) hx hb hr hP hD hS hlocks dX2_leave_60
  exact lp (_ + 1) 0 Ot (by omega) (fun x hx => absurd hx (Nat.not_lt_zero _)) (Nat.lt_succ_self _) _ _ _ hP hD hS (lv_sub hl [2, 3, 1, 0] rfl)

def rmX2_sink : Room := { frames := 4, cells := 0, slots := 0, locals := 90 }
set_option maxHeartbeats 4000000 in
set_option maxRecDepth 100000 in
/-- what sinks -/
theorem c_X2_sink (l : Launch) (G : va_G) (cI : ClassId) (b : Nat → Nat) (ac : Nat) (th mo co le : Int32) (X Ot k : Nat → Int32) (hk : eqK Ot k) (sz : Nat) : Met l yX2_sink wsX2_sink rmX2_sink (va_Pc [.ref (b 0), .ref ac] (WrP G cI [((b 0), oM b th mo co le), (ac, iA cI X), ((b 6), iA cI Ot)] sz)) (va_Qv (fun (u : Nat → Int32) => eqK u (sk1 k)) (WrB G [((b 0), oM b th mo co le), (ac, iA cI X), ((b 6), iA cI Ot)] sz (fun u => [(b 0, oM b th mo co le), (ac, iA cI u), (b 6, iA cI Ot)])) (va_A [((b 0), oM b th mo co le), (ac, iA cI X), ((b 6), iA cI Ot)] sz)) 0 0 (va_A [((b 0), oM b th mo co le), (ac, iA cI X), ((b 6), iA cI Ot)] sz) := by
  refine Met.ofW (cc := cX2_sink) (maxL := 3) (ret := none) (by decide) rfl ?_
  intro p e s m args below meth c s₁ B hml hv
  obtain ⟨rfl, hsz, hP, hK, hD0, hN⟩ := hv
  have hx := B.exec
  have hb := B.bytes
  have hr := B.returns
  have hlocks := B.notSynchronized
  have hts := atoms_spec (ws := wsX2_sink) B.pre
  have hown : s.vm.findClass RX2 = some m.cls := findClass_of_methodNamed B.named
  subst hsz
  have hD := hD0.self (sz := s.heap.size)
  have hA : ∀ q : Nat, s.heap.size ≤ q → va_A [((b 0), oM b th mo co le), (ac, iA cI X), ((b 6), iA cI Ot)] s.heap.size q := fun q h => Or.inr h
  have hS : va_S (va_A [((b 0), oM b th mo co le), (ac, iA cI X), ((b 6), iA cI Ot)] s.heap.size) s.heap s.heap [] := va_S.rf
  obtain ⟨A, hAe⟩ : ∃ A, A = va_A [((b 0), oM b th mo co le), (ac, iA cI X), ((b 6), iA cI Ot)] s.heap.size := ⟨_, rfl⟩
  rw [← hAe] at hD hA hS
  have FX : CallFix p m c cX2_sink 3 s ([.ref (b 0), .ref ac] : List Value).toArray wsX2_sink RX2 := ⟨hx, hb, hml, hown, hts⟩
  have hl := lv_entry ([.ref (b 0), .ref ac]) (n := 3) (Nat.le_of_ble_eq_true rfl)
  rw [lg_entry_eq]
  generalize (lg_sl ([.ref (b 0), .ref ac]) ++ List.replicate (3 - (lg_sl ([.ref (b 0), .ref ac])).length) Slot.unset).toArray = ls at hl ⊢
  have hl : lv_has ls 3 [(0, .ref (b 0)), (1, .ref ac)] := hl
  refine wq (fun Q hQ => ?_)
  have hzc : 0 + 0 ≤ (headSpec wsX2_sink rmX2_sink).room.cells := Nat.zero_le _
  have hzs : 0 + 0 ≤ (headSpec wsX2_sink rmX2_sink).room.slots := Nat.zero_le _
  have hf20 := hts (.fieldLink RX2 20 "CanalCityModel" "other" "[I") (by decide +kernel)
  have hinX2 : ∀ w ∈ u_ws RX2 TX2 14, w ∈ wsX2_sink := by decide +kernel
  refine lv_iconst (v := 0) hx hb dX2_sink_0 (by decide) ?_
  refine tpi (x' := nI 0) (rfl) ?_
  refine lv_istore_n (lv' := [(2, .int (nI 0)), (0, .ref (b 0)), (1, .ref ac)]) hx hb dX2_sink_1 rfl hl (by decide) rfl (fun ls hl => ?_)
  have lp : ∀ (n : Nat) (i : Nat) (X1 : Nat → Int32), (hi : i ≤ 64) → (hX1 : ∀ x, x < i → X1 x = sk1 k x) → (64 - i) < n → ∀ (H : Heap) (locs : List Loc) (ls : Array Slot), va_P G vwCl [((b 0), oM b th mo co le), (ac, iA cI X1), ((b 6), iA cI Ot)] H → va_D A [((b 0), oM b th mo co le), (ac, iA cI X1), ((b 6), iA cI Ot)] → va_S A s.heap H locs → lv_has ls 3 [(0, .ref (b 0)), (1, .ref ac), (2, .int (nI i))] → W p l e (headSpec wsX2_sink rmX2_sink).room s m ([.ref (b 0), .ref ac] : List Value).toArray below meth c H locs 0 0 Q (F0 m 2 ls []) := by
    intro n
    induction n with
    | zero => intro i X1 hi hX1 hn; exact absurd hn (by omega)
    | succ n ih_lp =>
      intro i X1 hi hX1 hn H locs ls hP hD hS hl
      refine lv_iload_n hx hb dX2_sink_2 rfl (lv_at hl 2 rfl) ?_
      refine lv_bipush (v := 64) hx hb dX2_sink_3 (by decide) ?_
      rcases Nat.lt_or_ge i 64 with g | g
      · skip
        refine lv_icmp_ge (tgt := 50) hx hb dX2_sink_5 (by decide) (fun c => absurd c (lt_n (n := 64) g (by decide))) (fun _ => ?_)
        refine lv_aload_n hx hb dX2_sink_8 rfl (lv_at hl 1 rfl) ?_
        refine lv_iload_n hx hb dX2_sink_9 rfl (lv_at hl 2 rfl) ?_
        refine lv_aload_n hx hb dX2_sink_10 rfl (lv_at hl 0 rfl) ?_
        refine va_get (D := G) (ci := 2) (v := .ref (b 6)) (C := RX2) (T := TX2) (N := 14) hx hb hts hinX2 hown hK hP 0 rfl rfl 6 (by decide) hf20 (fun _ h9 => h9) rfl dX2_sink_11 ?_
        refine lv_iload_n hx hb dX2_sink_14 rfl (lv_at hl 2 rfl) ?_
        refine va_iald hx hb hK hP 2 0 rfl rfl (vp_in_nI g (by decide)) dX2_sink_15 ?_
        refine tpi (x' := Ot i) (congrArg Ot (nI_clamp (by omega))) ?_
        refine tpi (x' := k i) (hk i g) ?_
        refine lv_iconst (v := 2) hx hb dX2_sink_16 (by decide) ?_
        refine lv_icmp_ne (tgt := 37) hx hb dX2_sink_17 (by decide) (fun c2 => ?_) (fun c2 => ?_)
        · skip
          refine lv_aload_n hx hb dX2_sink_37 rfl (lv_at hl 0 rfl) ?_
          refine va_get (D := G) (ci := 2) (v := .ref (b 6)) (C := RX2) (T := TX2) (N := 14) hx hb hts hinX2 hown hK hP 0 rfl rfl 6 (by decide) hf20 (fun _ h9 => h9) rfl dX2_sink_38 ?_
          refine lv_iload_n hx hb dX2_sink_41 rfl (lv_at hl 2 rfl) ?_
          refine va_iald hx hb hK hP 2 0 rfl rfl (vp_in_nI g (by decide)) dX2_sink_42 ?_
          refine tpi (x' := Ot i) (congrArg Ot (nI_clamp (by omega))) ?_
          refine tpi (x' := sk1 k i) (by rw [hk i g, sk1_no (fun e => c2 e.1)]) ?_
          refine va_iast hx hb hK hP hD hS 1 0 rfl rfl (vp_in_nI g (by decide)) dX2_sink_43 (fun H locs hP hD hS => ?_)
          rw [show ((nI i)).toNatClampNeg = i from nI_clamp (by omega)] at hP hD
          have hP : va_P G vwCl [((b 0), oM b th mo co le), (ac, iA cI (upd X1 i (sk1 k i))), ((b 6), iA cI Ot)] H := hP
          have hD : va_D A [((b 0), oM b th mo co le), (ac, iA cI (upd X1 i (sk1 k i))), ((b 6), iA cI Ot)] := hD
          refine lv_iinc (v := nI (i + 1)) (lv' := [(2, .int (nI (i + 1))), (0, .ref (b 0)), (1, .ref ac)]) hx hb dX2_sink_44 hl (k := 2) rfl (nI_inc i) (by decide) rfl (fun ls hl => ?_)
          refine lv_goto (tgt := 2) hx hb dX2_sink_47 (by decide) ?_
          exact ih_lp (i + 1) (upd X1 i (sk1 k i)) (by omega) (fun x hx => by rcases Nat.lt_or_ge x i with q9 | q9; rw [pk_un (by omega)]; exact hX1 x q9; rw [show x = i by omega, pk_us]) (by omega) _ _ _ hP hD hS (lv_sub hl [1, 2, 0] (rfl))
        · skip
          refine lv_aload_n hx hb dX2_sink_20 rfl (lv_at hl 0 rfl) ?_
          refine va_get (D := G) (ci := 2) (v := .ref (b 6)) (C := RX2) (T := TX2) (N := 14) hx hb hts hinX2 hown hK hP 0 rfl rfl 6 (by decide) hf20 (fun _ h9 => h9) rfl dX2_sink_21 ?_
          refine lv_iload_n hx hb dX2_sink_24 rfl (lv_at hl 2 rfl) ?_
          refine lv_iconst (v := 0) hx hb dX2_sink_25 (by decide) ?_
          refine cr_i (va_runS (As := [.ref (b 6), .int (nI i), .int 0]) (rest := [.int (nI i), .ref ac]) FX (c_X2_besideOf l G cI (b 6) Ot k i 0 hk g) (va_cwS 3 hts gX2_sink_X2_besideOf rfl rfl rfl (by decide +kernel) ⟨Nat.le_of_ble_eq_true rfl, Nat.le_of_ble_eq_true rfl⟩) (rdS hK hP hN [2] rfl) rfl rfl hl.1 rfl (lv_room (Nat.le_of_ble_eq_true rfl)) dX2_sink_26 ⟨hzc, hzs⟩) hS hP (fun H locs hP hS => ?_)
          refine lv_iconst (v := 3) hx hb dX2_sink_29 (by decide) ?_
          refine lv_icmp_lt (tgt := 37) hx hb dX2_sink_30 (by decide) (fun c3 => ?_) (fun c3 => ?_)
          · skip
            refine lv_aload_n hx hb dX2_sink_37 rfl (lv_at hl 0 rfl) ?_
            refine va_get (D := G) (ci := 2) (v := .ref (b 6)) (C := RX2) (T := TX2) (N := 14) hx hb hts hinX2 hown hK hP 0 rfl rfl 6 (by decide) hf20 (fun _ h9 => h9) rfl dX2_sink_38 ?_
            refine lv_iload_n hx hb dX2_sink_41 rfl (lv_at hl 2 rfl) ?_
            refine va_iald hx hb hK hP 2 0 rfl rfl (vp_in_nI g (by decide)) dX2_sink_42 ?_
            refine tpi (x' := Ot i) (congrArg Ot (nI_clamp (by omega))) ?_
            refine tpi (x' := sk1 k i) (by rw [hk i g, sk1_no (fun e => e.2 c3)]) ?_
            refine va_iast hx hb hK hP hD hS 1 0 rfl rfl (vp_in_nI g (by decide)) dX2_sink_43 (fun H locs hP hD hS => ?_)
            rw [show ((nI i)).toNatClampNeg = i from nI_clamp (by omega)] at hP hD
            have hP : va_P G vwCl [((b 0), oM b th mo co le), (ac, iA cI (upd X1 i (sk1 k i))), ((b 6), iA cI Ot)] H := hP
            have hD : va_D A [((b 0), oM b th mo co le), (ac, iA cI (upd X1 i (sk1 k i))), ((b 6), iA cI Ot)] := hD
            refine lv_iinc (v := nI (i + 1)) (lv' := [(2, .int (nI (i + 1))), (0, .ref (b 0)), (1, .ref ac)]) hx hb dX2_sink_44 hl (k := 2) rfl (nI_inc i) (by decide) rfl (fun ls hl => ?_)
            refine lv_goto (tgt := 2) hx hb dX2_sink_47 (by decide) ?_
            exact ih_lp (i + 1) (upd X1 i (sk1 k i)) (by omega) (fun x hx => by rcases Nat.lt_or_ge x i with q9 | q9; rw [pk_un (by omega)]; exact hX1 x q9; rw [show x = i by omega, pk_us]) (by omega) _ _ _ hP hD hS (lv_sub hl [1, 2, 0] (rfl))
          · skip
            refine lv_iconst (v := 0) hx hb dX2_sink_33 (by decide) ?_
            refine lv_goto (tgt := 43) hx hb dX2_sink_34 (by decide) ?_
            refine tpi (x' := sk1 k i) ((sk1_yes ⟨c2, c3⟩).symm) ?_
            refine va_iast hx hb hK hP hD hS 1 0 rfl rfl (vp_in_nI g (by decide)) dX2_sink_43 (fun H locs hP hD hS => ?_)
            rw [show ((nI i)).toNatClampNeg = i from nI_clamp (by omega)] at hP hD
            have hP : va_P G vwCl [((b 0), oM b th mo co le), (ac, iA cI (upd X1 i (sk1 k i))), ((b 6), iA cI Ot)] H := hP
            have hD : va_D A [((b 0), oM b th mo co le), (ac, iA cI (upd X1 i (sk1 k i))), ((b 6), iA cI Ot)] := hD
            refine lv_iinc (v := nI (i + 1)) (lv' := [(2, .int (nI (i + 1))), (0, .ref (b 0)), (1, .ref ac)]) hx hb dX2_sink_44 hl (k := 2) rfl (nI_inc i) (by decide) rfl (fun ls hl => ?_)
            refine lv_goto (tgt := 2) hx hb dX2_sink_47 (by decide) ?_
            exact ih_lp (i + 1) (upd X1 i (sk1 k i)) (by omega) (fun x hx => by rcases Nat.lt_or_ge x i with q9 | q9; rw [pk_un (by omega)]; exact hX1 x q9; rw [show x = i by omega, pk_us]) (by omega) _ _ _ hP hD hS (lv_sub hl [1, 2, 0] (rfl))
      · skip
        have g9 : 64 = i := by omega
        subst g9
        refine lv_icmp_ge (tgt := 50) hx hb dX2_sink_5 (by decide) (fun _ => ?_) (fun c => absurd (le_n (n := 64) (i := 64) (by decide) (by decide)) c)
        subst hQ
        subst hAe
        exact wr_v X1 (hX1) hx hb hr hP hD hS hlocks dX2_sink_50
  exact lp (_ + 1) 0 X (by omega) (fun x hx => absurd hx (Nat.not_lt_zero _)) (Nat.lt_succ_self _) _ _ _ hP hD hS (lv_sub hl [1, 2, 0] rfl)

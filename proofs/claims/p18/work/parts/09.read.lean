def rmX0_isByBoat : Room := { frames := 1, cells := 0, slots := 0, locals := 23 }
set_option maxHeartbeats 4000000 in
set_option maxRecDepth 100000 in
/-- by boat -/
theorem c_X0_isByBoat (l : Launch) (G : va_G) (cI : ClassId) (a : Nat → Nat) (mo co le : Int32) (K Qa La Ha Ma Ba Ca Da Fa Wa k : Nat → Int32) (pt : Nat) (hk : eqK K k) (hBa : hatB k Ba) (hpt : pt < 64) : Met l yX0_isByBoat wsX0_isByBoat rmX0_isByBoat (va_Pc [.ref (a 0), .int (nI pt)] (RdP G cI [((a 0), oC a mo co le), ((a 3), iA cI K), ((a 4), iA cI Qa), ((a 5), iA cI La), ((a 6), iA cI Ha), ((a 7), iA cI Ma), ((a 8), iA cI Ba), ((a 9), iA cI Ca), ((a 10), iA cI Da), ((a 11), iA cI Fa), ((a 12), iA cI Wa)])) (RdQ (b2i (byB k pt))) 0 0 No := by
  refine Met.ofW (cc := cX0_isByBoat) (maxL := 5) (ret := (some .boolean)) (by decide) rfl ?_
  intro p e s m args below meth c s₁ B hml hv
  obtain ⟨rfl, hP, hK, hN⟩ := hv
  have hx := B.exec
  have hb := B.bytes
  have hr := B.returns
  have hlocks := B.notSynchronized
  have hts := atoms_spec (ws := wsX0_isByBoat) B.pre
  have hown : s.vm.findClass RX0 = some m.cls := findClass_of_methodNamed B.named
  have hS : va_S No s.heap s.heap [] := va_S.rf
  have FX : CallFix p m c cX0_isByBoat 5 s ([.ref (a 0), .int (nI pt)] : List Value).toArray wsX0_isByBoat RX0 := ⟨hx, hb, hml, hown, hts⟩
  have hl := lv_entry ([.ref (a 0), .int (nI pt)]) (n := 5) (Nat.le_of_ble_eq_true rfl)
  rw [lg_entry_eq]
  generalize (lg_sl ([.ref (a 0), .int (nI pt)]) ++ List.replicate (5 - (lg_sl ([.ref (a 0), .int (nI pt)])).length) Slot.unset).toArray = ls at hl ⊢
  have hl : lv_has ls 5 [(0, .ref (a 0)), (1, .int (nI pt))] := hl
  refine wq (fun Q hQ => ?_)
  have hzc : 0 + 0 ≤ (headSpec wsX0_isByBoat rmX0_isByBoat).room.cells := Nat.zero_le _
  have hzs : 0 + 0 ≤ (headSpec wsX0_isByBoat rmX0_isByBoat).room.slots := Nat.zero_le _
  have hf21 := hts (.fieldLink RX0 21 "CanalCity$City" "kinds" "[I") (by decide +kernel)
  have hinX0 : ∀ w ∈ u_ws RX0 TX0 13, w ∈ wsX0_isByBoat := by decide +kernel
  have hiniX1 := hts (.initialized RX1) (by decide +kernel)
  have hstX1_isLand := hts (.static yX1_isLand) (by decide +kernel)
  have hstX1_isLot := hts (.static yX1_isLot) (by decide +kernel)
  have hstX1_neighbour := hts (.static yX1_neighbour) (by decide +kernel)
  refine lv_aload_n hx hb dX0_isByBoat_0 rfl (lv_at hl 0 rfl) ?_
  refine va_get (D := G) (ci := 0) (v := .ref (a 3)) (C := RX0) (T := TX0) (N := 13) hx hb hts hinX0 hown hK hP 0 rfl rfl 3 (by decide) hf21 (fun _ h9 => h9) rfl dX0_isByBoat_1 ?_
  refine lv_iload_n hx hb dX0_isByBoat_4 rfl (lv_at hl 1 rfl) ?_
  refine va_iald hx hb hK hP 1 0 rfl rfl (vp_in_nI hpt (by decide)) dX0_isByBoat_5 ?_
  refine tpi (x' := K pt) (congrArg K (nI_clamp (by omega))) ?_
  refine tpi (x' := k pt) (hk pt hpt) ?_
  refine lv_istore_n (lv' := [(2, .int (k pt)), (0, .ref (a 0)), (1, .int (nI pt))]) hx hb dX0_isByBoat_6 rfl hl (by decide) rfl (fun ls hl => ?_)
  refine lv_iload_n hx hb dX0_isByBoat_7 rfl (lv_at hl 0 rfl) ?_
  refine cr_i (va_runSN (As := [.int (k pt)]) (rest := []) FX (c_X1_isLand l (k pt)) ⟨va_cnB 1 hts gX0_isByBoat_X1_isLand_n98 rfl rfl rfl (NW_at hN 5 rfl) hiniX1 (by decide +kernel) ⟨Nat.le_of_ble_eq_true rfl, Nat.le_of_ble_eq_true rfl⟩, hstX1_isLand, trivial⟩ puS rfl rfl hl.1 rfl (lv_room (Nat.le_of_ble_eq_true rfl)) dX0_isByBoat_8 ⟨hzc, hzs⟩) hS hP (fun H locs hP hS => ?_)
  rcases hln : lnd (k pt) with _ | _
  · skip
    refine tpi (x' := 0) (rfl) ?_
    refine lv_if_eq (tgt := 20) hx hb dX0_isByBoat_11 (by decide) (fun _ => ?_) (fun c => absurd (rfl) c)
    refine lv_iconst (v := 0) hx hb dX0_isByBoat_20 (by decide) ?_
    subst hQ
    exact rd_z (by unfold byB; rw [hln]; rfl) hx hb hr (b2i_nar _) hS hlocks dX0_isByBoat_21
  · skip
    refine tpi (x' := 1) (rfl) ?_
    refine lv_if_eq (tgt := 20) hx hb dX0_isByBoat_11 (by decide) (fun c => absurd c (by decide)) (fun _ => ?_)
    refine lv_iload_n hx hb dX0_isByBoat_14 rfl (lv_at hl 0 rfl) ?_
    refine lv_bipush (v := 6) hx hb dX0_isByBoat_15 (by decide) ?_
    refine lv_icmp_ne (tgt := 22) hx hb dX0_isByBoat_17 (by decide) (fun c6 => ?_) (fun c6 => ?_)
    · skip
      refine lv_iconst (v := 0) hx hb dX0_isByBoat_22 (by decide) ?_
      refine lv_istore_n (lv' := [(3, .int 0), (2, .int (k pt)), (0, .ref (a 0)), (1, .int (nI pt))]) hx hb dX0_isByBoat_23 rfl hl (by decide) rfl (fun ls hl => ?_)
      have lp : ∀ (n : Nat) (sd : Nat), (hsd : sd ≤ 4) → (hno : ∀ s, s < sd → opo k (nbC pt s) = false) → (4 - sd) < n → ∀ (H : Heap) (locs : List Loc) (ls : Array Slot), va_P G vwCl [((a 0), oC a mo co le), ((a 3), iA cI K), ((a 4), iA cI Qa), ((a 5), iA cI La), ((a 6), iA cI Ha), ((a 7), iA cI Ma), ((a 8), iA cI Ba), ((a 9), iA cI Ca), ((a 10), iA cI Da), ((a 11), iA cI Fa), ((a 12), iA cI Wa)] H → va_S No s.heap H locs → lv_has ls 5 [(0, .ref (a 0)), (1, .int (nI pt)), (2, .int (k pt)), (3, .int (nI sd))] → W p l e (headSpec wsX0_isByBoat rmX0_isByBoat).room s m ([.ref (a 0), .int (nI pt)] : List Value).toArray below meth c H locs 0 0 Q (F0 m 24 ls []) := by
        intro n
        induction n with
        | zero => intro sd hsd hno hn; exact absurd hn (by omega)
        | succ n ih_lp =>
          intro sd hsd hno hn H locs ls hP hS hl
          refine lv_iload_n hx hb dX0_isByBoat_24 rfl (lv_at hl 3 rfl) ?_
          refine lv_iconst (v := 4) hx hb dX0_isByBoat_25 (by decide) ?_
          rcases Nat.lt_or_ge sd 4 with g | g
          · skip
            refine lv_icmp_ge (tgt := 61) hx hb dX0_isByBoat_26 (by decide) (fun c => absurd c (lt_n (n := 4) g (by decide))) (fun _ => ?_)
            refine lv_iload_n hx hb dX0_isByBoat_29 rfl (lv_at hl 1 rfl) ?_
            refine lv_iload_n hx hb dX0_isByBoat_30 rfl (lv_at hl 3 rfl) ?_
            refine cr_i (va_runSN (As := [.int (nI pt), .int (nI sd)]) (rest := []) FX (c_X1_neighbour l pt sd hpt g) ⟨va_cnB 2 hts gX0_isByBoat_X1_neighbour_n104 rfl rfl rfl (NW_at hN 6 rfl) hiniX1 (by decide +kernel) ⟨Nat.le_of_ble_eq_true rfl, Nat.le_of_ble_eq_true rfl⟩, hstX1_neighbour, trivial⟩ puS rfl rfl hl.1 rfl (lv_room (Nat.le_of_ble_eq_true rfl)) dX0_isByBoat_31 ⟨hzc, hzs⟩) hS hP (fun H locs hP hS => ?_)
            rcases hn : nbC pt sd with _ | q
            · skip
              refine tpi (x' := -1) (rfl) ?_
              refine lv_istore (lv' := [(4, .int (-1)), (0, .ref (a 0)), (1, .int (nI pt)), (2, .int (k pt)), (3, .int (nI sd))]) hx hb dX0_isByBoat_34 hl (by decide) rfl (fun ls hl => ?_)
              refine lv_iload hx hb dX0_isByBoat_36 (lv_at hl 0 rfl) ?_
              refine cr_i (va_runSN (As := [.int (-1)]) (rest := []) FX (c_X1_isLot l (-1)) ⟨va_cnB 1 hts gX0_isByBoat_X1_isLot_n73 rfl rfl rfl (NW_at hN 3 rfl) hiniX1 (by decide +kernel) ⟨Nat.le_of_ble_eq_true rfl, Nat.le_of_ble_eq_true rfl⟩, hstX1_isLot, trivial⟩ puS rfl rfl hl.1 rfl (lv_room (Nat.le_of_ble_eq_true rfl)) dX0_isByBoat_38 ⟨hzc, hzs⟩) hS hP (fun H locs hP hS => ?_)
              refine tpi (x' := 0) (by decide) ?_
              refine lv_if_eq (tgt := 55) hx hb dX0_isByBoat_41 (by decide) (fun _ => ?_) (fun c => absurd (rfl) c)
              refine lv_iinc (v := nI (sd + 1)) (lv' := [(3, .int (nI (sd + 1))), (4, .int (-1)), (0, .ref (a 0)), (1, .int (nI pt)), (2, .int (k pt))]) hx hb dX0_isByBoat_55 hl (k := 4) rfl (nI_inc sd) (by decide) rfl (fun ls hl => ?_)
              refine lv_goto (tgt := 24) hx hb dX0_isByBoat_58 (by decide) ?_
              exact ih_lp (sd + 1) (by omega) (fun s hs => by rcases Nat.lt_or_ge s sd with g1 | g1; exact hno s g1; rw [show s = sd by omega, hn]; rfl) (by omega) _ _ _ hP hS (lv_sub hl [2, 3, 4, 0] (rfl))
            · skip
              have hq : q < 64 := nbC_lt hpt hn
              refine tpi (x' := nI q) (rfl) ?_
              refine lv_istore (lv' := [(4, .int (nI q)), (0, .ref (a 0)), (1, .int (nI pt)), (2, .int (k pt)), (3, .int (nI sd))]) hx hb dX0_isByBoat_34 hl (by decide) rfl (fun ls hl => ?_)
              refine lv_iload hx hb dX0_isByBoat_36 (lv_at hl 0 rfl) ?_
              refine cr_i (va_runSN (As := [.int (nI q)]) (rest := []) FX (c_X1_isLot l (nI q)) ⟨va_cnB 1 hts gX0_isByBoat_X1_isLot_n73 rfl rfl rfl (NW_at hN 3 rfl) hiniX1 (by decide +kernel) ⟨Nat.le_of_ble_eq_true rfl, Nat.le_of_ble_eq_true rfl⟩, hstX1_isLot, trivial⟩ puS rfl rfl hl.1 rfl (lv_room (Nat.le_of_ble_eq_true rfl)) dX0_isByBoat_38 ⟨hzc, hzs⟩) hS hP (fun H locs hP hS => ?_)
              refine tpi (x' := 1) (isLot_1 hq) ?_
              refine lv_if_eq (tgt := 55) hx hb dX0_isByBoat_41 (by decide) (fun c => absurd c (by decide)) (fun _ => ?_)
              refine lv_aload_n hx hb dX0_isByBoat_44 rfl (lv_at hl 1 rfl) ?_
              refine lv_iload hx hb dX0_isByBoat_45 (lv_at hl 0 rfl) ?_
              refine cr_i (va_runV (As := [.int (nI q)]) (rest := []) FX (c_X0_isOpenWater l G cI a mo co le K Qa La Ha Ma Ba Ca Da Fa Wa k q hBa hq) (cwV 1 hts gX0_isByBoat_X0_isOpenWater rfl rfl rfl (by decide +kernel) ⟨Nat.le_of_ble_eq_true rfl, Nat.le_of_ble_eq_true rfl⟩) (rdV hK hP hN [0, 1, 2, 3, 4, 5, 6, 7, 8, 9, 10] rfl (ci := 0) (q0 := 0) rfl rfl) rfl rfl hl.1 rfl (lv_room (Nat.le_of_ble_eq_true rfl)) dX0_isByBoat_47 ⟨hzc, hzs⟩) hS hP (fun H locs hP hS => ?_)
              rcases ho : opn k q with _ | _
              · skip
                refine tpi (x' := 0) (rfl) ?_
                refine lv_if_eq (tgt := 55) hx hb dX0_isByBoat_50 (by decide) (fun _ => ?_) (fun c => absurd (rfl) c)
                refine lv_iinc (v := nI (sd + 1)) (lv' := [(3, .int (nI (sd + 1))), (4, .int (nI q)), (0, .ref (a 0)), (1, .int (nI pt)), (2, .int (k pt))]) hx hb dX0_isByBoat_55 hl (k := 4) rfl (nI_inc sd) (by decide) rfl (fun ls hl => ?_)
                refine lv_goto (tgt := 24) hx hb dX0_isByBoat_58 (by decide) ?_
                exact ih_lp (sd + 1) (by omega) (fun s hs => by rcases Nat.lt_or_ge s sd with g1 | g1; exact hno s g1; rw [show s = sd by omega, hn]; exact ho) (by omega) _ _ _ hP hS (lv_sub hl [2, 3, 4, 0] (rfl))
              · skip
                refine tpi (x' := 1) (rfl) ?_
                refine lv_if_eq (tgt := 55) hx hb dX0_isByBoat_50 (by decide) (fun c => absurd c (by decide)) (fun _ => ?_)
                refine lv_iconst (v := 1) hx hb dX0_isByBoat_53 (by decide) ?_
                subst hQ
                exact rd_z (by unfold byB; rw [hln, decide_eq_false c6, opo4 g (by rw [hn]; exact ho)]; rfl) hx hb hr (b2i_nar _) hS hlocks dX0_isByBoat_54
          · skip
            have g : sd = 4 := by omega
            subst g
            refine lv_icmp_ge (tgt := 61) hx hb dX0_isByBoat_26 (by decide) (fun _ => ?_) (fun c => absurd (le_n (n := 4) (i := 4) (by decide) (by decide)) c)
            refine lv_iconst (v := 0) hx hb dX0_isByBoat_61 (by decide) ?_
            subst hQ
            exact rd_z (by unfold byB; rw [hno 0 (by decide), hno 1 (by decide), hno 2 (by decide), hno 3 (by decide)]; cases (lnd (k pt) && !decide (k pt = 6)) <;> rfl) hx hb hr (b2i_nar _) hS hlocks dX0_isByBoat_62
      exact lp (_ + 1) 0 (by omega) (fun s hs => absurd hs (Nat.not_lt_zero _)) (Nat.lt_succ_self _) _ _ _ hP hS (lv_sub hl [2, 3, 1, 0] rfl)
    · skip
      refine lv_iconst (v := 0) hx hb dX0_isByBoat_20 (by decide) ?_
      subst hQ
      exact rd_z (by unfold byB; rw [show decide (k pt = 6) = true from decide_eq_true c6, hln]; rfl) hx hb hr (b2i_nar _) hS hlocks dX0_isByBoat_21

def rmX0_lotsOfQuarter : Room := { frames := 1, cells := 0, slots := 0, locals := 20 }
set_option maxHeartbeats 4000000 in
set_option maxRecDepth 100000 in
/-- lots of a quarter -/
theorem c_X0_lotsOfQuarter (l : Launch) (G : va_G) (cI : ClassId) (a : Nat → Nat) (mo co le : Int32) (K Qa La Ha Ma Ba Ca Da Fa Wa k : Nat → Int32) (pt : Nat) (hQa : hatQ k Qa) (hLa : hatL k La) (hpt : pt < 64) : Met l yX0_lotsOfQuarter wsX0_lotsOfQuarter rmX0_lotsOfQuarter (va_Pc [.ref (a 0), .int (nI pt)] (RdP G cI [((a 0), oC a mo co le), ((a 3), iA cI K), ((a 4), iA cI Qa), ((a 5), iA cI La), ((a 6), iA cI Ha), ((a 7), iA cI Ma), ((a 8), iA cI Ba), ((a 9), iA cI Ca), ((a 10), iA cI Da), ((a 11), iA cI Fa), ((a 12), iA cI Wa)])) (RdQ (lotsQ k pt)) 0 0 No := by
  refine Met.ofW (cc := cX0_lotsOfQuarter) (maxL := 3) (ret := (some .int)) (by decide) rfl ?_
  intro p e s m args below meth c s₁ B hml hv
  obtain ⟨rfl, hP, hK, hN⟩ := hv
  have hx := B.exec
  have hb := B.bytes
  have hr := B.returns
  have hlocks := B.notSynchronized
  have hts := atoms_spec (ws := wsX0_lotsOfQuarter) B.pre
  have hown : s.vm.findClass RX0 = some m.cls := findClass_of_methodNamed B.named
  have hS : va_S No s.heap s.heap [] := va_S.rf
  have FX : CallFix p m c cX0_lotsOfQuarter 3 s ([.ref (a 0), .int (nI pt)] : List Value).toArray wsX0_lotsOfQuarter RX0 := ⟨hx, hb, hml, hown, hts⟩
  have hl := lv_entry ([.ref (a 0), .int (nI pt)]) (n := 3) (Nat.le_of_ble_eq_true rfl)
  rw [lg_entry_eq]
  generalize (lg_sl ([.ref (a 0), .int (nI pt)]) ++ List.replicate (3 - (lg_sl ([.ref (a 0), .int (nI pt)])).length) Slot.unset).toArray = ls at hl ⊢
  have hl : lv_has ls 3 [(0, .ref (a 0)), (1, .int (nI pt))] := hl
  refine wq (fun Q hQ => ?_)
  have hzc : 0 + 0 ≤ (headSpec wsX0_lotsOfQuarter rmX0_lotsOfQuarter).room.cells := Nat.zero_le _
  have hzs : 0 + 0 ≤ (headSpec wsX0_lotsOfQuarter rmX0_lotsOfQuarter).room.slots := Nat.zero_le _
  have hf25 := hts (.fieldLink RX0 25 "CanalCity$City" "quarters" "[I") (by decide +kernel)
  have hf28 := hts (.fieldLink RX0 28 "CanalCity$City" "lotsOf" "[I") (by decide +kernel)
  have hinX0 : ∀ w ∈ u_ws RX0 TX0 13, w ∈ wsX0_lotsOfQuarter := by decide +kernel
  have hiniX1 := hts (.initialized RX1) (by decide +kernel)
  have hstX1_isLot := hts (.static yX1_isLot) (by decide +kernel)
  refine lv_aload_n hx hb dX0_lotsOfQuarter_0 rfl (lv_at hl 0 rfl) ?_
  refine va_get (D := G) (ci := 0) (v := .ref (a 4)) (C := RX0) (T := TX0) (N := 13) hx hb hts hinX0 hown hK hP 0 rfl rfl 4 (by decide) hf25 (fun _ h9 => h9) rfl dX0_lotsOfQuarter_1 ?_
  refine lv_iload_n hx hb dX0_lotsOfQuarter_4 rfl (lv_at hl 1 rfl) ?_
  refine va_iald hx hb hK hP 2 0 rfl rfl (vp_in_nI hpt (by decide)) dX0_lotsOfQuarter_5 ?_
  refine tpi (x' := Qa pt) (congrArg Qa (nI_clamp (by omega))) ?_
  refine tpi (x' := toI (qrt k pt)) (hQa pt hpt) ?_
  rcases hq : qrt k pt with _ | j
  · skip
    refine tpi (x' := -1) (rfl) ?_
    refine lv_istore_n (lv' := [(2, .int (-1)), (0, .ref (a 0)), (1, .int (nI pt))]) hx hb dX0_lotsOfQuarter_6 rfl hl (by decide) rfl (fun ls hl => ?_)
    refine lv_iload_n hx hb dX0_lotsOfQuarter_7 rfl (lv_at hl 0 rfl) ?_
    refine cr_i (va_runSN (As := [.int (-1)]) (rest := []) FX (c_X1_isLot l (-1)) ⟨va_cnB 1 hts gX0_lotsOfQuarter_X1_isLot_n73 rfl rfl rfl (NW_at hN 3 rfl) hiniX1 (by decide +kernel) ⟨Nat.le_of_ble_eq_true rfl, Nat.le_of_ble_eq_true rfl⟩, hstX1_isLot, trivial⟩ puS rfl rfl hl.1 rfl (lv_room (Nat.le_of_ble_eq_true rfl)) dX0_lotsOfQuarter_8 ⟨hzc, hzs⟩) hS hP (fun H locs hP hS => ?_)
    refine tpi (x' := 0) (by decide) ?_
    refine lv_if_eq (tgt := 23) hx hb dX0_lotsOfQuarter_11 (by decide) (fun _ => ?_) (fun c => absurd (rfl) c)
    refine lv_iconst (v := 0) hx hb dX0_lotsOfQuarter_23 (by decide) ?_
    subst hQ
    exact rd_i (by unfold lotsQ; rw [hq]) hx hb hr hS hlocks dX0_lotsOfQuarter_24
  · skip
    have hj : j < 64 := Nat.lt_of_le_of_lt (qrt_le hq) hpt
    refine tpi (x' := nI j) (rfl) ?_
    refine lv_istore_n (lv' := [(2, .int (nI j)), (0, .ref (a 0)), (1, .int (nI pt))]) hx hb dX0_lotsOfQuarter_6 rfl hl (by decide) rfl (fun ls hl => ?_)
    refine lv_iload_n hx hb dX0_lotsOfQuarter_7 rfl (lv_at hl 0 rfl) ?_
    refine cr_i (va_runSN (As := [.int (nI j)]) (rest := []) FX (c_X1_isLot l (nI j)) ⟨va_cnB 1 hts gX0_lotsOfQuarter_X1_isLot_n73 rfl rfl rfl (NW_at hN 3 rfl) hiniX1 (by decide +kernel) ⟨Nat.le_of_ble_eq_true rfl, Nat.le_of_ble_eq_true rfl⟩, hstX1_isLot, trivial⟩ puS rfl rfl hl.1 rfl (lv_room (Nat.le_of_ble_eq_true rfl)) dX0_lotsOfQuarter_8 ⟨hzc, hzs⟩) hS hP (fun H locs hP hS => ?_)
    refine tpi (x' := 1) (isLot_1 hj) ?_
    refine lv_if_eq (tgt := 23) hx hb dX0_lotsOfQuarter_11 (by decide) (fun c => absurd c (by decide)) (fun _ => ?_)
    refine lv_aload_n hx hb dX0_lotsOfQuarter_14 rfl (lv_at hl 1 rfl) ?_
    refine va_get (D := G) (ci := 0) (v := .ref (a 5)) (C := RX0) (T := TX0) (N := 13) hx hb hts hinX0 hown hK hP 0 rfl rfl 5 (by decide) hf28 (fun _ h9 => h9) rfl dX0_lotsOfQuarter_15 ?_
    refine lv_iload_n hx hb dX0_lotsOfQuarter_18 rfl (lv_at hl 0 rfl) ?_
    refine va_iald hx hb hK hP 3 0 rfl rfl (vp_in_nI hj (by decide)) dX0_lotsOfQuarter_19 ?_
    refine tpi (x' := La j) (congrArg La (nI_clamp (by omega))) ?_
    refine lv_goto (tgt := 24) hx hb dX0_lotsOfQuarter_20 (by decide) ?_
    subst hQ
    exact rd_i (by unfold lotsQ; rw [hq]; exact hLa j hj) hx hb hr hS hlocks dX0_lotsOfQuarter_24

def rmX0_housesInQuarter : Room := { frames := 1, cells := 0, slots := 0, locals := 20 }
set_option maxHeartbeats 4000000 in
set_option maxRecDepth 100000 in
/-- houses of a quarter -/
theorem c_X0_housesInQuarter (l : Launch) (G : va_G) (cI : ClassId) (a : Nat → Nat) (mo co le : Int32) (K Qa La Ha Ma Ba Ca Da Fa Wa k : Nat → Int32) (pt : Nat) (hQa : hatQ k Qa) (hHa : hatV k 3 Ha) (hpt : pt < 64) : Met l yX0_housesInQuarter wsX0_housesInQuarter rmX0_housesInQuarter (va_Pc [.ref (a 0), .int (nI pt)] (RdP G cI [((a 0), oC a mo co le), ((a 3), iA cI K), ((a 4), iA cI Qa), ((a 5), iA cI La), ((a 6), iA cI Ha), ((a 7), iA cI Ma), ((a 8), iA cI Ba), ((a 9), iA cI Ca), ((a 10), iA cI Da), ((a 11), iA cI Fa), ((a 12), iA cI Wa)])) (RdQ (kindQ k 3 pt)) 0 0 No := by
  refine Met.ofW (cc := cX0_housesInQuarter) (maxL := 3) (ret := (some .int)) (by decide) rfl ?_
  intro p e s m args below meth c s₁ B hml hv
  obtain ⟨rfl, hP, hK, hN⟩ := hv
  have hx := B.exec
  have hb := B.bytes
  have hr := B.returns
  have hlocks := B.notSynchronized
  have hts := atoms_spec (ws := wsX0_housesInQuarter) B.pre
  have hown : s.vm.findClass RX0 = some m.cls := findClass_of_methodNamed B.named
  have hS : va_S No s.heap s.heap [] := va_S.rf
  have FX : CallFix p m c cX0_housesInQuarter 3 s ([.ref (a 0), .int (nI pt)] : List Value).toArray wsX0_housesInQuarter RX0 := ⟨hx, hb, hml, hown, hts⟩
  have hl := lv_entry ([.ref (a 0), .int (nI pt)]) (n := 3) (Nat.le_of_ble_eq_true rfl)
  rw [lg_entry_eq]
  generalize (lg_sl ([.ref (a 0), .int (nI pt)]) ++ List.replicate (3 - (lg_sl ([.ref (a 0), .int (nI pt)])).length) Slot.unset).toArray = ls at hl ⊢
  have hl : lv_has ls 3 [(0, .ref (a 0)), (1, .int (nI pt))] := hl
  refine wq (fun Q hQ => ?_)
  have hzc : 0 + 0 ≤ (headSpec wsX0_housesInQuarter rmX0_housesInQuarter).room.cells := Nat.zero_le _
  have hzs : 0 + 0 ≤ (headSpec wsX0_housesInQuarter rmX0_housesInQuarter).room.slots := Nat.zero_le _
  have hf25 := hts (.fieldLink RX0 25 "CanalCity$City" "quarters" "[I") (by decide +kernel)
  have hf31 := hts (.fieldLink RX0 31 "CanalCity$City" "housesOf" "[I") (by decide +kernel)
  have hinX0 : ∀ w ∈ u_ws RX0 TX0 13, w ∈ wsX0_housesInQuarter := by decide +kernel
  have hiniX1 := hts (.initialized RX1) (by decide +kernel)
  have hstX1_isLot := hts (.static yX1_isLot) (by decide +kernel)
  refine lv_aload_n hx hb dX0_housesInQuarter_0 rfl (lv_at hl 0 rfl) ?_
  refine va_get (D := G) (ci := 0) (v := .ref (a 4)) (C := RX0) (T := TX0) (N := 13) hx hb hts hinX0 hown hK hP 0 rfl rfl 4 (by decide) hf25 (fun _ h9 => h9) rfl dX0_housesInQuarter_1 ?_
  refine lv_iload_n hx hb dX0_housesInQuarter_4 rfl (lv_at hl 1 rfl) ?_
  refine va_iald hx hb hK hP 2 0 rfl rfl (vp_in_nI hpt (by decide)) dX0_housesInQuarter_5 ?_
  refine tpi (x' := Qa pt) (congrArg Qa (nI_clamp (by omega))) ?_
  refine tpi (x' := toI (qrt k pt)) (hQa pt hpt) ?_
  rcases hq : qrt k pt with _ | j
  · skip
    refine tpi (x' := -1) (rfl) ?_
    refine lv_istore_n (lv' := [(2, .int (-1)), (0, .ref (a 0)), (1, .int (nI pt))]) hx hb dX0_housesInQuarter_6 rfl hl (by decide) rfl (fun ls hl => ?_)
    refine lv_iload_n hx hb dX0_housesInQuarter_7 rfl (lv_at hl 0 rfl) ?_
    refine cr_i (va_runSN (As := [.int (-1)]) (rest := []) FX (c_X1_isLot l (-1)) ⟨va_cnB 1 hts gX0_housesInQuarter_X1_isLot_n73 rfl rfl rfl (NW_at hN 3 rfl) hiniX1 (by decide +kernel) ⟨Nat.le_of_ble_eq_true rfl, Nat.le_of_ble_eq_true rfl⟩, hstX1_isLot, trivial⟩ puS rfl rfl hl.1 rfl (lv_room (Nat.le_of_ble_eq_true rfl)) dX0_housesInQuarter_8 ⟨hzc, hzs⟩) hS hP (fun H locs hP hS => ?_)
    refine tpi (x' := 0) (by decide) ?_
    refine lv_if_eq (tgt := 23) hx hb dX0_housesInQuarter_11 (by decide) (fun _ => ?_) (fun c => absurd (rfl) c)
    refine lv_iconst (v := 0) hx hb dX0_housesInQuarter_23 (by decide) ?_
    subst hQ
    exact rd_i (by unfold kindQ; rw [hq]) hx hb hr hS hlocks dX0_housesInQuarter_24
  · skip
    have hj : j < 64 := Nat.lt_of_le_of_lt (qrt_le hq) hpt
    refine tpi (x' := nI j) (rfl) ?_
    refine lv_istore_n (lv' := [(2, .int (nI j)), (0, .ref (a 0)), (1, .int (nI pt))]) hx hb dX0_housesInQuarter_6 rfl hl (by decide) rfl (fun ls hl => ?_)
    refine lv_iload_n hx hb dX0_housesInQuarter_7 rfl (lv_at hl 0 rfl) ?_
    refine cr_i (va_runSN (As := [.int (nI j)]) (rest := []) FX (c_X1_isLot l (nI j)) ⟨va_cnB 1 hts gX0_housesInQuarter_X1_isLot_n73 rfl rfl rfl (NW_at hN 3 rfl) hiniX1 (by decide +kernel) ⟨Nat.le_of_ble_eq_true rfl, Nat.le_of_ble_eq_true rfl⟩, hstX1_isLot, trivial⟩ puS rfl rfl hl.1 rfl (lv_room (Nat.le_of_ble_eq_true rfl)) dX0_housesInQuarter_8 ⟨hzc, hzs⟩) hS hP (fun H locs hP hS => ?_)
    refine tpi (x' := 1) (isLot_1 hj) ?_
    refine lv_if_eq (tgt := 23) hx hb dX0_housesInQuarter_11 (by decide) (fun c => absurd c (by decide)) (fun _ => ?_)
    refine lv_aload_n hx hb dX0_housesInQuarter_14 rfl (lv_at hl 1 rfl) ?_
    refine va_get (D := G) (ci := 0) (v := .ref (a 6)) (C := RX0) (T := TX0) (N := 13) hx hb hts hinX0 hown hK hP 0 rfl rfl 6 (by decide) hf31 (fun _ h9 => h9) rfl dX0_housesInQuarter_15 ?_
    refine lv_iload_n hx hb dX0_housesInQuarter_18 rfl (lv_at hl 0 rfl) ?_
    refine va_iald hx hb hK hP 4 0 rfl rfl (vp_in_nI hj (by decide)) dX0_housesInQuarter_19 ?_
    refine tpi (x' := Ha j) (congrArg Ha (nI_clamp (by omega))) ?_
    refine lv_goto (tgt := 24) hx hb dX0_housesInQuarter_20 (by decide) ?_
    subst hQ
    exact rd_i (by unfold kindQ; rw [hq]; exact hHa j hj) hx hb hr hS hlocks dX0_housesInQuarter_24

def rmX0_marketsInQuarter : Room := { frames := 1, cells := 0, slots := 0, locals := 20 }
set_option maxHeartbeats 4000000 in
set_option maxRecDepth 100000 in
/-- markets of a quarter -/
theorem c_X0_marketsInQuarter (l : Launch) (G : va_G) (cI : ClassId) (a : Nat → Nat) (mo co le : Int32) (K Qa La Ha Ma Ba Ca Da Fa Wa k : Nat → Int32) (pt : Nat) (hQa : hatQ k Qa) (hMa : hatV k 5 Ma) (hpt : pt < 64) : Met l yX0_marketsInQuarter wsX0_marketsInQuarter rmX0_marketsInQuarter (va_Pc [.ref (a 0), .int (nI pt)] (RdP G cI [((a 0), oC a mo co le), ((a 3), iA cI K), ((a 4), iA cI Qa), ((a 5), iA cI La), ((a 6), iA cI Ha), ((a 7), iA cI Ma), ((a 8), iA cI Ba), ((a 9), iA cI Ca), ((a 10), iA cI Da), ((a 11), iA cI Fa), ((a 12), iA cI Wa)])) (RdQ (kindQ k 5 pt)) 0 0 No := by
  refine Met.ofW (cc := cX0_marketsInQuarter) (maxL := 3) (ret := (some .int)) (by decide) rfl ?_
  intro p e s m args below meth c s₁ B hml hv
  obtain ⟨rfl, hP, hK, hN⟩ := hv
  have hx := B.exec
  have hb := B.bytes
  have hr := B.returns
  have hlocks := B.notSynchronized
  have hts := atoms_spec (ws := wsX0_marketsInQuarter) B.pre
  have hown : s.vm.findClass RX0 = some m.cls := findClass_of_methodNamed B.named
  have hS : va_S No s.heap s.heap [] := va_S.rf
  have FX : CallFix p m c cX0_marketsInQuarter 3 s ([.ref (a 0), .int (nI pt)] : List Value).toArray wsX0_marketsInQuarter RX0 := ⟨hx, hb, hml, hown, hts⟩
  have hl := lv_entry ([.ref (a 0), .int (nI pt)]) (n := 3) (Nat.le_of_ble_eq_true rfl)
  rw [lg_entry_eq]
  generalize (lg_sl ([.ref (a 0), .int (nI pt)]) ++ List.replicate (3 - (lg_sl ([.ref (a 0), .int (nI pt)])).length) Slot.unset).toArray = ls at hl ⊢
  have hl : lv_has ls 3 [(0, .ref (a 0)), (1, .int (nI pt))] := hl
  refine wq (fun Q hQ => ?_)
  have hzc : 0 + 0 ≤ (headSpec wsX0_marketsInQuarter rmX0_marketsInQuarter).room.cells := Nat.zero_le _
  have hzs : 0 + 0 ≤ (headSpec wsX0_marketsInQuarter rmX0_marketsInQuarter).room.slots := Nat.zero_le _
  have hf25 := hts (.fieldLink RX0 25 "CanalCity$City" "quarters" "[I") (by decide +kernel)
  have hf34 := hts (.fieldLink RX0 34 "CanalCity$City" "marketsOf" "[I") (by decide +kernel)
  have hinX0 : ∀ w ∈ u_ws RX0 TX0 13, w ∈ wsX0_marketsInQuarter := by decide +kernel
  have hiniX1 := hts (.initialized RX1) (by decide +kernel)
  have hstX1_isLot := hts (.static yX1_isLot) (by decide +kernel)
  refine lv_aload_n hx hb dX0_marketsInQuarter_0 rfl (lv_at hl 0 rfl) ?_
  refine va_get (D := G) (ci := 0) (v := .ref (a 4)) (C := RX0) (T := TX0) (N := 13) hx hb hts hinX0 hown hK hP 0 rfl rfl 4 (by decide) hf25 (fun _ h9 => h9) rfl dX0_marketsInQuarter_1 ?_
  refine lv_iload_n hx hb dX0_marketsInQuarter_4 rfl (lv_at hl 1 rfl) ?_
  refine va_iald hx hb hK hP 2 0 rfl rfl (vp_in_nI hpt (by decide)) dX0_marketsInQuarter_5 ?_
  refine tpi (x' := Qa pt) (congrArg Qa (nI_clamp (by omega))) ?_
  refine tpi (x' := toI (qrt k pt)) (hQa pt hpt) ?_
  rcases hq : qrt k pt with _ | j
  · skip
    refine tpi (x' := -1) (rfl) ?_
    refine lv_istore_n (lv' := [(2, .int (-1)), (0, .ref (a 0)), (1, .int (nI pt))]) hx hb dX0_marketsInQuarter_6 rfl hl (by decide) rfl (fun ls hl => ?_)
    refine lv_iload_n hx hb dX0_marketsInQuarter_7 rfl (lv_at hl 0 rfl) ?_
    refine cr_i (va_runSN (As := [.int (-1)]) (rest := []) FX (c_X1_isLot l (-1)) ⟨va_cnB 1 hts gX0_marketsInQuarter_X1_isLot_n73 rfl rfl rfl (NW_at hN 3 rfl) hiniX1 (by decide +kernel) ⟨Nat.le_of_ble_eq_true rfl, Nat.le_of_ble_eq_true rfl⟩, hstX1_isLot, trivial⟩ puS rfl rfl hl.1 rfl (lv_room (Nat.le_of_ble_eq_true rfl)) dX0_marketsInQuarter_8 ⟨hzc, hzs⟩) hS hP (fun H locs hP hS => ?_)
    refine tpi (x' := 0) (by decide) ?_
    refine lv_if_eq (tgt := 23) hx hb dX0_marketsInQuarter_11 (by decide) (fun _ => ?_) (fun c => absurd (rfl) c)
    refine lv_iconst (v := 0) hx hb dX0_marketsInQuarter_23 (by decide) ?_
    subst hQ
    exact rd_i (by unfold kindQ; rw [hq]) hx hb hr hS hlocks dX0_marketsInQuarter_24
  · skip
    have hj : j < 64 := Nat.lt_of_le_of_lt (qrt_le hq) hpt
    refine tpi (x' := nI j) (rfl) ?_
    refine lv_istore_n (lv' := [(2, .int (nI j)), (0, .ref (a 0)), (1, .int (nI pt))]) hx hb dX0_marketsInQuarter_6 rfl hl (by decide) rfl (fun ls hl => ?_)
    refine lv_iload_n hx hb dX0_marketsInQuarter_7 rfl (lv_at hl 0 rfl) ?_
    refine cr_i (va_runSN (As := [.int (nI j)]) (rest := []) FX (c_X1_isLot l (nI j)) ⟨va_cnB 1 hts gX0_marketsInQuarter_X1_isLot_n73 rfl rfl rfl (NW_at hN 3 rfl) hiniX1 (by decide +kernel) ⟨Nat.le_of_ble_eq_true rfl, Nat.le_of_ble_eq_true rfl⟩, hstX1_isLot, trivial⟩ puS rfl rfl hl.1 rfl (lv_room (Nat.le_of_ble_eq_true rfl)) dX0_marketsInQuarter_8 ⟨hzc, hzs⟩) hS hP (fun H locs hP hS => ?_)
    refine tpi (x' := 1) (isLot_1 hj) ?_
    refine lv_if_eq (tgt := 23) hx hb dX0_marketsInQuarter_11 (by decide) (fun c => absurd c (by decide)) (fun _ => ?_)
    refine lv_aload_n hx hb dX0_marketsInQuarter_14 rfl (lv_at hl 1 rfl) ?_
    refine va_get (D := G) (ci := 0) (v := .ref (a 7)) (C := RX0) (T := TX0) (N := 13) hx hb hts hinX0 hown hK hP 0 rfl rfl 7 (by decide) hf34 (fun _ h9 => h9) rfl dX0_marketsInQuarter_15 ?_
    refine lv_iload_n hx hb dX0_marketsInQuarter_18 rfl (lv_at hl 0 rfl) ?_
    refine va_iald hx hb hK hP 5 0 rfl rfl (vp_in_nI hj (by decide)) dX0_marketsInQuarter_19 ?_
    refine tpi (x' := Ma j) (congrArg Ma (nI_clamp (by omega))) ?_
    refine lv_goto (tgt := 24) hx hb dX0_marketsInQuarter_20 (by decide) ?_
    subst hQ
    exact rd_i (by unfold kindQ; rw [hq]; exact hMa j hj) hx hb hr hS hlocks dX0_marketsInQuarter_24

def rmX0_complaintsAt : Room := { frames := 2, cells := 0, slots := 0, locals := 48 }
set_option maxHeartbeats 4000000 in
set_option maxRecDepth 100000 in
/-- complaints of a lot -/
theorem c_X0_complaintsAt (l : Launch) (G : va_G) (cI : ClassId) (a : Nat → Nat) (mo co le : Int32) (K Qa La Ha Ma Ba Ca Da Fa Wa k : Nat → Int32) (pt : Nat) (hk : eqK K k) (hQa : hatQ k Qa) (hMa : hatV k 5 Ma) (hBa : hatB k Ba) (hpt : pt < 64) : Met l yX0_complaintsAt wsX0_complaintsAt rmX0_complaintsAt (va_Pc [.ref (a 0), .int (nI pt)] (RdP G cI [((a 0), oC a mo co le), ((a 3), iA cI K), ((a 4), iA cI Qa), ((a 5), iA cI La), ((a 6), iA cI Ha), ((a 7), iA cI Ma), ((a 8), iA cI Ba), ((a 9), iA cI Ca), ((a 10), iA cI Da), ((a 11), iA cI Fa), ((a 12), iA cI Wa)])) (RdQ (cpl k pt)) 0 0 No := by
  refine Met.ofW (cc := cX0_complaintsAt) (maxL := 4) (ret := (some .int)) (by decide) rfl ?_
  intro p e s m args below meth c s₁ B hml hv
  obtain ⟨rfl, hP, hK, hN⟩ := hv
  have hx := B.exec
  have hb := B.bytes
  have hr := B.returns
  have hlocks := B.notSynchronized
  have hts := atoms_spec (ws := wsX0_complaintsAt) B.pre
  have hown : s.vm.findClass RX0 = some m.cls := findClass_of_methodNamed B.named
  have hS : va_S No s.heap s.heap [] := va_S.rf
  have FX : CallFix p m c cX0_complaintsAt 4 s ([.ref (a 0), .int (nI pt)] : List Value).toArray wsX0_complaintsAt RX0 := ⟨hx, hb, hml, hown, hts⟩
  have hl := lv_entry ([.ref (a 0), .int (nI pt)]) (n := 4) (Nat.le_of_ble_eq_true rfl)
  rw [lg_entry_eq]
  generalize (lg_sl ([.ref (a 0), .int (nI pt)]) ++ List.replicate (4 - (lg_sl ([.ref (a 0), .int (nI pt)])).length) Slot.unset).toArray = ls at hl ⊢
  have hl : lv_has ls 4 [(0, .ref (a 0)), (1, .int (nI pt))] := hl
  refine wq (fun Q hQ => ?_)
  have hzc : 0 + 0 ≤ (headSpec wsX0_complaintsAt rmX0_complaintsAt).room.cells := Nat.zero_le _
  have hzs : 0 + 0 ≤ (headSpec wsX0_complaintsAt rmX0_complaintsAt).room.slots := Nat.zero_le _
  have hf21 := hts (.fieldLink RX0 21 "CanalCity$City" "kinds" "[I") (by decide +kernel)
  have hinX0 : ∀ w ∈ u_ws RX0 TX0 13, w ∈ wsX0_complaintsAt := by decide +kernel
  refine lv_aload_n hx hb dX0_complaintsAt_0 rfl (lv_at hl 0 rfl) ?_
  refine va_get (D := G) (ci := 0) (v := .ref (a 3)) (C := RX0) (T := TX0) (N := 13) hx hb hts hinX0 hown hK hP 0 rfl rfl 3 (by decide) hf21 (fun _ h9 => h9) rfl dX0_complaintsAt_1 ?_
  refine lv_iload_n hx hb dX0_complaintsAt_4 rfl (lv_at hl 1 rfl) ?_
  refine va_iald hx hb hK hP 1 0 rfl rfl (vp_in_nI hpt (by decide)) dX0_complaintsAt_5 ?_
  refine tpi (x' := K pt) (congrArg K (nI_clamp (by omega))) ?_
  refine tpi (x' := k pt) (hk pt hpt) ?_
  refine lv_iconst (v := 3) hx hb dX0_complaintsAt_6 (by decide) ?_
  refine lv_icmp_eq (tgt := 12) hx hb dX0_complaintsAt_7 (by decide) (fun c3 => ?_) (fun c3 => ?_)
  · skip
    refine lv_aload_n hx hb dX0_complaintsAt_12 rfl (lv_at hl 0 rfl) ?_
    refine lv_iload_n hx hb dX0_complaintsAt_13 rfl (lv_at hl 1 rfl) ?_
    refine cr_i (va_runV (As := [.int (nI pt)]) (rest := []) FX (c_X0_marketsInQuarter l G cI a mo co le K Qa La Ha Ma Ba Ca Da Fa Wa k pt hQa hMa hpt) (cwV 1 hts gX0_complaintsAt_X0_marketsInQuarter rfl rfl rfl (by decide +kernel) ⟨Nat.le_of_ble_eq_true rfl, Nat.le_of_ble_eq_true rfl⟩) (rdV hK hP hN [0, 1, 2, 3, 4, 5, 6, 7, 8, 9, 10] rfl (ci := 0) (q0 := 0) rfl rfl) rfl rfl hl.1 rfl (lv_room (Nat.le_of_ble_eq_true rfl)) dX0_complaintsAt_14 ⟨hzc, hzs⟩) hS hP (fun H locs hP hS => ?_)
    refine lv_if_ne (tgt := 24) hx hb dX0_complaintsAt_17 (by decide) (fun c5 => ?_) (fun c5 => ?_)
    · skip
      refine lv_iconst (v := 0) hx hb dX0_complaintsAt_24 (by decide) ?_
      refine lv_istore_n (lv' := [(2, .int 0), (0, .ref (a 0)), (1, .int (nI pt))]) hx hb dX0_complaintsAt_25 rfl hl (by decide) rfl (fun ls hl => ?_)
      refine lv_aload_n hx hb dX0_complaintsAt_26 rfl (lv_at hl 1 rfl) ?_
      refine lv_iload_n hx hb dX0_complaintsAt_27 rfl (lv_at hl 2 rfl) ?_
      refine cr_i (va_runV (As := [.int (nI pt)]) (rest := []) FX (c_X0_isByBoat l G cI a mo co le K Qa La Ha Ma Ba Ca Da Fa Wa k pt hk hBa hpt) (cwV 1 hts gX0_complaintsAt_X0_isByBoat rfl rfl rfl (by decide +kernel) ⟨Nat.le_of_ble_eq_true rfl, Nat.le_of_ble_eq_true rfl⟩) (rdV hK hP hN [0, 1, 2, 3, 4, 5, 6, 7, 8, 9, 10] rfl (ci := 0) (q0 := 0) rfl rfl) rfl rfl hl.1 rfl (lv_room (Nat.le_of_ble_eq_true rfl)) dX0_complaintsAt_28 ⟨hzc, hzs⟩) hS hP (fun H locs hP hS => ?_)
      rcases ho : byB k pt with _ | _
      · skip
        refine tpi (x' := 0) (rfl) ?_
        refine lv_if_eq (tgt := 38) hx hb dX0_complaintsAt_31 (by decide) (fun _ => ?_) (fun c => absurd (rfl) c)
        refine lv_iconst (v := 1) hx hb dX0_complaintsAt_38 (by decide) ?_
        refine lv_istore_n (lv' := [(3, .int 1), (2, .int 0), (0, .ref (a 0)), (1, .int (nI pt))]) hx hb dX0_complaintsAt_39 rfl hl (by decide) rfl (fun ls hl => ?_)
        refine lv_iload_n hx hb dX0_complaintsAt_40 rfl (lv_at hl 1 rfl) ?_
        refine lv_aload_n hx hb dX0_complaintsAt_41 rfl (lv_at hl 2 rfl) ?_
        refine lv_iload_n hx hb dX0_complaintsAt_42 rfl (lv_at hl 3 rfl) ?_
        refine lv_iconst (v := 4) hx hb dX0_complaintsAt_43 (by decide) ?_
        refine cr_i (va_runV (As := [.int (nI pt), .int 4]) (rest := [.int 0]) FX (c_X0_neighboursOfKind l G cI a mo co le K Qa La Ha Ma Ba Ca Da Fa Wa k pt 4 hk hpt) (cwV 2 hts gX0_complaintsAt_X0_neighboursOfKind rfl rfl rfl (by decide +kernel) ⟨Nat.le_of_ble_eq_true rfl, Nat.le_of_ble_eq_true rfl⟩) (rdV hK hP hN [0, 1, 2, 3, 4, 5, 6, 7, 8, 9, 10] rfl (ci := 0) (q0 := 0) rfl rfl) rfl rfl hl.1 rfl (lv_room (Nat.le_of_ble_eq_true rfl)) dX0_complaintsAt_44 ⟨hzc, hzs⟩) hS hP (fun H locs hP hS => ?_)
        refine lv_iadd hx hb dX0_complaintsAt_47 ?_
        refine lv_iload_n hx hb dX0_complaintsAt_48 rfl (lv_at hl 0 rfl) ?_
        refine lv_iadd hx hb dX0_complaintsAt_49 ?_
        subst hQ
        exact rd_i (by unfold cpl; rw [if_pos c3, if_neg c5, ho]; rfl) hx hb hr hS hlocks dX0_complaintsAt_50
      · skip
        refine tpi (x' := 1) (rfl) ?_
        refine lv_if_eq (tgt := 38) hx hb dX0_complaintsAt_31 (by decide) (fun c => absurd c (by decide)) (fun _ => ?_)
        refine lv_iconst (v := 0) hx hb dX0_complaintsAt_34 (by decide) ?_
        refine lv_goto (tgt := 39) hx hb dX0_complaintsAt_35 (by decide) ?_
        refine lv_istore_n (lv' := [(3, .int 0), (2, .int 0), (0, .ref (a 0)), (1, .int (nI pt))]) hx hb dX0_complaintsAt_39 rfl hl (by decide) rfl (fun ls hl => ?_)
        refine lv_iload_n hx hb dX0_complaintsAt_40 rfl (lv_at hl 1 rfl) ?_
        refine lv_aload_n hx hb dX0_complaintsAt_41 rfl (lv_at hl 2 rfl) ?_
        refine lv_iload_n hx hb dX0_complaintsAt_42 rfl (lv_at hl 3 rfl) ?_
        refine lv_iconst (v := 4) hx hb dX0_complaintsAt_43 (by decide) ?_
        refine cr_i (va_runV (As := [.int (nI pt), .int 4]) (rest := [.int 0]) FX (c_X0_neighboursOfKind l G cI a mo co le K Qa La Ha Ma Ba Ca Da Fa Wa k pt 4 hk hpt) (cwV 2 hts gX0_complaintsAt_X0_neighboursOfKind rfl rfl rfl (by decide +kernel) ⟨Nat.le_of_ble_eq_true rfl, Nat.le_of_ble_eq_true rfl⟩) (rdV hK hP hN [0, 1, 2, 3, 4, 5, 6, 7, 8, 9, 10] rfl (ci := 0) (q0 := 0) rfl rfl) rfl rfl hl.1 rfl (lv_room (Nat.le_of_ble_eq_true rfl)) dX0_complaintsAt_44 ⟨hzc, hzs⟩) hS hP (fun H locs hP hS => ?_)
        refine lv_iadd hx hb dX0_complaintsAt_47 ?_
        refine lv_iload_n hx hb dX0_complaintsAt_48 rfl (lv_at hl 0 rfl) ?_
        refine lv_iadd hx hb dX0_complaintsAt_49 ?_
        subst hQ
        exact rd_i (by unfold cpl; rw [if_pos c3, if_neg c5, ho]; rfl) hx hb hr hS hlocks dX0_complaintsAt_50
    · skip
      refine lv_iconst (v := 2) hx hb dX0_complaintsAt_20 (by decide) ?_
      refine lv_goto (tgt := 25) hx hb dX0_complaintsAt_21 (by decide) ?_
      refine lv_istore_n (lv' := [(2, .int 2), (0, .ref (a 0)), (1, .int (nI pt))]) hx hb dX0_complaintsAt_25 rfl hl (by decide) rfl (fun ls hl => ?_)
      refine lv_aload_n hx hb dX0_complaintsAt_26 rfl (lv_at hl 1 rfl) ?_
      refine lv_iload_n hx hb dX0_complaintsAt_27 rfl (lv_at hl 2 rfl) ?_
      refine cr_i (va_runV (As := [.int (nI pt)]) (rest := []) FX (c_X0_isByBoat l G cI a mo co le K Qa La Ha Ma Ba Ca Da Fa Wa k pt hk hBa hpt) (cwV 1 hts gX0_complaintsAt_X0_isByBoat rfl rfl rfl (by decide +kernel) ⟨Nat.le_of_ble_eq_true rfl, Nat.le_of_ble_eq_true rfl⟩) (rdV hK hP hN [0, 1, 2, 3, 4, 5, 6, 7, 8, 9, 10] rfl (ci := 0) (q0 := 0) rfl rfl) rfl rfl hl.1 rfl (lv_room (Nat.le_of_ble_eq_true rfl)) dX0_complaintsAt_28 ⟨hzc, hzs⟩) hS hP (fun H locs hP hS => ?_)
      rcases ho : byB k pt with _ | _
      · skip
        refine tpi (x' := 0) (rfl) ?_
        refine lv_if_eq (tgt := 38) hx hb dX0_complaintsAt_31 (by decide) (fun _ => ?_) (fun c => absurd (rfl) c)
        refine lv_iconst (v := 1) hx hb dX0_complaintsAt_38 (by decide) ?_
        refine lv_istore_n (lv' := [(3, .int 1), (2, .int 2), (0, .ref (a 0)), (1, .int (nI pt))]) hx hb dX0_complaintsAt_39 rfl hl (by decide) rfl (fun ls hl => ?_)
        refine lv_iload_n hx hb dX0_complaintsAt_40 rfl (lv_at hl 1 rfl) ?_
        refine lv_aload_n hx hb dX0_complaintsAt_41 rfl (lv_at hl 2 rfl) ?_
        refine lv_iload_n hx hb dX0_complaintsAt_42 rfl (lv_at hl 3 rfl) ?_
        refine lv_iconst (v := 4) hx hb dX0_complaintsAt_43 (by decide) ?_
        refine cr_i (va_runV (As := [.int (nI pt), .int 4]) (rest := [.int 2]) FX (c_X0_neighboursOfKind l G cI a mo co le K Qa La Ha Ma Ba Ca Da Fa Wa k pt 4 hk hpt) (cwV 2 hts gX0_complaintsAt_X0_neighboursOfKind rfl rfl rfl (by decide +kernel) ⟨Nat.le_of_ble_eq_true rfl, Nat.le_of_ble_eq_true rfl⟩) (rdV hK hP hN [0, 1, 2, 3, 4, 5, 6, 7, 8, 9, 10] rfl (ci := 0) (q0 := 0) rfl rfl) rfl rfl hl.1 rfl (lv_room (Nat.le_of_ble_eq_true rfl)) dX0_complaintsAt_44 ⟨hzc, hzs⟩) hS hP (fun H locs hP hS => ?_)
        refine lv_iadd hx hb dX0_complaintsAt_47 ?_
        refine lv_iload_n hx hb dX0_complaintsAt_48 rfl (lv_at hl 0 rfl) ?_
        refine lv_iadd hx hb dX0_complaintsAt_49 ?_
        subst hQ
        exact rd_i (by unfold cpl; rw [if_pos c3, if_pos c5, ho]; rfl) hx hb hr hS hlocks dX0_complaintsAt_50
      · skip
        refine tpi (x' := 1) (rfl) ?_
        refine lv_if_eq (tgt := 38) hx hb dX0_complaintsAt_31 (by decide) (fun c => absurd c (by decide)) (fun _ => ?_)
        refine lv_iconst (v := 0) hx hb dX0_complaintsAt_34 (by decide) ?_
        refine lv_goto (tgt := 39) hx hb dX0_complaintsAt_35 (by decide) ?_
        refine lv_istore_n (lv' := [(3, .int 0), (2, .int 2), (0, .ref (a 0)), (1, .int (nI pt))]) hx hb dX0_complaintsAt_39 rfl hl (by decide) rfl (fun ls hl => ?_)
        refine lv_iload_n hx hb dX0_complaintsAt_40 rfl (lv_at hl 1 rfl) ?_
        refine lv_aload_n hx hb dX0_complaintsAt_41 rfl (lv_at hl 2 rfl) ?_
        refine lv_iload_n hx hb dX0_complaintsAt_42 rfl (lv_at hl 3 rfl) ?_
        refine lv_iconst (v := 4) hx hb dX0_complaintsAt_43 (by decide) ?_
        refine cr_i (va_runV (As := [.int (nI pt), .int 4]) (rest := [.int 2]) FX (c_X0_neighboursOfKind l G cI a mo co le K Qa La Ha Ma Ba Ca Da Fa Wa k pt 4 hk hpt) (cwV 2 hts gX0_complaintsAt_X0_neighboursOfKind rfl rfl rfl (by decide +kernel) ⟨Nat.le_of_ble_eq_true rfl, Nat.le_of_ble_eq_true rfl⟩) (rdV hK hP hN [0, 1, 2, 3, 4, 5, 6, 7, 8, 9, 10] rfl (ci := 0) (q0 := 0) rfl rfl) rfl rfl hl.1 rfl (lv_room (Nat.le_of_ble_eq_true rfl)) dX0_complaintsAt_44 ⟨hzc, hzs⟩) hS hP (fun H locs hP hS => ?_)
        refine lv_iadd hx hb dX0_complaintsAt_47 ?_
        refine lv_iload_n hx hb dX0_complaintsAt_48 rfl (lv_at hl 0 rfl) ?_
        refine lv_iadd hx hb dX0_complaintsAt_49 ?_
        subst hQ
        exact rd_i (by unfold cpl; rw [if_pos c3, if_pos c5, ho]; rfl) hx hb hr hS hlocks dX0_complaintsAt_50
  · skip
    refine lv_iconst (v := 0) hx hb dX0_complaintsAt_10 (by decide) ?_
    subst hQ
    exact rd_i (by unfold cpl; rw [if_neg c3]) hx hb hr hS hlocks dX0_complaintsAt_11

def rmX0_duesAt : Room := { frames := 2, cells := 0, slots := 0, locals := 47 }
set_option maxHeartbeats 4000000 in
set_option maxRecDepth 100000 in
/-- dues of a lot -/
theorem c_X0_duesAt (l : Launch) (G : va_G) (cI : ClassId) (a : Nat → Nat) (mo co le : Int32) (K Qa La Ha Ma Ba Ca Da Fa Wa k : Nat → Int32) (pt : Nat) (hk : eqK K k) (hQa : hatQ k Qa) (hHa : hatV k 3 Ha) (hBa : hatB k Ba) (hcp : Ca pt = cpl k pt) (hpt : pt < 64) : Met l yX0_duesAt wsX0_duesAt rmX0_duesAt (va_Pc [.ref (a 0), .int (nI pt)] (RdP G cI [((a 0), oC a mo co le), ((a 3), iA cI K), ((a 4), iA cI Qa), ((a 5), iA cI La), ((a 6), iA cI Ha), ((a 7), iA cI Ma), ((a 8), iA cI Ba), ((a 9), iA cI Ca), ((a 10), iA cI Da), ((a 11), iA cI Fa), ((a 12), iA cI Wa)])) (RdQ (due k pt)) 0 0 No := by
  refine Met.ofW (cc := cX0_duesAt) (maxL := 2) (ret := (some .int)) (by decide) rfl ?_
  intro p e s m args below meth c s₁ B hml hv
  obtain ⟨rfl, hP, hK, hN⟩ := hv
  have hx := B.exec
  have hb := B.bytes
  have hr := B.returns
  have hlocks := B.notSynchronized
  have hts := atoms_spec (ws := wsX0_duesAt) B.pre
  have hown : s.vm.findClass RX0 = some m.cls := findClass_of_methodNamed B.named
  have hS : va_S No s.heap s.heap [] := va_S.rf
  have FX : CallFix p m c cX0_duesAt 2 s ([.ref (a 0), .int (nI pt)] : List Value).toArray wsX0_duesAt RX0 := ⟨hx, hb, hml, hown, hts⟩
  have hl := lv_entry ([.ref (a 0), .int (nI pt)]) (n := 2) (Nat.le_of_ble_eq_true rfl)
  rw [lg_entry_eq]
  generalize (lg_sl ([.ref (a 0), .int (nI pt)]) ++ List.replicate (2 - (lg_sl ([.ref (a 0), .int (nI pt)])).length) Slot.unset).toArray = ls at hl ⊢
  have hl : lv_has ls 2 [(0, .ref (a 0)), (1, .int (nI pt))] := hl
  refine wq (fun Q hQ => ?_)
  have hzc : 0 + 0 ≤ (headSpec wsX0_duesAt rmX0_duesAt).room.cells := Nat.zero_le _
  have hzs : 0 + 0 ≤ (headSpec wsX0_duesAt rmX0_duesAt).room.slots := Nat.zero_le _
  have hf21 := hts (.fieldLink RX0 21 "CanalCity$City" "kinds" "[I") (by decide +kernel)
  have hf40 := hts (.fieldLink RX0 40 "CanalCity$City" "complaints" "[I") (by decide +kernel)
  have hinX0 : ∀ w ∈ u_ws RX0 TX0 13, w ∈ wsX0_duesAt := by decide +kernel
  refine lv_aload_n hx hb dX0_duesAt_0 rfl (lv_at hl 0 rfl) ?_
  refine va_get (D := G) (ci := 0) (v := .ref (a 3)) (C := RX0) (T := TX0) (N := 13) hx hb hts hinX0 hown hK hP 0 rfl rfl 3 (by decide) hf21 (fun _ h9 => h9) rfl dX0_duesAt_1 ?_
  refine lv_iload_n hx hb dX0_duesAt_4 rfl (lv_at hl 1 rfl) ?_
  refine va_iald hx hb hK hP 1 0 rfl rfl (vp_in_nI hpt (by decide)) dX0_duesAt_5 ?_
  refine tpi (x' := K pt) (congrArg K (nI_clamp (by omega))) ?_
  refine tpi (x' := k pt) (hk pt hpt) ?_
  rcases (show k pt = 3 ∨ k pt = 4 ∨ k pt = 5 ∨ (k pt ≠ 3 ∧ k pt ≠ 4 ∧ k pt ≠ 5) by by_cases h3 : k pt = 3; exact Or.inl h3; by_cases h4 : k pt = 4; exact Or.inr (Or.inl h4); by_cases h5 : k pt = 5; exact Or.inr (Or.inr (Or.inl h5)); exact Or.inr (Or.inr (Or.inr ⟨h3, h4, h5⟩))) with h3 | h4 | h5 | ⟨h3, h4, h5⟩
  · skip
    refine tpi (x' := 3) (h3) ?_
    refine lv_tableIn (off := 26) (tgt := 32) hx hb dX0_duesAt_6 (by decide +kernel) (by decide +kernel) (by decide +kernel) (by decide) ?_
    refine lv_iconst (v := 0) hx hb dX0_duesAt_32 (by decide) ?_
    refine lv_iconst (v := 4) hx hb dX0_duesAt_33 (by decide) ?_
    refine lv_aload_n hx hb dX0_duesAt_34 rfl (lv_at hl 0 rfl) ?_
    refine va_get (D := G) (ci := 0) (v := .ref (a 9)) (C := RX0) (T := TX0) (N := 13) hx hb hts hinX0 hown hK hP 0 rfl rfl 9 (by decide) hf40 (fun _ h9 => h9) rfl dX0_duesAt_35 ?_
    refine lv_iload_n hx hb dX0_duesAt_38 rfl (lv_at hl 1 rfl) ?_
    refine va_iald hx hb hK hP 7 0 rfl rfl (vp_in_nI hpt (by decide)) dX0_duesAt_39 ?_
    refine tpi (x' := Ca pt) (congrArg Ca (nI_clamp (by omega))) ?_
    refine tpi (x' := cpl k pt) (hcp) ?_
    refine lv_isub hx hb dX0_duesAt_40 ?_
    refine va_mmax hx hb (hml.trans hl.1.symm) hown (hts (.methodLink RX0 113 Lib.Math.max.name) (by decide +kernel)) (hts (.static Lib.Math.max.name) (by decide +kernel)) (hts (.initialized "java/lang/Math") (by decide +kernel)) (hts (.code Lib.Math.max.name Lib.Math.max.code 2 (some .int)) (by decide +kernel)) (Nat.le_of_ble_eq_true rfl) (Nat.le_of_ble_eq_true rfl) (Nat.zero_le _) (Nat.zero_le _) dX0_duesAt_41 ?_
    subst hQ
    exact rd_i (by unfold due; rw [if_pos h3]) hx hb hr hS hlocks dX0_duesAt_44
  · skip
    refine tpi (x' := 4) (h4) ?_
    refine lv_tableIn (off := 39) (tgt := 45) hx hb dX0_duesAt_6 (by decide +kernel) (by decide +kernel) (by decide +kernel) (by decide) ?_
    refine lv_aload_n hx hb dX0_duesAt_45 rfl (lv_at hl 0 rfl) ?_
    refine lv_iload_n hx hb dX0_duesAt_46 rfl (lv_at hl 1 rfl) ?_
    refine cr_i (va_runV (As := [.int (nI pt)]) (rest := []) FX (c_X0_isByBoat l G cI a mo co le K Qa La Ha Ma Ba Ca Da Fa Wa k pt hk hBa hpt) (cwV 1 hts gX0_duesAt_X0_isByBoat rfl rfl rfl (by decide +kernel) ⟨Nat.le_of_ble_eq_true rfl, Nat.le_of_ble_eq_true rfl⟩) (rdV hK hP hN [0, 1, 2, 3, 4, 5, 6, 7, 8, 9, 10] rfl (ci := 0) (q0 := 0) rfl rfl) rfl rfl hl.1 rfl (lv_room (Nat.le_of_ble_eq_true rfl)) dX0_duesAt_47 ⟨hzc, hzs⟩) hS hP (fun H locs hP hS => ?_)
    rcases ho : byB k pt with _ | _
    · skip
      refine tpi (x' := 0) (rfl) ?_
      refine lv_if_eq (tgt := 57) hx hb dX0_duesAt_50 (by decide) (fun _ => ?_) (fun c => absurd (rfl) c)
      refine lv_iconst (v := 2) hx hb dX0_duesAt_57 (by decide) ?_
      subst hQ
      exact rd_i (by unfold due; rw [if_neg (by rw [h4]; decide), if_pos h4, ho]; rfl) hx hb hr hS hlocks dX0_duesAt_58
    · skip
      refine tpi (x' := 1) (rfl) ?_
      refine lv_if_eq (tgt := 57) hx hb dX0_duesAt_50 (by decide) (fun c => absurd c (by decide)) (fun _ => ?_)
      refine lv_iconst (v := 5) hx hb dX0_duesAt_53 (by decide) ?_
      refine lv_goto (tgt := 58) hx hb dX0_duesAt_54 (by decide) ?_
      subst hQ
      exact rd_i (by unfold due; rw [if_neg (by rw [h4]; decide), if_pos h4, ho]; rfl) hx hb hr hS hlocks dX0_duesAt_58
  · skip
    refine tpi (x' := 5) (h5) ?_
    refine lv_tableIn (off := 53) (tgt := 59) hx hb dX0_duesAt_6 (by decide +kernel) (by decide +kernel) (by decide +kernel) (by decide) ?_
    refine lv_aload_n hx hb dX0_duesAt_59 rfl (lv_at hl 0 rfl) ?_
    refine lv_iload_n hx hb dX0_duesAt_60 rfl (lv_at hl 1 rfl) ?_
    refine cr_i (va_runV (As := [.int (nI pt)]) (rest := []) FX (c_X0_housesInQuarter l G cI a mo co le K Qa La Ha Ma Ba Ca Da Fa Wa k pt hQa hHa hpt) (cwV 1 hts gX0_duesAt_X0_housesInQuarter rfl rfl rfl (by decide +kernel) ⟨Nat.le_of_ble_eq_true rfl, Nat.le_of_ble_eq_true rfl⟩) (rdV hK hP hN [0, 1, 2, 3, 4, 5, 6, 7, 8, 9, 10] rfl (ci := 0) (q0 := 0) rfl rfl) rfl rfl hl.1 rfl (lv_room (Nat.le_of_ble_eq_true rfl)) dX0_duesAt_61 ⟨hzc, hzs⟩) hS hP (fun H locs hP hS => ?_)
    refine lv_iconst (v := 2) hx hb dX0_duesAt_64 (by decide) ?_
    refine lv_idiv hx hb dX0_duesAt_65 (by decide) ?_
    subst hQ
    exact rd_i (by unfold due; rw [if_neg (by rw [h5]; decide), if_neg (by rw [h5]; decide), if_pos h5]) hx hb hr hS hlocks dX0_duesAt_66
  · skip
    refine lv_tableOut (tgt := 67) hx hb dX0_duesAt_6 (tbl345 h3 h4 h5) (by decide) ?_
    refine lv_iconst (v := 0) hx hb dX0_duesAt_67 (by decide) ?_
    subst hQ
    exact rd_i (by unfold due; rw [if_neg h3, if_neg h4, if_neg h5]) hx hb hr hS hlocks dX0_duesAt_68

def rmX0_sum : Room := { frames := 0, cells := 0, slots := 0, locals := 0 }
set_option maxHeartbeats 4000000 in
set_option maxRecDepth 100000 in
/-- the sum of a row -/
theorem c_X0_sum (l : Launch) (G : va_G) (cI : ClassId) (r : Nat) (f : Nat → Int32)  : Met l yX0_sum wsX0_sum rmX0_sum (va_Pc [.ref r] (RdP G cI [(r, iA cI f)])) (RdQ (csum f 64)) 0 0 No := by
  refine Met.ofW (cc := cX0_sum) (maxL := 3) (ret := (some .int)) (by decide) rfl ?_
  intro p e s m args below meth c s₁ B hml hv
  obtain ⟨rfl, hP, hK, hN⟩ := hv
  have hx := B.exec
  have hb := B.bytes
  have hr := B.returns
  have hlocks := B.notSynchronized
  have hts := atoms_spec (ws := wsX0_sum) B.pre
  have hown : s.vm.findClass RX0 = some m.cls := findClass_of_methodNamed B.named
  have hS : va_S No s.heap s.heap [] := va_S.rf
  have FX : CallFix p m c cX0_sum 3 s ([.ref r] : List Value).toArray wsX0_sum RX0 := ⟨hx, hb, hml, hown, hts⟩
  have hl := lv_entry ([.ref r]) (n := 3) (Nat.le_of_ble_eq_true rfl)
  rw [lg_entry_eq]
  generalize (lg_sl ([.ref r]) ++ List.replicate (3 - (lg_sl ([.ref r])).length) Slot.unset).toArray = ls at hl ⊢
  have hl : lv_has ls 3 [(0, .ref r)] := hl
  refine wq (fun Q hQ => ?_)
  have hzc : 0 + 0 ≤ (headSpec wsX0_sum rmX0_sum).room.cells := Nat.zero_le _
  have hzs : 0 + 0 ≤ (headSpec wsX0_sum rmX0_sum).room.slots := Nat.zero_le _
  refine lv_iconst (v := 0) hx hb dX0_sum_0 (by decide) ?_
  refine lv_istore_n (lv' := [(1, .int 0), (0, .ref r)]) hx hb dX0_sum_1 rfl hl (by decide) rfl (fun ls hl => ?_)
  refine lv_iconst (v := 0) hx hb dX0_sum_2 (by decide) ?_
  refine lv_istore_n (lv' := [(2, .int 0), (1, .int 0), (0, .ref r)]) hx hb dX0_sum_3 rfl hl (by decide) rfl (fun ls hl => ?_)
  have lp : ∀ (n : Nat) (i : Nat), (hi : i ≤ 64) → (64 - i) < n → ∀ (H : Heap) (locs : List Loc) (ls : Array Slot), va_P G vwCl [(r, iA cI f)] H → va_S No s.heap H locs → lv_has ls 3 [(0, .ref r), (1, .int (csum f i)), (2, .int (nI i))] → W p l e (headSpec wsX0_sum rmX0_sum).room s m ([.ref r] : List Value).toArray below meth c H locs 0 0 Q (F0 m 4 ls []) := by
    intro n
    induction n with
    | zero => intro i hi hn; exact absurd hn (by omega)
    | succ n ih_lp =>
      intro i hi hn H locs ls hP hS hl
      refine lv_iload_n hx hb dX0_sum_4 rfl (lv_at hl 2 rfl) ?_
      refine lv_aload_n hx hb dX0_sum_5 rfl (lv_at hl 0 rfl) ?_
      refine va_alen hx hb hK hP 0 0 rfl rfl (v := 64) rfl dX0_sum_6 ?_
      rcases Nat.lt_or_ge i 64 with g | g
      · skip
        refine lv_icmp_ge (tgt := 22) hx hb dX0_sum_7 (by decide) (fun c => absurd c (lt_n (n := 64) g (by decide))) (fun _ => ?_)
        refine lv_iload_n hx hb dX0_sum_10 rfl (lv_at hl 1 rfl) ?_
        refine lv_aload_n hx hb dX0_sum_11 rfl (lv_at hl 0 rfl) ?_
        refine lv_iload_n hx hb dX0_sum_12 rfl (lv_at hl 2 rfl) ?_
        refine va_iald hx hb hK hP 0 0 rfl rfl (vp_in_nI g (by decide)) dX0_sum_13 ?_
        refine tpi (x' := f i) (congrArg f (nI_clamp (by omega))) ?_
        refine lv_iadd hx hb dX0_sum_14 ?_
        refine lv_istore_n (lv' := [(1, .int ((csum f i) + (f i))), (0, .ref r), (2, .int (nI i))]) hx hb dX0_sum_15 rfl hl (by decide) rfl (fun ls hl => ?_)
        refine lv_iinc (v := nI (i + 1)) (lv' := [(2, .int (nI (i + 1))), (1, .int ((csum f i) + (f i))), (0, .ref r)]) hx hb dX0_sum_16 hl (k := 2) rfl (nI_inc i) (by decide) rfl (fun ls hl => ?_)
        refine lv_goto (tgt := 4) hx hb dX0_sum_19 (by decide) ?_
        exact ih_lp (i + 1) (by omega) (by omega) _ _ _ hP hS (lv_sub hl [2, 1, 0] (rfl))
      · skip
        have g : i = 64 := by omega
        subst g
        refine lv_icmp_ge (tgt := 22) hx hb dX0_sum_7 (by decide) (fun _ => ?_) (fun c => absurd (le_n (n := 64) (i := 64) (by decide) (by decide)) c)
        refine lv_iload_n hx hb dX0_sum_22 rfl (lv_at hl 1 rfl) ?_
        subst hQ
        exact rd_i (rfl) hx hb hr hS hlocks dX0_sum_23
  exact lp (_ + 1) 0 (by omega) (Nat.lt_succ_self _) _ _ _ hP hS (lv_sub hl [2, 1, 0] rfl)

def rmX0_complaintsOfAll : Room := { frames := 1, cells := 0, slots := 0, locals := 22 }
set_option maxHeartbeats 4000000 in
set_option maxRecDepth 100000 in
/-- over all lots -/
theorem c_X0_complaintsOfAll (l : Launch) (G : va_G) (cI : ClassId) (a : Nat → Nat) (mo co le : Int32) (K Qa La Ha Ma Ba Ca Da Fa Wa k : Nat → Int32) (hCa : hatC k Ca) : Met l yX0_complaintsOfAll wsX0_complaintsOfAll rmX0_complaintsOfAll (va_Pc [.ref (a 0)] (RdP G cI [((a 0), oC a mo co le), ((a 3), iA cI K), ((a 4), iA cI Qa), ((a 5), iA cI La), ((a 6), iA cI Ha), ((a 7), iA cI Ma), ((a 8), iA cI Ba), ((a 9), iA cI Ca), ((a 10), iA cI Da), ((a 11), iA cI Fa), ((a 12), iA cI Wa)])) (RdQ (call k)) 0 0 No := by
  refine Met.ofW (cc := cX0_complaintsOfAll) (maxL := 1) (ret := (some .int)) (by decide) rfl ?_
  intro p e s m args below meth c s₁ B hml hv
  obtain ⟨rfl, hP, hK, hN⟩ := hv
  have hx := B.exec
  have hb := B.bytes
  have hr := B.returns
  have hlocks := B.notSynchronized
  have hts := atoms_spec (ws := wsX0_complaintsOfAll) B.pre
  have hown : s.vm.findClass RX0 = some m.cls := findClass_of_methodNamed B.named
  have hS : va_S No s.heap s.heap [] := va_S.rf
  have FX : CallFix p m c cX0_complaintsOfAll 1 s ([.ref (a 0)] : List Value).toArray wsX0_complaintsOfAll RX0 := ⟨hx, hb, hml, hown, hts⟩
  have hl := lv_entry ([.ref (a 0)]) (n := 1) (Nat.le_of_ble_eq_true rfl)
  rw [lg_entry_eq]
  generalize (lg_sl ([.ref (a 0)]) ++ List.replicate (1 - (lg_sl ([.ref (a 0)])).length) Slot.unset).toArray = ls at hl ⊢
  have hl : lv_has ls 1 [(0, .ref (a 0))] := hl
  refine wq (fun Q hQ => ?_)
  have hzc : 0 + 0 ≤ (headSpec wsX0_complaintsOfAll rmX0_complaintsOfAll).room.cells := Nat.zero_le _
  have hzs : 0 + 0 ≤ (headSpec wsX0_complaintsOfAll rmX0_complaintsOfAll).room.slots := Nat.zero_le _
  have hf40 := hts (.fieldLink RX0 40 "CanalCity$City" "complaints" "[I") (by decide +kernel)
  have hinX0 : ∀ w ∈ u_ws RX0 TX0 13, w ∈ wsX0_complaintsOfAll := by decide +kernel
  refine lv_aload_n hx hb dX0_complaintsOfAll_0 rfl (lv_at hl 0 rfl) ?_
  refine va_get (D := G) (ci := 0) (v := .ref (a 9)) (C := RX0) (T := TX0) (N := 13) hx hb hts hinX0 hown hK hP 0 rfl rfl 9 (by decide) hf40 (fun _ h9 => h9) rfl dX0_complaintsOfAll_1 ?_
  refine cr_i (va_runS (As := [.ref (a 9)]) (rest := []) FX (c_X0_sum l G cI (a 9) Ca) (va_cwS 1 hts gX0_complaintsOfAll_X0_sum rfl rfl rfl (by decide +kernel) ⟨Nat.le_of_ble_eq_true rfl, Nat.le_of_ble_eq_true rfl⟩) (rdS hK hP hN [7] rfl) rfl rfl hl.1 rfl (lv_room (Nat.le_of_ble_eq_true rfl)) dX0_complaintsOfAll_4 ⟨hzc, hzs⟩) hS hP (fun H locs hP hS => ?_)
  subst hQ
  exact rd_i (csum_cong hCa) hx hb hr hS hlocks dX0_complaintsOfAll_7

def rmX0_duesOfAll : Room := { frames := 1, cells := 0, slots := 0, locals := 22 }
set_option maxHeartbeats 4000000 in
set_option maxRecDepth 100000 in
/-- over all lots -/
theorem c_X0_duesOfAll (l : Launch) (G : va_G) (cI : ClassId) (a : Nat → Nat) (mo co le : Int32) (K Qa La Ha Ma Ba Ca Da Fa Wa k : Nat → Int32) (hDa : hatD k Da) : Met l yX0_duesOfAll wsX0_duesOfAll rmX0_duesOfAll (va_Pc [.ref (a 0)] (RdP G cI [((a 0), oC a mo co le), ((a 3), iA cI K), ((a 4), iA cI Qa), ((a 5), iA cI La), ((a 6), iA cI Ha), ((a 7), iA cI Ma), ((a 8), iA cI Ba), ((a 9), iA cI Ca), ((a 10), iA cI Da), ((a 11), iA cI Fa), ((a 12), iA cI Wa)])) (RdQ (dall k)) 0 0 No := by
  refine Met.ofW (cc := cX0_duesOfAll) (maxL := 1) (ret := (some .int)) (by decide) rfl ?_
  intro p e s m args below meth c s₁ B hml hv
  obtain ⟨rfl, hP, hK, hN⟩ := hv
  have hx := B.exec
  have hb := B.bytes
  have hr := B.returns
  have hlocks := B.notSynchronized
  have hts := atoms_spec (ws := wsX0_duesOfAll) B.pre
  have hown : s.vm.findClass RX0 = some m.cls := findClass_of_methodNamed B.named
  have hS : va_S No s.heap s.heap [] := va_S.rf
  have FX : CallFix p m c cX0_duesOfAll 1 s ([.ref (a 0)] : List Value).toArray wsX0_duesOfAll RX0 := ⟨hx, hb, hml, hown, hts⟩
  have hl := lv_entry ([.ref (a 0)]) (n := 1) (Nat.le_of_ble_eq_true rfl)
  rw [lg_entry_eq]
  generalize (lg_sl ([.ref (a 0)]) ++ List.replicate (1 - (lg_sl ([.ref (a 0)])).length) Slot.unset).toArray = ls at hl ⊢
  have hl : lv_has ls 1 [(0, .ref (a 0))] := hl
  refine wq (fun Q hQ => ?_)
  have hzc : 0 + 0 ≤ (headSpec wsX0_duesOfAll rmX0_duesOfAll).room.cells := Nat.zero_le _
  have hzs : 0 + 0 ≤ (headSpec wsX0_duesOfAll rmX0_duesOfAll).room.slots := Nat.zero_le _
  have hf43 := hts (.fieldLink RX0 43 "CanalCity$City" "dues" "[I") (by decide +kernel)
  have hinX0 : ∀ w ∈ u_ws RX0 TX0 13, w ∈ wsX0_duesOfAll := by decide +kernel
  refine lv_aload_n hx hb dX0_duesOfAll_0 rfl (lv_at hl 0 rfl) ?_
  refine va_get (D := G) (ci := 0) (v := .ref (a 10)) (C := RX0) (T := TX0) (N := 13) hx hb hts hinX0 hown hK hP 0 rfl rfl 10 (by decide) hf43 (fun _ h9 => h9) rfl dX0_duesOfAll_1 ?_
  refine cr_i (va_runS (As := [.ref (a 10)]) (rest := []) FX (c_X0_sum l G cI (a 10) Da) (va_cwS 1 hts gX0_duesOfAll_X0_sum rfl rfl rfl (by decide +kernel) ⟨Nat.le_of_ble_eq_true rfl, Nat.le_of_ble_eq_true rfl⟩) (rdS hK hP hN [8] rfl) rfl rfl hl.1 rfl (lv_room (Nat.le_of_ble_eq_true rfl)) dX0_duesOfAll_4 ⟨hzc, hzs⟩) hS hP (fun H locs hP hS => ?_)
  subst hQ
  exact rd_i (csum_cong hDa) hx hb hr hS hlocks dX0_duesOfAll_7

def rmX0_lotsOfKind : Room := { frames := 0, cells := 0, slots := 0, locals := 0 }
set_option maxHeartbeats 4000000 in
set_option maxRecDepth 100000 in
/-- lots of a kind -/
theorem c_X0_lotsOfKind (l : Launch) (G : va_G) (cI : ClassId) (a : Nat → Nat) (mo co le : Int32) (K Qa La Ha Ma Ba Ca Da Fa Wa k : Nat → Int32) (v : Int32) (hk : eqK K k) : Met l yX0_lotsOfKind wsX0_lotsOfKind rmX0_lotsOfKind (va_Pc [.ref (a 0), .int v] (RdP G cI [((a 0), oC a mo co le), ((a 3), iA cI K), ((a 4), iA cI Qa), ((a 5), iA cI La), ((a 6), iA cI Ha), ((a 7), iA cI Ma), ((a 8), iA cI Ba), ((a 9), iA cI Ca), ((a 10), iA cI Da), ((a 11), iA cI Fa), ((a 12), iA cI Wa)])) (RdQ (many k v)) 0 0 No := by
  refine Met.ofW (cc := cX0_lotsOfKind) (maxL := 4) (ret := (some .int)) (by decide) rfl ?_
  intro p e s m args below meth c s₁ B hml hv
  obtain ⟨rfl, hP, hK, hN⟩ := hv
  have hx := B.exec
  have hb := B.bytes
  have hr := B.returns
  have hlocks := B.notSynchronized
  have hts := atoms_spec (ws := wsX0_lotsOfKind) B.pre
  have hown : s.vm.findClass RX0 = some m.cls := findClass_of_methodNamed B.named
  have hS : va_S No s.heap s.heap [] := va_S.rf
  have FX : CallFix p m c cX0_lotsOfKind 4 s ([.ref (a 0), .int v] : List Value).toArray wsX0_lotsOfKind RX0 := ⟨hx, hb, hml, hown, hts⟩
  have hl := lv_entry ([.ref (a 0), .int v]) (n := 4) (Nat.le_of_ble_eq_true rfl)
  rw [lg_entry_eq]
  generalize (lg_sl ([.ref (a 0), .int v]) ++ List.replicate (4 - (lg_sl ([.ref (a 0), .int v])).length) Slot.unset).toArray = ls at hl ⊢
  have hl : lv_has ls 4 [(0, .ref (a 0)), (1, .int v)] := hl
  refine wq (fun Q hQ => ?_)
  have hzc : 0 + 0 ≤ (headSpec wsX0_lotsOfKind rmX0_lotsOfKind).room.cells := Nat.zero_le _
  have hzs : 0 + 0 ≤ (headSpec wsX0_lotsOfKind rmX0_lotsOfKind).room.slots := Nat.zero_le _
  have hf21 := hts (.fieldLink RX0 21 "CanalCity$City" "kinds" "[I") (by decide +kernel)
  have hinX0 : ∀ w ∈ u_ws RX0 TX0 13, w ∈ wsX0_lotsOfKind := by decide +kernel
  refine lv_iconst (v := 0) hx hb dX0_lotsOfKind_0 (by decide) ?_
  refine lv_istore_n (lv' := [(2, .int 0), (0, .ref (a 0)), (1, .int v)]) hx hb dX0_lotsOfKind_1 rfl hl (by decide) rfl (fun ls hl => ?_)
  refine lv_iconst (v := 0) hx hb dX0_lotsOfKind_2 (by decide) ?_
  refine lv_istore_n (lv' := [(3, .int 0), (2, .int 0), (0, .ref (a 0)), (1, .int v)]) hx hb dX0_lotsOfKind_3 rfl hl (by decide) rfl (fun ls hl => ?_)
  have lp : ∀ (n : Nat) (i : Nat), (hi : i ≤ 64) → (64 - i) < n → ∀ (H : Heap) (locs : List Loc) (ls : Array Slot), va_P G vwCl [((a 0), oC a mo co le), ((a 3), iA cI K), ((a 4), iA cI Qa), ((a 5), iA cI La), ((a 6), iA cI Ha), ((a 7), iA cI Ma), ((a 8), iA cI Ba), ((a 9), iA cI Ca), ((a 10), iA cI Da), ((a 11), iA cI Fa), ((a 12), iA cI Wa)] H → va_S No s.heap H locs → lv_has ls 4 [(0, .ref (a 0)), (1, .int v), (2, .int (csum (fun p => if k p = v then 1 else 0) i)), (3, .int (nI i))] → W p l e (headSpec wsX0_lotsOfKind rmX0_lotsOfKind).room s m ([.ref (a 0), .int v] : List Value).toArray below meth c H locs 0 0 Q (F0 m 4 ls []) := by
    intro n
    induction n with
    | zero => intro i hi hn; exact absurd hn (by omega)
    | succ n ih_lp =>
      intro i hi hn H locs ls hP hS hl
      refine lv_iload_n hx hb dX0_lotsOfKind_4 rfl (lv_at hl 3 rfl) ?_
      refine lv_bipush (v := 64) hx hb dX0_lotsOfKind_5 (by decide) ?_
      rcases Nat.lt_or_ge i 64 with g | g
      · skip
        refine lv_icmp_ge (tgt := 29) hx hb dX0_lotsOfKind_7 (by decide) (fun c => absurd c (lt_n (n := 64) g (by decide))) (fun _ => ?_)
        refine lv_aload_n hx hb dX0_lotsOfKind_10 rfl (lv_at hl 0 rfl) ?_
        refine va_get (D := G) (ci := 0) (v := .ref (a 3)) (C := RX0) (T := TX0) (N := 13) hx hb hts hinX0 hown hK hP 0 rfl rfl 3 (by decide) hf21 (fun _ h9 => h9) rfl dX0_lotsOfKind_11 ?_
        refine lv_iload_n hx hb dX0_lotsOfKind_14 rfl (lv_at hl 3 rfl) ?_
        refine va_iald hx hb hK hP 1 0 rfl rfl (vp_in_nI g (by decide)) dX0_lotsOfKind_15 ?_
        refine tpi (x' := K i) (congrArg K (nI_clamp (by omega))) ?_
        refine tpi (x' := k i) (hk i g) ?_
        refine lv_iload_n hx hb dX0_lotsOfKind_16 rfl (lv_at hl 1 rfl) ?_
        refine lv_icmp_ne (tgt := 23) hx hb dX0_lotsOfKind_17 (by decide) (fun c9 => ?_) (fun c9 => ?_)
        · skip
          refine lv_iinc (v := nI (i + 1)) (lv' := [(3, .int (nI (i + 1))), (0, .ref (a 0)), (1, .int v), (2, .int (csum (fun p => if k p = v then 1 else 0) i))]) hx hb dX0_lotsOfKind_23 hl (k := 3) rfl (nI_inc i) (by decide) rfl (fun ls hl => ?_)
          refine lv_goto (tgt := 4) hx hb dX0_lotsOfKind_26 (by decide) ?_
          exact ih_lp (i + 1) (by omega) (by omega) _ _ _ hP hS (lv_sub hl [1, 2, 3, 0] (by rw [show csum (fun p => if k p = v then 1 else 0) (i + 1) = csum (fun p => if k p = v then 1 else 0) i from by show csum (fun p => if k p = v then 1 else 0) i + (if k i = v then 1 else 0) = _; rw [if_neg c9]; exact Int32.add_zero _]; rfl))
        · skip
          refine lv_iinc (v := csum (fun p => if k p = v then 1 else 0) i + 1) (lv' := [(2, .int (csum (fun p => if k p = v then 1 else 0) i + 1)), (0, .ref (a 0)), (1, .int v), (3, .int (nI i))]) hx hb dX0_lotsOfKind_20 hl (k := 2) rfl (inc1 _) (by decide) rfl (fun ls hl => ?_)
          refine lv_iinc (v := nI (i + 1)) (lv' := [(3, .int (nI (i + 1))), (2, .int (csum (fun p => if k p = v then 1 else 0) i + 1)), (0, .ref (a 0)), (1, .int v)]) hx hb dX0_lotsOfKind_23 hl (k := 3) rfl (nI_inc i) (by decide) rfl (fun ls hl => ?_)
          refine lv_goto (tgt := 4) hx hb dX0_lotsOfKind_26 (by decide) ?_
          exact ih_lp (i + 1) (by omega) (by omega) _ _ _ hP hS (lv_sub hl [2, 3, 1, 0] (by rw [show csum (fun p => if k p = v then 1 else 0) (i + 1) = csum (fun p => if k p = v then 1 else 0) i + 1 from by show csum (fun p => if k p = v then 1 else 0) i + (if k i = v then 1 else 0) = _; rw [if_pos c9]]; rfl))
      · skip
        have g : i = 64 := by omega
        subst g
        refine lv_icmp_ge (tgt := 29) hx hb dX0_lotsOfKind_7 (by decide) (fun _ => ?_) (fun c => absurd (le_n (n := 64) (i := 64) (by decide) (by decide)) c)
        refine lv_iload_n hx hb dX0_lotsOfKind_29 rfl (lv_at hl 2 rfl) ?_
        subst hQ
        exact rd_i (rfl) hx hb hr hS hlocks dX0_lotsOfKind_30
  exact lp (_ + 1) 0 (by omega) (Nat.lt_succ_self _) _ _ _ hP hS (lv_sub hl [2, 3, 1, 0] rfl)

def rmX0_quartersOfAll : Room := { frames := 0, cells := 0, slots := 0, locals := 0 }
set_option maxHeartbeats 4000000 in
set_option maxRecDepth 100000 in
/-- quarters -/
theorem c_X0_quartersOfAll (l : Launch) (G : va_G) (cI : ClassId) (a : Nat → Nat) (mo co le : Int32) (K Qa La Ha Ma Ba Ca Da Fa Wa k : Nat → Int32) (hQa : hatQ k Qa) : Met l yX0_quartersOfAll wsX0_quartersOfAll rmX0_quartersOfAll (va_Pc [.ref (a 0)] (RdP G cI [((a 0), oC a mo co le), ((a 3), iA cI K), ((a 4), iA cI Qa), ((a 5), iA cI La), ((a 6), iA cI Ha), ((a 7), iA cI Ma), ((a 8), iA cI Ba), ((a 9), iA cI Ca), ((a 10), iA cI Da), ((a 11), iA cI Fa), ((a 12), iA cI Wa)])) (RdQ (qall k)) 0 0 No := by
  refine Met.ofW (cc := cX0_quartersOfAll) (maxL := 3) (ret := (some .int)) (by decide) rfl ?_
  intro p e s m args below meth c s₁ B hml hv
  obtain ⟨rfl, hP, hK, hN⟩ := hv
  have hx := B.exec
  have hb := B.bytes
  have hr := B.returns
  have hlocks := B.notSynchronized
  have hts := atoms_spec (ws := wsX0_quartersOfAll) B.pre
  have hown : s.vm.findClass RX0 = some m.cls := findClass_of_methodNamed B.named
  have hS : va_S No s.heap s.heap [] := va_S.rf
  have FX : CallFix p m c cX0_quartersOfAll 3 s ([.ref (a 0)] : List Value).toArray wsX0_quartersOfAll RX0 := ⟨hx, hb, hml, hown, hts⟩
  have hl := lv_entry ([.ref (a 0)]) (n := 3) (Nat.le_of_ble_eq_true rfl)
  rw [lg_entry_eq]
  generalize (lg_sl ([.ref (a 0)]) ++ List.replicate (3 - (lg_sl ([.ref (a 0)])).length) Slot.unset).toArray = ls at hl ⊢
  have hl : lv_has ls 3 [(0, .ref (a 0))] := hl
  refine wq (fun Q hQ => ?_)
  have hzc : 0 + 0 ≤ (headSpec wsX0_quartersOfAll rmX0_quartersOfAll).room.cells := Nat.zero_le _
  have hzs : 0 + 0 ≤ (headSpec wsX0_quartersOfAll rmX0_quartersOfAll).room.slots := Nat.zero_le _
  have hf25 := hts (.fieldLink RX0 25 "CanalCity$City" "quarters" "[I") (by decide +kernel)
  have hinX0 : ∀ w ∈ u_ws RX0 TX0 13, w ∈ wsX0_quartersOfAll := by decide +kernel
  refine lv_iconst (v := 0) hx hb dX0_quartersOfAll_0 (by decide) ?_
  refine lv_istore_n (lv' := [(1, .int 0), (0, .ref (a 0))]) hx hb dX0_quartersOfAll_1 rfl hl (by decide) rfl (fun ls hl => ?_)
  refine lv_iconst (v := 0) hx hb dX0_quartersOfAll_2 (by decide) ?_
  refine lv_istore_n (lv' := [(2, .int 0), (1, .int 0), (0, .ref (a 0))]) hx hb dX0_quartersOfAll_3 rfl hl (by decide) rfl (fun ls hl => ?_)
  have lp : ∀ (n : Nat) (i : Nat), (hi : i ≤ 64) → (64 - i) < n → ∀ (H : Heap) (locs : List Loc) (ls : Array Slot), va_P G vwCl [((a 0), oC a mo co le), ((a 3), iA cI K), ((a 4), iA cI Qa), ((a 5), iA cI La), ((a 6), iA cI Ha), ((a 7), iA cI Ma), ((a 8), iA cI Ba), ((a 9), iA cI Ca), ((a 10), iA cI Da), ((a 11), iA cI Fa), ((a 12), iA cI Wa)] H → va_S No s.heap H locs → lv_has ls 3 [(0, .ref (a 0)), (1, .int (csum (fun p => if qrt k p = some p then 1 else 0) i)), (2, .int (nI i))] → W p l e (headSpec wsX0_quartersOfAll rmX0_quartersOfAll).room s m ([.ref (a 0)] : List Value).toArray below meth c H locs 0 0 Q (F0 m 4 ls []) := by
    intro n
    induction n with
    | zero => intro i hi hn; exact absurd hn (by omega)
    | succ n ih_lp =>
      intro i hi hn H locs ls hP hS hl
      refine lv_iload_n hx hb dX0_quartersOfAll_4 rfl (lv_at hl 2 rfl) ?_
      refine lv_bipush (v := 64) hx hb dX0_quartersOfAll_5 (by decide) ?_
      rcases Nat.lt_or_ge i 64 with g | g
      · skip
        refine lv_icmp_ge (tgt := 29) hx hb dX0_quartersOfAll_7 (by decide) (fun c => absurd c (lt_n (n := 64) g (by decide))) (fun _ => ?_)
        refine lv_aload_n hx hb dX0_quartersOfAll_10 rfl (lv_at hl 0 rfl) ?_
        refine va_get (D := G) (ci := 0) (v := .ref (a 4)) (C := RX0) (T := TX0) (N := 13) hx hb hts hinX0 hown hK hP 0 rfl rfl 4 (by decide) hf25 (fun _ h9 => h9) rfl dX0_quartersOfAll_11 ?_
        refine lv_iload_n hx hb dX0_quartersOfAll_14 rfl (lv_at hl 2 rfl) ?_
        refine va_iald hx hb hK hP 2 0 rfl rfl (vp_in_nI g (by decide)) dX0_quartersOfAll_15 ?_
        refine tpi (x' := Qa i) (congrArg Qa (nI_clamp (by omega))) ?_
        refine tpi (x' := toI (qrt k i)) (hQa i g) ?_
        refine lv_iload_n hx hb dX0_quartersOfAll_16 rfl (lv_at hl 2 rfl) ?_
        refine lv_icmp_ne (tgt := 23) hx hb dX0_quartersOfAll_17 (by decide) (fun c9 => ?_) (fun c9 => ?_)
        · skip
          refine lv_iinc (v := nI (i + 1)) (lv' := [(2, .int (nI (i + 1))), (0, .ref (a 0)), (1, .int (csum (fun p => if qrt k p = some p then 1 else 0) i))]) hx hb dX0_quartersOfAll_23 hl (k := 2) rfl (nI_inc i) (by decide) rfl (fun ls hl => ?_)
          refine lv_goto (tgt := 4) hx hb dX0_quartersOfAll_26 (by decide) ?_
          exact ih_lp (i + 1) (by omega) (by omega) _ _ _ hP hS (lv_sub hl [1, 2, 0] (by rw [show csum (fun p => if qrt k p = some p then 1 else 0) (i + 1) = csum (fun p => if qrt k p = some p then 1 else 0) i from by show csum (fun p => if qrt k p = some p then 1 else 0) i + (if qrt k i = some i then 1 else 0) = _; rw [if_neg (fun e => c9 (by rw [e]; rfl))]; exact Int32.add_zero _]; rfl))
        · skip
          refine lv_iinc (v := csum (fun p => if qrt k p = some p then 1 else 0) i + 1) (lv' := [(1, .int (csum (fun p => if qrt k p = some p then 1 else 0) i + 1)), (0, .ref (a 0)), (2, .int (nI i))]) hx hb dX0_quartersOfAll_20 hl (k := 1) rfl (inc1 _) (by decide) rfl (fun ls hl => ?_)
          refine lv_iinc (v := nI (i + 1)) (lv' := [(2, .int (nI (i + 1))), (1, .int (csum (fun p => if qrt k p = some p then 1 else 0) i + 1)), (0, .ref (a 0))]) hx hb dX0_quartersOfAll_23 hl (k := 2) rfl (nI_inc i) (by decide) rfl (fun ls hl => ?_)
          refine lv_goto (tgt := 4) hx hb dX0_quartersOfAll_26 (by decide) ?_
          exact ih_lp (i + 1) (by omega) (by omega) _ _ _ hP hS (lv_sub hl [2, 1, 0] (by rw [show csum (fun p => if qrt k p = some p then 1 else 0) (i + 1) = csum (fun p => if qrt k p = some p then 1 else 0) i + 1 from by show csum (fun p => if qrt k p = some p then 1 else 0) i + (if qrt k i = some i then 1 else 0) = _; rw [if_pos (toI_eq (fun q hq => Nat.lt_of_le_of_lt (qrt_le hq) g) g c9)]]; rfl))
      · skip
        have g : i = 64 := by omega
        subst g
        refine lv_icmp_ge (tgt := 29) hx hb dX0_quartersOfAll_7 (by decide) (fun _ => ?_) (fun c => absurd (le_n (n := 64) (i := 64) (by decide) (by decide)) c)
        refine lv_iload_n hx hb dX0_quartersOfAll_29 rfl (lv_at hl 1 rfl) ?_
        subst hQ
        exact rd_i (rfl) hx hb hr hS hlocks dX0_quartersOfAll_30
  exact lp (_ + 1) 0 (by omega) (Nat.lt_succ_self _) _ _ _ hP hS (lv_sub hl [2, 1, 0] rfl)

def rmX0_factOf : Room := { frames := 2, cells := 0, slots := 0, locals := 47 }
set_option maxHeartbeats 4000000 in
set_option maxRecDepth 100000 in
/-- what lot tells -/
theorem c_X0_factOf (l : Launch) (G : va_G) (cI : ClassId) (a : Nat → Nat) (mo co le : Int32) (K Qa La Ha Ma Ba Ca Da Fa Wa k : Nat → Int32) (pt : Nat) (w : Int32) (hk : eqK K k) (hQa : hatQ k Qa) (hLa : hatL k La) (hBa : hatB k Ba) (hCa : hatC k Ca) (hDa : hatD k Da) (hpt : pt < 64) : Met l yX0_factOf wsX0_factOf rmX0_factOf (va_Pc [.ref (a 0), .int (nI pt), .int w] (RdP G cI [((a 0), oC a mo co le), ((a 3), iA cI K), ((a 4), iA cI Qa), ((a 5), iA cI La), ((a 6), iA cI Ha), ((a 7), iA cI Ma), ((a 8), iA cI Ba), ((a 9), iA cI Ca), ((a 10), iA cI Da), ((a 11), iA cI Fa), ((a 12), iA cI Wa)])) (RdQ (fct k pt w)) 0 0 No := by
  refine Met.ofW (cc := cX0_factOf) (maxL := 3) (ret := (some .int)) (by decide) rfl ?_
  intro p e s m args below meth c s₁ B hml hv
  obtain ⟨rfl, hP, hK, hN⟩ := hv
  have hx := B.exec
  have hb := B.bytes
  have hr := B.returns
  have hlocks := B.notSynchronized
  have hts := atoms_spec (ws := wsX0_factOf) B.pre
  have hown : s.vm.findClass RX0 = some m.cls := findClass_of_methodNamed B.named
  have hS : va_S No s.heap s.heap [] := va_S.rf
  have FX : CallFix p m c cX0_factOf 3 s ([.ref (a 0), .int (nI pt), .int w] : List Value).toArray wsX0_factOf RX0 := ⟨hx, hb, hml, hown, hts⟩
  have hl := lv_entry ([.ref (a 0), .int (nI pt), .int w]) (n := 3) (Nat.le_of_ble_eq_true rfl)
  rw [lg_entry_eq]
  generalize (lg_sl ([.ref (a 0), .int (nI pt), .int w]) ++ List.replicate (3 - (lg_sl ([.ref (a 0), .int (nI pt), .int w])).length) Slot.unset).toArray = ls at hl ⊢
  have hl : lv_has ls 3 [(0, .ref (a 0)), (1, .int (nI pt)), (2, .int w)] := hl
  refine wq (fun Q hQ => ?_)
  have hzc : 0 + 0 ≤ (headSpec wsX0_factOf rmX0_factOf).room.cells := Nat.zero_le _
  have hzs : 0 + 0 ≤ (headSpec wsX0_factOf rmX0_factOf).room.slots := Nat.zero_le _
  have hf21 := hts (.fieldLink RX0 21 "CanalCity$City" "kinds" "[I") (by decide +kernel)
  have hf25 := hts (.fieldLink RX0 25 "CanalCity$City" "quarters" "[I") (by decide +kernel)
  have hf40 := hts (.fieldLink RX0 40 "CanalCity$City" "complaints" "[I") (by decide +kernel)
  have hf43 := hts (.fieldLink RX0 43 "CanalCity$City" "dues" "[I") (by decide +kernel)
  have hinX0 : ∀ w ∈ u_ws RX0 TX0 13, w ∈ wsX0_factOf := by decide +kernel
  refine lv_iload_n hx hb dX0_factOf_0 rfl (lv_at hl 2 rfl) ?_
  by_cases w0 : w = 0
  · skip
    refine tpi (x' := 0) (w0) ?_
    refine lv_tableIn (off := 35) (tgt := 36) hx hb dX0_factOf_1 (by decide +kernel) (by decide +kernel) (by decide +kernel) (by decide) ?_
    refine lv_aload_n hx hb dX0_factOf_36 rfl (lv_at hl 0 rfl) ?_
    refine va_get (D := G) (ci := 0) (v := .ref (a 3)) (C := RX0) (T := TX0) (N := 13) hx hb hts hinX0 hown hK hP 0 rfl rfl 3 (by decide) hf21 (fun _ h9 => h9) rfl dX0_factOf_37 ?_
    refine lv_iload_n hx hb dX0_factOf_40 rfl (lv_at hl 1 rfl) ?_
    refine va_iald hx hb hK hP 1 0 rfl rfl (vp_in_nI hpt (by decide)) dX0_factOf_41 ?_
    refine tpi (x' := K pt) (congrArg K (nI_clamp (by omega))) ?_
    subst hQ
    exact rd_i (by unfold fct; rw [if_pos w0]; exact hk pt hpt) hx hb hr hS hlocks dX0_factOf_42
  by_cases w1 : w = 1
  · skip
    refine tpi (x' := 1) (w1) ?_
    refine lv_tableIn (off := 42) (tgt := 43) hx hb dX0_factOf_1 (by decide +kernel) (by decide +kernel) (by decide +kernel) (by decide) ?_
    refine lv_aload_n hx hb dX0_factOf_43 rfl (lv_at hl 0 rfl) ?_
    refine va_get (D := G) (ci := 0) (v := .ref (a 4)) (C := RX0) (T := TX0) (N := 13) hx hb hts hinX0 hown hK hP 0 rfl rfl 4 (by decide) hf25 (fun _ h9 => h9) rfl dX0_factOf_44 ?_
    refine lv_iload_n hx hb dX0_factOf_47 rfl (lv_at hl 1 rfl) ?_
    refine va_iald hx hb hK hP 2 0 rfl rfl (vp_in_nI hpt (by decide)) dX0_factOf_48 ?_
    refine tpi (x' := Qa pt) (congrArg Qa (nI_clamp (by omega))) ?_
    subst hQ
    exact rd_i (by unfold fct; rw [if_neg w0, if_pos w1]; exact hQa pt hpt) hx hb hr hS hlocks dX0_factOf_49
  by_cases w2 : w = 2
  · skip
    refine tpi (x' := 2) (w2) ?_
    refine lv_tableIn (off := 49) (tgt := 50) hx hb dX0_factOf_1 (by decide +kernel) (by decide +kernel) (by decide +kernel) (by decide) ?_
    refine lv_aload_n hx hb dX0_factOf_50 rfl (lv_at hl 0 rfl) ?_
    refine lv_iload_n hx hb dX0_factOf_51 rfl (lv_at hl 1 rfl) ?_
    refine cr_i (va_runV (As := [.int (nI pt)]) (rest := []) FX (c_X0_lotsOfQuarter l G cI a mo co le K Qa La Ha Ma Ba Ca Da Fa Wa k pt hQa hLa hpt) (cwV 1 hts gX0_factOf_X0_lotsOfQuarter rfl rfl rfl (by decide +kernel) ⟨Nat.le_of_ble_eq_true rfl, Nat.le_of_ble_eq_true rfl⟩) (rdV hK hP hN [0, 1, 2, 3, 4, 5, 6, 7, 8, 9, 10] rfl (ci := 0) (q0 := 0) rfl rfl) rfl rfl hl.1 rfl (lv_room (Nat.le_of_ble_eq_true rfl)) dX0_factOf_52 ⟨hzc, hzs⟩) hS hP (fun H locs hP hS => ?_)
    subst hQ
    exact rd_i (by unfold fct; rw [if_neg w0, if_neg w1, if_pos w2]) hx hb hr hS hlocks dX0_factOf_55
  by_cases w3 : w = 3
  · skip
    refine tpi (x' := 3) (w3) ?_
    refine lv_tableIn (off := 55) (tgt := 56) hx hb dX0_factOf_1 (by decide +kernel) (by decide +kernel) (by decide +kernel) (by decide) ?_
    refine lv_aload_n hx hb dX0_factOf_56 rfl (lv_at hl 0 rfl) ?_
    refine lv_iload_n hx hb dX0_factOf_57 rfl (lv_at hl 1 rfl) ?_
    refine cr_i (va_runV (As := [.int (nI pt)]) (rest := []) FX (c_X0_isByBoat l G cI a mo co le K Qa La Ha Ma Ba Ca Da Fa Wa k pt hk hBa hpt) (cwV 1 hts gX0_factOf_X0_isByBoat rfl rfl rfl (by decide +kernel) ⟨Nat.le_of_ble_eq_true rfl, Nat.le_of_ble_eq_true rfl⟩) (rdV hK hP hN [0, 1, 2, 3, 4, 5, 6, 7, 8, 9, 10] rfl (ci := 0) (q0 := 0) rfl rfl) rfl rfl hl.1 rfl (lv_room (Nat.le_of_ble_eq_true rfl)) dX0_factOf_58 ⟨hzc, hzs⟩) hS hP (fun H locs hP hS => ?_)
    rcases ho : byB k pt with _ | _
    · skip
      refine tpi (x' := 0) (rfl) ?_
      refine lv_if_ne (tgt := 72) hx hb dX0_factOf_61 (by decide) (fun c => absurd (by decide) c) (fun _ => ?_)
      refine lv_aload_n hx hb dX0_factOf_64 rfl (lv_at hl 0 rfl) ?_
      refine lv_iload_n hx hb dX0_factOf_65 rfl (lv_at hl 1 rfl) ?_
      refine cr_i (va_runV (As := [.int (nI pt)]) (rest := []) FX (c_X0_isOpenWater l G cI a mo co le K Qa La Ha Ma Ba Ca Da Fa Wa k pt hBa hpt) (cwV 1 hts gX0_factOf_X0_isOpenWater rfl rfl rfl (by decide +kernel) ⟨Nat.le_of_ble_eq_true rfl, Nat.le_of_ble_eq_true rfl⟩) (rdV hK hP hN [0, 1, 2, 3, 4, 5, 6, 7, 8, 9, 10] rfl (ci := 0) (q0 := 0) rfl rfl) rfl rfl hl.1 rfl (lv_room (Nat.le_of_ble_eq_true rfl)) dX0_factOf_66 ⟨hzc, hzs⟩) hS hP (fun H locs hP hS => ?_)
      rcases hp : opn k pt with _ | _
      · skip
        refine tpi (x' := 0) (rfl) ?_
        refine lv_if_eq (tgt := 76) hx hb dX0_factOf_69 (by decide) (fun _ => ?_) (fun c => absurd (rfl) c)
        refine lv_iconst (v := 0) hx hb dX0_factOf_76 (by decide) ?_
        subst hQ
        exact rd_i (by unfold fct; rw [if_neg w0, if_neg w1, if_neg w2, if_pos w3, ho, hp]; rfl) hx hb hr hS hlocks dX0_factOf_77
      · skip
        refine tpi (x' := 1) (rfl) ?_
        refine lv_if_eq (tgt := 76) hx hb dX0_factOf_69 (by decide) (fun c => absurd c (by decide)) (fun _ => ?_)
        refine lv_iconst (v := 1) hx hb dX0_factOf_72 (by decide) ?_
        refine lv_goto (tgt := 77) hx hb dX0_factOf_73 (by decide) ?_
        subst hQ
        exact rd_i (by unfold fct; rw [if_neg w0, if_neg w1, if_neg w2, if_pos w3, ho, hp]; rfl) hx hb hr hS hlocks dX0_factOf_77
    · skip
      refine tpi (x' := 1) (rfl) ?_
      refine lv_if_ne (tgt := 72) hx hb dX0_factOf_61 (by decide) (fun _ => ?_) (fun c => absurd c (by decide))
      refine lv_iconst (v := 1) hx hb dX0_factOf_72 (by decide) ?_
      refine lv_goto (tgt := 77) hx hb dX0_factOf_73 (by decide) ?_
      subst hQ
      exact rd_i (by unfold fct; rw [if_neg w0, if_neg w1, if_neg w2, if_pos w3, ho]; rfl) hx hb hr hS hlocks dX0_factOf_77
  by_cases w4 : w = 4
  · skip
    refine tpi (x' := 4) (w4) ?_
    refine lv_tableIn (off := 77) (tgt := 78) hx hb dX0_factOf_1 (by decide +kernel) (by decide +kernel) (by decide +kernel) (by decide) ?_
    refine lv_aload_n hx hb dX0_factOf_78 rfl (lv_at hl 0 rfl) ?_
    refine va_get (D := G) (ci := 0) (v := .ref (a 9)) (C := RX0) (T := TX0) (N := 13) hx hb hts hinX0 hown hK hP 0 rfl rfl 9 (by decide) hf40 (fun _ h9 => h9) rfl dX0_factOf_79 ?_
    refine lv_iload_n hx hb dX0_factOf_82 rfl (lv_at hl 1 rfl) ?_
    refine va_iald hx hb hK hP 7 0 rfl rfl (vp_in_nI hpt (by decide)) dX0_factOf_83 ?_
    refine tpi (x' := Ca pt) (congrArg Ca (nI_clamp (by omega))) ?_
    subst hQ
    exact rd_i (by unfold fct; rw [if_neg w0, if_neg w1, if_neg w2, if_neg w3, if_pos w4]; exact hCa pt hpt) hx hb hr hS hlocks dX0_factOf_84
  refine lv_tableOut (tgt := 85) hx hb dX0_factOf_1 (tbl04 w0 w1 w2 w3 w4) (by decide) ?_
  refine lv_aload_n hx hb dX0_factOf_85 rfl (lv_at hl 0 rfl) ?_
  refine va_get (D := G) (ci := 0) (v := .ref (a 10)) (C := RX0) (T := TX0) (N := 13) hx hb hts hinX0 hown hK hP 0 rfl rfl 10 (by decide) hf43 (fun _ h9 => h9) rfl dX0_factOf_86 ?_
  refine lv_iload_n hx hb dX0_factOf_89 rfl (lv_at hl 1 rfl) ?_
  refine va_iald hx hb hK hP 8 0 rfl rfl (vp_in_nI hpt (by decide)) dX0_factOf_90 ?_
  refine tpi (x' := Da pt) (congrArg Da (nI_clamp (by omega))) ?_
  subst hQ
  exact rd_i (by unfold fct; rw [if_neg w0, if_neg w1, if_neg w2, if_neg w3, if_neg w4]; exact hDa pt hpt) hx hb hr hS hlocks dX0_factOf_91

def rmX0_total : Room := { frames := 2, cells := 0, slots := 0, locals := 42 }
set_option maxHeartbeats 4000000 in
set_option maxRecDepth 100000 in
/-- what count tells -/
theorem c_X0_total (l : Launch) (G : va_G) (cI : ClassId) (a : Nat → Nat) (mo co le : Int32) (K Qa La Ha Ma Ba Ca Da Fa Wa k : Nat → Int32) (w : Int32) (hk : eqK K k) (hQa : hatQ k Qa) (hCa : hatC k Ca) (hDa : hatD k Da) : Met l yX0_total wsX0_total rmX0_total (va_Pc [.ref (a 0), .int w] (RdP G cI [((a 0), oC a mo co le), ((a 3), iA cI K), ((a 4), iA cI Qa), ((a 5), iA cI La), ((a 6), iA cI Ha), ((a 7), iA cI Ma), ((a 8), iA cI Ba), ((a 9), iA cI Ca), ((a 10), iA cI Da), ((a 11), iA cI Fa), ((a 12), iA cI Wa)])) (RdQ (tot k mo co le w)) 0 0 No := by
  refine Met.ofW (cc := cX0_total) (maxL := 2) (ret := (some .int)) (by decide) rfl ?_
  intro p e s m args below meth c s₁ B hml hv
  obtain ⟨rfl, hP, hK, hN⟩ := hv
  have hx := B.exec
  have hb := B.bytes
  have hr := B.returns
  have hlocks := B.notSynchronized
  have hts := atoms_spec (ws := wsX0_total) B.pre
  have hown : s.vm.findClass RX0 = some m.cls := findClass_of_methodNamed B.named
  have hS : va_S No s.heap s.heap [] := va_S.rf
  have FX : CallFix p m c cX0_total 2 s ([.ref (a 0), .int w] : List Value).toArray wsX0_total RX0 := ⟨hx, hb, hml, hown, hts⟩
  have hl := lv_entry ([.ref (a 0), .int w]) (n := 2) (Nat.le_of_ble_eq_true rfl)
  rw [lg_entry_eq]
  generalize (lg_sl ([.ref (a 0), .int w]) ++ List.replicate (2 - (lg_sl ([.ref (a 0), .int w])).length) Slot.unset).toArray = ls at hl ⊢
  have hl : lv_has ls 2 [(0, .ref (a 0)), (1, .int w)] := hl
  refine wq (fun Q hQ => ?_)
  have hzc : 0 + 0 ≤ (headSpec wsX0_total rmX0_total).room.cells := Nat.zero_le _
  have hzs : 0 + 0 ≤ (headSpec wsX0_total rmX0_total).room.slots := Nat.zero_le _
  have hf15 := hts (.fieldLink RX0 15 "CanalCity$City" "coins" "I") (by decide +kernel)
  have hf18 := hts (.fieldLink RX0 18 "CanalCity$City" "left" "I") (by decide +kernel)
  have hf9 := hts (.fieldLink RX0 9 "CanalCity$City" "month" "I") (by decide +kernel)
  have hinX0 : ∀ w ∈ u_ws RX0 TX0 13, w ∈ wsX0_total := by decide +kernel
  refine lv_iload_n hx hb dX0_total_0 rfl (lv_at hl 1 rfl) ?_
  by_cases w0 : w = 0
  · skip
    refine tpi (x' := 0) (w0) ?_
    refine lv_tableIn (off := 67) (tgt := 68) hx hb dX0_total_1 (by decide +kernel) (by decide +kernel) (by decide +kernel) (by decide) ?_
    refine lv_aload_n hx hb dX0_total_68 rfl (lv_at hl 0 rfl) ?_
    refine va_get (D := G) (ci := 0) (v := .int mo) (C := RX0) (T := TX0) (N := 13) hx hb hts hinX0 hown hK hP 0 rfl rfl 0 (by decide) hf9 (fun _ h9 => h9) rfl dX0_total_69 ?_
    subst hQ
    exact rd_i (by unfold tot; rw [if_pos w0]) hx hb hr hS hlocks dX0_total_72
  by_cases w1 : w = 1
  · skip
    refine tpi (x' := 1) (w1) ?_
    refine lv_tableIn (off := 72) (tgt := 73) hx hb dX0_total_1 (by decide +kernel) (by decide +kernel) (by decide +kernel) (by decide) ?_
    refine lv_aload_n hx hb dX0_total_73 rfl (lv_at hl 0 rfl) ?_
    refine va_get (D := G) (ci := 0) (v := .int co) (C := RX0) (T := TX0) (N := 13) hx hb hts hinX0 hown hK hP 0 rfl rfl 1 (by decide) hf15 (fun _ h9 => h9) rfl dX0_total_74 ?_
    subst hQ
    exact rd_i (by unfold tot; rw [if_neg w0, if_pos w1]) hx hb hr hS hlocks dX0_total_77
  by_cases w9 : w = 9
  · skip
    refine tpi (x' := 9) (w9) ?_
    refine lv_tableIn (off := 77) (tgt := 78) hx hb dX0_total_1 (by decide +kernel) (by decide +kernel) (by decide +kernel) (by decide) ?_
    refine lv_aload_n hx hb dX0_total_78 rfl (lv_at hl 0 rfl) ?_
    refine cr_i (va_runV (As := []) (rest := []) FX (c_X0_quartersOfAll l G cI a mo co le K Qa La Ha Ma Ba Ca Da Fa Wa k hQa) (cwV 0 hts gX0_total_X0_quartersOfAll rfl rfl rfl (by decide +kernel) ⟨Nat.le_of_ble_eq_true rfl, Nat.le_of_ble_eq_true rfl⟩) (rdV hK hP hN [0, 1, 2, 3, 4, 5, 6, 7, 8, 9, 10] rfl (ci := 0) (q0 := 0) rfl rfl) rfl rfl hl.1 rfl (lv_room (Nat.le_of_ble_eq_true rfl)) dX0_total_79 ⟨hzc, hzs⟩) hS hP (fun H locs hP hS => ?_)
    subst hQ
    exact rd_i (by unfold tot; rw [if_neg w0, if_neg w1, if_pos w9]) hx hb hr hS hlocks dX0_total_82
  by_cases w10 : w = 10
  · skip
    refine tpi (x' := 10) (w10) ?_
    refine lv_tableIn (off := 82) (tgt := 83) hx hb dX0_total_1 (by decide +kernel) (by decide +kernel) (by decide +kernel) (by decide) ?_
    refine lv_aload_n hx hb dX0_total_83 rfl (lv_at hl 0 rfl) ?_
    refine cr_i (va_runV (As := []) (rest := []) FX (c_X0_complaintsOfAll l G cI a mo co le K Qa La Ha Ma Ba Ca Da Fa Wa k hCa) (cwV 0 hts gX0_total_X0_complaintsOfAll rfl rfl rfl (by decide +kernel) ⟨Nat.le_of_ble_eq_true rfl, Nat.le_of_ble_eq_true rfl⟩) (rdV hK hP hN [0, 1, 2, 3, 4, 5, 6, 7, 8, 9, 10] rfl (ci := 0) (q0 := 0) rfl rfl) rfl rfl hl.1 rfl (lv_room (Nat.le_of_ble_eq_true rfl)) dX0_total_84 ⟨hzc, hzs⟩) hS hP (fun H locs hP hS => ?_)
    subst hQ
    exact rd_i (by unfold tot; rw [if_neg w0, if_neg w1, if_neg w9, if_pos w10]) hx hb hr hS hlocks dX0_total_87
  by_cases w11 : w = 11
  · skip
    refine tpi (x' := 11) (w11) ?_
    refine lv_tableIn (off := 87) (tgt := 88) hx hb dX0_total_1 (by decide +kernel) (by decide +kernel) (by decide +kernel) (by decide) ?_
    refine lv_aload_n hx hb dX0_total_88 rfl (lv_at hl 0 rfl) ?_
    refine cr_i (va_runV (As := []) (rest := []) FX (c_X0_duesOfAll l G cI a mo co le K Qa La Ha Ma Ba Ca Da Fa Wa k hDa) (cwV 0 hts gX0_total_X0_duesOfAll rfl rfl rfl (by decide +kernel) ⟨Nat.le_of_ble_eq_true rfl, Nat.le_of_ble_eq_true rfl⟩) (rdV hK hP hN [0, 1, 2, 3, 4, 5, 6, 7, 8, 9, 10] rfl (ci := 0) (q0 := 0) rfl rfl) rfl rfl hl.1 rfl (lv_room (Nat.le_of_ble_eq_true rfl)) dX0_total_89 ⟨hzc, hzs⟩) hS hP (fun H locs hP hS => ?_)
    subst hQ
    exact rd_i (by unfold tot; rw [if_neg w0, if_neg w1, if_neg w9, if_neg w10, if_pos w11]) hx hb hr hS hlocks dX0_total_92
  by_cases w12 : w = 12
  · skip
    refine tpi (x' := 12) (w12) ?_
    refine lv_tableIn (off := 92) (tgt := 93) hx hb dX0_total_1 (by decide +kernel) (by decide +kernel) (by decide +kernel) (by decide) ?_
    refine lv_aload_n hx hb dX0_total_93 rfl (lv_at hl 0 rfl) ?_
    refine va_get (D := G) (ci := 0) (v := .int le) (C := RX0) (T := TX0) (N := 13) hx hb hts hinX0 hown hK hP 0 rfl rfl 2 (by decide) hf18 (fun _ h9 => h9) rfl dX0_total_94 ?_
    subst hQ
    exact rd_i (by unfold tot; rw [if_neg w0, if_neg w1, if_neg w9, if_neg w10, if_neg w11, if_pos w12]) hx hb hr hS hlocks dX0_total_97
  refine tbl_tot (pc := 1) hx hb dX0_total_1 rfl w0 w1 w9 w10 w11 w12 ?_
  refine lv_aload_n hx hb dX0_total_98 rfl (lv_at hl 0 rfl) ?_
  refine lv_iload_n hx hb dX0_total_99 rfl (lv_at hl 1 rfl) ?_
  refine lv_iconst (v := 2) hx hb dX0_total_100 (by decide) ?_
  refine lv_isub hx hb dX0_total_101 ?_
  refine cr_i (va_runV (As := [.int (w - 2)]) (rest := []) FX (c_X0_lotsOfKind l G cI a mo co le K Qa La Ha Ma Ba Ca Da Fa Wa k (w - 2) hk) (cwV 1 hts gX0_total_X0_lotsOfKind rfl rfl rfl (by decide +kernel) ⟨Nat.le_of_ble_eq_true rfl, Nat.le_of_ble_eq_true rfl⟩) (rdV hK hP hN [0, 1, 2, 3, 4, 5, 6, 7, 8, 9, 10] rfl (ci := 0) (q0 := 0) rfl rfl) rfl rfl hl.1 rfl (lv_room (Nat.le_of_ble_eq_true rfl)) dX0_total_102 ⟨hzc, hzs⟩) hS hP (fun H locs hP hS => ?_)
  subst hQ
  exact rd_i (by unfold tot; rw [if_neg w0, if_neg w1, if_neg w9, if_neg w10, if_neg w11, if_neg w12]) hx hb hr hS hlocks dX0_total_105

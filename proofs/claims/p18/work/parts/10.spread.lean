def rmX0_clear : Room := { frames := 0, cells := 0, slots := 0, locals := 0 }
set_option maxHeartbeats 4000000 in
set_option maxRecDepth 100000 in
/-- a row is filled with v -/
theorem c_X0_clear (l : Launch) (G : va_G) (cI : ClassId) (r : Nat) (f : Nat → Int32) (v : Int32)  (sz : Nat) : Met l yX0_clear wsX0_clear rmX0_clear (va_Pc [.ref r, .int v] (WrP G cI [(r, iA cI f)] sz)) (va_Qv (fun (u : Nat → Int32) => ∀ x, x < 64 → u x = v) (WrB G [(r, iA cI f)] sz (fun u => [(r, iA cI u)])) (va_A [(r, iA cI f)] sz)) 0 0 (va_A [(r, iA cI f)] sz) := by
  refine Met.ofW (cc := cX0_clear) (maxL := 3) (ret := none) (by decide) rfl ?_
  intro p e s m args below meth c s₁ B hml hv
  obtain ⟨rfl, hsz, hP, hK, hD0, hN⟩ := hv
  have hx := B.exec
  have hb := B.bytes
  have hr := B.returns
  have hlocks := B.notSynchronized
  have hts := atoms_spec (ws := wsX0_clear) B.pre
  have hown : s.vm.findClass RX0 = some m.cls := findClass_of_methodNamed B.named
  subst hsz
  have hD := hD0.self (sz := s.heap.size)
  have hA : ∀ q : Nat, s.heap.size ≤ q → va_A [(r, iA cI f)] s.heap.size q := fun q h => Or.inr h
  have hS : va_S (va_A [(r, iA cI f)] s.heap.size) s.heap s.heap [] := va_S.rf
  obtain ⟨A, hAe⟩ : ∃ A, A = va_A [(r, iA cI f)] s.heap.size := ⟨_, rfl⟩
  rw [← hAe] at hD hA hS
  have FX : CallFix p m c cX0_clear 3 s ([.ref r, .int v] : List Value).toArray wsX0_clear RX0 := ⟨hx, hb, hml, hown, hts⟩
  have hl := lv_entry ([.ref r, .int v]) (n := 3) (Nat.le_of_ble_eq_true rfl)
  rw [lg_entry_eq]
  generalize (lg_sl ([.ref r, .int v]) ++ List.replicate (3 - (lg_sl ([.ref r, .int v])).length) Slot.unset).toArray = ls at hl ⊢
  have hl : lv_has ls 3 [(0, .ref r), (1, .int v)] := hl
  refine wq (fun Q hQ => ?_)
  have hzc : 0 + 0 ≤ (headSpec wsX0_clear rmX0_clear).room.cells := Nat.zero_le _
  have hzs : 0 + 0 ≤ (headSpec wsX0_clear rmX0_clear).room.slots := Nat.zero_le _
  refine lv_iconst (v := 0) hx hb dX0_clear_0 (by decide) ?_
  refine tpi (x' := nI 0) (rfl) ?_
  refine lv_istore_n (lv' := [(2, .int (nI 0)), (0, .ref r), (1, .int v)]) hx hb dX0_clear_1 rfl hl (by decide) rfl (fun ls hl => ?_)
  have lp : ∀ (n : Nat) (i : Nat) (f1 : Nat → Int32), (hi : i ≤ 64) → (hf1 : ∀ x, x < i → f1 x = v) → (64 - i) < n → ∀ (H : Heap) (locs : List Loc) (ls : Array Slot), va_P G vwCl [(r, iA cI f1)] H → va_D A [(r, iA cI f1)] → va_S A s.heap H locs → lv_has ls 3 [(0, .ref r), (1, .int v), (2, .int (nI i))] → W p l e (headSpec wsX0_clear rmX0_clear).room s m ([.ref r, .int v] : List Value).toArray below meth c H locs 0 0 Q (F0 m 2 ls []) := by
    intro n
    induction n with
    | zero => intro i f1 hi hf1 hn; exact absurd hn (by omega)
    | succ n ih_lp =>
      intro i f1 hi hf1 hn H locs ls hP hD hS hl
      refine lv_iload_n hx hb dX0_clear_2 rfl (lv_at hl 2 rfl) ?_
      refine lv_aload_n hx hb dX0_clear_3 rfl (lv_at hl 0 rfl) ?_
      refine va_alen hx hb hK hP 0 0 rfl rfl (v := 64) rfl dX0_clear_4 ?_
      rcases Nat.lt_or_ge i 64 with g | g
      · skip
        refine lv_icmp_ge (tgt := 18) hx hb dX0_clear_5 (by decide) (fun c => absurd c (lt_n (n := 64) g (by decide))) (fun _ => ?_)
        refine lv_aload_n hx hb dX0_clear_8 rfl (lv_at hl 0 rfl) ?_
        refine lv_iload_n hx hb dX0_clear_9 rfl (lv_at hl 2 rfl) ?_
        refine lv_iload_n hx hb dX0_clear_10 rfl (lv_at hl 1 rfl) ?_
        refine va_iast hx hb hK hP hD hS 0 0 rfl rfl (vp_in_nI g (by decide)) dX0_clear_11 (fun H locs hP hD hS => ?_)
        rw [show ((nI i)).toNatClampNeg = i from nI_clamp (by omega)] at hP hD
        have hP : va_P G vwCl [(r, iA cI (upd f1 i v))] H := hP
        have hD : va_D A [(r, iA cI (upd f1 i v))] := hD
        refine lv_iinc (v := nI (i + 1)) (lv' := [(2, .int (nI (i + 1))), (0, .ref r), (1, .int v)]) hx hb dX0_clear_12 hl (k := 2) rfl (nI_inc i) (by decide) rfl (fun ls hl => ?_)
        refine lv_goto (tgt := 2) hx hb dX0_clear_15 (by decide) ?_
        exact ih_lp (i + 1) (upd f1 i v) (by omega) (fun x hx => by rcases Nat.lt_or_ge x i with q | q; rw [pk_un (by omega)]; exact hf1 x q; rw [show x = i by omega, pk_us]) (by omega) _ _ _ hP hD hS (lv_sub hl [1, 2, 0] (rfl))
      · skip
        have g9 : 64 = i := by omega
        subst g9
        refine lv_icmp_ge (tgt := 18) hx hb dX0_clear_5 (by decide) (fun _ => ?_) (fun c => absurd (le_n (n := 64) (i := 64) (by decide) (by decide)) c)
        subst hQ
        subst hAe
        exact wr_v f1 (hf1) hx hb hr hP hD hS hlocks dX0_clear_18
  exact lp (_ + 1) 0 f (by omega) (fun x hx => absurd hx (Nat.not_lt_zero _)) (Nat.lt_succ_self _) _ _ _ hP hD hS (lv_sub hl [1, 2, 0] rfl)

def rmX0_spread : Room := { frames := 1, cells := 0, slots := 0, locals := 23 }
set_option maxHeartbeats 4000000 in
set_option maxRecDepth 100000 in
/-- a search from st on -/
theorem c_X0_spread (l : Launch) (G : va_G) (cI : ClassId) (a : Nat → Nat) (am : Nat) (mo co le : Int32) (K Mk Wa k : Nat → Int32) (bl : Bool) (st f mr : Nat) (hk : eqK K k) (hst : st < 64) (hf : f < 64) (hmr : mr ≤ 1) (hm : ∀ x, x < 64 → (∃ n, Wk (PB bl k) st n x) → Mk x < 0) (sz : Nat) : Met l yX0_spread wsX0_spread rmX0_spread (va_Pc [.ref (a 0), .ref am, .int (nI st), .int (b2i bl), .int (nI f), .int (nI mr)] (WrP G cI [((a 0), oC a mo co le), (am, iA cI Mk), ((a 3), iA cI K), ((a 12), iA cI Wa)] sz)) (va_Qv (fun (u : (Nat → Int32) × (Nat → Int32)) => ∀ x, x < 64 → u.1 x = mkd f mr (dst (PB bl k) st x) (Mk x)) (WrB G [((a 0), oC a mo co le), (am, iA cI Mk), ((a 3), iA cI K), ((a 12), iA cI Wa)] sz (fun u => [(a 0, oC a mo co le), (am, iA cI u.1), (a 3, iA cI K), (a 12, iA cI u.2)])) (va_A [((a 0), oC a mo co le), (am, iA cI Mk), ((a 3), iA cI K), ((a 12), iA cI Wa)] sz)) 0 0 (va_A [((a 0), oC a mo co le), (am, iA cI Mk), ((a 3), iA cI K), ((a 12), iA cI Wa)] sz) := by
  refine Met.ofW (cc := cX0_spread) (maxL := 11) (ret := none) (by decide) rfl ?_
  intro p e s m args below meth c s₁ B hml hv
  obtain ⟨rfl, hsz, hP, hK, hD0, hN⟩ := hv
  have hx := B.exec
  have hb := B.bytes
  have hr := B.returns
  have hlocks := B.notSynchronized
  have hts := atoms_spec (ws := wsX0_spread) B.pre
  have hown : s.vm.findClass RX0 = some m.cls := findClass_of_methodNamed B.named
  subst hsz
  have hD := hD0.self (sz := s.heap.size)
  have hA : ∀ q : Nat, s.heap.size ≤ q → va_A [((a 0), oC a mo co le), (am, iA cI Mk), ((a 3), iA cI K), ((a 12), iA cI Wa)] s.heap.size q := fun q h => Or.inr h
  have hS : va_S (va_A [((a 0), oC a mo co le), (am, iA cI Mk), ((a 3), iA cI K), ((a 12), iA cI Wa)] s.heap.size) s.heap s.heap [] := va_S.rf
  obtain ⟨A, hAe⟩ : ∃ A, A = va_A [((a 0), oC a mo co le), (am, iA cI Mk), ((a 3), iA cI K), ((a 12), iA cI Wa)] s.heap.size := ⟨_, rfl⟩
  rw [← hAe] at hD hA hS
  have FX : CallFix p m c cX0_spread 11 s ([.ref (a 0), .ref am, .int (nI st), .int (b2i bl), .int (nI f), .int (nI mr)] : List Value).toArray wsX0_spread RX0 := ⟨hx, hb, hml, hown, hts⟩
  have hl := lv_entry ([.ref (a 0), .ref am, .int (nI st), .int (b2i bl), .int (nI f), .int (nI mr)]) (n := 11) (Nat.le_of_ble_eq_true rfl)
  rw [lg_entry_eq]
  generalize (lg_sl ([.ref (a 0), .ref am, .int (nI st), .int (b2i bl), .int (nI f), .int (nI mr)]) ++ List.replicate (11 - (lg_sl ([.ref (a 0), .ref am, .int (nI st), .int (b2i bl), .int (nI f), .int (nI mr)])).length) Slot.unset).toArray = ls at hl ⊢
  have hl : lv_has ls 11 [(0, .ref (a 0)), (1, .ref am), (2, .int (nI st)), (3, .int (b2i bl)), (4, .int (nI f)), (5, .int (nI mr))] := hl
  refine wq (fun Q hQ => ?_)
  have hzc : 0 + 0 ≤ (headSpec wsX0_spread rmX0_spread).room.cells := Nat.zero_le _
  have hzs : 0 + 0 ≤ (headSpec wsX0_spread rmX0_spread).room.slots := Nat.zero_le _
  have hf21 := hts (.fieldLink RX0 21 "CanalCity$City" "kinds" "[I") (by decide +kernel)
  have hf49 := hts (.fieldLink RX0 49 "CanalCity$City" "waiting" "[I") (by decide +kernel)
  have hinX0 : ∀ w ∈ u_ws RX0 TX0 13, w ∈ wsX0_spread := by decide +kernel
  have hiniX1 := hts (.initialized RX1) (by decide +kernel)
  have hstX1_isLand := hts (.static yX1_isLand) (by decide +kernel)
  have hstX1_isLot := hts (.static yX1_isLot) (by decide +kernel)
  have hstX1_isWater := hts (.static yX1_isWater) (by decide +kernel)
  have hstX1_neighbour := hts (.static yX1_neighbour) (by decide +kernel)
  refine lv_aload_n hx hb dX0_spread_0 rfl (lv_at hl 1 rfl) ?_
  refine lv_iload_n hx hb dX0_spread_1 rfl (lv_at hl 2 rfl) ?_
  refine lv_iload hx hb dX0_spread_2 (lv_at hl 4 rfl) ?_
  refine va_iast hx hb hK hP hD hS 1 0 rfl rfl (vp_in_nI hst (by decide)) dX0_spread_4 (fun H locs hP hD hS => ?_)
  rw [show ((nI st)).toNatClampNeg = st from nI_clamp (by omega)] at hP hD
  have hP : va_P G vwCl [((a 0), oC a mo co le), (am, iA cI (upd Mk st (nI f))), ((a 3), iA cI K), ((a 12), iA cI Wa)] H := hP
  have hD : va_D A [((a 0), oC a mo co le), (am, iA cI (upd Mk st (nI f))), ((a 3), iA cI K), ((a 12), iA cI Wa)] := hD
  refine lv_aload_n hx hb dX0_spread_5 rfl (lv_at hl 0 rfl) ?_
  refine va_get (D := G) (ci := 0) (v := .ref (a 12)) (C := RX0) (T := TX0) (N := 13) hx hb hts hinX0 hown hK hP 0 rfl rfl 12 (by decide) hf49 (fun _ h9 => h9) rfl dX0_spread_6 ?_
  refine lv_iconst (v := 0) hx hb dX0_spread_9 (by decide) ?_
  refine tpi (x' := nI 0) (rfl) ?_
  refine lv_iload_n hx hb dX0_spread_10 rfl (lv_at hl 2 rfl) ?_
  refine va_iast hx hb hK hP hD hS 3 0 rfl rfl (vp_in_nI (by decide) (by decide)) dX0_spread_11 (fun H locs hP hD hS => ?_)
  rw [show ((nI 0)).toNatClampNeg = 0 from nI_clamp (by omega)] at hP hD
  have hP : va_P G vwCl [((a 0), oC a mo co le), (am, iA cI (upd Mk st (nI f))), ((a 3), iA cI K), ((a 12), iA cI (upd Wa 0 (nI st)))] H := hP
  have hD : va_D A [((a 0), oC a mo co le), (am, iA cI (upd Mk st (nI f))), ((a 3), iA cI K), ((a 12), iA cI (upd Wa 0 (nI st)))] := hD
  refine lv_iconst (v := 1) hx hb dX0_spread_12 (by decide) ?_
  refine tpi (x' := nI 1) (rfl) ?_
  refine lv_istore (lv' := [(6, .int (nI 1)), (0, .ref (a 0)), (1, .ref am), (2, .int (nI st)), (3, .int (b2i bl)), (4, .int (nI f)), (5, .int (nI mr))]) hx hb dX0_spread_13 hl (by decide) rfl (fun ls hl => ?_)
  refine lv_iconst (v := 0) hx hb dX0_spread_15 (by decide) ?_
  refine tpi (x' := nI 0) (rfl) ?_
  refine lv_istore (lv' := [(7, .int (nI 0)), (6, .int (nI 1)), (0, .ref (a 0)), (1, .ref am), (2, .int (nI st)), (3, .int (b2i bl)), (4, .int (nI f)), (5, .int (nI mr))]) hx hb dX0_spread_16 hl (by decide) rfl (fun ls hl => ?_)
  have lp : ∀ (n : Nat) (ai en : Nat) (row : Nat → Nat) (D9 : Nat → Option Nat) (M1 W1 : Nat → Int32), (hB : BI (PB bl k) st row D9 en ai) → (hW1 : ∀ i, i < en → W1 i = nI (row i)) → (hM1 : ∀ x, x < 64 → M1 x = mkd f mr (D9 x) (Mk x)) → (64 - ai) < n → ∀ (H : Heap) (locs : List Loc) (ls : Array Slot), va_P G vwCl [((a 0), oC a mo co le), (am, iA cI M1), ((a 3), iA cI K), ((a 12), iA cI W1)] H → va_D A [((a 0), oC a mo co le), (am, iA cI M1), ((a 3), iA cI K), ((a 12), iA cI W1)] → va_S A s.heap H locs → lv_has ls 11 [(0, .ref (a 0)), (1, .ref am), (3, .int (b2i bl)), (5, .int (nI mr)), (6, .int (nI en)), (7, .int (nI ai))] → W p l e (headSpec wsX0_spread rmX0_spread).room s m ([.ref (a 0), .ref am, .int (nI st), .int (b2i bl), .int (nI f), .int (nI mr)] : List Value).toArray below meth c H locs 0 0 Q (F0 m 18 ls []) := by
    intro n
    induction n with
    | zero => intro ai en row D9 M1 W1 hB hW1 hM1 hn; exact absurd hn (by omega)
    | succ n ih_lp =>
      intro ai en row D9 M1 W1 hB hW1 hM1 hn H locs ls hP hD hS hl
      have hen := BI_le hB
      refine lv_iload hx hb dX0_spread_18 (lv_at hl 5 rfl) ?_
      refine lv_iload hx hb dX0_spread_20 (lv_at hl 4 rfl) ?_
      rcases Nat.lt_or_ge ai en with g | g
      · skip
        refine lv_icmp_ge (tgt := 157) hx hb dX0_spread_22 (by decide) (fun c => absurd c (lt_n g (by omega))) (fun _ => ?_)
        refine lv_iload hx hb dX0_spread_25 (lv_at hl 5 rfl) ?_
        refine lv_bipush (v := 64) hx hb dX0_spread_27 (by decide) ?_
        refine lv_icmp_ge (tgt := 157) hx hb dX0_spread_29 (by decide) (fun c => absurd c (lt_n (n := 64) (i := ai) (by omega) (by decide))) (fun _ => ?_)
        refine lv_aload_n hx hb dX0_spread_32 rfl (lv_at hl 0 rfl) ?_
        refine va_get (D := G) (ci := 0) (v := .ref (a 12)) (C := RX0) (T := TX0) (N := 13) hx hb hts hinX0 hown hK hP 0 rfl rfl 12 (by decide) hf49 (fun _ h9 => h9) rfl dX0_spread_33 ?_
        refine lv_iload hx hb dX0_spread_36 (lv_at hl 5 rfl) ?_
        refine va_iald hx hb hK hP 3 0 rfl rfl (vp_in_nI (n := ai) (by omega) (by decide)) dX0_spread_38 ?_
        refine tpi (x' := W1 ai) (congrArg W1 (nI_clamp (by omega))) ?_
        obtain ⟨fr, hfr⟩ : ∃ z, z = row ai := ⟨_, rfl⟩
        have hfr64 : fr < 64 := by rw [hfr]; exact hB.1 ai g
        refine tpi (x' := nI fr) (by rw [hfr]; exact hW1 ai g) ?_
        refine lv_istore (lv' := [(8, .int (nI fr)), (0, .ref (a 0)), (1, .ref am), (3, .int (b2i bl)), (5, .int (nI mr)), (6, .int (nI en)), (7, .int (nI ai))]) hx hb dX0_spread_39 hl (by decide) rfl (fun ls hl => ?_)
        refine lv_iconst (v := 0) hx hb dX0_spread_41 (by decide) ?_
        refine tpi (x' := nI 0) (rfl) ?_
        refine lv_istore (lv' := [(9, .int (nI 0)), (8, .int (nI fr)), (0, .ref (a 0)), (1, .ref am), (3, .int (b2i bl)), (5, .int (nI mr)), (6, .int (nI en)), (7, .int (nI ai))]) hx hb dX0_spread_42 hl (by decide) rfl (fun ls hl => ?_)
        have lq : ∀ (n : Nat) (sd en2 : Nat) (row2 : Nat → Nat) (D2 : Nat → Option Nat) (M2 W2 : Nat → Int32), (hJ : BJ (PB bl k) st nbC row2 D2 en2 ai sd) → (hsd : sd ≤ 4) → (hr2 : row2 ai = fr) → (hW2 : ∀ i, i < en2 → W2 i = nI (row2 i)) → (hM2 : ∀ x, x < 64 → M2 x = mkd f mr (D2 x) (Mk x)) → (4 - sd) < n → ∀ (H : Heap) (locs : List Loc) (ls : Array Slot), va_P G vwCl [((a 0), oC a mo co le), (am, iA cI M2), ((a 3), iA cI K), ((a 12), iA cI W2)] H → va_D A [((a 0), oC a mo co le), (am, iA cI M2), ((a 3), iA cI K), ((a 12), iA cI W2)] → va_S A s.heap H locs → lv_has ls 11 [(0, .ref (a 0)), (1, .ref am), (3, .int (b2i bl)), (5, .int (nI mr)), (6, .int (nI en2)), (7, .int (nI ai)), (8, .int (nI fr)), (9, .int (nI sd))] → W p l e (headSpec wsX0_spread rmX0_spread).room s m ([.ref (a 0), .ref am, .int (nI st), .int (b2i bl), .int (nI f), .int (nI mr)] : List Value).toArray below meth c H locs 0 0 Q (F0 m 44 ls []) := by
          intro n
          induction n with
          | zero => intro sd en2 row2 D2 M2 W2 hJ hsd hr2 hW2 hM2 hn; exact absurd hn (by omega)
          | succ n ih_lq =>
            intro sd en2 row2 D2 M2 W2 hJ hsd hr2 hW2 hM2 hn H locs ls hP hD hS hl
            refine lv_iload hx hb dX0_spread_44 (lv_at hl 6 rfl) ?_
            refine cr_i (va_runSN (As := [.int (nI fr)]) (rest := []) FX (c_X1_isLot l (nI fr)) ⟨va_cnB 1 hts gX0_spread_X1_isLot_n73 rfl rfl rfl (NW_at hN 3 rfl) hiniX1 (by decide +kernel) ⟨Nat.le_of_ble_eq_true rfl, Nat.le_of_ble_eq_true rfl⟩, hstX1_isLot, trivial⟩ puS rfl rfl hl.1 rfl (lv_room (Nat.le_of_ble_eq_true rfl)) dX0_spread_46 ⟨hzc, hzs⟩) hS hP (fun H locs hP hS => ?_)
            refine tpi (x' := 1) (isLot_1 hfr64) ?_
            refine lv_if_eq (tgt := 151) hx hb dX0_spread_49 (by decide) (fun c => absurd c (by decide)) (fun _ => ?_)
            refine lv_iload hx hb dX0_spread_52 (lv_at hl 7 rfl) ?_
            refine lv_iconst (v := 4) hx hb dX0_spread_54 (by decide) ?_
            rcases Nat.lt_or_ge sd 4 with g4 | g4
            · skip
              have hen2 := BI_le hJ.1
              obtain ⟨d0, hd0, hd0l, hw0⟩ := hJ.1.2.2.2.1 ai hJ.2.1
              have hd64 := BI_d hJ.1 hd0
              have hdm := Nat.mul_le_mul_left d0 hmr
              refine lv_icmp_ge (tgt := 151) hx hb dX0_spread_55 (by decide) (fun c => absurd c (lt_n (n := 4) g4 (by decide))) (fun _ => ?_)
              refine lv_iload hx hb dX0_spread_58 (lv_at hl 6 rfl) ?_
              refine lv_iload hx hb dX0_spread_60 (lv_at hl 7 rfl) ?_
              refine cr_i (va_runSN (As := [.int (nI fr), .int (nI sd)]) (rest := []) FX (c_X1_neighbour l fr sd hfr64 g4) ⟨va_cnB 2 hts gX0_spread_X1_neighbour_n104 rfl rfl rfl (NW_at hN 6 rfl) hiniX1 (by decide +kernel) ⟨Nat.le_of_ble_eq_true rfl, Nat.le_of_ble_eq_true rfl⟩, hstX1_neighbour, trivial⟩ puS rfl rfl hl.1 rfl (lv_room (Nat.le_of_ble_eq_true rfl)) dX0_spread_62 ⟨hzc, hzs⟩) hS hP (fun H locs hP hS => ?_)
              rcases hn9 : nbC fr sd with _ | q
              · skip
                refine tpi (x' := -1) (rfl) ?_
                refine lv_istore (lv' := [(10, .int (-1)), (0, .ref (a 0)), (1, .ref am), (3, .int (b2i bl)), (5, .int (nI mr)), (6, .int (nI en2)), (7, .int (nI ai)), (8, .int (nI fr)), (9, .int (nI sd))]) hx hb dX0_spread_65 hl (by decide) rfl (fun ls hl => ?_)
                refine lv_iload hx hb dX0_spread_67 (lv_at hl 0 rfl) ?_
                refine cr_i (va_runSN (As := [.int (-1)]) (rest := []) FX (c_X1_isLot l (-1)) ⟨va_cnB 1 hts gX0_spread_X1_isLot_n73 rfl rfl rfl (NW_at hN 3 rfl) hiniX1 (by decide +kernel) ⟨Nat.le_of_ble_eq_true rfl, Nat.le_of_ble_eq_true rfl⟩, hstX1_isLot, trivial⟩ puS rfl rfl hl.1 rfl (lv_room (Nat.le_of_ble_eq_true rfl)) dX0_spread_69 ⟨hzc, hzs⟩) hS hP (fun H locs hP hS => ?_)
                refine tpi (x' := 0) (by decide) ?_
                refine lv_if_eq (tgt := 145) hx hb dX0_spread_72 (by decide) (fun _ => ?_) (fun c => absurd (rfl) c)
                refine lv_iinc (v := nI (sd + 1)) (lv' := [(9, .int (nI (sd + 1))), (10, .int (-1)), (0, .ref (a 0)), (1, .ref am), (3, .int (b2i bl)), (5, .int (nI mr)), (6, .int (nI en2)), (7, .int (nI ai)), (8, .int (nI fr))]) hx hb dX0_spread_145 hl (k := 8) rfl (nI_inc sd) (by decide) rfl (fun ls hl => ?_)
                refine lv_goto (tgt := 44) hx hb dX0_spread_148 (by decide) ?_
                exact ih_lq (sd + 1) en2 row2 D2 M2 W2 (BJ_skip hJ (fun q hq _ => by rw [hr2, hn9] at hq; cases hq)) (by omega) (hr2) (hW2) (hM2) (by omega) _ _ _ hP hD hS (lv_sub hl [2, 3, 4, 5, 6, 7, 8, 0] (rfl))
              · skip
                have hq : q < 64 := nbC_lt hfr64 hn9
                have hadj : Adj (row2 ai) q := ⟨sd, g4, by rw [hr2]; exact hn9⟩
                refine tpi (x' := nI q) (rfl) ?_
                refine lv_istore (lv' := [(10, .int (nI q)), (0, .ref (a 0)), (1, .ref am), (3, .int (b2i bl)), (5, .int (nI mr)), (6, .int (nI en2)), (7, .int (nI ai)), (8, .int (nI fr)), (9, .int (nI sd))]) hx hb dX0_spread_65 hl (by decide) rfl (fun ls hl => ?_)
                refine lv_iload hx hb dX0_spread_67 (lv_at hl 0 rfl) ?_
                refine cr_i (va_runSN (As := [.int (nI q)]) (rest := []) FX (c_X1_isLot l (nI q)) ⟨va_cnB 1 hts gX0_spread_X1_isLot_n73 rfl rfl rfl (NW_at hN 3 rfl) hiniX1 (by decide +kernel) ⟨Nat.le_of_ble_eq_true rfl, Nat.le_of_ble_eq_true rfl⟩, hstX1_isLot, trivial⟩ puS rfl rfl hl.1 rfl (lv_room (Nat.le_of_ble_eq_true rfl)) dX0_spread_69 ⟨hzc, hzs⟩) hS hP (fun H locs hP hS => ?_)
                refine tpi (x' := 1) (isLot_1 hq) ?_
                refine lv_if_eq (tgt := 145) hx hb dX0_spread_72 (by decide) (fun c => absurd c (by decide)) (fun _ => ?_)
                refine lv_aload_n hx hb dX0_spread_75 rfl (lv_at hl 2 rfl) ?_
                refine lv_iload hx hb dX0_spread_76 (lv_at hl 0 rfl) ?_
                refine va_iald hx hb hK hP 1 0 rfl rfl (vp_in_nI hq (by decide)) dX0_spread_78 ?_
                refine tpi (x' := M2 q) (congrArg M2 (nI_clamp (by omega))) ?_
                refine tpi (x' := mkd f mr (D2 q) (Mk q)) (hM2 q hq) ?_
                rcases hDq : D2 q with _ | d
                · skip
                  refine tpi (x' := Mk q) (rfl) ?_
                  refine lv_if_ge (tgt := 145) hx hb dX0_spread_79 (by decide) (fun c7 => ?_) (fun c7 => ?_)
                  · skip
                    refine lv_iinc (v := nI (sd + 1)) (lv' := [(9, .int (nI (sd + 1))), (10, .int (nI q)), (0, .ref (a 0)), (1, .ref am), (3, .int (b2i bl)), (5, .int (nI mr)), (6, .int (nI en2)), (7, .int (nI ai)), (8, .int (nI fr))]) hx hb dX0_spread_145 hl (k := 8) rfl (nI_inc sd) (by decide) rfl (fun ls hl => ?_)
                    refine lv_goto (tgt := 44) hx hb dX0_spread_148 (by decide) ?_
                    exact ih_lq (sd + 1) en2 row2 D2 M2 W2 (BJ_skip hJ (fun q9 hq9 hP9 => by rw [hr2, hn9] at hq9; cases hq9; exact absurd c7 (Int32.not_le.mpr (hm q hq ⟨d0 + 1, hP9, row2 ai, hw0, hadj⟩)))) (by omega) (hr2) (hW2) (hM2) (by omega) _ _ _ hP hD hS (lv_sub hl [2, 3, 4, 5, 6, 7, 8, 0] (rfl))
                  · skip
                    have hfit := BJ_fit hJ hq hDq
                    refine lv_iload hx hb dX0_spread_82 (lv_at hl 5 rfl) ?_
                    refine lv_bipush (v := 64) hx hb dX0_spread_84 (by decide) ?_
                    refine lv_icmp_ge (tgt := 145) hx hb dX0_spread_86 (by decide) (fun c => absurd c (lt_n (n := 64) hfit (by decide))) (fun _ => ?_)
                    refine lv_iload_n hx hb dX0_spread_89 rfl (lv_at hl 3 rfl) ?_
                    by_cases hbl : bl = true
                    · skip
                      refine tpi (x' := 1) (by rw [hbl]; rfl) ?_
                      refine lv_if_eq (tgt := 109) hx hb dX0_spread_90 (by decide) (fun c => absurd c (by decide)) (fun _ => ?_)
                      refine lv_aload_n hx hb dX0_spread_93 rfl (lv_at hl 1 rfl) ?_
                      refine va_get (D := G) (ci := 0) (v := .ref (a 3)) (C := RX0) (T := TX0) (N := 13) hx hb hts hinX0 hown hK hP 0 rfl rfl 3 (by decide) hf21 (fun _ h9 => h9) rfl dX0_spread_94 ?_
                      refine lv_iload hx hb dX0_spread_97 (lv_at hl 0 rfl) ?_
                      refine va_iald hx hb hK hP 2 0 rfl rfl (vp_in_nI hq (by decide)) dX0_spread_99 ?_
                      refine tpi (x' := K q) (congrArg K (nI_clamp (by omega))) ?_
                      refine tpi (x' := k q) (hk q hq) ?_
                      refine cr_i (va_runSN (As := [.int (k q)]) (rest := []) FX (c_X1_isLand l (k q)) ⟨va_cnB 1 hts gX0_spread_X1_isLand_n98 rfl rfl rfl (NW_at hN 5 rfl) hiniX1 (by decide +kernel) ⟨Nat.le_of_ble_eq_true rfl, Nat.le_of_ble_eq_true rfl⟩, hstX1_isLand, trivial⟩ puS rfl rfl hl.1 rfl (lv_room (Nat.le_of_ble_eq_true rfl)) dX0_spread_100 ⟨hzc, hzs⟩) hS hP (fun H locs hP hS => ?_)
                      rcases ho : lnd (k q) with _ | _
                      · skip
                        refine tpi (x' := 0) (rfl) ?_
                        refine lv_if_eq (tgt := 145) hx hb dX0_spread_103 (by decide) (fun _ => ?_) (fun c => absurd (rfl) c)
                        refine lv_iinc (v := nI (sd + 1)) (lv' := [(9, .int (nI (sd + 1))), (10, .int (nI q)), (0, .ref (a 0)), (1, .ref am), (3, .int (b2i bl)), (5, .int (nI mr)), (6, .int (nI en2)), (7, .int (nI ai)), (8, .int (nI fr))]) hx hb dX0_spread_145 hl (k := 8) rfl (nI_inc sd) (by decide) rfl (fun ls hl => ?_)
                        refine lv_goto (tgt := 44) hx hb dX0_spread_148 (by decide) ?_
                        exact ih_lq (sd + 1) en2 row2 D2 M2 W2 (BJ_skip hJ (fun q9 hq9 hP9 => by rw [hr2, hn9] at hq9; cases hq9; unfold PB at hP9; rw [if_pos hbl, ho] at hP9; cases hP9)) (by omega) (hr2) (hW2) (hM2) (by omega) _ _ _ hP hD hS (lv_sub hl [2, 3, 4, 5, 6, 7, 8, 0] (rfl))
                      · skip
                        refine tpi (x' := 1) (rfl) ?_
                        refine lv_if_eq (tgt := 145) hx hb dX0_spread_103 (by decide) (fun c => absurd c (by decide)) (fun _ => ?_)
                        refine lv_goto (tgt := 122) hx hb dX0_spread_106 (by decide) ?_
                        refine lv_aload_n hx hb dX0_spread_122 rfl (lv_at hl 2 rfl) ?_
                        refine lv_iload hx hb dX0_spread_123 (lv_at hl 0 rfl) ?_
                        refine lv_aload_n hx hb dX0_spread_125 rfl (lv_at hl 2 rfl) ?_
                        refine lv_iload hx hb dX0_spread_126 (lv_at hl 7 rfl) ?_
                        refine va_iald hx hb hK hP 1 0 rfl rfl (vp_in_nI hfr64 (by decide)) dX0_spread_128 ?_
                        refine tpi (x' := M2 fr) (congrArg M2 (nI_clamp (by omega))) ?_
                        refine tpi (x' := nI (f + d0 * mr)) (by rw [hM2 fr hfr64, ← hr2, hd0]; rfl) ?_
                        refine lv_iload hx hb dX0_spread_129 (lv_at hl 4 rfl) ?_
                        refine lv_iadd hx hb dX0_spread_131 ?_
                        refine tpi (x' := nI (f + (d0 + 1) * mr)) (by rw [nI_add, Nat.succ_mul, Nat.add_assoc]) ?_
                        refine va_iast hx hb hK hP hD hS 1 0 rfl rfl (vp_in_nI hq (by decide)) dX0_spread_132 (fun H locs hP hD hS => ?_)
                        rw [show ((nI q)).toNatClampNeg = q from nI_clamp (by omega)] at hP hD
                        have hP : va_P G vwCl [((a 0), oC a mo co le), (am, iA cI (upd M2 q (nI (f + (d0 + 1) * mr)))), ((a 3), iA cI K), ((a 12), iA cI W2)] H := hP
                        have hD : va_D A [((a 0), oC a mo co le), (am, iA cI (upd M2 q (nI (f + (d0 + 1) * mr)))), ((a 3), iA cI K), ((a 12), iA cI W2)] := hD
                        refine lv_aload_n hx hb dX0_spread_133 rfl (lv_at hl 1 rfl) ?_
                        refine va_get (D := G) (ci := 0) (v := .ref (a 12)) (C := RX0) (T := TX0) (N := 13) hx hb hts hinX0 hown hK hP 0 rfl rfl 12 (by decide) hf49 (fun _ h9 => h9) rfl dX0_spread_134 ?_
                        refine lv_iload hx hb dX0_spread_137 (lv_at hl 5 rfl) ?_
                        refine lv_iload hx hb dX0_spread_139 (lv_at hl 0 rfl) ?_
                        refine va_iast hx hb hK hP hD hS 3 0 rfl rfl (vp_in_nI hfit (by decide)) dX0_spread_141 (fun H locs hP hD hS => ?_)
                        rw [show ((nI en2)).toNatClampNeg = en2 from nI_clamp (by omega)] at hP hD
                        have hP : va_P G vwCl [((a 0), oC a mo co le), (am, iA cI (upd M2 q (nI (f + (d0 + 1) * mr)))), ((a 3), iA cI K), ((a 12), iA cI (upd W2 en2 (nI q)))] H := hP
                        have hD : va_D A [((a 0), oC a mo co le), (am, iA cI (upd M2 q (nI (f + (d0 + 1) * mr)))), ((a 3), iA cI K), ((a 12), iA cI (upd W2 en2 (nI q)))] := hD
                        refine lv_iinc (v := nI (en2 + 1)) (lv' := [(6, .int (nI (en2 + 1))), (10, .int (nI q)), (0, .ref (a 0)), (1, .ref am), (3, .int (b2i bl)), (5, .int (nI mr)), (7, .int (nI ai)), (8, .int (nI fr)), (9, .int (nI sd))]) hx hb dX0_spread_142 hl (k := 5) rfl (nI_inc en2) (by decide) rfl (fun ls hl => ?_)
                        refine lv_iinc (v := nI (sd + 1)) (lv' := [(9, .int (nI (sd + 1))), (6, .int (nI (en2 + 1))), (10, .int (nI q)), (0, .ref (a 0)), (1, .ref am), (3, .int (b2i bl)), (5, .int (nI mr)), (7, .int (nI ai)), (8, .int (nI fr))]) hx hb dX0_spread_145 hl (k := 8) rfl (nI_inc sd) (by decide) rfl (fun ls hl => ?_)
                        refine lv_goto (tgt := 44) hx hb dX0_spread_148 (by decide) ?_
                        exact ih_lq (sd + 1) (en2 + 1) (fun i => if i = en2 then q else row2 i) (fun x => if x = q then some (d0 + 1) else D2 x) (upd M2 q (nI (f + (d0 + 1) * mr))) (upd W2 en2 (nI q)) (BJ_add nbC_ok hJ g4 (by rw [hr2]; exact hn9) (by unfold PB; rw [if_pos hbl]; exact ho) hDq hd0 (fun i => rfl) (fun x => rfl)) (by omega) (by rw [if_neg (show ¬ ai = en2 from Nat.ne_of_lt hJ.2.1)]; exact hr2) (fun i hi => by by_cases e9 : i = en2; rw [e9, pk_us, if_pos rfl]; rw [pk_un e9, if_neg e9]; exact hW2 i (by omega)) (fun x hx => by by_cases e9 : x = q; rw [e9, pk_us, if_pos rfl]; rfl; rw [pk_un e9, if_neg e9]; exact hM2 x hx) (by omega) _ _ _ hP hD hS (lv_sub hl [3, 4, 5, 6, 1, 7, 8, 0] (rfl))
                    · skip
                      refine tpi (x' := 0) (by rw [Bool.eq_false_iff.mpr hbl]; rfl) ?_
                      refine lv_if_eq (tgt := 109) hx hb dX0_spread_90 (by decide) (fun _ => ?_) (fun c => absurd (rfl) c)
                      refine lv_aload_n hx hb dX0_spread_109 rfl (lv_at hl 1 rfl) ?_
                      refine va_get (D := G) (ci := 0) (v := .ref (a 3)) (C := RX0) (T := TX0) (N := 13) hx hb hts hinX0 hown hK hP 0 rfl rfl 3 (by decide) hf21 (fun _ h9 => h9) rfl dX0_spread_110 ?_
                      refine lv_iload hx hb dX0_spread_113 (lv_at hl 0 rfl) ?_
                      refine va_iald hx hb hK hP 2 0 rfl rfl (vp_in_nI hq (by decide)) dX0_spread_115 ?_
                      refine tpi (x' := K q) (congrArg K (nI_clamp (by omega))) ?_
                      refine tpi (x' := k q) (hk q hq) ?_
                      refine cr_i (va_runSN (As := [.int (k q)]) (rest := []) FX (c_X1_isWater l (k q)) ⟨va_cnB 1 hts gX0_spread_X1_isWater_n84 rfl rfl rfl (NW_at hN 4 rfl) hiniX1 (by decide +kernel) ⟨Nat.le_of_ble_eq_true rfl, Nat.le_of_ble_eq_true rfl⟩, hstX1_isWater, trivial⟩ puS rfl rfl hl.1 rfl (lv_room (Nat.le_of_ble_eq_true rfl)) dX0_spread_116 ⟨hzc, hzs⟩) hS hP (fun H locs hP hS => ?_)
                      rcases ho : wtr (k q) with _ | _
                      · skip
                        refine tpi (x' := 0) (rfl) ?_
                        refine lv_if_eq (tgt := 145) hx hb dX0_spread_119 (by decide) (fun _ => ?_) (fun c => absurd (rfl) c)
                        refine lv_iinc (v := nI (sd + 1)) (lv' := [(9, .int (nI (sd + 1))), (10, .int (nI q)), (0, .ref (a 0)), (1, .ref am), (3, .int (b2i bl)), (5, .int (nI mr)), (6, .int (nI en2)), (7, .int (nI ai)), (8, .int (nI fr))]) hx hb dX0_spread_145 hl (k := 8) rfl (nI_inc sd) (by decide) rfl (fun ls hl => ?_)
                        refine lv_goto (tgt := 44) hx hb dX0_spread_148 (by decide) ?_
                        exact ih_lq (sd + 1) en2 row2 D2 M2 W2 (BJ_skip hJ (fun q9 hq9 hP9 => by rw [hr2, hn9] at hq9; cases hq9; unfold PB at hP9; rw [if_neg hbl, ho] at hP9; cases hP9)) (by omega) (hr2) (hW2) (hM2) (by omega) _ _ _ hP hD hS (lv_sub hl [2, 3, 4, 5, 6, 7, 8, 0] (rfl))
                      · skip
                        refine tpi (x' := 1) (rfl) ?_
                        refine lv_if_eq (tgt := 145) hx hb dX0_spread_119 (by decide) (fun c => absurd c (by decide)) (fun _ => ?_)
                        refine lv_aload_n hx hb dX0_spread_122 rfl (lv_at hl 2 rfl) ?_
                        refine lv_iload hx hb dX0_spread_123 (lv_at hl 0 rfl) ?_
                        refine lv_aload_n hx hb dX0_spread_125 rfl (lv_at hl 2 rfl) ?_
                        refine lv_iload hx hb dX0_spread_126 (lv_at hl 7 rfl) ?_
                        refine va_iald hx hb hK hP 1 0 rfl rfl (vp_in_nI hfr64 (by decide)) dX0_spread_128 ?_
                        refine tpi (x' := M2 fr) (congrArg M2 (nI_clamp (by omega))) ?_
                        refine tpi (x' := nI (f + d0 * mr)) (by rw [hM2 fr hfr64, ← hr2, hd0]; rfl) ?_
                        refine lv_iload hx hb dX0_spread_129 (lv_at hl 4 rfl) ?_
                        refine lv_iadd hx hb dX0_spread_131 ?_
                        refine tpi (x' := nI (f + (d0 + 1) * mr)) (by rw [nI_add, Nat.succ_mul, Nat.add_assoc]) ?_
                        refine va_iast hx hb hK hP hD hS 1 0 rfl rfl (vp_in_nI hq (by decide)) dX0_spread_132 (fun H locs hP hD hS => ?_)
                        rw [show ((nI q)).toNatClampNeg = q from nI_clamp (by omega)] at hP hD
                        have hP : va_P G vwCl [((a 0), oC a mo co le), (am, iA cI (upd M2 q (nI (f + (d0 + 1) * mr)))), ((a 3), iA cI K), ((a 12), iA cI W2)] H := hP
                        have hD : va_D A [((a 0), oC a mo co le), (am, iA cI (upd M2 q (nI (f + (d0 + 1) * mr)))), ((a 3), iA cI K), ((a 12), iA cI W2)] := hD
                        refine lv_aload_n hx hb dX0_spread_133 rfl (lv_at hl 1 rfl) ?_
                        refine va_get (D := G) (ci := 0) (v := .ref (a 12)) (C := RX0) (T := TX0) (N := 13) hx hb hts hinX0 hown hK hP 0 rfl rfl 12 (by decide) hf49 (fun _ h9 => h9) rfl dX0_spread_134 ?_
                        refine lv_iload hx hb dX0_spread_137 (lv_at hl 5 rfl) ?_
                        refine lv_iload hx hb dX0_spread_139 (lv_at hl 0 rfl) ?_
                        refine va_iast hx hb hK hP hD hS 3 0 rfl rfl (vp_in_nI hfit (by decide)) dX0_spread_141 (fun H locs hP hD hS => ?_)
                        rw [show ((nI en2)).toNatClampNeg = en2 from nI_clamp (by omega)] at hP hD
                        have hP : va_P G vwCl [((a 0), oC a mo co le), (am, iA cI (upd M2 q (nI (f + (d0 + 1) * mr)))), ((a 3), iA cI K), ((a 12), iA cI (upd W2 en2 (nI q)))] H := hP
                        have hD : va_D A [((a 0), oC a mo co le), (am, iA cI (upd M2 q (nI (f + (d0 + 1) * mr)))), ((a 3), iA cI K), ((a 12), iA cI (upd W2 en2 (nI q)))] := hD
                        refine lv_iinc (v := nI (en2 + 1)) (lv' := [(6, .int (nI (en2 + 1))), (10, .int (nI q)), (0, .ref (a 0)), (1, .ref am), (3, .int (b2i bl)), (5, .int (nI mr)), (7, .int (nI ai)), (8, .int (nI fr)), (9, .int (nI sd))]) hx hb dX0_spread_142 hl (k := 5) rfl (nI_inc en2) (by decide) rfl (fun ls hl => ?_)
                        refine lv_iinc (v := nI (sd + 1)) (lv' := [(9, .int (nI (sd + 1))), (6, .int (nI (en2 + 1))), (10, .int (nI q)), (0, .ref (a 0)), (1, .ref am), (3, .int (b2i bl)), (5, .int (nI mr)), (7, .int (nI ai)), (8, .int (nI fr))]) hx hb dX0_spread_145 hl (k := 8) rfl (nI_inc sd) (by decide) rfl (fun ls hl => ?_)
                        refine lv_goto (tgt := 44) hx hb dX0_spread_148 (by decide) ?_
                        exact ih_lq (sd + 1) (en2 + 1) (fun i => if i = en2 then q else row2 i) (fun x => if x = q then some (d0 + 1) else D2 x) (upd M2 q (nI (f + (d0 + 1) * mr))) (upd W2 en2 (nI q)) (BJ_add nbC_ok hJ g4 (by rw [hr2]; exact hn9) (by unfold PB; rw [if_neg hbl]; exact ho) hDq hd0 (fun i => rfl) (fun x => rfl)) (by omega) (by rw [if_neg (show ¬ ai = en2 from Nat.ne_of_lt hJ.2.1)]; exact hr2) (fun i hi => by by_cases e9 : i = en2; rw [e9, pk_us, if_pos rfl]; rw [pk_un e9, if_neg e9]; exact hW2 i (by omega)) (fun x hx => by by_cases e9 : x = q; rw [e9, pk_us, if_pos rfl]; rfl; rw [pk_un e9, if_neg e9]; exact hM2 x hx) (by omega) _ _ _ hP hD hS (lv_sub hl [3, 4, 5, 6, 1, 7, 8, 0] (rfl))
                · skip
                  refine tpi (x' := nI (f + d * mr)) (rfl) ?_
                  have hdq := BI_d hJ.1 hDq
                  have hdm2 := Nat.mul_le_mul_left d hmr
                  refine lv_if_ge (tgt := 145) hx hb dX0_spread_79 (by decide) (fun _ => ?_) (fun c => absurd (nI_pos' (n := f + d * mr) (by omega)) c)
                  refine lv_iinc (v := nI (sd + 1)) (lv' := [(9, .int (nI (sd + 1))), (10, .int (nI q)), (0, .ref (a 0)), (1, .ref am), (3, .int (b2i bl)), (5, .int (nI mr)), (6, .int (nI en2)), (7, .int (nI ai)), (8, .int (nI fr))]) hx hb dX0_spread_145 hl (k := 8) rfl (nI_inc sd) (by decide) rfl (fun ls hl => ?_)
                  refine lv_goto (tgt := 44) hx hb dX0_spread_148 (by decide) ?_
                  exact ih_lq (sd + 1) en2 row2 D2 M2 W2 (BJ_skip hJ (fun q9 hq9 _ => by rw [hr2, hn9] at hq9; cases hq9; rw [hDq]; rfl)) (by omega) (hr2) (hW2) (hM2) (by omega) _ _ _ hP hD hS (lv_sub hl [2, 3, 4, 5, 6, 7, 8, 0] (rfl))
            · skip
              have g9 : 4 = sd := by omega
              subst g9
              refine lv_icmp_ge (tgt := 151) hx hb dX0_spread_55 (by decide) (fun _ => ?_) (fun c => absurd (le_n (n := 4) (i := 4) (by decide) (by decide)) c)
              refine lv_iinc (v := nI (ai + 1)) (lv' := [(7, .int (nI (ai + 1))), (0, .ref (a 0)), (1, .ref am), (3, .int (b2i bl)), (5, .int (nI mr)), (6, .int (nI en2)), (8, .int (nI fr)), (9, .int (nI 4))]) hx hb dX0_spread_151 hl (k := 5) rfl (nI_inc ai) (by decide) rfl (fun ls hl => ?_)
              refine lv_goto (tgt := 18) hx hb dX0_spread_154 (by decide) ?_
              exact ih_lp (ai + 1) en2 row2 D2 M2 W2 (BJ_done nbC_ok hJ) (hW2) (hM2) (by omega) _ _ _ hP hD hS (lv_sub hl [1, 2, 3, 4, 5, 0] (rfl))
        exact lq (_ + 1) 0 en row D9 M1 W1 (BJ_0 hB g) (by omega) (hfr.symm) (hW1) (hM1) (Nat.lt_succ_self _) _ _ _ hP hD hS (lv_sub hl [2, 3, 4, 5, 6, 7, 1, 0] rfl)
      · skip
        refine lv_icmp_ge (tgt := 157) hx hb dX0_spread_22 (by decide) (fun _ => ?_) (fun c => absurd (le_n g (by have := hB.2.2.2.2.2.2.2.2.1; omega)) c)
        subst hQ
        subst hAe
        exact wr_v (M1, W1) (fun x hx => by rw [← BI_end hB g x]; exact hM1 x hx) hx hb hr hP hD hS hlocks dX0_spread_157
  exact lp (_ + 1) 0 1 (fun _ => st) (fun x => if x = st then some 0 else none) (upd Mk st (nI f)) (upd Wa 0 (nI st)) (BI_init hst rfl (fun x => rfl)) (fun i hi => by rw [show i = 0 by omega, pk_us]) (fun x hx => by by_cases e9 : x = st; rw [e9, pk_us, if_pos rfl]; show nI f = nI (f + 0 * mr); rw [Nat.zero_mul, Nat.add_zero]; rw [pk_un e9, if_neg e9]; rfl) (Nat.lt_succ_self _) _ _ _ hP hD hS (lv_sub hl [2, 3, 5, 7, 1, 0] rfl)

def rmX0_enter : Room := { frames := 1, cells := 0, slots := 0, locals := 20 }
set_option maxHeartbeats 4000000 in
set_option maxRecDepth 100000 in
/-- a lot of a quarter is counted -/
theorem c_X0_enter (l : Launch) (G : va_G) (cI : ClassId) (a : Nat → Nat) (mo co le : Int32) (La Ha Ma : Nat → Int32) (j : Nat) (v : Int32) (hj : j < 64) (sz : Nat) : Met l yX0_enter wsX0_enter rmX0_enter (va_Pc [.ref (a 0), .int (nI j), .int v] (WrP G cI [((a 0), oC a mo co le), ((a 5), iA cI La), ((a 6), iA cI Ha), ((a 7), iA cI Ma)] sz)) (va_Qv (fun (u : (Nat → Int32) × (Nat → Int32) × (Nat → Int32)) => u.1 = upd La j (La j + 1) ∧ u.2.1 = (if v = 3 then upd Ha j (Ha j + 1) else Ha) ∧ u.2.2 = (if v = 5 then upd Ma j (Ma j + 1) else Ma)) (WrB G [((a 0), oC a mo co le), ((a 5), iA cI La), ((a 6), iA cI Ha), ((a 7), iA cI Ma)] sz (fun u => [(a 0, oC a mo co le), (a 5, iA cI u.1), (a 6, iA cI u.2.1), (a 7, iA cI u.2.2)])) (va_A [((a 0), oC a mo co le), ((a 5), iA cI La), ((a 6), iA cI Ha), ((a 7), iA cI Ma)] sz)) 0 0 (va_A [((a 0), oC a mo co le), ((a 5), iA cI La), ((a 6), iA cI Ha), ((a 7), iA cI Ma)] sz) := by
  refine Met.ofW (cc := cX0_enter) (maxL := 3) (ret := none) (by decide) rfl ?_
  intro p e s m args below meth c s₁ B hml hv
  obtain ⟨rfl, hsz, hP, hK, hD0, hN⟩ := hv
  have hx := B.exec
  have hb := B.bytes
  have hr := B.returns
  have hlocks := B.notSynchronized
  have hts := atoms_spec (ws := wsX0_enter) B.pre
  have hown : s.vm.findClass RX0 = some m.cls := findClass_of_methodNamed B.named
  subst hsz
  have hD := hD0.self (sz := s.heap.size)
  have hA : ∀ q : Nat, s.heap.size ≤ q → va_A [((a 0), oC a mo co le), ((a 5), iA cI La), ((a 6), iA cI Ha), ((a 7), iA cI Ma)] s.heap.size q := fun q h => Or.inr h
  have hS : va_S (va_A [((a 0), oC a mo co le), ((a 5), iA cI La), ((a 6), iA cI Ha), ((a 7), iA cI Ma)] s.heap.size) s.heap s.heap [] := va_S.rf
  obtain ⟨A, hAe⟩ : ∃ A, A = va_A [((a 0), oC a mo co le), ((a 5), iA cI La), ((a 6), iA cI Ha), ((a 7), iA cI Ma)] s.heap.size := ⟨_, rfl⟩
  rw [← hAe] at hD hA hS
  have FX : CallFix p m c cX0_enter 3 s ([.ref (a 0), .int (nI j), .int v] : List Value).toArray wsX0_enter RX0 := ⟨hx, hb, hml, hown, hts⟩
  have hl := lv_entry ([.ref (a 0), .int (nI j), .int v]) (n := 3) (Nat.le_of_ble_eq_true rfl)
  rw [lg_entry_eq]
  generalize (lg_sl ([.ref (a 0), .int (nI j), .int v]) ++ List.replicate (3 - (lg_sl ([.ref (a 0), .int (nI j), .int v])).length) Slot.unset).toArray = ls at hl ⊢
  have hl : lv_has ls 3 [(0, .ref (a 0)), (1, .int (nI j)), (2, .int v)] := hl
  refine wq (fun Q hQ => ?_)
  have hzc : 0 + 0 ≤ (headSpec wsX0_enter rmX0_enter).room.cells := Nat.zero_le _
  have hzs : 0 + 0 ≤ (headSpec wsX0_enter rmX0_enter).room.slots := Nat.zero_le _
  have hf28 := hts (.fieldLink RX0 28 "CanalCity$City" "lotsOf" "[I") (by decide +kernel)
  have hf31 := hts (.fieldLink RX0 31 "CanalCity$City" "housesOf" "[I") (by decide +kernel)
  have hf34 := hts (.fieldLink RX0 34 "CanalCity$City" "marketsOf" "[I") (by decide +kernel)
  have hinX0 : ∀ w ∈ u_ws RX0 TX0 13, w ∈ wsX0_enter := by decide +kernel
  have hiniX1 := hts (.initialized RX1) (by decide +kernel)
  have hstX1_isLot := hts (.static yX1_isLot) (by decide +kernel)
  refine lv_iload_n hx hb dX0_enter_0 rfl (lv_at hl 1 rfl) ?_
  refine cr_i (va_runSN (As := [.int (nI j)]) (rest := []) FX (c_X1_isLot l (nI j)) ⟨va_cnB 1 hts gX0_enter_X1_isLot_n73 rfl rfl rfl (NW_at hN 3 rfl) hiniX1 (by decide +kernel) ⟨Nat.le_of_ble_eq_true rfl, Nat.le_of_ble_eq_true rfl⟩, hstX1_isLot, trivial⟩ puS rfl rfl hl.1 rfl (lv_room (Nat.le_of_ble_eq_true rfl)) dX0_enter_1 ⟨hzc, hzs⟩) hS hP (fun H locs hP hS => ?_)
  refine tpi (x' := 1) (isLot_1 hj) ?_
  refine lv_if_ne (tgt := 8) hx hb dX0_enter_4 (by decide) (fun _ => ?_) (fun c => absurd c (by decide))
  refine lv_aload_n hx hb dX0_enter_8 rfl (lv_at hl 0 rfl) ?_
  refine va_get (D := G) (ci := 0) (v := .ref (a 5)) (C := RX0) (T := TX0) (N := 13) hx hb hts hinX0 hown hK hP 0 rfl rfl 5 (by decide) hf28 (fun _ h9 => h9) rfl dX0_enter_9 ?_
  refine lv_iload_n hx hb dX0_enter_12 rfl (lv_at hl 1 rfl) ?_
  refine lv_dup2_11 hx hb dX0_enter_13 rfl rfl ?_
  refine va_iald hx hb hK hP 1 0 rfl rfl (vp_in_nI hj (by decide)) dX0_enter_14 ?_
  refine tpi (x' := La j) (congrArg La (nI_clamp (by omega))) ?_
  refine lv_iconst (v := 1) hx hb dX0_enter_15 (by decide) ?_
  refine lv_iadd hx hb dX0_enter_16 ?_
  refine va_iast hx hb hK hP hD hS 1 0 rfl rfl (vp_in_nI hj (by decide)) dX0_enter_17 (fun H locs hP hD hS => ?_)
  rw [show ((nI j)).toNatClampNeg = j from nI_clamp (by omega)] at hP hD
  have hP : va_P G vwCl [((a 0), oC a mo co le), ((a 5), iA cI (upd La j ((La j) + 1))), ((a 6), iA cI Ha), ((a 7), iA cI Ma)] H := hP
  have hD : va_D A [((a 0), oC a mo co le), ((a 5), iA cI (upd La j ((La j) + 1))), ((a 6), iA cI Ha), ((a 7), iA cI Ma)] := hD
  refine lv_iload_n hx hb dX0_enter_18 rfl (lv_at hl 2 rfl) ?_
  refine lv_iconst (v := 3) hx hb dX0_enter_19 (by decide) ?_
  refine lv_icmp_ne (tgt := 36) hx hb dX0_enter_20 (by decide) (fun c3 => ?_) (fun c3 => ?_)
  · skip
    refine lv_iload_n hx hb dX0_enter_36 rfl (lv_at hl 2 rfl) ?_
    refine lv_iconst (v := 5) hx hb dX0_enter_37 (by decide) ?_
    refine lv_icmp_ne (tgt := 51) hx hb dX0_enter_38 (by decide) (fun c5 => ?_) (fun c5 => ?_)
    · skip
      subst hQ
      subst hAe
      exact wr_v (upd La j (La j + 1), Ha, Ma) (⟨rfl, by rw [if_neg c3], by rw [if_neg c5]⟩) hx hb hr hP hD hS hlocks dX0_enter_51
    · skip
      refine lv_aload_n hx hb dX0_enter_41 rfl (lv_at hl 0 rfl) ?_
      refine va_get (D := G) (ci := 0) (v := .ref (a 7)) (C := RX0) (T := TX0) (N := 13) hx hb hts hinX0 hown hK hP 0 rfl rfl 7 (by decide) hf34 (fun _ h9 => h9) rfl dX0_enter_42 ?_
      refine lv_iload_n hx hb dX0_enter_45 rfl (lv_at hl 1 rfl) ?_
      refine lv_dup2_11 hx hb dX0_enter_46 rfl rfl ?_
      refine va_iald hx hb hK hP 3 0 rfl rfl (vp_in_nI hj (by decide)) dX0_enter_47 ?_
      refine tpi (x' := Ma j) (congrArg Ma (nI_clamp (by omega))) ?_
      refine lv_iconst (v := 1) hx hb dX0_enter_48 (by decide) ?_
      refine lv_iadd hx hb dX0_enter_49 ?_
      refine va_iast hx hb hK hP hD hS 3 0 rfl rfl (vp_in_nI hj (by decide)) dX0_enter_50 (fun H locs hP hD hS => ?_)
      rw [show ((nI j)).toNatClampNeg = j from nI_clamp (by omega)] at hP hD
      have hP : va_P G vwCl [((a 0), oC a mo co le), ((a 5), iA cI (upd La j ((La j) + 1))), ((a 6), iA cI Ha), ((a 7), iA cI (upd Ma j ((Ma j) + 1)))] H := hP
      have hD : va_D A [((a 0), oC a mo co le), ((a 5), iA cI (upd La j ((La j) + 1))), ((a 6), iA cI Ha), ((a 7), iA cI (upd Ma j ((Ma j) + 1)))] := hD
      subst hQ
      subst hAe
      exact wr_v (upd La j (La j + 1), Ha, upd Ma j (Ma j + 1)) (⟨rfl, by rw [if_neg c3], by rw [if_pos c5]⟩) hx hb hr hP hD hS hlocks dX0_enter_51
  · skip
    refine lv_aload_n hx hb dX0_enter_23 rfl (lv_at hl 0 rfl) ?_
    refine va_get (D := G) (ci := 0) (v := .ref (a 6)) (C := RX0) (T := TX0) (N := 13) hx hb hts hinX0 hown hK hP 0 rfl rfl 6 (by decide) hf31 (fun _ h9 => h9) rfl dX0_enter_24 ?_
    refine lv_iload_n hx hb dX0_enter_27 rfl (lv_at hl 1 rfl) ?_
    refine lv_dup2_11 hx hb dX0_enter_28 rfl rfl ?_
    refine va_iald hx hb hK hP 2 0 rfl rfl (vp_in_nI hj (by decide)) dX0_enter_29 ?_
    refine tpi (x' := Ha j) (congrArg Ha (nI_clamp (by omega))) ?_
    refine lv_iconst (v := 1) hx hb dX0_enter_30 (by decide) ?_
    refine lv_iadd hx hb dX0_enter_31 ?_
    refine va_iast hx hb hK hP hD hS 2 0 rfl rfl (vp_in_nI hj (by decide)) dX0_enter_32 (fun H locs hP hD hS => ?_)
    rw [show ((nI j)).toNatClampNeg = j from nI_clamp (by omega)] at hP hD
    have hP : va_P G vwCl [((a 0), oC a mo co le), ((a 5), iA cI (upd La j ((La j) + 1))), ((a 6), iA cI (upd Ha j ((Ha j) + 1))), ((a 7), iA cI Ma)] H := hP
    have hD : va_D A [((a 0), oC a mo co le), ((a 5), iA cI (upd La j ((La j) + 1))), ((a 6), iA cI (upd Ha j ((Ha j) + 1))), ((a 7), iA cI Ma)] := hD
    refine lv_goto (tgt := 51) hx hb dX0_enter_33 (by decide) ?_
    subst hQ
    subst hAe
    exact wr_v (upd La j (La j + 1), upd Ha j (Ha j + 1), Ma) (⟨rfl, by rw [if_pos c3], by rw [if_neg (by rw [c3]; decide)]⟩) hx hb hr hP hD hS hlocks dX0_enter_51

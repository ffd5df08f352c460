def rmX0_leaveHouses : Room := { frames := 0, cells := 0, slots := 0, locals := 0 }
set_option maxHeartbeats 4000000 in
set_option maxRecDepth 100000 in
/-- houses are left -/
theorem c_X0_leaveHouses (l : Launch) (G : va_G) (cI : ClassId) (a : Nat → Nat) (mo co le : Int32) (K Qa La Ha Ma Ba Ca Da Fa Wa k : Nat → Int32) (hk : eqK K k) (hCa : hatC k Ca) (sz : Nat) : Met l yX0_leaveHouses wsX0_leaveHouses rmX0_leaveHouses (va_Pc [.ref (a 0)] (WrP G cI [((a 0), oC a mo co le), ((a 3), iA cI K), ((a 4), iA cI Qa), ((a 5), iA cI La), ((a 6), iA cI Ha), ((a 7), iA cI Ma), ((a 8), iA cI Ba), ((a 9), iA cI Ca), ((a 10), iA cI Da), ((a 11), iA cI Fa), ((a 12), iA cI Wa)] sz)) (va_Qv (fun (u : Int32 × (Nat → Int32)) => u.1 = le + lvN k ∧ eqK u.2 (lv1 k)) (WrB G [((a 0), oC a mo co le), ((a 3), iA cI K), ((a 4), iA cI Qa), ((a 5), iA cI La), ((a 6), iA cI Ha), ((a 7), iA cI Ma), ((a 8), iA cI Ba), ((a 9), iA cI Ca), ((a 10), iA cI Da), ((a 11), iA cI Fa), ((a 12), iA cI Wa)] sz (fun u => [(a 0, oC a mo co (u.1)), (a 3, iA cI ((u.2))), (a 4, iA cI Qa), (a 5, iA cI La), (a 6, iA cI Ha), (a 7, iA cI Ma), (a 8, iA cI Ba), (a 9, iA cI Ca), (a 10, iA cI Da), (a 11, iA cI Fa), (a 12, iA cI Wa)])) (va_A [((a 0), oC a mo co le), ((a 3), iA cI K), ((a 4), iA cI Qa), ((a 5), iA cI La), ((a 6), iA cI Ha), ((a 7), iA cI Ma), ((a 8), iA cI Ba), ((a 9), iA cI Ca), ((a 10), iA cI Da), ((a 11), iA cI Fa), ((a 12), iA cI Wa)] sz)) 0 0 (va_A [((a 0), oC a mo co le), ((a 3), iA cI K), ((a 4), iA cI Qa), ((a 5), iA cI La), ((a 6), iA cI Ha), ((a 7), iA cI Ma), ((a 8), iA cI Ba), ((a 9), iA cI Ca), ((a 10), iA cI Da), ((a 11), iA cI Fa), ((a 12), iA cI Wa)] sz) := by
  refine Met.ofW (cc := cX0_leaveHouses) (maxL := 2) (ret := none) (by decide) rfl ?_
  intro p e s m args below meth c s₁ B hml hv
  obtain ⟨rfl, hsz, hP, hK, hD0, hN⟩ := hv
  have hx := B.exec
  have hb := B.bytes
  have hr := B.returns
  have hlocks := B.notSynchronized
  have hts := atoms_spec (ws := wsX0_leaveHouses) B.pre
  have hown : s.vm.findClass RX0 = some m.cls := findClass_of_methodNamed B.named
  subst hsz
  have hD := hD0.self (sz := s.heap.size)
  have hA : ∀ q : Nat, s.heap.size ≤ q → va_A [((a 0), oC a mo co le), ((a 3), iA cI K), ((a 4), iA cI Qa), ((a 5), iA cI La), ((a 6), iA cI Ha), ((a 7), iA cI Ma), ((a 8), iA cI Ba), ((a 9), iA cI Ca), ((a 10), iA cI Da), ((a 11), iA cI Fa), ((a 12), iA cI Wa)] s.heap.size q := fun q h => Or.inr h
  have hS : va_S (va_A [((a 0), oC a mo co le), ((a 3), iA cI K), ((a 4), iA cI Qa), ((a 5), iA cI La), ((a 6), iA cI Ha), ((a 7), iA cI Ma), ((a 8), iA cI Ba), ((a 9), iA cI Ca), ((a 10), iA cI Da), ((a 11), iA cI Fa), ((a 12), iA cI Wa)] s.heap.size) s.heap s.heap [] := va_S.rf
  obtain ⟨A, hAe⟩ : ∃ A, A = va_A [((a 0), oC a mo co le), ((a 3), iA cI K), ((a 4), iA cI Qa), ((a 5), iA cI La), ((a 6), iA cI Ha), ((a 7), iA cI Ma), ((a 8), iA cI Ba), ((a 9), iA cI Ca), ((a 10), iA cI Da), ((a 11), iA cI Fa), ((a 12), iA cI Wa)] s.heap.size := ⟨_, rfl⟩
  rw [← hAe] at hD hA hS
  have FX : CallFix p m c cX0_leaveHouses 2 s ([.ref (a 0)] : List Value).toArray wsX0_leaveHouses RX0 := ⟨hx, hb, hml, hown, hts⟩
  have hl := lv_entry ([.ref (a 0)]) (n := 2) (Nat.le_of_ble_eq_true rfl)
  rw [lg_entry_eq]
  generalize (lg_sl ([.ref (a 0)]) ++ List.replicate (2 - (lg_sl ([.ref (a 0)])).length) Slot.unset).toArray = ls at hl ⊢
  have hl : lv_has ls 2 [(0, .ref (a 0))] := hl
  refine wq (fun Q hQ => ?_)
  have hzc : 0 + 0 ≤ (headSpec wsX0_leaveHouses rmX0_leaveHouses).room.cells := Nat.zero_le _
  have hzs : 0 + 0 ≤ (headSpec wsX0_leaveHouses rmX0_leaveHouses).room.slots := Nat.zero_le _
  have hf18 := hts (.fieldLink RX0 18 "CanalCity$City" "left" "I") (by decide +kernel)
  have hf21 := hts (.fieldLink RX0 21 "CanalCity$City" "kinds" "[I") (by decide +kernel)
  have hf40 := hts (.fieldLink RX0 40 "CanalCity$City" "complaints" "[I") (by decide +kernel)
  have hinX0 : ∀ w ∈ u_ws RX0 TX0 13, w ∈ wsX0_leaveHouses := by decide +kernel
  refine lv_iconst (v := 0) hx hb dX0_leaveHouses_0 (by decide) ?_
  refine tpi (x' := nI 0) (rfl) ?_
  refine lv_istore_n (lv' := [(1, .int (nI 0)), (0, .ref (a 0))]) hx hb dX0_leaveHouses_1 rfl hl (by decide) rfl (fun ls hl => ?_)
  have lp : ∀ (n : Nat) (i : Nat) (le1 : Int32) (K1 : Nat → Int32), (hi : i ≤ 64) → (hle : le1 = le + csum (fun p => if lft k p then 1 else 0) i) → (hK1 : ∀ x, x < i → K1 x = lv1 k x) → (hK2 : ∀ x, i ≤ x → x < 64 → K1 x = k x) → (64 - i) < n → ∀ (H : Heap) (locs : List Loc) (ls : Array Slot), va_P G vwCl [((a 0), oC a mo co le1), ((a 3), iA cI K1), ((a 4), iA cI Qa), ((a 5), iA cI La), ((a 6), iA cI Ha), ((a 7), iA cI Ma), ((a 8), iA cI Ba), ((a 9), iA cI Ca), ((a 10), iA cI Da), ((a 11), iA cI Fa), ((a 12), iA cI Wa)] H → va_D A [((a 0), oC a mo co le1), ((a 3), iA cI K1), ((a 4), iA cI Qa), ((a 5), iA cI La), ((a 6), iA cI Ha), ((a 7), iA cI Ma), ((a 8), iA cI Ba), ((a 9), iA cI Ca), ((a 10), iA cI Da), ((a 11), iA cI Fa), ((a 12), iA cI Wa)] → va_S A s.heap H locs → lv_has ls 2 [(0, .ref (a 0)), (1, .int (nI i))] → W p l e (headSpec wsX0_leaveHouses rmX0_leaveHouses).room s m ([.ref (a 0)] : List Value).toArray below meth c H locs 0 0 Q (F0 m 2 ls []) := by
    intro n
    induction n with
    | zero => intro i le1 K1 hi hle hK1 hK2 hn; exact absurd hn (by omega)
    | succ n ih_lp =>
      intro i le1 K1 hi hle hK1 hK2 hn H locs ls hP hD hS hl
      refine lv_iload_n hx hb dX0_leaveHouses_2 rfl (lv_at hl 1 rfl) ?_
      refine lv_bipush (v := 64) hx hb dX0_leaveHouses_3 (by decide) ?_
      rcases Nat.lt_or_ge i 64 with g | g
      · skip
        refine lv_icmp_ge (tgt := 51) hx hb dX0_leaveHouses_5 (by decide) (fun c => absurd c (lt_n (n := 64) g (by decide))) (fun _ => ?_)
        refine lv_aload_n hx hb dX0_leaveHouses_8 rfl (lv_at hl 0 rfl) ?_
        refine va_get (D := G) (ci := 0) (v := .ref (a 3)) (C := RX0) (T := TX0) (N := 13) hx hb hts hinX0 hown hK hP 0 rfl rfl 3 (by decide) hf21 (fun _ h9 => h9) rfl dX0_leaveHouses_9 ?_
        refine lv_iload_n hx hb dX0_leaveHouses_12 rfl (lv_at hl 1 rfl) ?_
        refine va_iald hx hb hK hP 1 0 rfl rfl (vp_in_nI g (by decide)) dX0_leaveHouses_13 ?_
        refine tpi (x' := K1 i) (congrArg K1 (nI_clamp (by omega))) ?_
        refine tpi (x' := k i) (hK2 i (Nat.le_refl i) g) ?_
        refine lv_iconst (v := 3) hx hb dX0_leaveHouses_14 (by decide) ?_
        refine lv_icmp_ne (tgt := 45) hx hb dX0_leaveHouses_15 (by decide) (fun c3 => ?_) (fun c3 => ?_)
        · skip
          refine lv_iinc (v := nI (i + 1)) (lv' := [(1, .int (nI (i + 1))), (0, .ref (a 0))]) hx hb dX0_leaveHouses_45 hl (k := 1) rfl (nI_inc i) (by decide) rfl (fun ls hl => ?_)
          refine lv_goto (tgt := 2) hx hb dX0_leaveHouses_48 (by decide) ?_
          exact ih_lp (i + 1) le1 K1 (by omega) (by rw [hle, show csum (fun p => if lft k p then 1 else 0) (i + 1) = csum (fun p => if lft k p then 1 else 0) i from by rw [csum]; rw [lv1_no3 c3]; exact Int32.add_zero _]) (fun x hx => by rcases Nat.lt_or_ge x i with q9 | q9; exact hK1 x q9; have e9 : x = i := (by omega); subst e9; rw [hK2 x (Nat.le_refl x) g]; unfold lv1; rw [lv1_no3 c3]; rfl) (fun x hx hx2 => hK2 x (by omega) hx2) (by omega) _ _ _ hP hD hS (lv_sub hl [1, 0] (rfl))
        · skip
          refine lv_aload_n hx hb dX0_leaveHouses_18 rfl (lv_at hl 0 rfl) ?_
          refine va_get (D := G) (ci := 0) (v := .ref (a 9)) (C := RX0) (T := TX0) (N := 13) hx hb hts hinX0 hown hK hP 0 rfl rfl 9 (by decide) hf40 (fun _ h9 => h9) rfl dX0_leaveHouses_19 ?_
          refine lv_iload_n hx hb dX0_leaveHouses_22 rfl (lv_at hl 1 rfl) ?_
          refine va_iald hx hb hK hP 7 0 rfl rfl (vp_in_nI g (by decide)) dX0_leaveHouses_23 ?_
          refine tpi (x' := Ca i) (congrArg Ca (nI_clamp (by omega))) ?_
          refine tpi (x' := cpl k i) (hCa i g) ?_
          refine lv_iconst (v := 4) hx hb dX0_leaveHouses_24 (by decide) ?_
          refine lv_icmp_lt (tgt := 45) hx hb dX0_leaveHouses_25 (by decide) (fun c4 => ?_) (fun c4 => ?_)
          · skip
            refine lv_iinc (v := nI (i + 1)) (lv' := [(1, .int (nI (i + 1))), (0, .ref (a 0))]) hx hb dX0_leaveHouses_45 hl (k := 1) rfl (nI_inc i) (by decide) rfl (fun ls hl => ?_)
            refine lv_goto (tgt := 2) hx hb dX0_leaveHouses_48 (by decide) ?_
            exact ih_lp (i + 1) le1 K1 (by omega) (by rw [hle, show csum (fun p => if lft k p then 1 else 0) (i + 1) = csum (fun p => if lft k p then 1 else 0) i from by rw [csum]; rw [lv1_no4 c4]; exact Int32.add_zero _]) (fun x hx => by rcases Nat.lt_or_ge x i with q9 | q9; exact hK1 x q9; have e9 : x = i := (by omega); subst e9; rw [hK2 x (Nat.le_refl x) g]; unfold lv1; rw [lv1_no4 c4]; rfl) (fun x hx hx2 => hK2 x (by omega) hx2) (by omega) _ _ _ hP hD hS (lv_sub hl [1, 0] (rfl))
          · skip
            refine lv_aload_n hx hb dX0_leaveHouses_28 rfl (lv_at hl 0 rfl) ?_
            refine va_get (D := G) (ci := 0) (v := .ref (a 3)) (C := RX0) (T := TX0) (N := 13) hx hb hts hinX0 hown hK hP 0 rfl rfl 3 (by decide) hf21 (fun _ h9 => h9) rfl dX0_leaveHouses_29 ?_
            refine lv_iload_n hx hb dX0_leaveHouses_32 rfl (lv_at hl 1 rfl) ?_
            refine lv_iconst (v := 2) hx hb dX0_leaveHouses_33 (by decide) ?_
            refine va_iast hx hb hK hP hD hS 1 0 rfl rfl (vp_in_nI g (by decide)) dX0_leaveHouses_34 (fun H locs hP hD hS => ?_)
            rw [show ((nI i)).toNatClampNeg = i from nI_clamp (by omega)] at hP hD
            have hP : va_P G vwCl [((a 0), oC a mo co le1), ((a 3), iA cI (upd K1 i 2)), ((a 4), iA cI Qa), ((a 5), iA cI La), ((a 6), iA cI Ha), ((a 7), iA cI Ma), ((a 8), iA cI Ba), ((a 9), iA cI Ca), ((a 10), iA cI Da), ((a 11), iA cI Fa), ((a 12), iA cI Wa)] H := hP
            have hD : va_D A [((a 0), oC a mo co le1), ((a 3), iA cI (upd K1 i 2)), ((a 4), iA cI Qa), ((a 5), iA cI La), ((a 6), iA cI Ha), ((a 7), iA cI Ma), ((a 8), iA cI Ba), ((a 9), iA cI Ca), ((a 10), iA cI Da), ((a 11), iA cI Fa), ((a 12), iA cI Wa)] := hD
            refine lv_aload_n hx hb dX0_leaveHouses_35 rfl (lv_at hl 0 rfl) ?_
            refine lv_dup hx hb dX0_leaveHouses_36 rfl ?_
            refine va_get (D := G) (ci := 0) (v := .int le1) (C := RX0) (T := TX0) (N := 13) hx hb hts hinX0 hown hK hP 0 rfl rfl 2 (by decide) hf18 (fun _ h9 => h9) rfl dX0_leaveHouses_37 ?_
            refine lv_iconst (v := 1) hx hb dX0_leaveHouses_40 (by decide) ?_
            refine lv_iadd hx hb dX0_leaveHouses_41 ?_
            refine va_put (D := G) (ci := 0) (v := .int (le1 + 1)) (ty := .int) (C := RX0) (T := TX0) (N := 13) hx hb hts hinX0 tyX0 tyX0_ok nmX0 hown hK hP hD hS 0 rfl rfl 2 (by decide) hf18 (fun _ h9 => h9) rfl (by decide +kernel) rfl rfl (Nat.le_of_ble_eq_true rfl) dX0_leaveHouses_42 (fun H locs hP hD hS => ?_)
            have hP : va_P G vwCl [((a 0), oC a mo co (le1 + 1)), ((a 3), iA cI (upd K1 i 2)), ((a 4), iA cI Qa), ((a 5), iA cI La), ((a 6), iA cI Ha), ((a 7), iA cI Ma), ((a 8), iA cI Ba), ((a 9), iA cI Ca), ((a 10), iA cI Da), ((a 11), iA cI Fa), ((a 12), iA cI Wa)] H := hP
            have hD : va_D A [((a 0), oC a mo co (le1 + 1)), ((a 3), iA cI (upd K1 i 2)), ((a 4), iA cI Qa), ((a 5), iA cI La), ((a 6), iA cI Ha), ((a 7), iA cI Ma), ((a 8), iA cI Ba), ((a 9), iA cI Ca), ((a 10), iA cI Da), ((a 11), iA cI Fa), ((a 12), iA cI Wa)] := hD
            refine lv_iinc (v := nI (i + 1)) (lv' := [(1, .int (nI (i + 1))), (0, .ref (a 0))]) hx hb dX0_leaveHouses_45 hl (k := 1) rfl (nI_inc i) (by decide) rfl (fun ls hl => ?_)
            refine lv_goto (tgt := 2) hx hb dX0_leaveHouses_48 (by decide) ?_
            exact ih_lp (i + 1) (le1 + 1) (upd K1 i 2) (by omega) (by rw [hle, show csum (fun p => if lft k p then 1 else 0) (i + 1) = csum (fun p => if lft k p then 1 else 0) i + 1 from by rw [csum]; rw [lv1_hit c3 c4]; rfl, Int32.add_assoc]) (fun x hx => by rcases Nat.lt_or_ge x i with q9 | q9; rw [pk_un (by omega)]; exact hK1 x q9; have e9 : x = i := (by omega); subst e9; rw [pk_us]; unfold lv1; rw [lv1_hit c3 c4]; rfl) (fun x hx hx2 => by rw [pk_un (by omega)]; exact hK2 x (by omega) hx2) (by omega) _ _ _ hP hD hS (lv_sub hl [1, 0] (rfl))
      · skip
        have g9 : 64 = i := by omega
        subst g9
        refine lv_icmp_ge (tgt := 51) hx hb dX0_leaveHouses_5 (by decide) (fun _ => ?_) (fun c => absurd (le_n (n := 64) (i := 64) (by decide) (by decide)) c)
        subst hQ
        subst hAe
        exact wr_v (le1, K1) (⟨hle, hK1⟩) hx hb hr hP hD hS hlocks dX0_leaveHouses_51
  exact lp (_ + 1) 0 le K (by omega) ((Int32.add_zero le).symm) (fun x hx => absurd hx (Nat.not_lt_zero _)) (fun x _ hx => hk x hx) (Nat.lt_succ_self _) _ _ _ hP hD hS (lv_sub hl [1, 0] rfl)

def rmX0_sinkLots : Room := { frames := 2, cells := 0, slots := 0, locals := 48 }
set_option maxHeartbeats 4000000 in
set_option maxRecDepth 100000 in
/-- lots sink -/
theorem c_X0_sinkLots (l : Launch) (G : va_G) (cI : ClassId) (a : Nat → Nat) (mo co le : Int32) (K Qa La Ha Ma Ba Ca Da Fa Wa k : Nat → Int32) (hk : eqK K k) (sz : Nat) : Met l yX0_sinkLots wsX0_sinkLots rmX0_sinkLots (va_Pc [.ref (a 0)] (WrP G cI [((a 0), oC a mo co le), ((a 3), iA cI K), ((a 4), iA cI Qa), ((a 5), iA cI La), ((a 6), iA cI Ha), ((a 7), iA cI Ma), ((a 8), iA cI Ba), ((a 9), iA cI Ca), ((a 10), iA cI Da), ((a 11), iA cI Fa), ((a 12), iA cI Wa)] sz)) (va_Qv (fun (u : (Nat → Int32) × (Nat → Int32)) => eqK u.1 (sk1 k)) (WrB G [((a 0), oC a mo co le), ((a 3), iA cI K), ((a 4), iA cI Qa), ((a 5), iA cI La), ((a 6), iA cI Ha), ((a 7), iA cI Ma), ((a 8), iA cI Ba), ((a 9), iA cI Ca), ((a 10), iA cI Da), ((a 11), iA cI Fa), ((a 12), iA cI Wa)] sz (fun u => [(a 0, oC a mo co le), (a 3, iA cI ((u.1))), (a 4, iA cI Qa), (a 5, iA cI La), (a 6, iA cI Ha), (a 7, iA cI Ma), (a 8, iA cI Ba), (a 9, iA cI Ca), (a 10, iA cI Da), (a 11, iA cI Fa), (a 12, iA cI ((u.2)))])) (va_A [((a 0), oC a mo co le), ((a 3), iA cI K), ((a 4), iA cI Qa), ((a 5), iA cI La), ((a 6), iA cI Ha), ((a 7), iA cI Ma), ((a 8), iA cI Ba), ((a 9), iA cI Ca), ((a 10), iA cI Da), ((a 11), iA cI Fa), ((a 12), iA cI Wa)] sz)) 0 0 (va_A [((a 0), oC a mo co le), ((a 3), iA cI K), ((a 4), iA cI Qa), ((a 5), iA cI La), ((a 6), iA cI Ha), ((a 7), iA cI Ma), ((a 8), iA cI Ba), ((a 9), iA cI Ca), ((a 10), iA cI Da), ((a 11), iA cI Fa), ((a 12), iA cI Wa)] sz) := by
  refine Met.ofW (cc := cX0_sinkLots) (maxL := 4) (ret := none) (by decide) rfl ?_
  intro p e s m args below meth c s₁ B hml hv
  obtain ⟨rfl, hsz, hP, hK, hD0, hN⟩ := hv
  have hx := B.exec
  have hb := B.bytes
  have hr := B.returns
  have hlocks := B.notSynchronized
  have hts := atoms_spec (ws := wsX0_sinkLots) B.pre
  have hown : s.vm.findClass RX0 = some m.cls := findClass_of_methodNamed B.named
  subst hsz
  have hD := hD0.self (sz := s.heap.size)
  have hA : ∀ q : Nat, s.heap.size ≤ q → va_A [((a 0), oC a mo co le), ((a 3), iA cI K), ((a 4), iA cI Qa), ((a 5), iA cI La), ((a 6), iA cI Ha), ((a 7), iA cI Ma), ((a 8), iA cI Ba), ((a 9), iA cI Ca), ((a 10), iA cI Da), ((a 11), iA cI Fa), ((a 12), iA cI Wa)] s.heap.size q := fun q h => Or.inr h
  have hS : va_S (va_A [((a 0), oC a mo co le), ((a 3), iA cI K), ((a 4), iA cI Qa), ((a 5), iA cI La), ((a 6), iA cI Ha), ((a 7), iA cI Ma), ((a 8), iA cI Ba), ((a 9), iA cI Ca), ((a 10), iA cI Da), ((a 11), iA cI Fa), ((a 12), iA cI Wa)] s.heap.size) s.heap s.heap [] := va_S.rf
  obtain ⟨A, hAe⟩ : ∃ A, A = va_A [((a 0), oC a mo co le), ((a 3), iA cI K), ((a 4), iA cI Qa), ((a 5), iA cI La), ((a 6), iA cI Ha), ((a 7), iA cI Ma), ((a 8), iA cI Ba), ((a 9), iA cI Ca), ((a 10), iA cI Da), ((a 11), iA cI Fa), ((a 12), iA cI Wa)] s.heap.size := ⟨_, rfl⟩
  rw [← hAe] at hD hA hS
  have FX : CallFix p m c cX0_sinkLots 4 s ([.ref (a 0)] : List Value).toArray wsX0_sinkLots RX0 := ⟨hx, hb, hml, hown, hts⟩
  have hl := lv_entry ([.ref (a 0)]) (n := 4) (Nat.le_of_ble_eq_true rfl)
  rw [lg_entry_eq]
  generalize (lg_sl ([.ref (a 0)]) ++ List.replicate (4 - (lg_sl ([.ref (a 0)])).length) Slot.unset).toArray = ls at hl ⊢
  have hl : lv_has ls 4 [(0, .ref (a 0))] := hl
  refine wq (fun Q hQ => ?_)
  have hzc : 0 + 0 ≤ (headSpec wsX0_sinkLots rmX0_sinkLots).room.cells := Nat.zero_le _
  have hzs : 0 + 0 ≤ (headSpec wsX0_sinkLots rmX0_sinkLots).room.slots := Nat.zero_le _
  have hf21 := hts (.fieldLink RX0 21 "CanalCity$City" "kinds" "[I") (by decide +kernel)
  have hf49 := hts (.fieldLink RX0 49 "CanalCity$City" "waiting" "[I") (by decide +kernel)
  have hinX0 : ∀ w ∈ u_ws RX0 TX0 13, w ∈ wsX0_sinkLots := by decide +kernel
  have hiniX1 := hts (.initialized RX1) (by decide +kernel)
  have hstX1_isLot := hts (.static yX1_isLot) (by decide +kernel)
  refine lv_iconst (v := 0) hx hb dX0_sinkLots_0 (by decide) ?_
  refine tpi (x' := nI 0) (rfl) ?_
  refine lv_istore_n (lv' := [(1, .int (nI 0)), (0, .ref (a 0))]) hx hb dX0_sinkLots_1 rfl hl (by decide) rfl (fun ls hl => ?_)
  refine lv_iconst (v := 0) hx hb dX0_sinkLots_2 (by decide) ?_
  refine tpi (x' := nI 0) (rfl) ?_
  refine lv_istore_n (lv' := [(2, .int (nI 0)), (1, .int (nI 0)), (0, .ref (a 0))]) hx hb dX0_sinkLots_3 rfl hl (by decide) rfl (fun ls hl => ?_)
  have lp : ∀ (n : Nat) (i ns : Nat) (lst : Nat → Nat) (W1 : Nat → Int32), (hi : i ≤ 64) → (hns : ns ≤ i) → (hW1 : ∀ j, j < ns → lst j < 64 ∧ W1 j = nI (lst j)) → (hif : ∀ x, (∃ j, j < ns ∧ lst j = x) ↔ x < i ∧ snk k x) → (64 - i) < n → ∀ (H : Heap) (locs : List Loc) (ls : Array Slot), va_P G vwCl [((a 0), oC a mo co le), ((a 3), iA cI K), ((a 4), iA cI Qa), ((a 5), iA cI La), ((a 6), iA cI Ha), ((a 7), iA cI Ma), ((a 8), iA cI Ba), ((a 9), iA cI Ca), ((a 10), iA cI Da), ((a 11), iA cI Fa), ((a 12), iA cI W1)] H → va_D A [((a 0), oC a mo co le), ((a 3), iA cI K), ((a 4), iA cI Qa), ((a 5), iA cI La), ((a 6), iA cI Ha), ((a 7), iA cI Ma), ((a 8), iA cI Ba), ((a 9), iA cI Ca), ((a 10), iA cI Da), ((a 11), iA cI Fa), ((a 12), iA cI W1)] → va_S A s.heap H locs → lv_has ls 4 [(0, .ref (a 0)), (1, .int (nI ns)), (2, .int (nI i))] → W p l e (headSpec wsX0_sinkLots rmX0_sinkLots).room s m ([.ref (a 0)] : List Value).toArray below meth c H locs 0 0 Q (F0 m 4 ls []) := by
    intro n
    induction n with
    | zero => intro i ns lst W1 hi hns hW1 hif hn; exact absurd hn (by omega)
    | succ n ih_lp =>
      intro i ns lst W1 hi hns hW1 hif hn H locs ls hP hD hS hl
      refine lv_iload_n hx hb dX0_sinkLots_4 rfl (lv_at hl 2 rfl) ?_
      refine lv_bipush (v := 64) hx hb dX0_sinkLots_5 (by decide) ?_
      rcases Nat.lt_or_ge i 64 with g | g
      · skip
        refine lv_icmp_ge (tgt := 46) hx hb dX0_sinkLots_7 (by decide) (fun c => absurd c (lt_n (n := 64) g (by decide))) (fun _ => ?_)
        refine lv_aload_n hx hb dX0_sinkLots_10 rfl (lv_at hl 0 rfl) ?_
        refine va_get (D := G) (ci := 0) (v := .ref (a 3)) (C := RX0) (T := TX0) (N := 13) hx hb hts hinX0 hown hK hP 0 rfl rfl 3 (by decide) hf21 (fun _ h9 => h9) rfl dX0_sinkLots_11 ?_
        refine lv_iload_n hx hb dX0_sinkLots_14 rfl (lv_at hl 2 rfl) ?_
        refine va_iald hx hb hK hP 1 0 rfl rfl (vp_in_nI g (by decide)) dX0_sinkLots_15 ?_
        refine tpi (x' := K i) (congrArg K (nI_clamp (by omega))) ?_
        refine tpi (x' := k i) (hk i g) ?_
        refine lv_iconst (v := 2) hx hb dX0_sinkLots_16 (by decide) ?_
        refine lv_icmp_ne (tgt := 40) hx hb dX0_sinkLots_17 (by decide) (fun c2 => ?_) (fun c2 => ?_)
        · skip
          refine lv_iinc (v := nI (i + 1)) (lv' := [(2, .int (nI (i + 1))), (0, .ref (a 0)), (1, .int (nI ns))]) hx hb dX0_sinkLots_40 hl (k := 2) rfl (nI_inc i) (by decide) rfl (fun ls hl => ?_)
          refine lv_goto (tgt := 4) hx hb dX0_sinkLots_43 (by decide) ?_
          exact ih_lp (i + 1) ns lst W1 (by omega) (by omega) (hW1) (fun x => ⟨fun h9 => by have h8 := (hif x).mp h9; exact ⟨by omega, h8.2⟩, fun h9 => (hif x).mpr ⟨by rcases Nat.lt_or_ge x i with q9 | q9; exact q9; have e9 : x = i := (by omega); subst e9; exact absurd h9.2 (fun e => c2 e.1), h9.2⟩⟩) (by omega) _ _ _ hP hD hS (lv_sub hl [1, 2, 0] (rfl))
        · skip
          refine lv_aload_n hx hb dX0_sinkLots_20 rfl (lv_at hl 0 rfl) ?_
          refine lv_iload_n hx hb dX0_sinkLots_21 rfl (lv_at hl 2 rfl) ?_
          refine lv_iconst (v := 0) hx hb dX0_sinkLots_22 (by decide) ?_
          refine cr_i (va_runV (As := [.int (nI i), .int 0]) (rest := []) FX (c_X0_neighboursOfKind l G cI a mo co le K Qa La Ha Ma Ba Ca Da Fa W1 k i 0 hk g) (cwV 2 hts gX0_sinkLots_X0_neighboursOfKind rfl rfl rfl (by decide +kernel) ⟨Nat.le_of_ble_eq_true rfl, Nat.le_of_ble_eq_true rfl⟩) (rdV hK hP hN [0, 1, 2, 3, 4, 5, 6, 7, 8, 9, 10] rfl (ci := 0) (q0 := 0) rfl rfl) rfl rfl hl.1 rfl (lv_room (Nat.le_of_ble_eq_true rfl)) dX0_sinkLots_23 ⟨hzc, hzs⟩) hS hP (fun H locs hP hS => ?_)
          refine lv_iconst (v := 3) hx hb dX0_sinkLots_26 (by decide) ?_
          refine lv_icmp_lt (tgt := 40) hx hb dX0_sinkLots_27 (by decide) (fun c3 => ?_) (fun c3 => ?_)
          · skip
            refine lv_iinc (v := nI (i + 1)) (lv' := [(2, .int (nI (i + 1))), (0, .ref (a 0)), (1, .int (nI ns))]) hx hb dX0_sinkLots_40 hl (k := 2) rfl (nI_inc i) (by decide) rfl (fun ls hl => ?_)
            refine lv_goto (tgt := 4) hx hb dX0_sinkLots_43 (by decide) ?_
            exact ih_lp (i + 1) ns lst W1 (by omega) (by omega) (hW1) (fun x => ⟨fun h9 => by have h8 := (hif x).mp h9; exact ⟨by omega, h8.2⟩, fun h9 => (hif x).mpr ⟨by rcases Nat.lt_or_ge x i with q9 | q9; exact q9; have e9 : x = i := (by omega); subst e9; exact absurd h9.2 (fun e => e.2 c3), h9.2⟩⟩) (by omega) _ _ _ hP hD hS (lv_sub hl [1, 2, 0] (rfl))
          · skip
            refine lv_aload_n hx hb dX0_sinkLots_30 rfl (lv_at hl 0 rfl) ?_
            refine va_get (D := G) (ci := 0) (v := .ref (a 12)) (C := RX0) (T := TX0) (N := 13) hx hb hts hinX0 hown hK hP 0 rfl rfl 12 (by decide) hf49 (fun _ h9 => h9) rfl dX0_sinkLots_31 ?_
            refine lv_iload_n hx hb dX0_sinkLots_34 rfl (lv_at hl 1 rfl) ?_
            refine lv_iload_n hx hb dX0_sinkLots_35 rfl (lv_at hl 2 rfl) ?_
            refine va_iast hx hb hK hP hD hS 10 0 rfl rfl (vp_in_nI (n := ns) (by omega) (by decide)) dX0_sinkLots_36 (fun H locs hP hD hS => ?_)
            rw [show ((nI ns)).toNatClampNeg = ns from nI_clamp (by omega)] at hP hD
            have hP : va_P G vwCl [((a 0), oC a mo co le), ((a 3), iA cI K), ((a 4), iA cI Qa), ((a 5), iA cI La), ((a 6), iA cI Ha), ((a 7), iA cI Ma), ((a 8), iA cI Ba), ((a 9), iA cI Ca), ((a 10), iA cI Da), ((a 11), iA cI Fa), ((a 12), iA cI (upd W1 ns (nI i)))] H := hP
            have hD : va_D A [((a 0), oC a mo co le), ((a 3), iA cI K), ((a 4), iA cI Qa), ((a 5), iA cI La), ((a 6), iA cI Ha), ((a 7), iA cI Ma), ((a 8), iA cI Ba), ((a 9), iA cI Ca), ((a 10), iA cI Da), ((a 11), iA cI Fa), ((a 12), iA cI (upd W1 ns (nI i)))] := hD
            refine lv_iinc (v := nI (ns + 1)) (lv' := [(1, .int (nI (ns + 1))), (0, .ref (a 0)), (2, .int (nI i))]) hx hb dX0_sinkLots_37 hl (k := 1) rfl (nI_inc ns) (by decide) rfl (fun ls hl => ?_)
            refine lv_iinc (v := nI (i + 1)) (lv' := [(2, .int (nI (i + 1))), (1, .int (nI (ns + 1))), (0, .ref (a 0))]) hx hb dX0_sinkLots_40 hl (k := 2) rfl (nI_inc i) (by decide) rfl (fun ls hl => ?_)
            refine lv_goto (tgt := 4) hx hb dX0_sinkLots_43 (by decide) ?_
            exact ih_lp (i + 1) (ns + 1) (fun j => if j = ns then i else lst j) (upd W1 ns (nI i)) (by omega) (by omega) (fun j hj => by by_cases e9 : j = ns; rw [e9, pk_us, if_pos rfl]; exact ⟨g, rfl⟩; rw [pk_un e9, if_neg e9]; exact hW1 j (by omega)) (fun x => snk_step c2 c3 (hif x)) (by omega) _ _ _ hP hD hS (lv_sub hl [2, 1, 0] (rfl))
      · skip
        have g9 : 64 = i := by omega
        subst g9
        refine lv_icmp_ge (tgt := 46) hx hb dX0_sinkLots_7 (by decide) (fun _ => ?_) (fun c => absurd (le_n (n := 64) (i := 64) (by decide) (by decide)) c)
        refine lv_iconst (v := 0) hx hb dX0_sinkLots_46 (by decide) ?_
        refine tpi (x' := nI 0) (rfl) ?_
        refine lv_istore_n (lv' := [(2, .int (nI 0)), (0, .ref (a 0)), (1, .int (nI ns))]) hx hb dX0_sinkLots_47 rfl hl (by decide) rfl (fun ls hl => ?_)
        have lq : ∀ (n : Nat) (j : Nat) (K1 : Nat → Int32), (hj : j ≤ ns) → (hy : ∀ x, x < 64 → (∃ y, y < j ∧ lst y = x) → K1 x = 0) → (hn9 : ∀ x, x < 64 → ¬ (∃ y, y < j ∧ lst y = x) → K1 x = k x) → (ns - j) < n → ∀ (H : Heap) (locs : List Loc) (ls : Array Slot), va_P G vwCl [((a 0), oC a mo co le), ((a 3), iA cI K1), ((a 4), iA cI Qa), ((a 5), iA cI La), ((a 6), iA cI Ha), ((a 7), iA cI Ma), ((a 8), iA cI Ba), ((a 9), iA cI Ca), ((a 10), iA cI Da), ((a 11), iA cI Fa), ((a 12), iA cI W1)] H → va_D A [((a 0), oC a mo co le), ((a 3), iA cI K1), ((a 4), iA cI Qa), ((a 5), iA cI La), ((a 6), iA cI Ha), ((a 7), iA cI Ma), ((a 8), iA cI Ba), ((a 9), iA cI Ca), ((a 10), iA cI Da), ((a 11), iA cI Fa), ((a 12), iA cI W1)] → va_S A s.heap H locs → lv_has ls 4 [(0, .ref (a 0)), (1, .int (nI ns)), (2, .int (nI j))] → W p l e (headSpec wsX0_sinkLots rmX0_sinkLots).room s m ([.ref (a 0)] : List Value).toArray below meth c H locs 0 0 Q (F0 m 48 ls []) := by
          intro n
          induction n with
          | zero => intro j K1 hj hy hn9 hn; exact absurd hn (by omega)
          | succ n ih_lq =>
            intro j K1 hj hy hn9 hn H locs ls hP hD hS hl
            refine lv_iload_n hx hb dX0_sinkLots_48 rfl (lv_at hl 2 rfl) ?_
            refine lv_iload_n hx hb dX0_sinkLots_49 rfl (lv_at hl 1 rfl) ?_
            rcases Nat.lt_or_ge j ns with g4 | g4
            · skip
              refine lv_icmp_ge (tgt := 86) hx hb dX0_sinkLots_50 (by decide) (fun c => absurd c (lt_n g4 (by omega))) (fun _ => ?_)
              refine lv_iload_n hx hb dX0_sinkLots_53 rfl (lv_at hl 2 rfl) ?_
              refine lv_bipush (v := 64) hx hb dX0_sinkLots_54 (by decide) ?_
              refine lv_icmp_ge (tgt := 86) hx hb dX0_sinkLots_56 (by decide) (fun c => absurd c (lt_n (n := 64) (i := j) (by omega) (by decide))) (fun _ => ?_)
              refine lv_aload_n hx hb dX0_sinkLots_59 rfl (lv_at hl 0 rfl) ?_
              refine va_get (D := G) (ci := 0) (v := .ref (a 12)) (C := RX0) (T := TX0) (N := 13) hx hb hts hinX0 hown hK hP 0 rfl rfl 12 (by decide) hf49 (fun _ h9 => h9) rfl dX0_sinkLots_60 ?_
              refine lv_iload_n hx hb dX0_sinkLots_63 rfl (lv_at hl 2 rfl) ?_
              refine va_iald hx hb hK hP 10 0 rfl rfl (vp_in_nI (n := j) (by omega) (by decide)) dX0_sinkLots_64 ?_
              refine tpi (x' := W1 j) (congrArg W1 (nI_clamp (by omega))) ?_
              refine tpi (x' := nI (lst j)) ((hW1 j g4).2) ?_
              have hlj := (hW1 j g4).1
              refine lv_istore_n (lv' := [(3, .int (nI (lst j))), (0, .ref (a 0)), (1, .int (nI ns)), (2, .int (nI j))]) hx hb dX0_sinkLots_65 rfl hl (by decide) rfl (fun ls hl => ?_)
              refine lv_iload_n hx hb dX0_sinkLots_66 rfl (lv_at hl 0 rfl) ?_
              refine cr_i (va_runSN (As := [.int (nI (lst j))]) (rest := []) FX (c_X1_isLot l (nI (lst j))) ⟨va_cnB 1 hts gX0_sinkLots_X1_isLot_n73 rfl rfl rfl (NW_at hN 3 rfl) hiniX1 (by decide +kernel) ⟨Nat.le_of_ble_eq_true rfl, Nat.le_of_ble_eq_true rfl⟩, hstX1_isLot, trivial⟩ puS rfl rfl hl.1 rfl (lv_room (Nat.le_of_ble_eq_true rfl)) dX0_sinkLots_67 ⟨hzc, hzs⟩) hS hP (fun H locs hP hS => ?_)
              refine tpi (x' := 1) (isLot_1 hlj) ?_
              refine lv_if_eq (tgt := 80) hx hb dX0_sinkLots_70 (by decide) (fun c => absurd c (by decide)) (fun _ => ?_)
              refine lv_aload_n hx hb dX0_sinkLots_73 rfl (lv_at hl 1 rfl) ?_
              refine va_get (D := G) (ci := 0) (v := .ref (a 3)) (C := RX0) (T := TX0) (N := 13) hx hb hts hinX0 hown hK hP 0 rfl rfl 3 (by decide) hf21 (fun _ h9 => h9) rfl dX0_sinkLots_74 ?_
              refine lv_iload_n hx hb dX0_sinkLots_77 rfl (lv_at hl 0 rfl) ?_
              refine lv_iconst (v := 0) hx hb dX0_sinkLots_78 (by decide) ?_
              refine va_iast hx hb hK hP hD hS 1 0 rfl rfl (vp_in_nI hlj (by decide)) dX0_sinkLots_79 (fun H locs hP hD hS => ?_)
              rw [show ((nI (lst j))).toNatClampNeg = (lst j) from nI_clamp (by omega)] at hP hD
              have hP : va_P G vwCl [((a 0), oC a mo co le), ((a 3), iA cI (upd K1 (lst j) 0)), ((a 4), iA cI Qa), ((a 5), iA cI La), ((a 6), iA cI Ha), ((a 7), iA cI Ma), ((a 8), iA cI Ba), ((a 9), iA cI Ca), ((a 10), iA cI Da), ((a 11), iA cI Fa), ((a 12), iA cI W1)] H := hP
              have hD : va_D A [((a 0), oC a mo co le), ((a 3), iA cI (upd K1 (lst j) 0)), ((a 4), iA cI Qa), ((a 5), iA cI La), ((a 6), iA cI Ha), ((a 7), iA cI Ma), ((a 8), iA cI Ba), ((a 9), iA cI Ca), ((a 10), iA cI Da), ((a 11), iA cI Fa), ((a 12), iA cI W1)] := hD
              refine lv_iinc (v := nI (j + 1)) (lv' := [(2, .int (nI (j + 1))), (3, .int (nI (lst j))), (0, .ref (a 0)), (1, .int (nI ns))]) hx hb dX0_sinkLots_80 hl (k := 3) rfl (nI_inc j) (by decide) rfl (fun ls hl => ?_)
              refine lv_goto (tgt := 48) hx hb dX0_sinkLots_83 (by decide) ?_
              exact ih_lq (j + 1) (upd K1 (lst j) 0) (by omega) (fun x hx h9 => by by_cases e9 : x = lst j; rw [e9, pk_us]; rw [pk_un e9]; obtain ⟨y, hy9, he⟩ := h9; exact hy x hx ⟨y, by rcases Nat.lt_or_ge y j with q9 | q9; exact q9; exact absurd (by rw [← he, show y = j by omega]) e9, he⟩) (fun x hx h9 => by rw [pk_un (fun e => h9 ⟨j, Nat.lt_succ_self j, e.symm⟩)]; exact hn9 x hx (fun e => by obtain ⟨y, hy9, he⟩ := e; exact h9 ⟨y, by omega, he⟩)) (by omega) _ _ _ hP hD hS (lv_sub hl [2, 3, 0] (rfl))
            · skip
              have g9 : j = ns := by omega
              subst g9
              refine lv_icmp_ge (tgt := 86) hx hb dX0_sinkLots_50 (by decide) (fun _ => ?_) (fun c => absurd (le_n (n := j) (i := j) (Nat.le_refl j) (by omega)) c)
              subst hQ
              subst hAe
              exact wr_v (K1, W1) (fun x hx => by by_cases h9 : snk k x; rw [sk1_yes h9]; exact hy x hx ((hif x).mpr ⟨hx, h9⟩); rw [sk1_no h9]; exact hn9 x hx (fun e => h9 ((hif x).mp e).2)) hx hb hr hP hD hS hlocks dX0_sinkLots_86
        exact lq (_ + 1) 0 K (by omega) (fun x _ h9 => by obtain ⟨j, hj, -⟩ := h9; exact absurd hj (Nat.not_lt_zero _)) (fun x hx _ => hk x hx) (Nat.lt_succ_self _) _ _ _ hP hD hS (lv_sub hl [1, 2, 0] rfl)
  exact lp (_ + 1) 0 0 (fun _ => 0) Wa (by omega) (by omega) (fun j hj => absurd hj (Nat.not_lt_zero _)) (fun x => ⟨fun h9 => by obtain ⟨j, hj, -⟩ := h9; exact absurd hj (Nat.not_lt_zero _), fun h9 => absurd h9.1 (Nat.not_lt_zero _)⟩) (Nat.lt_succ_self _) _ _ _ hP hD hS (lv_sub hl [2, 1, 0] rfl)

def rmX0_become : Room := { frames := 0, cells := 0, slots := 0, locals := 0 }
set_option maxHeartbeats 4000000 in
set_option maxRecDepth 100000 in
/-- takes over the other city -/
theorem c_X0_become (l : Launch) (G : va_G) (cI : ClassId) (a b : Nat → Nat) (mo co le mo2 co2 le2 : Int32) (K K2 : Nat → Int32)  (sz : Nat) : Met l yX0_become wsX0_become rmX0_become (va_Pc [.ref (a 0), .ref (b 0)] (WrP G cI [((a 0), oC a mo co le), ((a 3), iA cI K), ((b 0), oC b mo2 co2 le2), ((b 3), iA cI K2)] sz)) (va_Qv (fun (u : Nat → Int32) => eqK u K2) (WrB G [((a 0), oC a mo co le), ((a 3), iA cI K), ((b 0), oC b mo2 co2 le2), ((b 3), iA cI K2)] sz (fun u => [(a 0, oC a mo2 co2 le2), (a 3, iA cI u), (b 0, oC b mo2 co2 le2), (b 3, iA cI K2)])) (va_A [((a 0), oC a mo co le), ((a 3), iA cI K), ((b 0), oC b mo2 co2 le2), ((b 3), iA cI K2)] sz)) 0 0 (va_A [((a 0), oC a mo co le), ((a 3), iA cI K), ((b 0), oC b mo2 co2 le2), ((b 3), iA cI K2)] sz) := by
  refine Met.ofW (cc := cX0_become) (maxL := 3) (ret := none) (by decide) rfl ?_
  intro p e s m args below meth c s₁ B hml hv
  obtain ⟨rfl, hsz, hP, hK, hD0, hN⟩ := hv
  have hx := B.exec
  have hb := B.bytes
  have hr := B.returns
  have hlocks := B.notSynchronized
  have hts := atoms_spec (ws := wsX0_become) B.pre
  have hown : s.vm.findClass RX0 = some m.cls := findClass_of_methodNamed B.named
  subst hsz
  have hD := hD0.self (sz := s.heap.size)
  have hA : ∀ q : Nat, s.heap.size ≤ q → va_A [((a 0), oC a mo co le), ((a 3), iA cI K), ((b 0), oC b mo2 co2 le2), ((b 3), iA cI K2)] s.heap.size q := fun q h => Or.inr h
  have hS : va_S (va_A [((a 0), oC a mo co le), ((a 3), iA cI K), ((b 0), oC b mo2 co2 le2), ((b 3), iA cI K2)] s.heap.size) s.heap s.heap [] := va_S.rf
  obtain ⟨A, hAe⟩ : ∃ A, A = va_A [((a 0), oC a mo co le), ((a 3), iA cI K), ((b 0), oC b mo2 co2 le2), ((b 3), iA cI K2)] s.heap.size := ⟨_, rfl⟩
  rw [← hAe] at hD hA hS
  have FX : CallFix p m c cX0_become 3 s ([.ref (a 0), .ref (b 0)] : List Value).toArray wsX0_become RX0 := ⟨hx, hb, hml, hown, hts⟩
  have hl := lv_entry ([.ref (a 0), .ref (b 0)]) (n := 3) (Nat.le_of_ble_eq_true rfl)
  rw [lg_entry_eq]
  generalize (lg_sl ([.ref (a 0), .ref (b 0)]) ++ List.replicate (3 - (lg_sl ([.ref (a 0), .ref (b 0)])).length) Slot.unset).toArray = ls at hl ⊢
  have hl : lv_has ls 3 [(0, .ref (a 0)), (1, .ref (b 0))] := hl
  refine wq (fun Q hQ => ?_)
  have hzc : 0 + 0 ≤ (headSpec wsX0_become rmX0_become).room.cells := Nat.zero_le _
  have hzs : 0 + 0 ≤ (headSpec wsX0_become rmX0_become).room.slots := Nat.zero_le _
  have hf15 := hts (.fieldLink RX0 15 "CanalCity$City" "coins" "I") (by decide +kernel)
  have hf18 := hts (.fieldLink RX0 18 "CanalCity$City" "left" "I") (by decide +kernel)
  have hf21 := hts (.fieldLink RX0 21 "CanalCity$City" "kinds" "[I") (by decide +kernel)
  have hf9 := hts (.fieldLink RX0 9 "CanalCity$City" "month" "I") (by decide +kernel)
  have hinX0 : ∀ w ∈ u_ws RX0 TX0 13, w ∈ wsX0_become := by decide +kernel
  refine lv_aload_n hx hb dX0_become_0 rfl (lv_at hl 0 rfl) ?_
  refine lv_aload_n hx hb dX0_become_1 rfl (lv_at hl 1 rfl) ?_
  refine va_get (D := G) (ci := 0) (v := .int mo2) (C := RX0) (T := TX0) (N := 13) hx hb hts hinX0 hown hK hP 2 rfl rfl 0 (by decide) hf9 (fun _ h9 => h9) rfl dX0_become_2 ?_
  refine va_put (D := G) (ci := 0) (v := .int mo2) (ty := .int) (C := RX0) (T := TX0) (N := 13) hx hb hts hinX0 tyX0 tyX0_ok nmX0 hown hK hP hD hS 0 rfl rfl 0 (by decide) hf9 (fun _ h9 => h9) rfl (by decide +kernel) rfl rfl (Nat.le_of_ble_eq_true rfl) dX0_become_5 (fun H locs hP hD hS => ?_)
  have hP : va_P G vwCl [((a 0), oC a mo2 co le), ((a 3), iA cI K), ((b 0), oC b mo2 co2 le2), ((b 3), iA cI K2)] H := hP
  have hD : va_D A [((a 0), oC a mo2 co le), ((a 3), iA cI K), ((b 0), oC b mo2 co2 le2), ((b 3), iA cI K2)] := hD
  refine lv_aload_n hx hb dX0_become_8 rfl (lv_at hl 0 rfl) ?_
  refine lv_aload_n hx hb dX0_become_9 rfl (lv_at hl 1 rfl) ?_
  refine va_get (D := G) (ci := 0) (v := .int co2) (C := RX0) (T := TX0) (N := 13) hx hb hts hinX0 hown hK hP 2 rfl rfl 1 (by decide) hf15 (fun _ h9 => h9) rfl dX0_become_10 ?_
  refine va_put (D := G) (ci := 0) (v := .int co2) (ty := .int) (C := RX0) (T := TX0) (N := 13) hx hb hts hinX0 tyX0 tyX0_ok nmX0 hown hK hP hD hS 0 rfl rfl 1 (by decide) hf15 (fun _ h9 => h9) rfl (by decide +kernel) rfl rfl (Nat.le_of_ble_eq_true rfl) dX0_become_13 (fun H locs hP hD hS => ?_)
  have hP : va_P G vwCl [((a 0), oC a mo2 co2 le), ((a 3), iA cI K), ((b 0), oC b mo2 co2 le2), ((b 3), iA cI K2)] H := hP
  have hD : va_D A [((a 0), oC a mo2 co2 le), ((a 3), iA cI K), ((b 0), oC b mo2 co2 le2), ((b 3), iA cI K2)] := hD
  refine lv_aload_n hx hb dX0_become_16 rfl (lv_at hl 0 rfl) ?_
  refine lv_aload_n hx hb dX0_become_17 rfl (lv_at hl 1 rfl) ?_
  refine va_get (D := G) (ci := 0) (v := .int le2) (C := RX0) (T := TX0) (N := 13) hx hb hts hinX0 hown hK hP 2 rfl rfl 2 (by decide) hf18 (fun _ h9 => h9) rfl dX0_become_18 ?_
  refine va_put (D := G) (ci := 0) (v := .int le2) (ty := .int) (C := RX0) (T := TX0) (N := 13) hx hb hts hinX0 tyX0 tyX0_ok nmX0 hown hK hP hD hS 0 rfl rfl 2 (by decide) hf18 (fun _ h9 => h9) rfl (by decide +kernel) rfl rfl (Nat.le_of_ble_eq_true rfl) dX0_become_21 (fun H locs hP hD hS => ?_)
  have hP : va_P G vwCl [((a 0), oC a mo2 co2 le2), ((a 3), iA cI K), ((b 0), oC b mo2 co2 le2), ((b 3), iA cI K2)] H := hP
  have hD : va_D A [((a 0), oC a mo2 co2 le2), ((a 3), iA cI K), ((b 0), oC b mo2 co2 le2), ((b 3), iA cI K2)] := hD
  refine lv_iconst (v := 0) hx hb dX0_become_24 (by decide) ?_
  refine tpi (x' := nI 0) (rfl) ?_
  refine lv_istore_n (lv' := [(2, .int (nI 0)), (0, .ref (a 0)), (1, .ref (b 0))]) hx hb dX0_become_25 rfl hl (by decide) rfl (fun ls hl => ?_)
  have lp : ∀ (n : Nat) (i : Nat) (K1 : Nat → Int32), (hi : i ≤ 64) → (hK1 : ∀ x, x < i → K1 x = K2 x) → (64 - i) < n → ∀ (H : Heap) (locs : List Loc) (ls : Array Slot), va_P G vwCl [((a 0), oC a mo2 co2 le2), ((a 3), iA cI K1), ((b 0), oC b mo2 co2 le2), ((b 3), iA cI K2)] H → va_D A [((a 0), oC a mo2 co2 le2), ((a 3), iA cI K1), ((b 0), oC b mo2 co2 le2), ((b 3), iA cI K2)] → va_S A s.heap H locs → lv_has ls 3 [(0, .ref (a 0)), (1, .ref (b 0)), (2, .int (nI i))] → W p l e (headSpec wsX0_become rmX0_become).room s m ([.ref (a 0), .ref (b 0)] : List Value).toArray below meth c H locs 0 0 Q (F0 m 26 ls []) := by
    intro n
    induction n with
    | zero => intro i K1 hi hK1 hn; exact absurd hn (by omega)
    | succ n ih_lp =>
      intro i K1 hi hK1 hn H locs ls hP hD hS hl
      refine lv_iload_n hx hb dX0_become_26 rfl (lv_at hl 2 rfl) ?_
      refine lv_bipush (v := 64) hx hb dX0_become_27 (by decide) ?_
      rcases Nat.lt_or_ge i 64 with g | g
      · skip
        refine lv_icmp_ge (tgt := 50) hx hb dX0_become_29 (by decide) (fun c => absurd c (lt_n (n := 64) g (by decide))) (fun _ => ?_)
        refine lv_aload_n hx hb dX0_become_32 rfl (lv_at hl 0 rfl) ?_
        refine va_get (D := G) (ci := 0) (v := .ref (a 3)) (C := RX0) (T := TX0) (N := 13) hx hb hts hinX0 hown hK hP 0 rfl rfl 3 (by decide) hf21 (fun _ h9 => h9) rfl dX0_become_33 ?_
        refine lv_iload_n hx hb dX0_become_36 rfl (lv_at hl 2 rfl) ?_
        refine lv_aload_n hx hb dX0_become_37 rfl (lv_at hl 1 rfl) ?_
        refine va_get (D := G) (ci := 0) (v := .ref (b 3)) (C := RX0) (T := TX0) (N := 13) hx hb hts hinX0 hown hK hP 2 rfl rfl 3 (by decide) hf21 (fun _ h9 => h9) rfl dX0_become_38 ?_
        refine lv_iload_n hx hb dX0_become_41 rfl (lv_at hl 2 rfl) ?_
        refine va_iald hx hb hK hP 3 0 rfl rfl (vp_in_nI g (by decide)) dX0_become_42 ?_
        refine tpi (x' := K2 i) (congrArg K2 (nI_clamp (by omega))) ?_
        refine va_iast hx hb hK hP hD hS 1 0 rfl rfl (vp_in_nI g (by decide)) dX0_become_43 (fun H locs hP hD hS => ?_)
        rw [show ((nI i)).toNatClampNeg = i from nI_clamp (by omega)] at hP hD
        have hP : va_P G vwCl [((a 0), oC a mo2 co2 le2), ((a 3), iA cI (upd K1 i (K2 i))), ((b 0), oC b mo2 co2 le2), ((b 3), iA cI K2)] H := hP
        have hD : va_D A [((a 0), oC a mo2 co2 le2), ((a 3), iA cI (upd K1 i (K2 i))), ((b 0), oC b mo2 co2 le2), ((b 3), iA cI K2)] := hD
        refine lv_iinc (v := nI (i + 1)) (lv' := [(2, .int (nI (i + 1))), (0, .ref (a 0)), (1, .ref (b 0))]) hx hb dX0_become_44 hl (k := 2) rfl (nI_inc i) (by decide) rfl (fun ls hl => ?_)
        refine lv_goto (tgt := 26) hx hb dX0_become_47 (by decide) ?_
        exact ih_lp (i + 1) (upd K1 i (K2 i)) (by omega) (fun x hx => by rcases Nat.lt_or_ge x i with q9 | q9; rw [pk_un (by omega)]; exact hK1 x q9; rw [show x = i by omega, pk_us]) (by omega) _ _ _ hP hD hS (lv_sub hl [1, 2, 0] (rfl))
      · skip
        have g9 : 64 = i := by omega
        subst g9
        refine lv_icmp_ge (tgt := 50) hx hb dX0_become_29 (by decide) (fun _ => ?_) (fun c => absurd (le_n (n := 64) (i := 64) (by decide) (by decide)) c)
        subst hQ
        subst hAe
        exact wr_v K1 (hK1) hx hb hr hP hD hS hlocks dX0_become_50
  exact lp (_ + 1) 0 K (by omega) (fun x hx => absurd hx (Nat.not_lt_zero _)) (Nat.lt_succ_self _) _ _ _ hP hD hS (lv_sub hl [1, 2, 0] rfl)

def rmX0_change : Room := { frames := 4, cells := 0, slots := 0, locals := 95 }
set_option maxHeartbeats 4000000 in
set_option maxRecDepth 100000 in
/-- a lot is of another kind -/
theorem c_X0_change (l : Launch) (G : va_G) (cI : ClassId) (a : Nat → Nat) (mo co le : Int32) (K Qa La Ha Ma Ba Ca Da Fa Wa k : Nat → Int32) (pt : Nat) (v : Int32) (hk : eqK K k) (hpt : pt < 64) (hg : wtr (upd k pt v 3) = true) (sz : Nat) : Met l yX0_change wsX0_change rmX0_change (va_Pc [.ref (a 0), .int (nI pt), .int v] (WrP G cI [((a 0), oC a mo co le), ((a 3), iA cI K), ((a 4), iA cI Qa), ((a 5), iA cI La), ((a 6), iA cI Ha), ((a 7), iA cI Ma), ((a 8), iA cI Ba), ((a 9), iA cI Ca), ((a 10), iA cI Da), ((a 11), iA cI Fa), ((a 12), iA cI Wa)] sz)) (va_Qv (fun (u : (Nat → Int32) × (Nat → Int32) × (Nat → Int32) × (Nat → Int32) × (Nat → Int32) × (Nat → Int32) × (Nat → Int32) × (Nat → Int32)) => SVd (upd k pt v) (u.1) (u.2.1) (u.2.2.1) (u.2.2.2.1) (u.2.2.2.2.1) (u.2.2.2.2.2.1) (u.2.2.2.2.2.2.1)) (WrB G [((a 0), oC a mo co le), ((a 3), iA cI K), ((a 4), iA cI Qa), ((a 5), iA cI La), ((a 6), iA cI Ha), ((a 7), iA cI Ma), ((a 8), iA cI Ba), ((a 9), iA cI Ca), ((a 10), iA cI Da), ((a 11), iA cI Fa), ((a 12), iA cI Wa)] sz (fun u => [(a 0, oC a mo co le), (a 3, iA cI ((upd K pt v))), (a 4, iA cI ((u.1))), (a 5, iA cI ((u.2.1))), (a 6, iA cI ((u.2.2.1))), (a 7, iA cI ((u.2.2.2.1))), (a 8, iA cI ((u.2.2.2.2.1))), (a 9, iA cI ((u.2.2.2.2.2.1))), (a 10, iA cI ((u.2.2.2.2.2.2.1))), (a 11, iA cI Fa), (a 12, iA cI ((u.2.2.2.2.2.2.2)))])) (va_A [((a 0), oC a mo co le), ((a 3), iA cI K), ((a 4), iA cI Qa), ((a 5), iA cI La), ((a 6), iA cI Ha), ((a 7), iA cI Ma), ((a 8), iA cI Ba), ((a 9), iA cI Ca), ((a 10), iA cI Da), ((a 11), iA cI Fa), ((a 12), iA cI Wa)] sz)) 0 0 (va_A [((a 0), oC a mo co le), ((a 3), iA cI K), ((a 4), iA cI Qa), ((a 5), iA cI La), ((a 6), iA cI Ha), ((a 7), iA cI Ma), ((a 8), iA cI Ba), ((a 9), iA cI Ca), ((a 10), iA cI Da), ((a 11), iA cI Fa), ((a 12), iA cI Wa)] sz) := by
  refine Met.ofW (cc := cX0_change) (maxL := 3) (ret := none) (by decide) rfl ?_
  intro p e s m args below meth c s₁ B hml hv
  obtain ⟨rfl, hsz, hP, hK, hD0, hN⟩ := hv
  have hx := B.exec
  have hb := B.bytes
  have hr := B.returns
  have hlocks := B.notSynchronized
  have hts := atoms_spec (ws := wsX0_change) B.pre
  have hown : s.vm.findClass RX0 = some m.cls := findClass_of_methodNamed B.named
  subst hsz
  have hD := hD0.self (sz := s.heap.size)
  have hA : ∀ q : Nat, s.heap.size ≤ q → va_A [((a 0), oC a mo co le), ((a 3), iA cI K), ((a 4), iA cI Qa), ((a 5), iA cI La), ((a 6), iA cI Ha), ((a 7), iA cI Ma), ((a 8), iA cI Ba), ((a 9), iA cI Ca), ((a 10), iA cI Da), ((a 11), iA cI Fa), ((a 12), iA cI Wa)] s.heap.size q := fun q h => Or.inr h
  have hS : va_S (va_A [((a 0), oC a mo co le), ((a 3), iA cI K), ((a 4), iA cI Qa), ((a 5), iA cI La), ((a 6), iA cI Ha), ((a 7), iA cI Ma), ((a 8), iA cI Ba), ((a 9), iA cI Ca), ((a 10), iA cI Da), ((a 11), iA cI Fa), ((a 12), iA cI Wa)] s.heap.size) s.heap s.heap [] := va_S.rf
  obtain ⟨A, hAe⟩ : ∃ A, A = va_A [((a 0), oC a mo co le), ((a 3), iA cI K), ((a 4), iA cI Qa), ((a 5), iA cI La), ((a 6), iA cI Ha), ((a 7), iA cI Ma), ((a 8), iA cI Ba), ((a 9), iA cI Ca), ((a 10), iA cI Da), ((a 11), iA cI Fa), ((a 12), iA cI Wa)] s.heap.size := ⟨_, rfl⟩
  rw [← hAe] at hD hA hS
  have FX : CallFix p m c cX0_change 3 s ([.ref (a 0), .int (nI pt), .int v] : List Value).toArray wsX0_change RX0 := ⟨hx, hb, hml, hown, hts⟩
  have hl := lv_entry ([.ref (a 0), .int (nI pt), .int v]) (n := 3) (Nat.le_of_ble_eq_true rfl)
  rw [lg_entry_eq]
  generalize (lg_sl ([.ref (a 0), .int (nI pt), .int v]) ++ List.replicate (3 - (lg_sl ([.ref (a 0), .int (nI pt), .int v])).length) Slot.unset).toArray = ls at hl ⊢
  have hl : lv_has ls 3 [(0, .ref (a 0)), (1, .int (nI pt)), (2, .int v)] := hl
  refine wq (fun Q hQ => ?_)
  have hzc : 0 + 0 ≤ (headSpec wsX0_change rmX0_change).room.cells := Nat.zero_le _
  have hzs : 0 + 0 ≤ (headSpec wsX0_change rmX0_change).room.slots := Nat.zero_le _
  have hf21 := hts (.fieldLink RX0 21 "CanalCity$City" "kinds" "[I") (by decide +kernel)
  have hinX0 : ∀ w ∈ u_ws RX0 TX0 13, w ∈ wsX0_change := by decide +kernel
  refine lv_aload_n hx hb dX0_change_0 rfl (lv_at hl 0 rfl) ?_
  refine va_get (D := G) (ci := 0) (v := .ref (a 3)) (C := RX0) (T := TX0) (N := 13) hx hb hts hinX0 hown hK hP 0 rfl rfl 3 (by decide) hf21 (fun _ h9 => h9) rfl dX0_change_1 ?_
  refine lv_iload_n hx hb dX0_change_4 rfl (lv_at hl 1 rfl) ?_
  refine lv_iload_n hx hb dX0_change_5 rfl (lv_at hl 2 rfl) ?_
  refine va_iast hx hb hK hP hD hS 1 0 rfl rfl (vp_in_nI hpt (by decide)) dX0_change_6 (fun H locs hP hD hS => ?_)
  rw [show ((nI pt)).toNatClampNeg = pt from nI_clamp (by omega)] at hP hD
  have hP : va_P G vwCl [((a 0), oC a mo co le), ((a 3), iA cI (upd K pt v)), ((a 4), iA cI Qa), ((a 5), iA cI La), ((a 6), iA cI Ha), ((a 7), iA cI Ma), ((a 8), iA cI Ba), ((a 9), iA cI Ca), ((a 10), iA cI Da), ((a 11), iA cI Fa), ((a 12), iA cI Wa)] H := hP
  have hD : va_D A [((a 0), oC a mo co le), ((a 3), iA cI (upd K pt v)), ((a 4), iA cI Qa), ((a 5), iA cI La), ((a 6), iA cI Ha), ((a 7), iA cI Ma), ((a 8), iA cI Ba), ((a 9), iA cI Ca), ((a 10), iA cI Da), ((a 11), iA cI Fa), ((a 12), iA cI Wa)] := hD
  refine lv_aload_n hx hb dX0_change_7 rfl (lv_at hl 0 rfl) ?_
  refine cw_v (wr := []) (va_runV (As := []) (rest := []) FX (c_X0_survey l G cI a mo co le (upd K pt v) Qa La Ha Ma Ba Ca Da Fa Wa (upd k pt v) (fun x hx => by by_cases e9 : x = pt; rw [e9, pk_us, pk_us]; rw [pk_un e9, pk_un e9]; exact hk x hx) hg _) (cwV 0 hts gX0_change_X0_survey rfl rfl rfl (by decide +kernel) ⟨Nat.le_of_ble_eq_true rfl, Nat.le_of_ble_eq_true rfl⟩) (wrV hK hP hD hN [0, 1, 2, 3, 4, 5, 6, 7, 8, 9, 10] (by decide) rfl rfl (ci := 0) (q0 := 0) rfl rfl) rfl rfl hl.1 rfl (lv_room (Nat.le_of_ble_eq_true rfl)) dX0_change_8 ⟨hzc, hzs⟩) hS hP hD hA [0, 1, 2, 3, 4, 5, 6, 7, 8, 9, 10] [] rfl rfl (by decide) (by decide) (fun u H locs hw hP hD hS => ?_)
  obtain ⟨Q1, L1, H1, M1, B1, C1, D1, W1⟩ := u
  have hP := hP.sub (ws' := [((a 0), oC a mo co le), ((a 3), iA cI ((upd K pt v))), ((a 4), iA cI Q1), ((a 5), iA cI L1), ((a 6), iA cI H1), ((a 7), iA cI M1), ((a 8), iA cI B1), ((a 9), iA cI C1), ((a 10), iA cI D1), ((a 11), iA cI Fa), ((a 12), iA cI W1)]) [0, 1, 2, 3, 4, 5, 6, 7, 8, 9, 10] rfl
  have hD := hD.sub (ws' := [((a 0), oC a mo co le), ((a 3), iA cI ((upd K pt v))), ((a 4), iA cI Q1), ((a 5), iA cI L1), ((a 6), iA cI H1), ((a 7), iA cI M1), ((a 8), iA cI B1), ((a 9), iA cI C1), ((a 10), iA cI D1), ((a 11), iA cI Fa), ((a 12), iA cI W1)]) [0, 1, 2, 3, 4, 5, 6, 7, 8, 9, 10] (by decide) rfl
  subst hQ
  subst hAe
  exact wr_v (Q1, L1, H1, M1, B1, C1, D1, W1) (hw) hx hb hr hP hD hS hlocks dX0_change_11

def rmX0_buy : Room := { frames := 5, cells := 0, slots := 0, locals := 117 }
set_option maxHeartbeats 4000000 in
set_option maxRecDepth 100000 in
/-- a lot is of another kind -/
theorem c_X0_buy (l : Launch) (G : va_G) (cI : ClassId) (a : Nat → Nat) (mo co le : Int32) (K Qa La Ha Ma Ba Ca Da Fa Wa k : Nat → Int32) (pt : Nat) (v cs : Int32) (hk : eqK K k) (hpt : pt < 64) (hg : wtr (upd k pt v 3) = true) (sz : Nat) : Met l yX0_buy wsX0_buy rmX0_buy (va_Pc [.ref (a 0), .int (nI pt), .int v, .int cs] (WrP G cI [((a 0), oC a mo co le), ((a 3), iA cI K), ((a 4), iA cI Qa), ((a 5), iA cI La), ((a 6), iA cI Ha), ((a 7), iA cI Ma), ((a 8), iA cI Ba), ((a 9), iA cI Ca), ((a 10), iA cI Da), ((a 11), iA cI Fa), ((a 12), iA cI Wa)] sz)) (va_Qv (fun (u : (Nat → Int32) × (Nat → Int32) × (Nat → Int32) × (Nat → Int32) × (Nat → Int32) × (Nat → Int32) × (Nat → Int32) × (Nat → Int32)) => SVd (upd k pt v) (u.1) (u.2.1) (u.2.2.1) (u.2.2.2.1) (u.2.2.2.2.1) (u.2.2.2.2.2.1) (u.2.2.2.2.2.2.1)) (WrB G [((a 0), oC a mo co le), ((a 3), iA cI K), ((a 4), iA cI Qa), ((a 5), iA cI La), ((a 6), iA cI Ha), ((a 7), iA cI Ma), ((a 8), iA cI Ba), ((a 9), iA cI Ca), ((a 10), iA cI Da), ((a 11), iA cI Fa), ((a 12), iA cI Wa)] sz (fun u => [(a 0, oC a mo (co - cs) le), (a 3, iA cI ((upd K pt v))), (a 4, iA cI ((u.1))), (a 5, iA cI ((u.2.1))), (a 6, iA cI ((u.2.2.1))), (a 7, iA cI ((u.2.2.2.1))), (a 8, iA cI ((u.2.2.2.2.1))), (a 9, iA cI ((u.2.2.2.2.2.1))), (a 10, iA cI ((u.2.2.2.2.2.2.1))), (a 11, iA cI Fa), (a 12, iA cI ((u.2.2.2.2.2.2.2)))])) (va_A [((a 0), oC a mo co le), ((a 3), iA cI K), ((a 4), iA cI Qa), ((a 5), iA cI La), ((a 6), iA cI Ha), ((a 7), iA cI Ma), ((a 8), iA cI Ba), ((a 9), iA cI Ca), ((a 10), iA cI Da), ((a 11), iA cI Fa), ((a 12), iA cI Wa)] sz)) 0 0 (va_A [((a 0), oC a mo co le), ((a 3), iA cI K), ((a 4), iA cI Qa), ((a 5), iA cI La), ((a 6), iA cI Ha), ((a 7), iA cI Ma), ((a 8), iA cI Ba), ((a 9), iA cI Ca), ((a 10), iA cI Da), ((a 11), iA cI Fa), ((a 12), iA cI Wa)] sz) := by
  refine Met.ofW (cc := cX0_buy) (maxL := 4) (ret := none) (by decide) rfl ?_
  intro p e s m args below meth c s₁ B hml hv
  obtain ⟨rfl, hsz, hP, hK, hD0, hN⟩ := hv
  have hx := B.exec
  have hb := B.bytes
  have hr := B.returns
  have hlocks := B.notSynchronized
  have hts := atoms_spec (ws := wsX0_buy) B.pre
  have hown : s.vm.findClass RX0 = some m.cls := findClass_of_methodNamed B.named
  subst hsz
  have hD := hD0.self (sz := s.heap.size)
  have hA : ∀ q : Nat, s.heap.size ≤ q → va_A [((a 0), oC a mo co le), ((a 3), iA cI K), ((a 4), iA cI Qa), ((a 5), iA cI La), ((a 6), iA cI Ha), ((a 7), iA cI Ma), ((a 8), iA cI Ba), ((a 9), iA cI Ca), ((a 10), iA cI Da), ((a 11), iA cI Fa), ((a 12), iA cI Wa)] s.heap.size q := fun q h => Or.inr h
  have hS : va_S (va_A [((a 0), oC a mo co le), ((a 3), iA cI K), ((a 4), iA cI Qa), ((a 5), iA cI La), ((a 6), iA cI Ha), ((a 7), iA cI Ma), ((a 8), iA cI Ba), ((a 9), iA cI Ca), ((a 10), iA cI Da), ((a 11), iA cI Fa), ((a 12), iA cI Wa)] s.heap.size) s.heap s.heap [] := va_S.rf
  obtain ⟨A, hAe⟩ : ∃ A, A = va_A [((a 0), oC a mo co le), ((a 3), iA cI K), ((a 4), iA cI Qa), ((a 5), iA cI La), ((a 6), iA cI Ha), ((a 7), iA cI Ma), ((a 8), iA cI Ba), ((a 9), iA cI Ca), ((a 10), iA cI Da), ((a 11), iA cI Fa), ((a 12), iA cI Wa)] s.heap.size := ⟨_, rfl⟩
  rw [← hAe] at hD hA hS
  have FX : CallFix p m c cX0_buy 4 s ([.ref (a 0), .int (nI pt), .int v, .int cs] : List Value).toArray wsX0_buy RX0 := ⟨hx, hb, hml, hown, hts⟩
  have hl := lv_entry ([.ref (a 0), .int (nI pt), .int v, .int cs]) (n := 4) (Nat.le_of_ble_eq_true rfl)
  rw [lg_entry_eq]
  generalize (lg_sl ([.ref (a 0), .int (nI pt), .int v, .int cs]) ++ List.replicate (4 - (lg_sl ([.ref (a 0), .int (nI pt), .int v, .int cs])).length) Slot.unset).toArray = ls at hl ⊢
  have hl : lv_has ls 4 [(0, .ref (a 0)), (1, .int (nI pt)), (2, .int v), (3, .int cs)] := hl
  refine wq (fun Q hQ => ?_)
  have hzc : 0 + 0 ≤ (headSpec wsX0_buy rmX0_buy).room.cells := Nat.zero_le _
  have hzs : 0 + 0 ≤ (headSpec wsX0_buy rmX0_buy).room.slots := Nat.zero_le _
  have hf15 := hts (.fieldLink RX0 15 "CanalCity$City" "coins" "I") (by decide +kernel)
  have hinX0 : ∀ w ∈ u_ws RX0 TX0 13, w ∈ wsX0_buy := by decide +kernel
  refine lv_aload_n hx hb dX0_buy_0 rfl (lv_at hl 0 rfl) ?_
  refine lv_dup hx hb dX0_buy_1 rfl ?_
  refine va_get (D := G) (ci := 0) (v := .int co) (C := RX0) (T := TX0) (N := 13) hx hb hts hinX0 hown hK hP 0 rfl rfl 1 (by decide) hf15 (fun _ h9 => h9) rfl dX0_buy_2 ?_
  refine lv_iload_n hx hb dX0_buy_5 rfl (lv_at hl 3 rfl) ?_
  refine lv_isub hx hb dX0_buy_6 ?_
  refine va_put (D := G) (ci := 0) (v := .int (co - cs)) (ty := .int) (C := RX0) (T := TX0) (N := 13) hx hb hts hinX0 tyX0 tyX0_ok nmX0 hown hK hP hD hS 0 rfl rfl 1 (by decide) hf15 (fun _ h9 => h9) rfl (by decide +kernel) rfl rfl (Nat.le_of_ble_eq_true rfl) dX0_buy_7 (fun H locs hP hD hS => ?_)
  have hP : va_P G vwCl [((a 0), oC a mo (co - cs) le), ((a 3), iA cI K), ((a 4), iA cI Qa), ((a 5), iA cI La), ((a 6), iA cI Ha), ((a 7), iA cI Ma), ((a 8), iA cI Ba), ((a 9), iA cI Ca), ((a 10), iA cI Da), ((a 11), iA cI Fa), ((a 12), iA cI Wa)] H := hP
  have hD : va_D A [((a 0), oC a mo (co - cs) le), ((a 3), iA cI K), ((a 4), iA cI Qa), ((a 5), iA cI La), ((a 6), iA cI Ha), ((a 7), iA cI Ma), ((a 8), iA cI Ba), ((a 9), iA cI Ca), ((a 10), iA cI Da), ((a 11), iA cI Fa), ((a 12), iA cI Wa)] := hD
  refine lv_aload_n hx hb dX0_buy_10 rfl (lv_at hl 0 rfl) ?_
  refine lv_iload_n hx hb dX0_buy_11 rfl (lv_at hl 1 rfl) ?_
  refine lv_iload_n hx hb dX0_buy_12 rfl (lv_at hl 2 rfl) ?_
  refine cw_v (wr := []) (va_runV (As := [.int (nI pt), .int v]) (rest := []) FX (c_X0_change l G cI a mo (co - cs) le K Qa La Ha Ma Ba Ca Da Fa Wa k pt v hk hpt hg _) (cwV 2 hts gX0_buy_X0_change rfl rfl rfl (by decide +kernel) ⟨Nat.le_of_ble_eq_true rfl, Nat.le_of_ble_eq_true rfl⟩) (wrV hK hP hD hN [0, 1, 2, 3, 4, 5, 6, 7, 8, 9, 10] (by decide) rfl rfl (ci := 0) (q0 := 0) rfl rfl) rfl rfl hl.1 rfl (lv_room (Nat.le_of_ble_eq_true rfl)) dX0_buy_13 ⟨hzc, hzs⟩) hS hP hD hA [0, 1, 2, 3, 4, 5, 6, 7, 8, 9, 10] [] rfl rfl (by decide) (by decide) (fun u H locs hw hP hD hS => ?_)
  obtain ⟨Q1, L1, H1, M1, B1, C1, D1, W1⟩ := u
  have hP := hP.sub (ws' := [((a 0), oC a mo (co - cs) le), ((a 3), iA cI ((upd K pt v))), ((a 4), iA cI Q1), ((a 5), iA cI L1), ((a 6), iA cI H1), ((a 7), iA cI M1), ((a 8), iA cI B1), ((a 9), iA cI C1), ((a 10), iA cI D1), ((a 11), iA cI Fa), ((a 12), iA cI W1)]) [0, 1, 2, 3, 4, 5, 6, 7, 8, 9, 10] rfl
  have hD := hD.sub (ws' := [((a 0), oC a mo (co - cs) le), ((a 3), iA cI ((upd K pt v))), ((a 4), iA cI Q1), ((a 5), iA cI L1), ((a 6), iA cI H1), ((a 7), iA cI M1), ((a 8), iA cI B1), ((a 9), iA cI C1), ((a 10), iA cI D1), ((a 11), iA cI Fa), ((a 12), iA cI W1)]) [0, 1, 2, 3, 4, 5, 6, 7, 8, 9, 10] (by decide) rfl
  subst hQ
  subst hAe
  exact wr_v (Q1, L1, H1, M1, B1, C1, D1, W1) (hw) hx hb hr hP hD hS hlocks dX0_buy_16

def rmX0_live : Room := { frames := 4, cells := 0, slots := 0, locals := 95 }
set_option maxHeartbeats 4000000 in
set_option maxRecDepth 100000 in
/-- months go by -/
theorem c_X0_live (l : Launch) (G : va_G) (cI : ClassId) (a : Nat → Nat) (mo co le : Int32) (K Qa La Ha Ma Ba Ca Da Fa Wa k : Nat → Int32) (mn : Nat) (hk : eqK K k) (hS0 : SVd k Qa La Ha Ma Ba Ca Da) (hg : wtr (k 3) = true) (hmn : mn < 2 ^ 31) (sz : Nat) : Met l yX0_live wsX0_live rmX0_live (va_Pc [.ref (a 0), .int (nI mn)] (WrP G cI [((a 0), oC a mo co le), ((a 3), iA cI K), ((a 4), iA cI Qa), ((a 5), iA cI La), ((a 6), iA cI Ha), ((a 7), iA cI Ma), ((a 8), iA cI Ba), ((a 9), iA cI Ca), ((a 10), iA cI Da), ((a 11), iA cI Fa), ((a 12), iA cI Wa)] sz)) (va_Qi (fun (r : Int32) (u : (Nat → Int32) × (Nat → Int32) × (Nat → Int32) × (Nat → Int32) × (Nat → Int32) × (Nat → Int32) × (Nat → Int32) × (Nat → Int32) × (Nat → Int32)) => r = incS k mn ∧ eqK (u.1) (itK k mn) ∧ SVd (itK k mn) (u.2.1) (u.2.2.1) (u.2.2.2.1) (u.2.2.2.2.1) (u.2.2.2.2.2.1) (u.2.2.2.2.2.2.1) (u.2.2.2.2.2.2.2.1)) (WrB G [((a 0), oC a mo co le), ((a 3), iA cI K), ((a 4), iA cI Qa), ((a 5), iA cI La), ((a 6), iA cI Ha), ((a 7), iA cI Ma), ((a 8), iA cI Ba), ((a 9), iA cI Ca), ((a 10), iA cI Da), ((a 11), iA cI Fa), ((a 12), iA cI Wa)] sz (fun u => [(a 0, oC a (mo + nI mn) (co + incS k mn) (le + lftS k mn)), (a 3, iA cI ((u.1))), (a 4, iA cI ((u.2.1))), (a 5, iA cI ((u.2.2.1))), (a 6, iA cI ((u.2.2.2.1))), (a 7, iA cI ((u.2.2.2.2.1))), (a 8, iA cI ((u.2.2.2.2.2.1))), (a 9, iA cI ((u.2.2.2.2.2.2.1))), (a 10, iA cI ((u.2.2.2.2.2.2.2.1))), (a 11, iA cI Fa), (a 12, iA cI ((u.2.2.2.2.2.2.2.2)))])) (va_A [((a 0), oC a mo co le), ((a 3), iA cI K), ((a 4), iA cI Qa), ((a 5), iA cI La), ((a 6), iA cI Ha), ((a 7), iA cI Ma), ((a 8), iA cI Ba), ((a 9), iA cI Ca), ((a 10), iA cI Da), ((a 11), iA cI Fa), ((a 12), iA cI Wa)] sz)) 0 0 (va_A [((a 0), oC a mo co le), ((a 3), iA cI K), ((a 4), iA cI Qa), ((a 5), iA cI La), ((a 6), iA cI Ha), ((a 7), iA cI Ma), ((a 8), iA cI Ba), ((a 9), iA cI Ca), ((a 10), iA cI Da), ((a 11), iA cI Fa), ((a 12), iA cI Wa)] sz) := by
  refine Met.ofW (cc := cX0_live) (maxL := 5) (ret := (some .int)) (by decide) rfl ?_
  intro p e s m args below meth c s₁ B hml hv
  obtain ⟨rfl, hsz, hP, hK, hD0, hN⟩ := hv
  have hx := B.exec
  have hb := B.bytes
  have hr := B.returns
  have hlocks := B.notSynchronized
  have hts := atoms_spec (ws := wsX0_live) B.pre
  have hown : s.vm.findClass RX0 = some m.cls := findClass_of_methodNamed B.named
  subst hsz
  have hD := hD0.self (sz := s.heap.size)
  have hA : ∀ q : Nat, s.heap.size ≤ q → va_A [((a 0), oC a mo co le), ((a 3), iA cI K), ((a 4), iA cI Qa), ((a 5), iA cI La), ((a 6), iA cI Ha), ((a 7), iA cI Ma), ((a 8), iA cI Ba), ((a 9), iA cI Ca), ((a 10), iA cI Da), ((a 11), iA cI Fa), ((a 12), iA cI Wa)] s.heap.size q := fun q h => Or.inr h
  have hS : va_S (va_A [((a 0), oC a mo co le), ((a 3), iA cI K), ((a 4), iA cI Qa), ((a 5), iA cI La), ((a 6), iA cI Ha), ((a 7), iA cI Ma), ((a 8), iA cI Ba), ((a 9), iA cI Ca), ((a 10), iA cI Da), ((a 11), iA cI Fa), ((a 12), iA cI Wa)] s.heap.size) s.heap s.heap [] := va_S.rf
  obtain ⟨A, hAe⟩ : ∃ A, A = va_A [((a 0), oC a mo co le), ((a 3), iA cI K), ((a 4), iA cI Qa), ((a 5), iA cI La), ((a 6), iA cI Ha), ((a 7), iA cI Ma), ((a 8), iA cI Ba), ((a 9), iA cI Ca), ((a 10), iA cI Da), ((a 11), iA cI Fa), ((a 12), iA cI Wa)] s.heap.size := ⟨_, rfl⟩
  rw [← hAe] at hD hA hS
  have FX : CallFix p m c cX0_live 5 s ([.ref (a 0), .int (nI mn)] : List Value).toArray wsX0_live RX0 := ⟨hx, hb, hml, hown, hts⟩
  have hl := lv_entry ([.ref (a 0), .int (nI mn)]) (n := 5) (Nat.le_of_ble_eq_true rfl)
  rw [lg_entry_eq]
  generalize (lg_sl ([.ref (a 0), .int (nI mn)]) ++ List.replicate (5 - (lg_sl ([.ref (a 0), .int (nI mn)])).length) Slot.unset).toArray = ls at hl ⊢
  have hl : lv_has ls 5 [(0, .ref (a 0)), (1, .int (nI mn))] := hl
  refine wq (fun Q hQ => ?_)
  have hzc : 0 + 0 ≤ (headSpec wsX0_live rmX0_live).room.cells := Nat.zero_le _
  have hzs : 0 + 0 ≤ (headSpec wsX0_live rmX0_live).room.slots := Nat.zero_le _
  have hf15 := hts (.fieldLink RX0 15 "CanalCity$City" "coins" "I") (by decide +kernel)
  have hf9 := hts (.fieldLink RX0 9 "CanalCity$City" "month" "I") (by decide +kernel)
  have hinX0 : ∀ w ∈ u_ws RX0 TX0 13, w ∈ wsX0_live := by decide +kernel
  refine lv_iconst (v := 0) hx hb dX0_live_0 (by decide) ?_
  refine lv_istore_n (lv' := [(2, .int 0), (0, .ref (a 0)), (1, .int (nI mn))]) hx hb dX0_live_1 rfl hl (by decide) rfl (fun ls hl => ?_)
  refine lv_iconst (v := 0) hx hb dX0_live_2 (by decide) ?_
  refine tpi (x' := nI 0) (rfl) ?_
  refine lv_istore_n (lv' := [(3, .int (nI 0)), (2, .int 0), (0, .ref (a 0)), (1, .int (nI mn))]) hx hb dX0_live_3 rfl hl (by decide) rfl (fun ls hl => ?_)
  have w0 : oC a mo co le = oC a (mo + nI 0) (co + incS k 0) (le + lftS k 0) := by rw [show mo + nI 0 = mo from Int32.add_zero mo, show co + incS k 0 = co from Int32.add_zero co, show le + lftS k 0 = le from Int32.add_zero le]
  rw [w0] at hP hD
  have lp : ∀ (n : Nat) (i : Nat) (K1 Q1 L1 H1 M1 B1 C1 D1 W1 : Nat → Int32), (hi : i ≤ mn) → (hK1 : eqK K1 (itK k i)) → (hS1 : SVd (itK k i) Q1 L1 H1 M1 B1 C1 D1) → (mn - i) < n → ∀ (H : Heap) (locs : List Loc) (ls : Array Slot), va_P G vwCl [((a 0), oC a (mo + nI i) (co + incS k i) (le + lftS k i)), ((a 3), iA cI K1), ((a 4), iA cI Q1), ((a 5), iA cI L1), ((a 6), iA cI H1), ((a 7), iA cI M1), ((a 8), iA cI B1), ((a 9), iA cI C1), ((a 10), iA cI D1), ((a 11), iA cI Fa), ((a 12), iA cI W1)] H → va_D A [((a 0), oC a (mo + nI i) (co + incS k i) (le + lftS k i)), ((a 3), iA cI K1), ((a 4), iA cI Q1), ((a 5), iA cI L1), ((a 6), iA cI H1), ((a 7), iA cI M1), ((a 8), iA cI B1), ((a 9), iA cI C1), ((a 10), iA cI D1), ((a 11), iA cI Fa), ((a 12), iA cI W1)] → va_S A s.heap H locs → lv_has ls 5 [(0, .ref (a 0)), (1, .int (nI mn)), (2, .int (incS k i)), (3, .int (nI i))] → W p l e (headSpec wsX0_live rmX0_live).room s m ([.ref (a 0), .int (nI mn)] : List Value).toArray below meth c H locs 0 0 Q (F0 m 4 ls []) := by
    intro n
    induction n with
    | zero => intro i K1 Q1 L1 H1 M1 B1 C1 D1 W1 hi hK1 hS1 hn; exact absurd hn (by omega)
    | succ n ih_lp =>
      intro i K1 Q1 L1 H1 M1 B1 C1 D1 W1 hi hK1 hS1 hn H locs ls hP hD hS hl
      refine lv_iload_n hx hb dX0_live_4 rfl (lv_at hl 3 rfl) ?_
      refine lv_iload_n hx hb dX0_live_5 rfl (lv_at hl 1 rfl) ?_
      rcases Nat.lt_or_ge i mn with g | g
      · skip
        refine lv_icmp_ge (tgt := 59) hx hb dX0_live_6 (by decide) (fun c => absurd c (lt_n g hmn)) (fun _ => ?_)
        refine lv_aload_n hx hb dX0_live_9 rfl (lv_at hl 0 rfl) ?_
        refine cr_i (va_runV (As := []) (rest := []) FX (c_X0_duesOfAll l G cI a (mo + nI i) (co + incS k i) (le + lftS k i) K1 Q1 L1 H1 M1 B1 C1 D1 Fa W1 (itK k i) hS1.2.2.2.2.2.2) (cwV 0 hts gX0_live_X0_duesOfAll rfl rfl rfl (by decide +kernel) ⟨Nat.le_of_ble_eq_true rfl, Nat.le_of_ble_eq_true rfl⟩) (rdV hK hP hN [0, 1, 2, 3, 4, 5, 6, 7, 8, 9, 10] rfl (ci := 0) (q0 := 0) rfl rfl) rfl rfl hl.1 rfl (lv_room (Nat.le_of_ble_eq_true rfl)) dX0_live_10 ⟨hzc, hzs⟩) hS hP (fun H locs hP hS => ?_)
        refine lv_istore (lv' := [(4, .int (dall (itK k i))), (0, .ref (a 0)), (1, .int (nI mn)), (2, .int (incS k i)), (3, .int (nI i))]) hx hb dX0_live_13 hl (by decide) rfl (fun ls hl => ?_)
        refine lv_iload_n hx hb dX0_live_15 rfl (lv_at hl 3 rfl) ?_
        refine lv_iload hx hb dX0_live_16 (lv_at hl 0 rfl) ?_
        refine lv_iadd hx hb dX0_live_18 ?_
        refine tpi (x' := incS k (i + 1)) (rfl) ?_
        refine lv_istore_n (lv' := [(2, .int (incS k (i + 1))), (4, .int (dall (itK k i))), (0, .ref (a 0)), (1, .int (nI mn)), (3, .int (nI i))]) hx hb dX0_live_19 rfl hl (by decide) rfl (fun ls hl => ?_)
        refine lv_aload_n hx hb dX0_live_20 rfl (lv_at hl 2 rfl) ?_
        refine lv_dup hx hb dX0_live_21 rfl ?_
        refine va_get (D := G) (ci := 0) (v := .int (co + incS k i)) (C := RX0) (T := TX0) (N := 13) hx hb hts hinX0 hown hK hP 0 rfl rfl 1 (by decide) hf15 (fun _ h9 => h9) rfl dX0_live_22 ?_
        refine lv_iload hx hb dX0_live_25 (lv_at hl 1 rfl) ?_
        refine lv_iadd hx hb dX0_live_27 ?_
        refine tpi (x' := co + incS k (i + 1)) (by rw [Int32.add_assoc]; rfl) ?_
        refine va_put (D := G) (ci := 0) (v := .int (co + incS k (i + 1))) (ty := .int) (C := RX0) (T := TX0) (N := 13) hx hb hts hinX0 tyX0 tyX0_ok nmX0 hown hK hP hD hS 0 rfl rfl 1 (by decide) hf15 (fun _ h9 => h9) rfl (by decide +kernel) rfl rfl (Nat.le_of_ble_eq_true rfl) dX0_live_28 (fun H locs hP hD hS => ?_)
        have hP : va_P G vwCl [((a 0), oC a (mo + nI i) (co + incS k (i + 1)) (le + lftS k i)), ((a 3), iA cI K1), ((a 4), iA cI Q1), ((a 5), iA cI L1), ((a 6), iA cI H1), ((a 7), iA cI M1), ((a 8), iA cI B1), ((a 9), iA cI C1), ((a 10), iA cI D1), ((a 11), iA cI Fa), ((a 12), iA cI W1)] H := hP
        have hD : va_D A [((a 0), oC a (mo + nI i) (co + incS k (i + 1)) (le + lftS k i)), ((a 3), iA cI K1), ((a 4), iA cI Q1), ((a 5), iA cI L1), ((a 6), iA cI H1), ((a 7), iA cI M1), ((a 8), iA cI B1), ((a 9), iA cI C1), ((a 10), iA cI D1), ((a 11), iA cI Fa), ((a 12), iA cI W1)] := hD
        refine lv_aload_n hx hb dX0_live_31 rfl (lv_at hl 2 rfl) ?_
        refine cw_v (wr := []) (va_runV (As := []) (rest := []) FX (c_X0_leaveHouses l G cI a (mo + nI i) (co + incS k (i + 1)) (le + lftS k i) K1 Q1 L1 H1 M1 B1 C1 D1 Fa W1 (itK k i) hK1 hS1.2.2.2.2.2.1 _) (cwV 0 hts gX0_live_X0_leaveHouses rfl rfl rfl (by decide +kernel) ⟨Nat.le_of_ble_eq_true rfl, Nat.le_of_ble_eq_true rfl⟩) (wrV hK hP hD hN [0, 1, 2, 3, 4, 5, 6, 7, 8, 9, 10] (by decide) rfl rfl (ci := 0) (q0 := 0) rfl rfl) rfl rfl hl.1 rfl (lv_room (Nat.le_of_ble_eq_true rfl)) dX0_live_32 ⟨hzc, hzs⟩) hS hP hD hA [0, 1, 2, 3, 4, 5, 6, 7, 8, 9, 10] [] rfl rfl (by decide) (by decide) (fun u H locs hw hP hD hS => ?_)
        obtain ⟨le2, K2⟩ := u
        obtain ⟨hle2, hK2⟩ := hw
        have hP := hP.sub (ws' := [((a 0), oC a (mo + nI i) (co + incS k (i + 1)) le2), ((a 3), iA cI K2), ((a 4), iA cI Q1), ((a 5), iA cI L1), ((a 6), iA cI H1), ((a 7), iA cI M1), ((a 8), iA cI B1), ((a 9), iA cI C1), ((a 10), iA cI D1), ((a 11), iA cI Fa), ((a 12), iA cI W1)]) [0, 1, 2, 3, 4, 5, 6, 7, 8, 9, 10] rfl
        have hD := hD.sub (ws' := [((a 0), oC a (mo + nI i) (co + incS k (i + 1)) le2), ((a 3), iA cI K2), ((a 4), iA cI Q1), ((a 5), iA cI L1), ((a 6), iA cI H1), ((a 7), iA cI M1), ((a 8), iA cI B1), ((a 9), iA cI C1), ((a 10), iA cI D1), ((a 11), iA cI Fa), ((a 12), iA cI W1)]) [0, 1, 2, 3, 4, 5, 6, 7, 8, 9, 10] (by decide) rfl
        have hle2 : le2 = le + lftS k (i + 1) := by rw [show le2 = le + lftS k i + lvN (itK k i) from hle2, Int32.add_assoc]; rfl
        subst hle2
        refine lv_aload_n hx hb dX0_live_35 rfl (lv_at hl 2 rfl) ?_
        refine cw_v (wr := []) (va_runV (As := []) (rest := []) FX (c_X0_sinkLots l G cI a (mo + nI i) (co + incS k (i + 1)) (le + lftS k (i + 1)) K2 Q1 L1 H1 M1 B1 C1 D1 Fa W1 (lv1 (itK k i)) hK2 _) (cwV 0 hts gX0_live_X0_sinkLots rfl rfl rfl (by decide +kernel) ⟨Nat.le_of_ble_eq_true rfl, Nat.le_of_ble_eq_true rfl⟩) (wrV hK hP hD hN [0, 1, 2, 3, 4, 5, 6, 7, 8, 9, 10] (by decide) rfl rfl (ci := 0) (q0 := 0) rfl rfl) rfl rfl hl.1 rfl (lv_room (Nat.le_of_ble_eq_true rfl)) dX0_live_36 ⟨hzc, hzs⟩) hS hP hD hA [0, 1, 2, 3, 4, 5, 6, 7, 8, 9, 10] [] rfl rfl (by decide) (by decide) (fun u H locs hw hP hD hS => ?_)
        obtain ⟨K3, W3⟩ := u
        have hP := hP.sub (ws' := [((a 0), oC a (mo + nI i) (co + incS k (i + 1)) (le + lftS k (i + 1))), ((a 3), iA cI K3), ((a 4), iA cI Q1), ((a 5), iA cI L1), ((a 6), iA cI H1), ((a 7), iA cI M1), ((a 8), iA cI B1), ((a 9), iA cI C1), ((a 10), iA cI D1), ((a 11), iA cI Fa), ((a 12), iA cI W3)]) [0, 1, 2, 3, 4, 5, 6, 7, 8, 9, 10] rfl
        have hD := hD.sub (ws' := [((a 0), oC a (mo + nI i) (co + incS k (i + 1)) (le + lftS k (i + 1))), ((a 3), iA cI K3), ((a 4), iA cI Q1), ((a 5), iA cI L1), ((a 6), iA cI H1), ((a 7), iA cI M1), ((a 8), iA cI B1), ((a 9), iA cI C1), ((a 10), iA cI D1), ((a 11), iA cI Fa), ((a 12), iA cI W3)]) [0, 1, 2, 3, 4, 5, 6, 7, 8, 9, 10] (by decide) rfl
        have hK3 : eqK K3 (itK k (i + 1)) := hw
        refine lv_aload_n hx hb dX0_live_39 rfl (lv_at hl 2 rfl) ?_
        refine cw_v (wr := []) (va_runV (As := []) (rest := []) FX (c_X0_survey l G cI a (mo + nI i) (co + incS k (i + 1)) (le + lftS k (i + 1)) K3 Q1 L1 H1 M1 B1 C1 D1 Fa W3 (itK k (i + 1)) hK3 (wtr_itK hg (i + 1)) _) (cwV 0 hts gX0_live_X0_survey rfl rfl rfl (by decide +kernel) ⟨Nat.le_of_ble_eq_true rfl, Nat.le_of_ble_eq_true rfl⟩) (wrV hK hP hD hN [0, 1, 2, 3, 4, 5, 6, 7, 8, 9, 10] (by decide) rfl rfl (ci := 0) (q0 := 0) rfl rfl) rfl rfl hl.1 rfl (lv_room (Nat.le_of_ble_eq_true rfl)) dX0_live_40 ⟨hzc, hzs⟩) hS hP hD hA [0, 1, 2, 3, 4, 5, 6, 7, 8, 9, 10] [] rfl rfl (by decide) (by decide) (fun u H locs hw hP hD hS => ?_)
        obtain ⟨Q4, L4, H4, M4, B4, C4, D4, W4⟩ := u
        have hP := hP.sub (ws' := [((a 0), oC a (mo + nI i) (co + incS k (i + 1)) (le + lftS k (i + 1))), ((a 3), iA cI K3), ((a 4), iA cI Q4), ((a 5), iA cI L4), ((a 6), iA cI H4), ((a 7), iA cI M4), ((a 8), iA cI B4), ((a 9), iA cI C4), ((a 10), iA cI D4), ((a 11), iA cI Fa), ((a 12), iA cI W4)]) [0, 1, 2, 3, 4, 5, 6, 7, 8, 9, 10] rfl
        have hD := hD.sub (ws' := [((a 0), oC a (mo + nI i) (co + incS k (i + 1)) (le + lftS k (i + 1))), ((a 3), iA cI K3), ((a 4), iA cI Q4), ((a 5), iA cI L4), ((a 6), iA cI H4), ((a 7), iA cI M4), ((a 8), iA cI B4), ((a 9), iA cI C4), ((a 10), iA cI D4), ((a 11), iA cI Fa), ((a 12), iA cI W4)]) [0, 1, 2, 3, 4, 5, 6, 7, 8, 9, 10] (by decide) rfl
        refine lv_aload_n hx hb dX0_live_43 rfl (lv_at hl 2 rfl) ?_
        refine lv_dup hx hb dX0_live_44 rfl ?_
        refine va_get (D := G) (ci := 0) (v := .int (mo + nI i)) (C := RX0) (T := TX0) (N := 13) hx hb hts hinX0 hown hK hP 0 rfl rfl 0 (by decide) hf9 (fun _ h9 => h9) rfl dX0_live_45 ?_
        refine lv_iconst (v := 1) hx hb dX0_live_48 (by decide) ?_
        refine lv_iadd hx hb dX0_live_49 ?_
        refine tpi (x' := mo + nI (i + 1)) (by rw [Int32.add_assoc, nI_1]) ?_
        refine va_put (D := G) (ci := 0) (v := .int (mo + nI (i + 1))) (ty := .int) (C := RX0) (T := TX0) (N := 13) hx hb hts hinX0 tyX0 tyX0_ok nmX0 hown hK hP hD hS 0 rfl rfl 0 (by decide) hf9 (fun _ h9 => h9) rfl (by decide +kernel) rfl rfl (Nat.le_of_ble_eq_true rfl) dX0_live_50 (fun H locs hP hD hS => ?_)
        have hP : va_P G vwCl [((a 0), oC a (mo + nI (i + 1)) (co + incS k (i + 1)) (le + lftS k (i + 1))), ((a 3), iA cI K3), ((a 4), iA cI Q4), ((a 5), iA cI L4), ((a 6), iA cI H4), ((a 7), iA cI M4), ((a 8), iA cI B4), ((a 9), iA cI C4), ((a 10), iA cI D4), ((a 11), iA cI Fa), ((a 12), iA cI W4)] H := hP
        have hD : va_D A [((a 0), oC a (mo + nI (i + 1)) (co + incS k (i + 1)) (le + lftS k (i + 1))), ((a 3), iA cI K3), ((a 4), iA cI Q4), ((a 5), iA cI L4), ((a 6), iA cI H4), ((a 7), iA cI M4), ((a 8), iA cI B4), ((a 9), iA cI C4), ((a 10), iA cI D4), ((a 11), iA cI Fa), ((a 12), iA cI W4)] := hD
        refine lv_iinc (v := nI (i + 1)) (lv' := [(3, .int (nI (i + 1))), (2, .int (incS k (i + 1))), (4, .int (dall (itK k i))), (0, .ref (a 0)), (1, .int (nI mn))]) hx hb dX0_live_53 hl (k := 4) rfl (nI_inc i) (by decide) rfl (fun ls hl => ?_)
        refine lv_goto (tgt := 4) hx hb dX0_live_56 (by decide) ?_
        exact ih_lp (i + 1) K3 Q4 L4 H4 M4 B4 C4 D4 W4 (by omega) (hK3) (hw) (by omega) _ _ _ hP hD hS (lv_sub hl [3, 4, 1, 0] (rfl))
      · skip
        have g9 : i = mn := by omega
        subst g9
        refine lv_icmp_ge (tgt := 59) hx hb dX0_live_6 (by decide) (fun _ => ?_) (fun c => absurd (le_n (n := i) (i := i) (Nat.le_refl i) hmn) c)
        refine lv_iload_n hx hb dX0_live_59 rfl (lv_at hl 2 rfl) ?_
        subst hQ
        subst hAe
        exact wr_i (K1, Q1, L1, H1, M1, B1, C1, D1, W1) (⟨rfl, hK1, hS1⟩) hx hb hr hP hD hS hlocks dX0_live_60
  exact lp (_ + 1) 0 K Qa La Ha Ma Ba Ca Da Wa (by omega) (hk) (hS0) (Nat.lt_succ_self _) _ _ _ hP hD hS (lv_sub hl [2, 3, 1, 0] rfl)

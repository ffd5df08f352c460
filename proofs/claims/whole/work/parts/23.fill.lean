def rmX2_fill : Room := { frames := 3, cells := 0, slots := 0, locals := 66 }
set_option maxHeartbeats 4000000 in
set_option maxRecDepth 100000 in
/-- the fewest steps from a lot on -/
theorem c_X2_fill (l : Launch) (G : va_G) (cI : ClassId) (b : Nat → Nat) (ac : Nat) (th mo co le : Int32) (X Rw St k : Nat → Int32) (bl : Bool) (st : Nat) (hk : eqK X k) (hkd : ∀ x, x < 64 → kd (k x)) (hst : st < 64) (sz : Nat) : Met l yX2_fill wsX2_fill rmX2_fill (va_Pc [.ref (b 0), .ref ac, .int (nI st), .int (b2i bl)] (WrP G cI [((b 0), oM b th mo co le), (ac, iA cI X), ((b 12), iA cI Rw), ((b 13), iA cI St)] sz)) (va_Qi (fun (r : Int32) (u : (Nat → Int32) × (Nat → Int32)) => ∃ (en : Nat) (row : Nat → Nat), r = nI en ∧ FL k bl st en row u.1 u.2) (WrB G [((b 0), oM b th mo co le), (ac, iA cI X), ((b 12), iA cI Rw), ((b 13), iA cI St)] sz (fun u => [(b 0, oM b th mo co le), (ac, iA cI X), (b 12, iA cI (u.1)), (b 13, iA cI (u.2))])) (va_A [((b 0), oM b th mo co le), (ac, iA cI X), ((b 12), iA cI Rw), ((b 13), iA cI St)] sz)) 0 0 (va_A [((b 0), oM b th mo co le), (ac, iA cI X), ((b 12), iA cI Rw), ((b 13), iA cI St)] sz) := by
  refine Met.ofW (cc := cX2_fill) (maxL := 8) (ret := (some .int)) (by decide) rfl ?_
  intro p e s m args below meth c s₁ B hml hv
  obtain ⟨rfl, hsz, hP, hK, hD0, hN⟩ := hv
  have hx := B.exec
  have hb := B.bytes
  have hr := B.returns
  have hlocks := B.notSynchronized
  have hts := atoms_spec (ws := wsX2_fill) B.pre
  have hown : s.vm.findClass RX2 = some m.cls := findClass_of_methodNamed B.named
  subst hsz
  have hD := hD0.self (sz := s.heap.size)
  have hA : ∀ q : Nat, s.heap.size ≤ q → va_A [((b 0), oM b th mo co le), (ac, iA cI X), ((b 12), iA cI Rw), ((b 13), iA cI St)] s.heap.size q := fun q h => Or.inr h
  have hS : va_S (va_A [((b 0), oM b th mo co le), (ac, iA cI X), ((b 12), iA cI Rw), ((b 13), iA cI St)] s.heap.size) s.heap s.heap [] := va_S.rf
  obtain ⟨A, hAe⟩ : ∃ A, A = va_A [((b 0), oM b th mo co le), (ac, iA cI X), ((b 12), iA cI Rw), ((b 13), iA cI St)] s.heap.size := ⟨_, rfl⟩
  rw [← hAe] at hD hA hS
  have FX : CallFix p m c cX2_fill 8 s ([.ref (b 0), .ref ac, .int (nI st), .int (b2i bl)] : List Value).toArray wsX2_fill RX2 := ⟨hx, hb, hml, hown, hts⟩
  have hl := lv_entry ([.ref (b 0), .ref ac, .int (nI st), .int (b2i bl)]) (n := 8) (Nat.le_of_ble_eq_true rfl)
  rw [lg_entry_eq]
  generalize (lg_sl ([.ref (b 0), .ref ac, .int (nI st), .int (b2i bl)]) ++ List.replicate (8 - (lg_sl ([.ref (b 0), .ref ac, .int (nI st), .int (b2i bl)])).length) Slot.unset).toArray = ls at hl ⊢
  have hl : lv_has ls 8 [(0, .ref (b 0)), (1, .ref ac), (2, .int (nI st)), (3, .int (b2i bl))] := hl
  refine wq (fun Q hQ => ?_)
  have hzc : 0 + 0 ≤ (headSpec wsX2_fill rmX2_fill).room.cells := Nat.zero_le _
  have hzs : 0 + 0 ≤ (headSpec wsX2_fill rmX2_fill).room.slots := Nat.zero_le _
  have hf38 := hts (.fieldLink RX2 38 "CanalCityModel" "row" "[I") (by decide +kernel)
  have hf41 := hts (.fieldLink RX2 41 "CanalCityModel" "steps" "[I") (by decide +kernel)
  have hinX2 : ∀ w ∈ u_ws RX2 TX2 14, w ∈ wsX2_fill := by decide +kernel
  refine lv_iconst (v := 0) hx hb dX2_fill_0 (by decide) ?_
  refine tpi (x' := nI 0) (rfl) ?_
  refine lv_istore (lv' := [(4, .int (nI 0)), (0, .ref (b 0)), (1, .ref ac), (2, .int (nI st)), (3, .int (b2i bl))]) hx hb dX2_fill_1 hl (by decide) rfl (fun ls hl => ?_)
  have lo : ∀ (n : Nat) (i : Nat) (S1 : Nat → Int32), (hi : i ≤ 64) → (hS1 : ∀ x, x < i → S1 x = 999) → (64 - i) < n → ∀ (H : Heap) (locs : List Loc) (ls : Array Slot), va_P G vwCl [((b 0), oM b th mo co le), (ac, iA cI X), ((b 12), iA cI Rw), ((b 13), iA cI S1)] H → va_D A [((b 0), oM b th mo co le), (ac, iA cI X), ((b 12), iA cI Rw), ((b 13), iA cI S1)] → va_S A s.heap H locs → lv_has ls 8 [(0, .ref (b 0)), (1, .ref ac), (2, .int (nI st)), (3, .int (b2i bl)), (4, .int (nI i))] → W p l e (headSpec wsX2_fill rmX2_fill).room s m ([.ref (b 0), .ref ac, .int (nI st), .int (b2i bl)] : List Value).toArray below meth c H locs 0 0 Q (F0 m 3 ls []) := by
    intro n
    induction n with
    | zero => intro i S1 hi hS1 hn; exact absurd hn (by omega)
    | succ n ih_lo =>
      intro i S1 hi hS1 hn H locs ls hP hD hS hl
      refine lv_iload hx hb dX2_fill_3 (lv_at hl 4 rfl) ?_
      refine lv_bipush (v := 64) hx hb dX2_fill_5 (by decide) ?_
      rcases Nat.lt_or_ge i 64 with g | g
      · skip
        refine lv_icmp_ge (tgt := 26) hx hb dX2_fill_7 (by decide) (fun c => absurd c (lt_n (n := 64) g (by decide))) (fun _ => ?_)
        refine lv_aload_n hx hb dX2_fill_10 rfl (lv_at hl 0 rfl) ?_
        refine va_get (D := G) (ci := 2) (v := .ref (b 13)) (C := RX2) (T := TX2) (N := 14) hx hb hts hinX2 hown hK hP 0 rfl rfl 13 (by decide) hf41 (fun _ h9 => h9) rfl dX2_fill_11 ?_
        refine lv_iload hx hb dX2_fill_14 (lv_at hl 4 rfl) ?_
        refine lv_sipush (v := 999) hx hb dX2_fill_16 (by decide) ?_
        refine va_iast hx hb hK hP hD hS 3 0 rfl rfl (vp_in_nI g (by decide)) dX2_fill_19 (fun H locs hP hD hS => ?_)
        rw [show ((nI i)).toNatClampNeg = i from nI_clamp (by omega)] at hP hD
        have hP : va_P G vwCl [((b 0), oM b th mo co le), (ac, iA cI X), ((b 12), iA cI Rw), ((b 13), iA cI (upd S1 i 999))] H := hP
        have hD : va_D A [((b 0), oM b th mo co le), (ac, iA cI X), ((b 12), iA cI Rw), ((b 13), iA cI (upd S1 i 999))] := hD
        refine lv_iinc (v := nI (i + 1)) (lv' := [(4, .int (nI (i + 1))), (0, .ref (b 0)), (1, .ref ac), (2, .int (nI st)), (3, .int (b2i bl))]) hx hb dX2_fill_20 hl (k := 4) rfl (nI_inc i) (by decide) rfl (fun ls hl => ?_)
        refine lv_goto (tgt := 3) hx hb dX2_fill_23 (by decide) ?_
        exact ih_lo (i + 1) (upd S1 i 999) (by omega) (fun x hx => by rcases Nat.lt_or_ge x i with q9 | q9; rw [pk_un (by omega)]; exact hS1 x q9; rw [show x = i by omega, pk_us]) (by omega) _ _ _ hP hD hS (lv_sub hl [1, 2, 3, 4, 0] (rfl))
      · skip
        have g9 : 64 = i := by omega
        subst g9
        refine lv_icmp_ge (tgt := 26) hx hb dX2_fill_7 (by decide) (fun _ => ?_) (fun c => absurd (le_n (n := 64) (i := 64) (by decide) (by decide)) c)
        refine lv_aload_n hx hb dX2_fill_26 rfl (lv_at hl 0 rfl) ?_
        refine va_get (D := G) (ci := 2) (v := .ref (b 13)) (C := RX2) (T := TX2) (N := 14) hx hb hts hinX2 hown hK hP 0 rfl rfl 13 (by decide) hf41 (fun _ h9 => h9) rfl dX2_fill_27 ?_
        refine lv_iload_n hx hb dX2_fill_30 rfl (lv_at hl 2 rfl) ?_
        refine lv_iconst (v := 0) hx hb dX2_fill_31 (by decide) ?_
        refine tpi (x' := nI 0) (rfl) ?_
        refine va_iast hx hb hK hP hD hS 3 0 rfl rfl (vp_in_nI hst (by decide)) dX2_fill_32 (fun H locs hP hD hS => ?_)
        rw [show ((nI st)).toNatClampNeg = st from nI_clamp (by omega)] at hP hD
        have hP : va_P G vwCl [((b 0), oM b th mo co le), (ac, iA cI X), ((b 12), iA cI Rw), ((b 13), iA cI (upd S1 st (nI 0)))] H := hP
        have hD : va_D A [((b 0), oM b th mo co le), (ac, iA cI X), ((b 12), iA cI Rw), ((b 13), iA cI (upd S1 st (nI 0)))] := hD
        refine lv_aload_n hx hb dX2_fill_33 rfl (lv_at hl 0 rfl) ?_
        refine va_get (D := G) (ci := 2) (v := .ref (b 12)) (C := RX2) (T := TX2) (N := 14) hx hb hts hinX2 hown hK hP 0 rfl rfl 12 (by decide) hf38 (fun _ h9 => h9) rfl dX2_fill_34 ?_
        refine lv_iconst (v := 0) hx hb dX2_fill_37 (by decide) ?_
        refine tpi (x' := nI 0) (rfl) ?_
        refine lv_iload_n hx hb dX2_fill_38 rfl (lv_at hl 2 rfl) ?_
        refine va_iast hx hb hK hP hD hS 2 0 rfl rfl (vp_in_nI (n := 0) (by decide) (by decide)) dX2_fill_39 (fun H locs hP hD hS => ?_)
        rw [show ((nI 0)).toNatClampNeg = 0 from nI_clamp (by omega)] at hP hD
        have hP : va_P G vwCl [((b 0), oM b th mo co le), (ac, iA cI X), ((b 12), iA cI (upd Rw 0 (nI st))), ((b 13), iA cI (upd S1 st (nI 0)))] H := hP
        have hD : va_D A [((b 0), oM b th mo co le), (ac, iA cI X), ((b 12), iA cI (upd Rw 0 (nI st))), ((b 13), iA cI (upd S1 st (nI 0)))] := hD
        refine lv_iconst (v := 1) hx hb dX2_fill_40 (by decide) ?_
        refine tpi (x' := nI 1) (rfl) ?_
        refine lv_istore (lv' := [(4, .int (nI 1)), (0, .ref (b 0)), (1, .ref ac), (2, .int (nI st)), (3, .int (b2i bl))]) hx hb dX2_fill_41 hl (by decide) rfl (fun ls hl => ?_)
        refine lv_iconst (v := 0) hx hb dX2_fill_43 (by decide) ?_
        refine tpi (x' := nI 0) (rfl) ?_
        refine lv_istore (lv' := [(5, .int (nI 0)), (4, .int (nI 1)), (0, .ref (b 0)), (1, .ref ac), (2, .int (nI st)), (3, .int (b2i bl))]) hx hb dX2_fill_44 hl (by decide) rfl (fun ls hl => ?_)
        have lp : ∀ (n : Nat) (ai en : Nat) (row : Nat → Nat) (D9 : Nat → Option Nat) (R1 S2 : Nat → Int32), (hB : BI (PB bl k) st row D9 en ai) → (hR1 : ∀ y, y < en → R1 y = nI (row y)) → (hS2 : ∀ x, x < 64 → S2 x = mkd 0 1 (D9 x) 999) → (64 - ai) < n → ∀ (H : Heap) (locs : List Loc) (ls : Array Slot), va_P G vwCl [((b 0), oM b th mo co le), (ac, iA cI X), ((b 12), iA cI R1), ((b 13), iA cI S2)] H → va_D A [((b 0), oM b th mo co le), (ac, iA cI X), ((b 12), iA cI R1), ((b 13), iA cI S2)] → va_S A s.heap H locs → lv_has ls 8 [(0, .ref (b 0)), (1, .ref ac), (3, .int (b2i bl)), (4, .int (nI en)), (5, .int (nI ai))] → W p l e (headSpec wsX2_fill rmX2_fill).room s m ([.ref (b 0), .ref ac, .int (nI st), .int (b2i bl)] : List Value).toArray below meth c H locs 0 0 Q (F0 m 46 ls []) := by
          intro n
          induction n with
          | zero => intro ai en row D9 R1 S2 hB hR1 hS2 hn; exact absurd hn (by omega)
          | succ n ih_lp =>
            intro ai en row D9 R1 S2 hB hR1 hS2 hn H locs ls hP hD hS hl
            have hen := BI_le hB
            refine lv_iload hx hb dX2_fill_46 (lv_at hl 4 rfl) ?_
            refine lv_iload hx hb dX2_fill_48 (lv_at hl 3 rfl) ?_
            rcases Nat.lt_or_ge ai en with g | g
            · skip
              refine lv_icmp_ge (tgt := 170) hx hb dX2_fill_50 (by decide) (fun c => absurd c (lt_n g (by omega))) (fun _ => ?_)
              obtain ⟨fr, hfr⟩ : ∃ z, z = row ai := ⟨_, rfl⟩
              have hfr64 : fr < 64 := by rw [hfr]; exact hB.1 ai g
              refine lv_iconst (v := 0) hx hb dX2_fill_53 (by decide) ?_
              refine tpi (x' := nI 0) (rfl) ?_
              refine lv_istore (lv' := [(6, .int (nI 0)), (0, .ref (b 0)), (1, .ref ac), (3, .int (b2i bl)), (4, .int (nI en)), (5, .int (nI ai))]) hx hb dX2_fill_54 hl (by decide) rfl (fun ls hl => ?_)
              have lq : ∀ (n : Nat) (sd en2 : Nat) (row2 : Nat → Nat) (D2 : Nat → Option Nat) (R3 S3 : Nat → Int32), (hJ : BJ (PB bl k) st nbR row2 D2 en2 ai sd) → (hsd : sd ≤ 4) → (hr2 : row2 ai = fr) → (hR3 : ∀ y, y < en2 → R3 y = nI (row2 y)) → (hS3 : ∀ x, x < 64 → S3 x = mkd 0 1 (D2 x) 999) → (4 - sd) < n → ∀ (H : Heap) (locs : List Loc) (ls : Array Slot), va_P G vwCl [((b 0), oM b th mo co le), (ac, iA cI X), ((b 12), iA cI R3), ((b 13), iA cI S3)] H → va_D A [((b 0), oM b th mo co le), (ac, iA cI X), ((b 12), iA cI R3), ((b 13), iA cI S3)] → va_S A s.heap H locs → lv_has ls 8 [(0, .ref (b 0)), (1, .ref ac), (3, .int (b2i bl)), (4, .int (nI en2)), (5, .int (nI ai)), (6, .int (nI sd))] → W p l e (headSpec wsX2_fill rmX2_fill).room s m ([.ref (b 0), .ref ac, .int (nI st), .int (b2i bl)] : List Value).toArray below meth c H locs 0 0 Q (F0 m 56 ls []) := by
                intro n
                induction n with
                | zero => intro sd en2 row2 D2 R3 S3 hJ hsd hr2 hR3 hS3 hn; exact absurd hn (by omega)
                | succ n ih_lq =>
                  intro sd en2 row2 D2 R3 S3 hJ hsd hr2 hR3 hS3 hn H locs ls hP hD hS hl
                  refine lv_iload hx hb dX2_fill_56 (lv_at hl 5 rfl) ?_
                  refine lv_iconst (v := 4) hx hb dX2_fill_58 (by decide) ?_
                  rcases Nat.lt_or_ge sd 4 with g4 | g4
                  · skip
                    have hen2 := BI_le hJ.1
                    obtain ⟨d0, hd0, hd0l, hw0⟩ := hJ.1.2.2.2.1 ai hJ.2.1
                    have hd64 := BI_d hJ.1 hd0
                    have hai := hJ.2.1
                    refine lv_icmp_ge (tgt := 164) hx hb dX2_fill_59 (by decide) (fun c => absurd c (lt_n (n := 4) g4 (by decide))) (fun _ => ?_)
                    refine lv_aload_n hx hb dX2_fill_62 rfl (lv_at hl 0 rfl) ?_
                    refine va_get (D := G) (ci := 2) (v := .ref (b 12)) (C := RX2) (T := TX2) (N := 14) hx hb hts hinX2 hown hK hP 0 rfl rfl 12 (by decide) hf38 (fun _ h9 => h9) rfl dX2_fill_63 ?_
                    refine lv_iload hx hb dX2_fill_66 (lv_at hl 4 rfl) ?_
                    refine va_iald hx hb hK hP 2 0 rfl rfl (vp_in_nI (n := ai) (by omega) (by decide)) dX2_fill_68 ?_
                    refine tpi (x' := R3 ai) (congrArg R3 (nI_clamp (by omega))) ?_
                    refine tpi (x' := nI fr) (by rw [hR3 ai hJ.2.1, hr2]) ?_
                    refine lv_iload hx hb dX2_fill_69 (lv_at hl 5 rfl) ?_
                    refine cr_i (va_runS (As := [.int (nI fr), .int (nI sd)]) (rest := []) FX (c_X2_beside l fr sd hfr64 g4) (va_cwS 2 hts gX2_fill_X2_beside rfl rfl rfl (by decide +kernel) ⟨Nat.le_of_ble_eq_true rfl, Nat.le_of_ble_eq_true rfl⟩) puS rfl rfl hl.1 rfl (lv_room (Nat.le_of_ble_eq_true rfl)) dX2_fill_71 ⟨hzc, hzs⟩) hS hP (fun H locs hP hS => ?_)
                    rcases hn9 : nbR fr sd with _ | q
                    · skip
                      refine tpi (x' := -1) (rfl) ?_
                      refine lv_istore (lv' := [(7, .int (-1)), (0, .ref (b 0)), (1, .ref ac), (3, .int (b2i bl)), (4, .int (nI en2)), (5, .int (nI ai)), (6, .int (nI sd))]) hx hb dX2_fill_74 hl (by decide) rfl (fun ls hl => ?_)
                      refine lv_iload hx hb dX2_fill_76 (lv_at hl 0 rfl) ?_
                      refine lv_iconst (v := (-1)) hx hb dX2_fill_78 (by decide) ?_
                      refine lv_icmp_eq (tgt := 158) hx hb dX2_fill_79 (by decide) (fun _ => ?_) (fun c => absurd (rfl) c)
                      refine lv_iinc (v := nI (sd + 1)) (lv' := [(6, .int (nI (sd + 1))), (7, .int (-1)), (0, .ref (b 0)), (1, .ref ac), (3, .int (b2i bl)), (4, .int (nI en2)), (5, .int (nI ai))]) hx hb dX2_fill_158 hl (k := 6) rfl (nI_inc sd) (by decide) rfl (fun ls hl => ?_)
                      refine lv_goto (tgt := 56) hx hb dX2_fill_161 (by decide) ?_
                      exact ih_lq (sd + 1) en2 row2 D2 R3 S3 (BJ_skip hJ (fun q hq _ => by rw [hr2, hn9] at hq; cases hq)) (by omega) (hr2) (hR3) (hS3) (by omega) _ _ _ hP hD hS (lv_sub hl [2, 3, 4, 5, 6, 0] (rfl))
                    · skip
                      have hq : q < 64 := nbR_lt hfr64 hn9
                      have hadj : Adj (row2 ai) q := (nbR_ok _ _).mpr ⟨sd, g4, by rw [hr2]; exact hn9⟩
                      refine tpi (x' := nI q) (rfl) ?_
                      refine lv_istore (lv' := [(7, .int (nI q)), (0, .ref (b 0)), (1, .ref ac), (3, .int (b2i bl)), (4, .int (nI en2)), (5, .int (nI ai)), (6, .int (nI sd))]) hx hb dX2_fill_74 hl (by decide) rfl (fun ls hl => ?_)
                      refine lv_iload hx hb dX2_fill_76 (lv_at hl 0 rfl) ?_
                      refine lv_iconst (v := (-1)) hx hb dX2_fill_78 (by decide) ?_
                      refine lv_icmp_eq (tgt := 158) hx hb dX2_fill_79 (by decide) (fun c => absurd c (nI_m1 (by omega))) (fun _ => ?_)
                      refine lv_aload_n hx hb dX2_fill_82 rfl (lv_at hl 1 rfl) ?_
                      refine va_get (D := G) (ci := 2) (v := .ref (b 13)) (C := RX2) (T := TX2) (N := 14) hx hb hts hinX2 hown hK hP 0 rfl rfl 13 (by decide) hf41 (fun _ h9 => h9) rfl dX2_fill_83 ?_
                      refine lv_iload hx hb dX2_fill_86 (lv_at hl 0 rfl) ?_
                      refine va_iald hx hb hK hP 3 0 rfl rfl (vp_in_nI hq (by decide)) dX2_fill_88 ?_
                      refine tpi (x' := S3 q) (congrArg S3 (nI_clamp (by omega))) ?_
                      refine tpi (x' := mkd 0 1 (D2 q) 999) (hS3 q hq) ?_
                      rcases hDq : D2 q with _ | d
                      · skip
                        refine tpi (x' := 999) (rfl) ?_
                        refine lv_sipush (v := 999) hx hb dX2_fill_89 (by decide) ?_
                        refine lv_icmp_ne (tgt := 158) hx hb dX2_fill_92 (by decide) (fun c => absurd (rfl) c) (fun _ => ?_)
                        have hfit := BJ_fit hJ hq hDq
                        refine lv_iload_n hx hb dX2_fill_95 rfl (lv_at hl 3 rfl) ?_
                        by_cases hbl : bl = true
                        · skip
                          refine tpi (x' := 1) (by rw [hbl]; rfl) ?_
                          refine lv_if_eq (tgt := 112) hx hb dX2_fill_96 (by decide) (fun c => absurd c (by decide)) (fun _ => ?_)
                          refine lv_aload_n hx hb dX2_fill_99 rfl (lv_at hl 2 rfl) ?_
                          refine lv_iload hx hb dX2_fill_100 (lv_at hl 0 rfl) ?_
                          refine va_iald hx hb hK hP 1 0 rfl rfl (vp_in_nI hq (by decide)) dX2_fill_102 ?_
                          refine tpi (x' := X q) (congrArg X (nI_clamp (by omega))) ?_
                          refine tpi (x' := k q) (hk q hq) ?_
                          refine cr_i (va_runS (As := [.int (k q)]) (rest := []) FX (c_X2_isLand l (k q)) (va_cwS 1 hts gX2_fill_X2_isLand rfl rfl rfl (by decide +kernel) ⟨Nat.le_of_ble_eq_true rfl, Nat.le_of_ble_eq_true rfl⟩) puS rfl rfl hl.1 rfl (lv_room (Nat.le_of_ble_eq_true rfl)) dX2_fill_103 ⟨hzc, hzs⟩) hS hP (fun H locs hP hS => ?_)
                          refine tpi (x' := b2i (lnd (k q))) (by rw [lnd_ge (hkd q hq)]) ?_
                          rcases ho : lnd (k q) with _ | _
                          · skip
                            refine tpi (x' := 0) (rfl) ?_
                            refine lv_if_eq (tgt := 158) hx hb dX2_fill_106 (by decide) (fun _ => ?_) (fun c => absurd (rfl) c)
                            refine lv_iinc (v := nI (sd + 1)) (lv' := [(6, .int (nI (sd + 1))), (7, .int (nI q)), (0, .ref (b 0)), (1, .ref ac), (3, .int (b2i bl)), (4, .int (nI en2)), (5, .int (nI ai))]) hx hb dX2_fill_158 hl (k := 6) rfl (nI_inc sd) (by decide) rfl (fun ls hl => ?_)
                            refine lv_goto (tgt := 56) hx hb dX2_fill_161 (by decide) ?_
                            exact ih_lq (sd + 1) en2 row2 D2 R3 S3 (BJ_skip hJ (fun q9 hq9 hP9 => by rw [hr2, hn9] at hq9; cases hq9; unfold PB at hP9; rw [if_pos hbl, ho] at hP9; cases hP9)) (by omega) (hr2) (hR3) (hS3) (by omega) _ _ _ hP hD hS (lv_sub hl [2, 3, 4, 5, 6, 0] (rfl))
                          · skip
                            refine tpi (x' := 1) (rfl) ?_
                            refine lv_if_eq (tgt := 158) hx hb dX2_fill_106 (by decide) (fun c => absurd c (by decide)) (fun _ => ?_)
                            refine lv_goto (tgt := 125) hx hb dX2_fill_109 (by decide) ?_
                            refine lv_aload_n hx hb dX2_fill_125 rfl (lv_at hl 1 rfl) ?_
                            refine va_get (D := G) (ci := 2) (v := .ref (b 13)) (C := RX2) (T := TX2) (N := 14) hx hb hts hinX2 hown hK hP 0 rfl rfl 13 (by decide) hf41 (fun _ h9 => h9) rfl dX2_fill_126 ?_
                            refine lv_iload hx hb dX2_fill_129 (lv_at hl 0 rfl) ?_
                            refine lv_aload_n hx hb dX2_fill_131 rfl (lv_at hl 1 rfl) ?_
                            refine va_get (D := G) (ci := 2) (v := .ref (b 13)) (C := RX2) (T := TX2) (N := 14) hx hb hts hinX2 hown hK hP 0 rfl rfl 13 (by decide) hf41 (fun _ h9 => h9) rfl dX2_fill_132 ?_
                            refine lv_aload_n hx hb dX2_fill_135 rfl (lv_at hl 1 rfl) ?_
                            refine va_get (D := G) (ci := 2) (v := .ref (b 12)) (C := RX2) (T := TX2) (N := 14) hx hb hts hinX2 hown hK hP 0 rfl rfl 12 (by decide) hf38 (fun _ h9 => h9) rfl dX2_fill_136 ?_
                            refine lv_iload hx hb dX2_fill_139 (lv_at hl 5 rfl) ?_
                            refine va_iald hx hb hK hP 2 0 rfl rfl (vp_in_nI (n := ai) (by omega) (by decide)) dX2_fill_141 ?_
                            refine tpi (x' := R3 ai) (congrArg R3 (nI_clamp (by omega))) ?_
                            refine tpi (x' := nI fr) (by rw [hR3 ai hJ.2.1, hr2]) ?_
                            refine va_iald hx hb hK hP 3 0 rfl rfl (vp_in_nI hfr64 (by decide)) dX2_fill_142 ?_
                            refine tpi (x' := S3 fr) (congrArg S3 (nI_clamp (by omega))) ?_
                            refine tpi (x' := nI (0 + d0 * 1)) (by rw [hS3 fr hfr64, ← hr2, hd0]; rfl) ?_
                            refine lv_iconst (v := 1) hx hb dX2_fill_143 (by decide) ?_
                            refine lv_iadd hx hb dX2_fill_144 ?_
                            refine tpi (x' := nI (0 + (d0 + 1) * 1)) ((nI_1 _).trans (congrArg nI (by omega))) ?_
                            refine va_iast hx hb hK hP hD hS 3 0 rfl rfl (vp_in_nI hq (by decide)) dX2_fill_145 (fun H locs hP hD hS => ?_)
                            rw [show ((nI q)).toNatClampNeg = q from nI_clamp (by omega)] at hP hD
                            have hP : va_P G vwCl [((b 0), oM b th mo co le), (ac, iA cI X), ((b 12), iA cI R3), ((b 13), iA cI (upd S3 q (nI (0 + (d0 + 1) * 1))))] H := hP
                            have hD : va_D A [((b 0), oM b th mo co le), (ac, iA cI X), ((b 12), iA cI R3), ((b 13), iA cI (upd S3 q (nI (0 + (d0 + 1) * 1))))] := hD
                            refine lv_aload_n hx hb dX2_fill_146 rfl (lv_at hl 1 rfl) ?_
                            refine va_get (D := G) (ci := 2) (v := .ref (b 12)) (C := RX2) (T := TX2) (N := 14) hx hb hts hinX2 hown hK hP 0 rfl rfl 12 (by decide) hf38 (fun _ h9 => h9) rfl dX2_fill_147 ?_
                            refine lv_iload hx hb dX2_fill_150 (lv_at hl 4 rfl) ?_
                            refine lv_iload hx hb dX2_fill_152 (lv_at hl 0 rfl) ?_
                            refine va_iast hx hb hK hP hD hS 2 0 rfl rfl (vp_in_nI hfit (by decide)) dX2_fill_154 (fun H locs hP hD hS => ?_)
                            rw [show ((nI en2)).toNatClampNeg = en2 from nI_clamp (by omega)] at hP hD
                            have hP : va_P G vwCl [((b 0), oM b th mo co le), (ac, iA cI X), ((b 12), iA cI (upd R3 en2 (nI q))), ((b 13), iA cI (upd S3 q (nI (0 + (d0 + 1) * 1))))] H := hP
                            have hD : va_D A [((b 0), oM b th mo co le), (ac, iA cI X), ((b 12), iA cI (upd R3 en2 (nI q))), ((b 13), iA cI (upd S3 q (nI (0 + (d0 + 1) * 1))))] := hD
                            refine lv_iinc (v := nI (en2 + 1)) (lv' := [(4, .int (nI (en2 + 1))), (7, .int (nI q)), (0, .ref (b 0)), (1, .ref ac), (3, .int (b2i bl)), (5, .int (nI ai)), (6, .int (nI sd))]) hx hb dX2_fill_155 hl (k := 4) rfl (nI_inc en2) (by decide) rfl (fun ls hl => ?_)
                            refine lv_iinc (v := nI (sd + 1)) (lv' := [(6, .int (nI (sd + 1))), (4, .int (nI (en2 + 1))), (7, .int (nI q)), (0, .ref (b 0)), (1, .ref ac), (3, .int (b2i bl)), (5, .int (nI ai))]) hx hb dX2_fill_158 hl (k := 6) rfl (nI_inc sd) (by decide) rfl (fun ls hl => ?_)
                            refine lv_goto (tgt := 56) hx hb dX2_fill_161 (by decide) ?_
                            exact ih_lq (sd + 1) (en2 + 1) (fun y => if y = en2 then q else row2 y) (fun x => if x = q then some (d0 + 1) else D2 x) (upd R3 en2 (nI q)) (upd S3 q (nI (0 + (d0 + 1) * 1))) (BJ_add nbR_ok hJ g4 (by rw [hr2]; exact hn9) (by unfold PB; rw [if_pos hbl]; exact ho) hDq hd0 (fun y => rfl) (fun x => rfl)) (by omega) (by rw [if_neg (show ¬ ai = en2 from Nat.ne_of_lt hJ.2.1)]; exact hr2) (fun y hy => by by_cases e9 : y = en2; rw [e9, pk_us, if_pos rfl]; rw [pk_un e9, if_neg e9]; exact hR3 y (by omega)) (fun x hx => by by_cases e9 : x = q; rw [e9, pk_us, if_pos rfl]; rfl; rw [pk_un e9, if_neg e9]; exact hS3 x hx) (by omega) _ _ _ hP hD hS (lv_sub hl [3, 4, 5, 1, 6, 0] (rfl))
                        · skip
                          refine tpi (x' := 0) (by rw [Bool.eq_false_iff.mpr hbl]; rfl) ?_
                          refine lv_if_eq (tgt := 112) hx hb dX2_fill_96 (by decide) (fun _ => ?_) (fun c => absurd (rfl) c)
                          refine lv_aload_n hx hb dX2_fill_112 rfl (lv_at hl 2 rfl) ?_
                          refine lv_iload hx hb dX2_fill_113 (lv_at hl 0 rfl) ?_
                          refine va_iald hx hb hK hP 1 0 rfl rfl (vp_in_nI hq (by decide)) dX2_fill_115 ?_
                          refine tpi (x' := X q) (congrArg X (nI_clamp (by omega))) ?_
                          refine tpi (x' := k q) (hk q hq) ?_
                          refine cr_i (va_runS (As := [.int (k q)]) (rest := []) FX (c_X2_isWater l (k q)) (va_cwS 1 hts gX2_fill_X2_isWater rfl rfl rfl (by decide +kernel) ⟨Nat.le_of_ble_eq_true rfl, Nat.le_of_ble_eq_true rfl⟩) puS rfl rfl hl.1 rfl (lv_room (Nat.le_of_ble_eq_true rfl)) dX2_fill_116 ⟨hzc, hzs⟩) hS hP (fun H locs hP hS => ?_)
                          rcases ho : wtr (k q) with _ | _
                          · skip
                            refine tpi (x' := 0) (rfl) ?_
                            refine lv_if_ne (tgt := 125) hx hb dX2_fill_119 (by decide) (fun c => absurd (rfl) c) (fun _ => ?_)
                            refine lv_goto (tgt := 158) hx hb dX2_fill_122 (by decide) ?_
                            refine lv_iinc (v := nI (sd + 1)) (lv' := [(6, .int (nI (sd + 1))), (7, .int (nI q)), (0, .ref (b 0)), (1, .ref ac), (3, .int (b2i bl)), (4, .int (nI en2)), (5, .int (nI ai))]) hx hb dX2_fill_158 hl (k := 6) rfl (nI_inc sd) (by decide) rfl (fun ls hl => ?_)
                            refine lv_goto (tgt := 56) hx hb dX2_fill_161 (by decide) ?_
                            exact ih_lq (sd + 1) en2 row2 D2 R3 S3 (BJ_skip hJ (fun q9 hq9 hP9 => by rw [hr2, hn9] at hq9; cases hq9; unfold PB at hP9; rw [if_neg hbl, ho] at hP9; cases hP9)) (by omega) (hr2) (hR3) (hS3) (by omega) _ _ _ hP hD hS (lv_sub hl [2, 3, 4, 5, 6, 0] (rfl))
                          · skip
                            refine tpi (x' := 1) (rfl) ?_
                            refine lv_if_ne (tgt := 125) hx hb dX2_fill_119 (by decide) (fun _ => ?_) (fun c => absurd c (by decide))
                            refine lv_aload_n hx hb dX2_fill_125 rfl (lv_at hl 1 rfl) ?_
                            refine va_get (D := G) (ci := 2) (v := .ref (b 13)) (C := RX2) (T := TX2) (N := 14) hx hb hts hinX2 hown hK hP 0 rfl rfl 13 (by decide) hf41 (fun _ h9 => h9) rfl dX2_fill_126 ?_
                            refine lv_iload hx hb dX2_fill_129 (lv_at hl 0 rfl) ?_
                            refine lv_aload_n hx hb dX2_fill_131 rfl (lv_at hl 1 rfl) ?_
                            refine va_get (D := G) (ci := 2) (v := .ref (b 13)) (C := RX2) (T := TX2) (N := 14) hx hb hts hinX2 hown hK hP 0 rfl rfl 13 (by decide) hf41 (fun _ h9 => h9) rfl dX2_fill_132 ?_
                            refine lv_aload_n hx hb dX2_fill_135 rfl (lv_at hl 1 rfl) ?_
                            refine va_get (D := G) (ci := 2) (v := .ref (b 12)) (C := RX2) (T := TX2) (N := 14) hx hb hts hinX2 hown hK hP 0 rfl rfl 12 (by decide) hf38 (fun _ h9 => h9) rfl dX2_fill_136 ?_
                            refine lv_iload hx hb dX2_fill_139 (lv_at hl 5 rfl) ?_
                            refine va_iald hx hb hK hP 2 0 rfl rfl (vp_in_nI (n := ai) (by omega) (by decide)) dX2_fill_141 ?_
                            refine tpi (x' := R3 ai) (congrArg R3 (nI_clamp (by omega))) ?_
                            refine tpi (x' := nI fr) (by rw [hR3 ai hJ.2.1, hr2]) ?_
                            refine va_iald hx hb hK hP 3 0 rfl rfl (vp_in_nI hfr64 (by decide)) dX2_fill_142 ?_
                            refine tpi (x' := S3 fr) (congrArg S3 (nI_clamp (by omega))) ?_
                            refine tpi (x' := nI (0 + d0 * 1)) (by rw [hS3 fr hfr64, ← hr2, hd0]; rfl) ?_
                            refine lv_iconst (v := 1) hx hb dX2_fill_143 (by decide) ?_
                            refine lv_iadd hx hb dX2_fill_144 ?_
                            refine tpi (x' := nI (0 + (d0 + 1) * 1)) ((nI_1 _).trans (congrArg nI (by omega))) ?_
                            refine va_iast hx hb hK hP hD hS 3 0 rfl rfl (vp_in_nI hq (by decide)) dX2_fill_145 (fun H locs hP hD hS => ?_)
                            rw [show ((nI q)).toNatClampNeg = q from nI_clamp (by omega)] at hP hD
                            have hP : va_P G vwCl [((b 0), oM b th mo co le), (ac, iA cI X), ((b 12), iA cI R3), ((b 13), iA cI (upd S3 q (nI (0 + (d0 + 1) * 1))))] H := hP
                            have hD : va_D A [((b 0), oM b th mo co le), (ac, iA cI X), ((b 12), iA cI R3), ((b 13), iA cI (upd S3 q (nI (0 + (d0 + 1) * 1))))] := hD
                            refine lv_aload_n hx hb dX2_fill_146 rfl (lv_at hl 1 rfl) ?_
                            refine va_get (D := G) (ci := 2) (v := .ref (b 12)) (C := RX2) (T := TX2) (N := 14) hx hb hts hinX2 hown hK hP 0 rfl rfl 12 (by decide) hf38 (fun _ h9 => h9) rfl dX2_fill_147 ?_
                            refine lv_iload hx hb dX2_fill_150 (lv_at hl 4 rfl) ?_
                            refine lv_iload hx hb dX2_fill_152 (lv_at hl 0 rfl) ?_
                            refine va_iast hx hb hK hP hD hS 2 0 rfl rfl (vp_in_nI hfit (by decide)) dX2_fill_154 (fun H locs hP hD hS => ?_)
                            rw [show ((nI en2)).toNatClampNeg = en2 from nI_clamp (by omega)] at hP hD
                            have hP : va_P G vwCl [((b 0), oM b th mo co le), (ac, iA cI X), ((b 12), iA cI (upd R3 en2 (nI q))), ((b 13), iA cI (upd S3 q (nI (0 + (d0 + 1) * 1))))] H := hP
                            have hD : va_D A [((b 0), oM b th mo co le), (ac, iA cI X), ((b 12), iA cI (upd R3 en2 (nI q))), ((b 13), iA cI (upd S3 q (nI (0 + (d0 + 1) * 1))))] := hD
                            refine lv_iinc (v := nI (en2 + 1)) (lv' := [(4, .int (nI (en2 + 1))), (7, .int (nI q)), (0, .ref (b 0)), (1, .ref ac), (3, .int (b2i bl)), (5, .int (nI ai)), (6, .int (nI sd))]) hx hb dX2_fill_155 hl (k := 4) rfl (nI_inc en2) (by decide) rfl (fun ls hl => ?_)
                            refine lv_iinc (v := nI (sd + 1)) (lv' := [(6, .int (nI (sd + 1))), (4, .int (nI (en2 + 1))), (7, .int (nI q)), (0, .ref (b 0)), (1, .ref ac), (3, .int (b2i bl)), (5, .int (nI ai))]) hx hb dX2_fill_158 hl (k := 6) rfl (nI_inc sd) (by decide) rfl (fun ls hl => ?_)
                            refine lv_goto (tgt := 56) hx hb dX2_fill_161 (by decide) ?_
                            exact ih_lq (sd + 1) (en2 + 1) (fun y => if y = en2 then q else row2 y) (fun x => if x = q then some (d0 + 1) else D2 x) (upd R3 en2 (nI q)) (upd S3 q (nI (0 + (d0 + 1) * 1))) (BJ_add nbR_ok hJ g4 (by rw [hr2]; exact hn9) (by unfold PB; rw [if_neg hbl]; exact ho) hDq hd0 (fun y => rfl) (fun x => rfl)) (by omega) (by rw [if_neg (show ¬ ai = en2 from Nat.ne_of_lt hJ.2.1)]; exact hr2) (fun y hy => by by_cases e9 : y = en2; rw [e9, pk_us, if_pos rfl]; rw [pk_un e9, if_neg e9]; exact hR3 y (by omega)) (fun x hx => by by_cases e9 : x = q; rw [e9, pk_us, if_pos rfl]; rfl; rw [pk_un e9, if_neg e9]; exact hS3 x hx) (by omega) _ _ _ hP hD hS (lv_sub hl [3, 4, 5, 1, 6, 0] (rfl))
                      · skip
                        refine tpi (x' := nI (0 + d * 1)) (rfl) ?_
                        have hdq := BI_d hJ.1 hDq
                        refine lv_sipush (v := 999) hx hb dX2_fill_89 (by decide) ?_
                        refine lv_icmp_ne (tgt := 158) hx hb dX2_fill_92 (by decide) (fun _ => ?_) (fun c => absurd c (nI_999 (by omega)))
                        refine lv_iinc (v := nI (sd + 1)) (lv' := [(6, .int (nI (sd + 1))), (7, .int (nI q)), (0, .ref (b 0)), (1, .ref ac), (3, .int (b2i bl)), (4, .int (nI en2)), (5, .int (nI ai))]) hx hb dX2_fill_158 hl (k := 6) rfl (nI_inc sd) (by decide) rfl (fun ls hl => ?_)
                        refine lv_goto (tgt := 56) hx hb dX2_fill_161 (by decide) ?_
                        exact ih_lq (sd + 1) en2 row2 D2 R3 S3 (BJ_skip hJ (fun q9 hq9 _ => by rw [hr2, hn9] at hq9; cases hq9; rw [hDq]; rfl)) (by omega) (hr2) (hR3) (hS3) (by omega) _ _ _ hP hD hS (lv_sub hl [2, 3, 4, 5, 6, 0] (rfl))
                  · skip
                    have g9 : 4 = sd := by omega
                    subst g9
                    refine lv_icmp_ge (tgt := 164) hx hb dX2_fill_59 (by decide) (fun _ => ?_) (fun c => absurd (le_n (n := 4) (i := 4) (by decide) (by decide)) c)
                    refine lv_iinc (v := nI (ai + 1)) (lv' := [(5, .int (nI (ai + 1))), (0, .ref (b 0)), (1, .ref ac), (3, .int (b2i bl)), (4, .int (nI en2)), (6, .int (nI 4))]) hx hb dX2_fill_164 hl (k := 4) rfl (nI_inc ai) (by decide) rfl (fun ls hl => ?_)
                    refine lv_goto (tgt := 46) hx hb dX2_fill_167 (by decide) ?_
                    exact ih_lp (ai + 1) en2 row2 D2 R3 S3 (BJ_done nbR_ok hJ) (hR3) (hS3) (by omega) _ _ _ hP hD hS (lv_sub hl [1, 2, 3, 4, 0] (rfl))
              exact lq (_ + 1) 0 en row D9 R1 S2 (BJ_0 hB g) (by omega) (hfr.symm) (hR1) (hS2) (Nat.lt_succ_self _) _ _ _ hP hD hS (lv_sub hl [1, 2, 3, 4, 5, 0] rfl)
            · skip
              refine lv_icmp_ge (tgt := 170) hx hb dX2_fill_50 (by decide) (fun _ => ?_) (fun c => absurd (le_n g (by have := hB.2.2.2.2.2.2.2.2.1; omega)) c)
              refine lv_iload hx hb dX2_fill_170 (lv_at hl 3 rfl) ?_
              subst hQ
              subst hAe
              exact wr_i (R1, S2) (⟨en, row, rfl, hB.1, hR1, hB.2.1, fun p9 => by rw [← BI_end hB g p9]; exact hB.2.2.1 p9, BI_le hB, fun x hx => by rw [← BI_end hB g x]; exact hS2 x hx⟩) hx hb hr hP hD hS hlocks dX2_fill_172
        exact lp (_ + 1) 0 1 (fun _ => st) (fun x => if x = st then some 0 else none) (upd Rw 0 (nI st)) (upd S1 st (nI 0)) (BI_init hst rfl (fun x => rfl)) (fun y hy => by rw [show y = 0 by omega, pk_us]) (fun x hx => by by_cases e9 : x = st; rw [e9, pk_us, if_pos rfl]; rfl; rw [pk_un e9, if_neg e9]; exact hS1 x hx) (Nat.lt_succ_self _) _ _ _ hP hD hS (lv_sub hl [2, 3, 5, 1, 0] rfl)
  exact lo (_ + 1) 0 St (by omega) (fun x hx => absurd hx (Nat.not_lt_zero _)) (Nat.lt_succ_self _) _ _ _ hP hD hS (lv_sub hl [1, 2, 3, 4, 0] rfl)

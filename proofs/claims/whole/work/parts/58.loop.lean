theorem sub4_no {Ln i : Nat} (hL : Ln ≤ 2048) (h : i + 4 ≤ Ln) : ¬ Int32.ofNat Ln - 4 < nI i := by
  obtain ⟨z, rfl⟩ : ∃ z, Ln = 4 + z := ⟨Ln - 4, by omega⟩
  rw [show Int32.ofNat (4 + z) - 4 = nI z from by
    rw [show Int32.ofNat (4 + z) = nI 4 + nI z from (nI_add 4 z).symm]
    exact i32_back (nI 4) (nI z)]
  exact nI_nlt (a := z) (b := i) (by omega) (by omega)
theorem sub4_yes {Ln i : Nat} (hL : Ln ≤ 2048) (hi : i ≤ 2048) (h : ¬ i + 4 ≤ Ln) : Int32.ofNat Ln - 4 < nI i := by
  rcases Nat.lt_or_ge Ln 4 with h4 | h4
  · have h0 : (0 : Int32) ≤ nI i := nI_pos' (n := i) (by omega)
    rcases (show Ln = 0 ∨ Ln = 1 ∨ Ln = 2 ∨ Ln = 3 by omega) with rfl | rfl | rfl | rfl
    · exact Int32.lt_of_lt_of_le (by decide) h0
    · exact Int32.lt_of_lt_of_le (by decide) h0
    · exact Int32.lt_of_lt_of_le (by decide) h0
    · exact Int32.lt_of_lt_of_le (by decide) h0
  · obtain ⟨z, rfl⟩ : ∃ z, Ln = 4 + z := ⟨Ln - 4, by omega⟩
    rw [show Int32.ofNat (4 + z) - 4 = nI z from by
      rw [show Int32.ofNat (4 + z) = nI 4 + nI z from (nI_add 4 z).symm]
      exact i32_back (nI 4) (nI z)]
    rw [Int32.lt_iff_toInt_lt, nI_toInt (by omega), nI_toInt (by omega)]
    omega

set_option maxHeartbeats 4000000 in
set_option maxRecDepth 100000 in
theorem law_loop {p : Program} {l : Launch} {e : Env} {s : State} {m : MethodId} {below : List Frame} {meth : Method} {c : Code} {b Ln : Nat} {xs : Nat → Int32} {A : Nat → Prop} {G : va_G} {cI cL : ClassId} {h q9 : Nat} {a t g : Nat → Nat} (E0 : LwE p l s m c b Ln xs G cI cL A) (hAz : ∀ q, A q → s.heap.size ≤ q) (hr : meth.sig.returnType = ret) (hlocks : meth.locks = false) (hLn : Ln ≤ 2048) :
    ∀ (n j : Nat) (d0 : Drawn) (cy dy : Cy) (my : My) (o : Nat → Int64) (k : Nat → Int32) (H : Heap) (locs : List Loc) (ls : Array Slot), 513 - j < n → j ≤ 512 → s.drawn.sameBut d0 lw_cs → Sd cy k → eqK my.K k → va_P G vwCl (LAW cI cL h q9 a t g cy dy my o) H → va_D A (LAW cI cL h q9 a t g cy dy my o) → va_S A s.heap H locs → lv_has ls 9 [(4, .int (nI (4 * j))), (0, .ref b), (1, .ref h), (2, .ref (g 0)), (3, .ref q9)] →
      W p l e room_1 (s.setDrawn d0) m #[Value.ref b] below meth c H locs (35 + j) (1963 + 6 * j) (lw_Z below #[Value.ref b] s) (F0 m 23 ls []) := by
  intro n
  induction n with
  | zero => intro j d0 cy dy my o k H locs ls hn; exact absurd hn (Nat.not_lt_zero _)
  | succ n ih =>
    intro j d0 cy dy my o k H locs ls hn hj hd0 hgd hmk hP hD hS hl
    have E1 := LwE_drawn E0 d0
    obtain ⟨hx, hb, hml, hown, hts, hst, hK, hKL, hN, hE, hX, hNC, hZ, hBL, hA, hXs, hbl, hbA⟩ := E1
    have E1 := LwE_drawn E0 d0
    refine lv_iload hx hb dL_law_23 (lv_at hl 0 rfl) ?_
    refine lv_aload_n hx hb dL_law_25 rfl (lv_at hl 1 rfl) ?_
    refine va_slen hx hb hXs hbl hbA hS dL_law_26 ?_
    refine lv_iconst (v := 4) hx hb dL_law_27 (by decide) ?_
    refine lv_isub hx hb dL_law_28 ?_
    rcases Decidable.em (4 * j + 4 ≤ Ln) with hin | hin
    · skip
      refine lv_icmp_gt (tgt := 1045) hx hb dL_law_29 (by decide) (fun c => absurd c (sub4_no hLn hin)) (fun _ => ?_)
      have nx : ∀ (d2 : Drawn) (cy2 dy2 : Cy) (my2 : My) (o2 : Nat → Int64) (k2 : Nat → Int32) (H2 : Heap) (locs2 : List Loc) (ls2 : Array Slot), s.drawn.sameBut d2 lw_cs → Sd cy2 k2 → eqK my2.K k2 → va_P G vwCl (LAW cI cL h q9 a t g cy2 dy2 my2 o2) H2 → va_D A (LAW cI cL h q9 a t g cy2 dy2 my2 o2) → va_S A s.heap H2 locs2 → lv_has ls2 9 [(4, .int (nI (4 * j))), (0, .ref b), (1, .ref h), (2, .ref (g 0)), (3, .ref q9)] → W p l e room_1 (s.setDrawn d2) m #[Value.ref b] below meth c H2 locs2 (35 + j + 1) (1963 + 6 * j + 6) (lw_Z below #[Value.ref b] s) (F0 m 1039 ls2 []) := by
        intro d2 cy2 dy2 my2 o2 k2 H2 locs2 ls2 hd2 g1 g2 g3 g4 g5 hl
        refine lv_iinc (v := nI (4 * (j + 1))) (lv' := [(4, .int (nI (4 * (j + 1)))), (0, .ref b), (1, .ref h), (2, .ref (g 0)), (3, .ref q9)]) hx hb dL_law_1039 hl (k := 0) rfl (nI_add (4 * j) 4) (by decide) rfl (fun ls hl => ?_)
        refine lv_goto (tgt := 23) hx hb dL_law_1042 (by decide) ?_
        have z := ih (j + 1) d2 cy2 dy2 my2 o2 k2 H2 locs2 ls (by omega) (by omega) hd2 g1 g2 g3 g4 g5 (lv_sub hl [0, 1, 2, 3, 4] rfl)
        rw [show 35 + (j + 1) = 35 + j + 1 by omega, show 1963 + 6 * (j + 1) = 1963 + 6 * j + 6 by omega] at z
        exact z
      refine lv_aload_n hx hb dL_law_32 rfl (lv_at hl 1 rfl) ?_
      refine lv_iload hx hb dL_law_33 (lv_at hl 0 rfl) ?_
      refine va_sld hx hb hXs hbl hbA hS (vp_in_nI (n := 4 * j) (N := Ln) (by omega) (by omega)) dL_law_35 ?_
      refine tpi (x' := xs (4 * j)) (congrArg xs (nI_clamp (by omega))) ?_
      refine lv_bipush (v := 15) hx hb dL_law_36 (by decide) ?_
      refine lv_iand hx hb dL_law_38 ?_
      obtain ⟨v, hv⟩ : ∃ v, v = xs (4 * j) &&& 15 := ⟨_, rfl⟩
      refine tpi (x' := v) (hv.symm) ?_
      by_cases v0 : v = 0
      · skip
        refine tpi (x' := 0) (v0) ?_
        refine lv_tableIn (off := 73) (tgt := 112) hx hb dL_law_39 (by decide +kernel) (by decide +kernel) (by decide +kernel) (by decide) ?_
        exact law_drain E1 hgd hmk hP hD hS hl hin hLn (by show 35 + j + 1 ≤ 1074; omega) (by show 1963 + 6 * j + 6 ≤ 10245; omega) (fun cy2 dy2 my2 o2 k2 H2 locs2 ls2 => nx d0 cy2 dy2 my2 o2 k2 H2 locs2 ls2 hd0)
      by_cases v1 : v = 1
      · skip
        refine tpi (x' := 1) (v1) ?_
        refine lv_tableIn (off := 141) (tgt := 180) hx hb dL_law_39 (by decide +kernel) (by decide +kernel) (by decide +kernel) (by decide) ?_
        exact law_dig E1 hgd hmk hP hD hS hl hin hLn (by show 35 + j + 1 ≤ 1074; omega) (by show 1963 + 6 * j + 6 ≤ 10245; omega) (fun cy2 dy2 my2 o2 k2 H2 locs2 ls2 => nx d0 cy2 dy2 my2 o2 k2 H2 locs2 ls2 hd0)
      by_cases v2 : v = 2
      · skip
        refine tpi (x' := 2) (v2) ?_
        refine lv_tableIn (off := 209) (tgt := 248) hx hb dL_law_39 (by decide +kernel) (by decide +kernel) (by decide +kernel) (by decide) ?_
        exact law_build E1 hgd hmk hP hD hS hl hin hLn (by show 35 + j + 1 ≤ 1074; omega) (by show 1963 + 6 * j + 6 ≤ 10245; omega) (fun cy2 dy2 my2 o2 k2 H2 locs2 ls2 => nx d0 cy2 dy2 my2 o2 k2 H2 locs2 ls2 hd0)
      by_cases v3 : v = 3
      · skip
        refine tpi (x' := 3) (v3) ?_
        refine lv_tableIn (off := 289) (tgt := 328) hx hb dL_law_39 (by decide +kernel) (by decide +kernel) (by decide +kernel) (by decide) ?_
        exact law_bridge E1 hgd hmk hP hD hS hl hin hLn (by show 35 + j + 1 ≤ 1074; omega) (by show 1963 + 6 * j + 6 ≤ 10245; omega) (fun cy2 dy2 my2 o2 k2 H2 locs2 ls2 => nx d0 cy2 dy2 my2 o2 k2 H2 locs2 ls2 hd0)
      by_cases v4 : v = 4
      · skip
        refine tpi (x' := 4) (v4) ?_
        refine lv_tableIn (off := 357) (tgt := 396) hx hb dL_law_39 (by decide +kernel) (by decide +kernel) (by decide +kernel) (by decide) ?_
        exact law_raze E1 hgd hmk hP hD hS hl hin hLn (by show 35 + j + 1 ≤ 1074; omega) (by show 1963 + 6 * j + 6 ≤ 10245; omega) (fun cy2 dy2 my2 o2 k2 H2 locs2 ls2 => nx d0 cy2 dy2 my2 o2 k2 H2 locs2 ls2 hd0)
      by_cases v5 : v = 5
      · skip
        refine tpi (x' := 5) (v5) ?_
        refine lv_tableIn (off := 425) (tgt := 464) hx hb dL_law_39 (by decide +kernel) (by decide +kernel) (by decide +kernel) (by decide) ?_
        exact law_lot E1 hgd hmk hP hD hS hl hin hLn (by show 35 + j + 1 ≤ 1074; omega) (by show 1963 + 6 * j + 6 ≤ 10245; omega) (fun cy2 dy2 my2 o2 k2 H2 locs2 ls2 => nx d0 cy2 dy2 my2 o2 k2 H2 locs2 ls2 hd0)
      by_cases v6 : v = 6
      · skip
        refine tpi (x' := 6) (v6) ?_
        refine lv_tableIn (off := 505) (tgt := 544) hx hb dL_law_39 (by decide +kernel) (by decide +kernel) (by decide +kernel) (by decide) ?_
        exact law_count E1 hgd hmk hP hD hS hl hin hLn (by show 35 + j + 1 ≤ 1074; omega) (by show 1963 + 6 * j + 6 ≤ 10245; omega) (fun cy2 dy2 my2 o2 k2 H2 locs2 ls2 => nx d0 cy2 dy2 my2 o2 k2 H2 locs2 ls2 hd0)
      by_cases v7 : v = 7
      · skip
        refine tpi (x' := 7) (v7) ?_
        refine lv_tableIn (off := 561) (tgt := 600) hx hb dL_law_39 (by decide +kernel) (by decide +kernel) (by decide +kernel) (by decide) ?_
        exact law_walk E1 hgd hmk hP hD hS hl hin hLn (by show 35 + j + 1 ≤ 1074; omega) (by show 1963 + 6 * j + 6 ≤ 10245; omega) (fun cy2 dy2 my2 o2 k2 H2 locs2 ls2 => nx d0 cy2 dy2 my2 o2 k2 H2 locs2 ls2 hd0)
      by_cases v8 : v = 8
      · skip
        refine tpi (x' := 8) (v8) ?_
        refine lv_tableIn (off := 629) (tgt := 668) hx hb dL_law_39 (by decide +kernel) (by decide +kernel) (by decide +kernel) (by decide) ?_
        exact law_sail E1 hgd hmk hP hD hS hl hin hLn (by show 35 + j + 1 ≤ 1074; omega) (by show 1963 + 6 * j + 6 ≤ 10245; omega) (fun cy2 dy2 my2 o2 k2 H2 locs2 ls2 => nx d0 cy2 dy2 my2 o2 k2 H2 locs2 ls2 hd0)
      by_cases v9 : v = 9
      · skip
        refine tpi (x' := 9) (v9) ?_
        refine lv_tableIn (off := 685) (tgt := 724) hx hb dL_law_39 (by decide +kernel) (by decide +kernel) (by decide +kernel) (by decide) ?_
        exact law_pass E1 hgd hmk hP hD hS hl hin hLn (by show 35 + j + 1 ≤ 1074; omega) (by show 1963 + 6 * j + 6 ≤ 10245; omega) (fun cy2 dy2 my2 o2 k2 H2 locs2 ls2 => nx d0 cy2 dy2 my2 o2 k2 H2 locs2 ls2 hd0)
      by_cases v10 : v = 10
      · skip
        refine tpi (x' := 10) (v10) ?_
        refine lv_tableIn (off := 741) (tgt := 780) hx hb dL_law_39 (by decide +kernel) (by decide +kernel) (by decide +kernel) (by decide) ?_
        exact law_foresee E1 hgd hmk hP hD hS hl hin hLn (by show 35 + j + 1 ≤ 1074; omega) (by show 1963 + 6 * j + 6 ≤ 10245; omega) (fun cy2 dy2 my2 o2 k2 H2 locs2 ls2 => nx d0 cy2 dy2 my2 o2 k2 H2 locs2 ls2 hd0)
      by_cases v11 : v = 11
      · skip
        refine tpi (x' := 11) (v11) ?_
        refine lv_tableIn (off := 809) (tgt := 848) hx hb dL_law_39 (by decide +kernel) (by decide +kernel) (by decide +kernel) (by decide) ?_
        exact law_would E1 hgd hmk hP hD hS hl hin hLn (by show 35 + j + 1 ≤ 1074; omega) (by show 1963 + 6 * j + 6 ≤ 10245; omega) (fun cy2 dy2 my2 o2 k2 H2 locs2 ls2 => nx d0 cy2 dy2 my2 o2 k2 H2 locs2 ls2 hd0)
      by_cases v12 : v = 12
      · skip
        refine tpi (x' := 12) (v12) ?_
        refine lv_tableIn (off := 889) (tgt := 928) hx hb dL_law_39 (by decide +kernel) (by decide +kernel) (by decide +kernel) (by decide) ?_
        exact law_best E1 hgd hmk hP hD hS hl hin hLn (by show 35 + j + 1 ≤ 1074; omega) (by show 1963 + 6 * j + 6 ≤ 10245; omega) (fun cy2 dy2 my2 o2 k2 H2 locs2 ls2 => nx d0 cy2 dy2 my2 o2 k2 H2 locs2 ls2 hd0)
      by_cases v13 : v = 13
      · skip
        refine tpi (x' := 13) (v13) ?_
        refine lv_tableIn (off := 945) (tgt := 984) hx hb dL_law_39 (by decide +kernel) (by decide +kernel) (by decide +kernel) (by decide) ?_
        exact law_mean E0 hd0 hgd hmk hP hD hS hl hin hLn (by show 35 + j + 1 ≤ 1074; omega) (by show 1963 + 6 * j + 6 ≤ 10245; omega) nx
      by_cases v14 : v = 14
      · skip
        refine tpi (x' := 14) (v14) ?_
        refine lv_tableIn (off := 986) (tgt := 1025) hx hb dL_law_39 (by decide +kernel) (by decide +kernel) (by decide +kernel) (by decide) ?_
        exact law_digest E1 hgd hmk hP hD hS hl hin hLn (by show 35 + j + 1 ≤ 1074; omega) (by show 1963 + 6 * j + 6 ≤ 10245; omega) (fun cy2 dy2 my2 o2 k2 H2 locs2 ls2 => nx d0 cy2 dy2 my2 o2 k2 H2 locs2 ls2 hd0)
      refine lv_tableOut (tgt := 1039) hx hb dL_law_39 (tbl14 v0 v1 v2 v3 v4 v5 v6 v7 v8 v9 v10 v11 v12 v13 v14) (by decide) ?_
      refine w_widen (k := 35 + j + 1) (n := 1963 + 6 * j + 6) (by omega) (by omega) ?_
      exact nx d0 cy dy my o k H locs ls hd0 hgd hmk hP hD hS hl
    · skip
      refine lv_icmp_gt (tgt := 1045) hx hb dL_law_29 (by decide) (fun _ => ?_) (fun c => absurd (sub4_yes hLn (by omega) hin) c)
      refine lv_iconst (v := 1) hx hb dL_law_1045 (by decide) ?_
      refine w_widen (k := 1074) (n := 10245) (by omega) (by omega) ?_
      refine va_forget (fun q hq => hAz _ (hS.2.2 q hq)) ?_
      exact lw_ret hd0 hx hb hr hlocks dL_law_1046

def rmX2_thrown : Room := { frames := 0, cells := 0, slots := 0, locals := 0 }
set_option maxHeartbeats 4000000 in
set_option maxRecDepth 100000 in
/-- what was thrown -/
theorem c_X2_thrown (l : Launch) (G : va_G) (cI : ClassId) (b : Nat → Nat) (th mo co le : Int32)  : Met l yX2_thrown wsX2_thrown rmX2_thrown (va_Pc [.ref (b 0)] (RdP G cI [((b 0), oM b th mo co le)])) (RdQ th) 0 0 No := by
  refine Met.ofW (cc := cX2_thrown) (maxL := 1) (ret := (some .int)) (by decide) rfl ?_
  intro p e s m args below meth c s₁ B hml hv
  obtain ⟨rfl, hP, hK, hN⟩ := hv
  have hx := B.exec
  have hb := B.bytes
  have hr := B.returns
  have hlocks := B.notSynchronized
  have hts := atoms_spec (ws := wsX2_thrown) B.pre
  have hown : s.vm.findClass RX2 = some m.cls := findClass_of_methodNamed B.named
  have hS : va_S No s.heap s.heap [] := va_S.rf
  have FX : CallFix p m c cX2_thrown 1 s ([.ref (b 0)] : List Value).toArray wsX2_thrown RX2 := ⟨hx, hb, hml, hown, hts⟩
  have hl := lv_entry ([.ref (b 0)]) (n := 1) (Nat.le_of_ble_eq_true rfl)
  rw [lg_entry_eq]
  generalize (lg_sl ([.ref (b 0)]) ++ List.replicate (1 - (lg_sl ([.ref (b 0)])).length) Slot.unset).toArray = ls at hl ⊢
  have hl : lv_has ls 1 [(0, .ref (b 0))] := hl
  refine wq (fun Q hQ => ?_)
  have hzc : 0 + 0 ≤ (headSpec wsX2_thrown rmX2_thrown).room.cells := Nat.zero_le _
  have hzs : 0 + 0 ≤ (headSpec wsX2_thrown rmX2_thrown).room.slots := Nat.zero_le _
  have hf44 := hts (.fieldLink RX2 44 "CanalCityModel" "thrown" "I") (by decide +kernel)
  have hinX2 : ∀ w ∈ u_ws RX2 TX2 14, w ∈ wsX2_thrown := by decide +kernel
  refine lv_aload_n hx hb dX2_thrown_0 rfl (lv_at hl 0 rfl) ?_
  refine va_get (D := G) (ci := 2) (v := .int th) (C := RX2) (T := TX2) (N := 14) hx hb hts hinX2 hown hK hP 0 rfl rfl 0 (by decide) hf44 (fun _ h9 => h9) rfl dX2_thrown_1 ?_
  subst hQ
  exact rd_i (rfl) hx hb hr hS hlocks dX2_thrown_4

def rmX2_no : Room := { frames := 0, cells := 0, slots := 0, locals := 0 }
set_option maxHeartbeats 4000000 in
set_option maxRecDepth 100000 in
/-- no -/
theorem c_X2_no (l : Launch) (G : va_G) (cI : ClassId) (b : Nat → Nat) (th mo co le nr : Int32)  (sz : Nat) : Met l yX2_no wsX2_no rmX2_no (va_Pc [.ref (b 0), .int nr] (WrP G cI [((b 0), oM b th mo co le)] sz)) (va_Qi (fun (r : Int32) (_ : Unit) => r = 0) (WrB G [((b 0), oM b th mo co le)] sz (fun _ => [(b 0, oM b nr mo co le)])) (va_A [((b 0), oM b th mo co le)] sz)) 0 0 (va_A [((b 0), oM b th mo co le)] sz) := by
  refine Met.ofW (cc := cX2_no) (maxL := 2) (ret := (some .int)) (by decide) rfl ?_
  intro p e s m args below meth c s₁ B hml hv
  obtain ⟨rfl, hsz, hP, hK, hD0, hN⟩ := hv
  have hx := B.exec
  have hb := B.bytes
  have hr := B.returns
  have hlocks := B.notSynchronized
  have hts := atoms_spec (ws := wsX2_no) B.pre
  have hown : s.vm.findClass RX2 = some m.cls := findClass_of_methodNamed B.named
  subst hsz
  have hD := hD0.self (sz := s.heap.size)
  have hA : ∀ q : Nat, s.heap.size ≤ q → va_A [((b 0), oM b th mo co le)] s.heap.size q := fun q h => Or.inr h
  have hS : va_S (va_A [((b 0), oM b th mo co le)] s.heap.size) s.heap s.heap [] := va_S.rf
  obtain ⟨A, hAe⟩ : ∃ A, A = va_A [((b 0), oM b th mo co le)] s.heap.size := ⟨_, rfl⟩
  rw [← hAe] at hD hA hS
  have FX : CallFix p m c cX2_no 2 s ([.ref (b 0), .int nr] : List Value).toArray wsX2_no RX2 := ⟨hx, hb, hml, hown, hts⟩
  have hl := lv_entry ([.ref (b 0), .int nr]) (n := 2) (Nat.le_of_ble_eq_true rfl)
  rw [lg_entry_eq]
  generalize (lg_sl ([.ref (b 0), .int nr]) ++ List.replicate (2 - (lg_sl ([.ref (b 0), .int nr])).length) Slot.unset).toArray = ls at hl ⊢
  have hl : lv_has ls 2 [(0, .ref (b 0)), (1, .int nr)] := hl
  refine wq (fun Q hQ => ?_)
  have hzc : 0 + 0 ≤ (headSpec wsX2_no rmX2_no).room.cells := Nat.zero_le _
  have hzs : 0 + 0 ≤ (headSpec wsX2_no rmX2_no).room.slots := Nat.zero_le _
  have hf44 := hts (.fieldLink RX2 44 "CanalCityModel" "thrown" "I") (by decide +kernel)
  have hinX2 : ∀ w ∈ u_ws RX2 TX2 14, w ∈ wsX2_no := by decide +kernel
  refine lv_aload_n hx hb dX2_no_0 rfl (lv_at hl 0 rfl) ?_
  refine lv_iload_n hx hb dX2_no_1 rfl (lv_at hl 1 rfl) ?_
  refine va_put (D := G) (ci := 2) (v := .int nr) (ty := .int) (C := RX2) (T := TX2) (N := 14) hx hb hts hinX2 tyX2 tyX2_ok nmX2 hown hK hP hD hS 0 rfl rfl 0 (by decide) hf44 (fun _ h9 => h9) rfl (by decide +kernel) rfl rfl (Nat.le_of_ble_eq_true rfl) dX2_no_2 (fun H locs hP hD hS => ?_)
  have hP : va_P G vwCl [((b 0), oM b nr mo co le)] H := hP
  have hD : va_D A [((b 0), oM b nr mo co le)] := hD
  refine lv_iconst (v := 0) hx hb dX2_no_5 (by decide) ?_
  subst hQ
  subst hAe
  exact wr_i () (rfl) hx hb hr hP hD hS hlocks dX2_no_6

def rmX2_isBuilt : Room := { frames := 0, cells := 0, slots := 0, locals := 0 }
set_option maxHeartbeats 4000000 in
set_option maxRecDepth 100000 in
/-- built, if there are so many coins -/
theorem c_X2_isBuilt (l : Launch) (G : va_G) (cI : ClassId) (b : Nat → Nat) (th mo co le : Int32) (K : Nat → Int32) (pt : Nat) (v cs : Int32) (hpt : pt < 64) (sz : Nat) : Met l yX2_isBuilt wsX2_isBuilt rmX2_isBuilt (va_Pc [.ref (b 0), .int (nI pt), .int v, .int cs] (WrP G cI [((b 0), oM b th mo co le), ((b 4), iA cI K)] sz)) (va_Qi (fun (r : Int32) (u : Int32 × (Nat → Int32)) => r = b2i (decide (cs ≤ co)) ∧ u.1 = (if cs ≤ co then co - cs else co) ∧ u.2 = (if cs ≤ co then upd K pt v else K)) (WrB G [((b 0), oM b th mo co le), ((b 4), iA cI K)] sz (fun u => [(b 0, oM b th mo u.1 le), (b 4, iA cI u.2)])) (va_A [((b 0), oM b th mo co le), ((b 4), iA cI K)] sz)) 0 0 (va_A [((b 0), oM b th mo co le), ((b 4), iA cI K)] sz) := by
  refine Met.ofW (cc := cX2_isBuilt) (maxL := 4) (ret := (some .boolean)) (by decide) rfl ?_
  intro p e s m args below meth c s₁ B hml hv
  obtain ⟨rfl, hsz, hP, hK, hD0, hN⟩ := hv
  have hx := B.exec
  have hb := B.bytes
  have hr := B.returns
  have hlocks := B.notSynchronized
  have hts := atoms_spec (ws := wsX2_isBuilt) B.pre
  have hown : s.vm.findClass RX2 = some m.cls := findClass_of_methodNamed B.named
  subst hsz
  have hD := hD0.self (sz := s.heap.size)
  have hA : ∀ q : Nat, s.heap.size ≤ q → va_A [((b 0), oM b th mo co le), ((b 4), iA cI K)] s.heap.size q := fun q h => Or.inr h
  have hS : va_S (va_A [((b 0), oM b th mo co le), ((b 4), iA cI K)] s.heap.size) s.heap s.heap [] := va_S.rf
  obtain ⟨A, hAe⟩ : ∃ A, A = va_A [((b 0), oM b th mo co le), ((b 4), iA cI K)] s.heap.size := ⟨_, rfl⟩
  rw [← hAe] at hD hA hS
  have FX : CallFix p m c cX2_isBuilt 4 s ([.ref (b 0), .int (nI pt), .int v, .int cs] : List Value).toArray wsX2_isBuilt RX2 := ⟨hx, hb, hml, hown, hts⟩
  have hl := lv_entry ([.ref (b 0), .int (nI pt), .int v, .int cs]) (n := 4) (Nat.le_of_ble_eq_true rfl)
  rw [lg_entry_eq]
  generalize (lg_sl ([.ref (b 0), .int (nI pt), .int v, .int cs]) ++ List.replicate (4 - (lg_sl ([.ref (b 0), .int (nI pt), .int v, .int cs])).length) Slot.unset).toArray = ls at hl ⊢
  have hl : lv_has ls 4 [(0, .ref (b 0)), (1, .int (nI pt)), (2, .int v), (3, .int cs)] := hl
  refine wq (fun Q hQ => ?_)
  have hzc : 0 + 0 ≤ (headSpec wsX2_isBuilt rmX2_isBuilt).room.cells := Nat.zero_le _
  have hzs : 0 + 0 ≤ (headSpec wsX2_isBuilt rmX2_isBuilt).room.slots := Nat.zero_le _
  have hf13 := hts (.fieldLink RX2 13 "CanalCityModel" "kind" "[I") (by decide +kernel)
  have hf7 := hts (.fieldLink RX2 7 "CanalCityModel" "coins" "I") (by decide +kernel)
  have hinX2 : ∀ w ∈ u_ws RX2 TX2 14, w ∈ wsX2_isBuilt := by decide +kernel
  refine lv_aload_n hx hb dX2_isBuilt_0 rfl (lv_at hl 0 rfl) ?_
  refine va_get (D := G) (ci := 2) (v := .int co) (C := RX2) (T := TX2) (N := 14) hx hb hts hinX2 hown hK hP 0 rfl rfl 2 (by decide) hf7 (fun _ h9 => h9) rfl dX2_isBuilt_1 ?_
  refine lv_iload_n hx hb dX2_isBuilt_4 rfl (lv_at hl 3 rfl) ?_
  refine lv_icmp_ge (tgt := 10) hx hb dX2_isBuilt_5 (by decide) (fun c1 => ?_) (fun c1 => ?_)
  · skip
    refine lv_aload_n hx hb dX2_isBuilt_10 rfl (lv_at hl 0 rfl) ?_
    refine lv_dup hx hb dX2_isBuilt_11 rfl ?_
    refine va_get (D := G) (ci := 2) (v := .int co) (C := RX2) (T := TX2) (N := 14) hx hb hts hinX2 hown hK hP 0 rfl rfl 2 (by decide) hf7 (fun _ h9 => h9) rfl dX2_isBuilt_12 ?_
    refine lv_iload_n hx hb dX2_isBuilt_15 rfl (lv_at hl 3 rfl) ?_
    refine lv_isub hx hb dX2_isBuilt_16 ?_
    refine va_put (D := G) (ci := 2) (v := .int (co - cs)) (ty := .int) (C := RX2) (T := TX2) (N := 14) hx hb hts hinX2 tyX2 tyX2_ok nmX2 hown hK hP hD hS 0 rfl rfl 2 (by decide) hf7 (fun _ h9 => h9) rfl (by decide +kernel) rfl rfl (Nat.le_of_ble_eq_true rfl) dX2_isBuilt_17 (fun H locs hP hD hS => ?_)
    have hP : va_P G vwCl [((b 0), oM b th mo (co - cs) le), ((b 4), iA cI K)] H := hP
    have hD : va_D A [((b 0), oM b th mo (co - cs) le), ((b 4), iA cI K)] := hD
    refine lv_aload_n hx hb dX2_isBuilt_20 rfl (lv_at hl 0 rfl) ?_
    refine va_get (D := G) (ci := 2) (v := .ref (b 4)) (C := RX2) (T := TX2) (N := 14) hx hb hts hinX2 hown hK hP 0 rfl rfl 4 (by decide) hf13 (fun _ h9 => h9) rfl dX2_isBuilt_21 ?_
    refine lv_iload_n hx hb dX2_isBuilt_24 rfl (lv_at hl 1 rfl) ?_
    refine lv_iload_n hx hb dX2_isBuilt_25 rfl (lv_at hl 2 rfl) ?_
    refine va_iast hx hb hK hP hD hS 1 0 rfl rfl (vp_in_nI hpt (by decide)) dX2_isBuilt_26 (fun H locs hP hD hS => ?_)
    rw [show ((nI pt)).toNatClampNeg = pt from nI_clamp (by omega)] at hP hD
    have hP : va_P G vwCl [((b 0), oM b th mo (co - cs) le), ((b 4), iA cI (upd K pt v))] H := hP
    have hD : va_D A [((b 0), oM b th mo (co - cs) le), ((b 4), iA cI (upd K pt v))] := hD
    refine lv_iconst (v := 1) hx hb dX2_isBuilt_27 (by decide) ?_
    subst hQ
    subst hAe
    exact wr_z (co - cs, upd K pt v) (⟨by rw [decide_eq_true c1]; rfl, by rw [if_pos c1], by rw [if_pos c1]⟩) (by rfl) hx hb hr hP hD hS hlocks dX2_isBuilt_28
  · skip
    refine lv_iconst (v := 0) hx hb dX2_isBuilt_8 (by decide) ?_
    subst hQ
    subst hAe
    exact wr_z (co, K) (⟨by rw [decide_eq_false c1]; rfl, by rw [if_neg c1], by rw [if_neg c1]⟩) (by rfl) hx hb hr hP hD hS hlocks dX2_isBuilt_9

def rmX2_drain : Room := { frames := 2, cells := 0, slots := 0, locals := 43 }
set_option maxHeartbeats 4000000 in
set_option maxRecDepth 100000 in
theorem c_X2_drain (l : Launch) (G : va_G) (cI : ClassId) (b : Nat → Nat) (th mo co le : Int32) (K Ah Ot Qm Op Lm Hm Mm Rw St k : Nat → Int32) (x y : Int32) (hk : eqK K k) (sz : Nat) : Met l yX2_drain wsX2_drain rmX2_drain (va_Pc [.ref (b 0), .int x, .int y] (WrP G cI [((b 0), oM b th mo co le), ((b 4), iA cI K), ((b 5), iA cI Ah), ((b 6), iA cI Ot), ((b 7), iA cI Qm), ((b 8), iA cI Op), ((b 9), iA cI Lm), ((b 10), iA cI Hm), ((b 11), iA cI Mm), ((b 12), iA cI Rw), ((b 13), iA cI St)] sz)) (va_Qi (fun (r : Int32) (u : Nat → Int32) => ((cdDrain k co x y) = 0 → r = co - 2) ∧ eqK u (nkO (cdDrain k co x y) k (pAt x y) 2)) (WrB G [((b 0), oM b th mo co le), ((b 4), iA cI K), ((b 5), iA cI Ah), ((b 6), iA cI Ot), ((b 7), iA cI Qm), ((b 8), iA cI Op), ((b 9), iA cI Lm), ((b 10), iA cI Hm), ((b 11), iA cI Mm), ((b 12), iA cI Rw), ((b 13), iA cI St)] sz (fun u => [(b 0, oM b (cdDrain k co x y) mo (ncO (cdDrain k co x y) co 2) le), (b 4, iA cI u), (b 5, iA cI Ah), (b 6, iA cI Ot), (b 7, iA cI Qm), (b 8, iA cI Op), (b 9, iA cI Lm), (b 10, iA cI Hm), (b 11, iA cI Mm), (b 12, iA cI Rw), (b 13, iA cI St)])) (va_A [((b 0), oM b th mo co le), ((b 4), iA cI K), ((b 5), iA cI Ah), ((b 6), iA cI Ot), ((b 7), iA cI Qm), ((b 8), iA cI Op), ((b 9), iA cI Lm), ((b 10), iA cI Hm), ((b 11), iA cI Mm), ((b 12), iA cI Rw), ((b 13), iA cI St)] sz)) 0 0 (va_A [((b 0), oM b th mo co le), ((b 4), iA cI K), ((b 5), iA cI Ah), ((b 6), iA cI Ot), ((b 7), iA cI Qm), ((b 8), iA cI Op), ((b 9), iA cI Lm), ((b 10), iA cI Hm), ((b 11), iA cI Mm), ((b 12), iA cI Rw), ((b 13), iA cI St)] sz) := by
  refine Met.ofW (cc := cX2_drain) (maxL := 3) (ret := (some .int)) (by decide) rfl ?_
  intro p e s m args below meth c s₁ B hml hv
  obtain ⟨rfl, hsz, hP, hK, hD0, hN⟩ := hv
  have hx := B.exec
  have hb := B.bytes
  have hr := B.returns
  have hlocks := B.notSynchronized
  have hts := atoms_spec (ws := wsX2_drain) B.pre
  have hown : s.vm.findClass RX2 = some m.cls := findClass_of_methodNamed B.named
  subst hsz
  have hD := hD0.self (sz := s.heap.size)
  have hA : ∀ q : Nat, s.heap.size ≤ q → va_A [((b 0), oM b th mo co le), ((b 4), iA cI K), ((b 5), iA cI Ah), ((b 6), iA cI Ot), ((b 7), iA cI Qm), ((b 8), iA cI Op), ((b 9), iA cI Lm), ((b 10), iA cI Hm), ((b 11), iA cI Mm), ((b 12), iA cI Rw), ((b 13), iA cI St)] s.heap.size q := fun q h => Or.inr h
  have hS : va_S (va_A [((b 0), oM b th mo co le), ((b 4), iA cI K), ((b 5), iA cI Ah), ((b 6), iA cI Ot), ((b 7), iA cI Qm), ((b 8), iA cI Op), ((b 9), iA cI Lm), ((b 10), iA cI Hm), ((b 11), iA cI Mm), ((b 12), iA cI Rw), ((b 13), iA cI St)] s.heap.size) s.heap s.heap [] := va_S.rf
  obtain ⟨A, hAe⟩ : ∃ A, A = va_A [((b 0), oM b th mo co le), ((b 4), iA cI K), ((b 5), iA cI Ah), ((b 6), iA cI Ot), ((b 7), iA cI Qm), ((b 8), iA cI Op), ((b 9), iA cI Lm), ((b 10), iA cI Hm), ((b 11), iA cI Mm), ((b 12), iA cI Rw), ((b 13), iA cI St)] s.heap.size := ⟨_, rfl⟩
  rw [← hAe] at hD hA hS
  have FX : CallFix p m c cX2_drain 3 s ([.ref (b 0), .int x, .int y] : List Value).toArray wsX2_drain RX2 := ⟨hx, hb, hml, hown, hts⟩
  have hl := lv_entry ([.ref (b 0), .int x, .int y]) (n := 3) (Nat.le_of_ble_eq_true rfl)
  rw [lg_entry_eq]
  generalize (lg_sl ([.ref (b 0), .int x, .int y]) ++ List.replicate (3 - (lg_sl ([.ref (b 0), .int x, .int y])).length) Slot.unset).toArray = ls at hl ⊢
  have hl : lv_has ls 3 [(0, .ref (b 0)), (1, .int x), (2, .int y)] := hl
  refine wq (fun Q hQ => ?_)
  have hzc : 0 + 0 ≤ (headSpec wsX2_drain rmX2_drain).room.cells := Nat.zero_le _
  have hzs : 0 + 0 ≤ (headSpec wsX2_drain rmX2_drain).room.slots := Nat.zero_le _
  have hf13 := hts (.fieldLink RX2 13 "CanalCityModel" "kind" "[I") (by decide +kernel)
  have hf44 := hts (.fieldLink RX2 44 "CanalCityModel" "thrown" "I") (by decide +kernel)
  have hf7 := hts (.fieldLink RX2 7 "CanalCityModel" "coins" "I") (by decide +kernel)
  have hinX2 : ∀ w ∈ u_ws RX2 TX2 14, w ∈ wsX2_drain := by decide +kernel
  refine lv_aload_n hx hb dX2_drain_0 rfl (lv_at hl 0 rfl) ?_
  refine lv_iconst (v := 0) hx hb dX2_drain_1 (by decide) ?_
  refine va_put (D := G) (ci := 2) (v := .int 0) (ty := .int) (C := RX2) (T := TX2) (N := 14) hx hb hts hinX2 tyX2 tyX2_ok nmX2 hown hK hP hD hS 0 rfl rfl 0 (by decide) hf44 (fun _ h9 => h9) rfl (by decide +kernel) rfl rfl (Nat.le_of_ble_eq_true rfl) dX2_drain_2 (fun H locs hP hD hS => ?_)
  have hP : va_P G vwCl [((b 0), oM b 0 mo co le), ((b 4), iA cI K), ((b 5), iA cI Ah), ((b 6), iA cI Ot), ((b 7), iA cI Qm), ((b 8), iA cI Op), ((b 9), iA cI Lm), ((b 10), iA cI Hm), ((b 11), iA cI Mm), ((b 12), iA cI Rw), ((b 13), iA cI St)] H := hP
  have hD : va_D A [((b 0), oM b 0 mo co le), ((b 4), iA cI K), ((b 5), iA cI Ah), ((b 6), iA cI Ot), ((b 7), iA cI Qm), ((b 8), iA cI Op), ((b 9), iA cI Lm), ((b 10), iA cI Hm), ((b 11), iA cI Mm), ((b 12), iA cI Rw), ((b 13), iA cI St)] := hD
  refine lv_iload_n hx hb dX2_drain_5 rfl (lv_at hl 1 rfl) ?_
  refine lv_iload_n hx hb dX2_drain_6 rfl (lv_at hl 2 rfl) ?_
  refine cr_i (va_runS (As := [.int x, .int y]) (rest := []) FX (c_X2_isPlace l x y) (va_cwS 2 hts gX2_drain_X2_isPlace rfl rfl rfl (by decide +kernel) ⟨Nat.le_of_ble_eq_true rfl, Nat.le_of_ble_eq_true rfl⟩) puS rfl rfl hl.1 rfl (lv_room (Nat.le_of_ble_eq_true rfl)) dX2_drain_7 ⟨hzc, hzs⟩) hS hP (fun H locs hP hS => ?_)
  rcases hpl : (inB 0 7 x && inB 0 7 y) with _ | _
  · skip
    have hcd : (cdDrain k co x y) = 1 := by unfold cdDrain; rw [hpl]; rfl
    refine tpi (x' := 0) (rfl) ?_
    refine lv_if_ne (tgt := 19) hx hb dX2_drain_10 (by decide) (fun c => absurd (rfl) c) (fun _ => ?_)
    refine lv_aload_n hx hb dX2_drain_13 rfl (lv_at hl 0 rfl) ?_
    refine lv_iconst (v := 1) hx hb dX2_drain_14 (by decide) ?_
    refine cw_i (wr := [((b 4), iA cI K), ((b 5), iA cI Ah), ((b 6), iA cI Ot), ((b 7), iA cI Qm), ((b 8), iA cI Op), ((b 9), iA cI Lm), ((b 10), iA cI Hm), ((b 11), iA cI Mm), ((b 12), iA cI Rw), ((b 13), iA cI St)]) (va_runV (As := [.int 1]) (rest := []) FX (c_X2_no l G cI b 0 mo co le 1 _) (cwV 1 hts gX2_drain_X2_no rfl rfl rfl (by decide +kernel) ⟨Nat.le_of_ble_eq_true rfl, Nat.le_of_ble_eq_true rfl⟩) (wrV hK hP hD hN [0] (by decide) rfl rfl (ci := 2) (q0 := 0) rfl rfl) rfl rfl hl.1 rfl (lv_room (Nat.le_of_ble_eq_true rfl)) dX2_drain_15 ⟨hzc, hzs⟩) hS hP hD hA [0] [1, 2, 3, 4, 5, 6, 7, 8, 9, 10] rfl rfl (by decide) (by decide) (fun r0 u H locs hw hP hD hS => ?_)
    have hP := hP.sub (ws' := [((b 0), oM b 1 mo co le), ((b 4), iA cI K), ((b 5), iA cI Ah), ((b 6), iA cI Ot), ((b 7), iA cI Qm), ((b 8), iA cI Op), ((b 9), iA cI Lm), ((b 10), iA cI Hm), ((b 11), iA cI Mm), ((b 12), iA cI Rw), ((b 13), iA cI St)]) [10, 0, 1, 2, 3, 4, 5, 6, 7, 8, 9] rfl
    have hD := hD.sub (ws' := [((b 0), oM b 1 mo co le), ((b 4), iA cI K), ((b 5), iA cI Ah), ((b 6), iA cI Ot), ((b 7), iA cI Qm), ((b 8), iA cI Op), ((b 9), iA cI Lm), ((b 10), iA cI Hm), ((b 11), iA cI Mm), ((b 12), iA cI Rw), ((b 13), iA cI St)]) [10, 0, 1, 2, 3, 4, 5, 6, 7, 8, 9] (by decide) rfl
    refine tpi (x' := 0) (hw) ?_
    subst hQ
    subst hAe
    rw [hcd, ncO_n (by decide), nkO_n (by decide)]
    exact wr_i K (⟨fun e => absurd e (by decide), hk⟩) hx hb hr hP hD hS hlocks dX2_drain_18
  · skip
    have hat := plc_at hpl
    refine tpi (x' := 1) (rfl) ?_
    refine lv_if_ne (tgt := 19) hx hb dX2_drain_10 (by decide) (fun _ => ?_) (fun c => absurd c (by decide))
    refine lv_aload_n hx hb dX2_drain_19 rfl (lv_at hl 0 rfl) ?_
    refine va_get (D := G) (ci := 2) (v := .ref (b 4)) (C := RX2) (T := TX2) (N := 14) hx hb hts hinX2 hown hK hP 0 rfl rfl 4 (by decide) hf13 (fun _ h9 => h9) rfl dX2_drain_20 ?_
    refine lv_bipush (v := 8) hx hb dX2_drain_23 (by decide) ?_
    refine lv_iload_n hx hb dX2_drain_25 rfl (lv_at hl 2 rfl) ?_
    refine lv_imul hx hb dX2_drain_26 ?_
    refine lv_iload_n hx hb dX2_drain_27 rfl (lv_at hl 1 rfl) ?_
    refine lv_iadd hx hb dX2_drain_28 ?_
    refine tpi (x' := nI (pAt x y)) (hat.2) ?_
    refine va_iald hx hb hK hP 1 0 rfl rfl (vp_in_nI hat.1 (by decide)) dX2_drain_29 ?_
    refine tpi (x' := K (pAt x y)) (congrArg K (nI_clamp (by omega))) ?_
    refine tpi (x' := k (pAt x y)) (hk _ hat.1) ?_
    refine lv_if_ne (tgt := 55) hx hb dX2_drain_30 (by decide) (fun c0 => ?_) (fun c0 => ?_)
    · skip
      have hcd : (cdDrain k co x y) = 2 := by unfold cdDrain; rw [hpl]; rw [if_pos rfl, if_neg (fun e => c0 e.1)]
      refine lv_aload_n hx hb dX2_drain_55 rfl (lv_at hl 0 rfl) ?_
      refine lv_iconst (v := 2) hx hb dX2_drain_56 (by decide) ?_
      refine cw_i (wr := [((b 4), iA cI K), ((b 5), iA cI Ah), ((b 6), iA cI Ot), ((b 7), iA cI Qm), ((b 8), iA cI Op), ((b 9), iA cI Lm), ((b 10), iA cI Hm), ((b 11), iA cI Mm), ((b 12), iA cI Rw), ((b 13), iA cI St)]) (va_runV (As := [.int 2]) (rest := []) FX (c_X2_no l G cI b 0 mo co le 2 _) (cwV 1 hts gX2_drain_X2_no rfl rfl rfl (by decide +kernel) ⟨Nat.le_of_ble_eq_true rfl, Nat.le_of_ble_eq_true rfl⟩) (wrV hK hP hD hN [0] (by decide) rfl rfl (ci := 2) (q0 := 0) rfl rfl) rfl rfl hl.1 rfl (lv_room (Nat.le_of_ble_eq_true rfl)) dX2_drain_57 ⟨hzc, hzs⟩) hS hP hD hA [0] [1, 2, 3, 4, 5, 6, 7, 8, 9, 10] rfl rfl (by decide) (by decide) (fun r0 u H locs hw hP hD hS => ?_)
      have hP := hP.sub (ws' := [((b 0), oM b 2 mo co le), ((b 4), iA cI K), ((b 5), iA cI Ah), ((b 6), iA cI Ot), ((b 7), iA cI Qm), ((b 8), iA cI Op), ((b 9), iA cI Lm), ((b 10), iA cI Hm), ((b 11), iA cI Mm), ((b 12), iA cI Rw), ((b 13), iA cI St)]) [10, 0, 1, 2, 3, 4, 5, 6, 7, 8, 9] rfl
      have hD := hD.sub (ws' := [((b 0), oM b 2 mo co le), ((b 4), iA cI K), ((b 5), iA cI Ah), ((b 6), iA cI Ot), ((b 7), iA cI Qm), ((b 8), iA cI Op), ((b 9), iA cI Lm), ((b 10), iA cI Hm), ((b 11), iA cI Mm), ((b 12), iA cI Rw), ((b 13), iA cI St)]) [10, 0, 1, 2, 3, 4, 5, 6, 7, 8, 9] (by decide) rfl
      refine tpi (x' := 0) (hw) ?_
      subst hQ
      subst hAe
      rw [hcd, ncO_n (by decide), nkO_n (by decide)]
      exact wr_i K (⟨fun e => absurd e (by decide), hk⟩) hx hb hr hP hD hS hlocks dX2_drain_60
    · skip
      refine lv_aload_n hx hb dX2_drain_33 rfl (lv_at hl 0 rfl) ?_
      refine lv_bipush (v := 8) hx hb dX2_drain_34 (by decide) ?_
      refine lv_iload_n hx hb dX2_drain_36 rfl (lv_at hl 2 rfl) ?_
      refine lv_imul hx hb dX2_drain_37 ?_
      refine lv_iload_n hx hb dX2_drain_38 rfl (lv_at hl 1 rfl) ?_
      refine lv_iadd hx hb dX2_drain_39 ?_
      refine tpi (x' := nI (pAt x y)) (hat.2) ?_
      refine lv_iconst (v := 2) hx hb dX2_drain_40 (by decide) ?_
      refine lv_iconst (v := 2) hx hb dX2_drain_41 (by decide) ?_
      refine cw_i (wr := [((b 5), iA cI Ah), ((b 6), iA cI Ot), ((b 7), iA cI Qm), ((b 8), iA cI Op), ((b 9), iA cI Lm), ((b 10), iA cI Hm), ((b 11), iA cI Mm), ((b 12), iA cI Rw), ((b 13), iA cI St)]) (va_runV (As := [.int (nI (pAt x y)), .int 2, .int 2]) (rest := []) FX (c_X2_isBuilt l G cI b 0 mo co le K (pAt x y) 2 2 hat.1 _) (cwV 3 hts gX2_drain_X2_isBuilt rfl rfl rfl (by decide +kernel) ⟨Nat.le_of_ble_eq_true rfl, Nat.le_of_ble_eq_true rfl⟩) (wrV hK hP hD hN [0, 1] (by decide) rfl rfl (ci := 2) (q0 := 0) rfl rfl) rfl rfl hl.1 rfl (lv_room (Nat.le_of_ble_eq_true rfl)) dX2_drain_42 ⟨hzc, hzs⟩) hS hP hD hA [0, 1] [2, 3, 4, 5, 6, 7, 8, 9, 10] rfl rfl (by decide) (by decide) (fun r9 u H locs hw hP hD hS => ?_)
      obtain ⟨cz, K2⟩ := u
      obtain ⟨hr9, hc2, hK2⟩ := hw
      have hP := hP.sub (ws' := [((b 0), oM b 0 mo cz le), ((b 4), iA cI K2), ((b 5), iA cI Ah), ((b 6), iA cI Ot), ((b 7), iA cI Qm), ((b 8), iA cI Op), ((b 9), iA cI Lm), ((b 10), iA cI Hm), ((b 11), iA cI Mm), ((b 12), iA cI Rw), ((b 13), iA cI St)]) [9, 10, 0, 1, 2, 3, 4, 5, 6, 7, 8] rfl
      have hD := hD.sub (ws' := [((b 0), oM b 0 mo cz le), ((b 4), iA cI K2), ((b 5), iA cI Ah), ((b 6), iA cI Ot), ((b 7), iA cI Qm), ((b 8), iA cI Op), ((b 9), iA cI Lm), ((b 10), iA cI Hm), ((b 11), iA cI Mm), ((b 12), iA cI Rw), ((b 13), iA cI St)]) [9, 10, 0, 1, 2, 3, 4, 5, 6, 7, 8] (by decide) rfl
      have hc2 : cz = (if 2 ≤ co then co - 2 else co) := hc2
      have hK2 : K2 = (if 2 ≤ co then upd K (pAt x y) 2 else K) := hK2
      by_cases hcs : 2 ≤ co
      · skip
        have hc3 := hc2.trans (if_pos hcs)
        have hK3 := hK2.trans (if_pos hcs)
        rw [hc3, hK3] at hP hD
        have hcd : (cdDrain k co x y) = 0 := by unfold cdDrain; rw [hpl]; rw [if_pos rfl, if_pos ⟨c0, hcs⟩]
        refine tpi (x' := 1) (by rw [hr9, decide_eq_true hcs]; rfl) ?_
        refine lv_if_eq (tgt := 55) hx hb dX2_drain_45 (by decide) (fun c => absurd c (by decide)) (fun _ => ?_)
        refine lv_aload_n hx hb dX2_drain_48 rfl (lv_at hl 0 rfl) ?_
        refine va_get (D := G) (ci := 2) (v := .int (co - 2)) (C := RX2) (T := TX2) (N := 14) hx hb hts hinX2 hown hK hP 0 rfl rfl 2 (by decide) hf7 (fun _ h9 => h9) rfl dX2_drain_49 ?_
        refine lv_goto (tgt := 60) hx hb dX2_drain_52 (by decide) ?_
        subst hQ
        subst hAe
        rw [hcd, ncO_0, nkO_0]
        exact wr_i (upd K (pAt x y) 2) (⟨fun _ => rfl, eqK_upd hk⟩) hx hb hr hP hD hS hlocks dX2_drain_60
      · skip
        have hc3 := hc2.trans (if_neg hcs)
        have hK3 := hK2.trans (if_neg hcs)
        rw [hc3, hK3] at hP hD
        have hcd : (cdDrain k co x y) = 2 := by unfold cdDrain; rw [hpl]; rw [if_pos rfl, if_neg (fun e => hcs e.2)]
        refine tpi (x' := 0) (by rw [hr9, decide_eq_false hcs]; rfl) ?_
        refine lv_if_eq (tgt := 55) hx hb dX2_drain_45 (by decide) (fun _ => ?_) (fun c => absurd (rfl) c)
        refine lv_aload_n hx hb dX2_drain_55 rfl (lv_at hl 0 rfl) ?_
        refine lv_iconst (v := 2) hx hb dX2_drain_56 (by decide) ?_
        refine cw_i (wr := [((b 4), iA cI K), ((b 5), iA cI Ah), ((b 6), iA cI Ot), ((b 7), iA cI Qm), ((b 8), iA cI Op), ((b 9), iA cI Lm), ((b 10), iA cI Hm), ((b 11), iA cI Mm), ((b 12), iA cI Rw), ((b 13), iA cI St)]) (va_runV (As := [.int 2]) (rest := []) FX (c_X2_no l G cI b 0 mo co le 2 _) (cwV 1 hts gX2_drain_X2_no rfl rfl rfl (by decide +kernel) ⟨Nat.le_of_ble_eq_true rfl, Nat.le_of_ble_eq_true rfl⟩) (wrV hK hP hD hN [0] (by decide) rfl rfl (ci := 2) (q0 := 0) rfl rfl) rfl rfl hl.1 rfl (lv_room (Nat.le_of_ble_eq_true rfl)) dX2_drain_57 ⟨hzc, hzs⟩) hS hP hD hA [0] [1, 2, 3, 4, 5, 6, 7, 8, 9, 10] rfl rfl (by decide) (by decide) (fun r0 u H locs hw hP hD hS => ?_)
        have hP := hP.sub (ws' := [((b 0), oM b 2 mo co le), ((b 4), iA cI K), ((b 5), iA cI Ah), ((b 6), iA cI Ot), ((b 7), iA cI Qm), ((b 8), iA cI Op), ((b 9), iA cI Lm), ((b 10), iA cI Hm), ((b 11), iA cI Mm), ((b 12), iA cI Rw), ((b 13), iA cI St)]) [10, 0, 1, 2, 3, 4, 5, 6, 7, 8, 9] rfl
        have hD := hD.sub (ws' := [((b 0), oM b 2 mo co le), ((b 4), iA cI K), ((b 5), iA cI Ah), ((b 6), iA cI Ot), ((b 7), iA cI Qm), ((b 8), iA cI Op), ((b 9), iA cI Lm), ((b 10), iA cI Hm), ((b 11), iA cI Mm), ((b 12), iA cI Rw), ((b 13), iA cI St)]) [10, 0, 1, 2, 3, 4, 5, 6, 7, 8, 9] (by decide) rfl
        refine tpi (x' := 0) (hw) ?_
        subst hQ
        subst hAe
        rw [hcd, ncO_n (by decide), nkO_n (by decide)]
        exact wr_i K (⟨fun e => absurd e (by decide), hk⟩) hx hb hr hP hD hS hlocks dX2_drain_60

def rmX2_dig : Room := { frames := 2, cells := 0, slots := 0, locals := 43 }
set_option maxHeartbeats 4000000 in
set_option maxRecDepth 100000 in
theorem c_X2_dig (l : Launch) (G : va_G) (cI : ClassId) (b : Nat → Nat) (th mo co le : Int32) (K Ah Ot Qm Op Lm Hm Mm Rw St k : Nat → Int32) (x y : Int32) (hk : eqK K k) (sz : Nat) : Met l yX2_dig wsX2_dig rmX2_dig (va_Pc [.ref (b 0), .int x, .int y] (WrP G cI [((b 0), oM b th mo co le), ((b 4), iA cI K), ((b 5), iA cI Ah), ((b 6), iA cI Ot), ((b 7), iA cI Qm), ((b 8), iA cI Op), ((b 9), iA cI Lm), ((b 10), iA cI Hm), ((b 11), iA cI Mm), ((b 12), iA cI Rw), ((b 13), iA cI St)] sz)) (va_Qi (fun (r : Int32) (u : Nat → Int32) => ((cdDig k co x y) = 0 → r = co - 3) ∧ eqK u (nkO (cdDig k co x y) k (pAt x y) 1)) (WrB G [((b 0), oM b th mo co le), ((b 4), iA cI K), ((b 5), iA cI Ah), ((b 6), iA cI Ot), ((b 7), iA cI Qm), ((b 8), iA cI Op), ((b 9), iA cI Lm), ((b 10), iA cI Hm), ((b 11), iA cI Mm), ((b 12), iA cI Rw), ((b 13), iA cI St)] sz (fun u => [(b 0, oM b (cdDig k co x y) mo (ncO (cdDig k co x y) co 3) le), (b 4, iA cI u), (b 5, iA cI Ah), (b 6, iA cI Ot), (b 7, iA cI Qm), (b 8, iA cI Op), (b 9, iA cI Lm), (b 10, iA cI Hm), (b 11, iA cI Mm), (b 12, iA cI Rw), (b 13, iA cI St)])) (va_A [((b 0), oM b th mo co le), ((b 4), iA cI K), ((b 5), iA cI Ah), ((b 6), iA cI Ot), ((b 7), iA cI Qm), ((b 8), iA cI Op), ((b 9), iA cI Lm), ((b 10), iA cI Hm), ((b 11), iA cI Mm), ((b 12), iA cI Rw), ((b 13), iA cI St)] sz)) 0 0 (va_A [((b 0), oM b th mo co le), ((b 4), iA cI K), ((b 5), iA cI Ah), ((b 6), iA cI Ot), ((b 7), iA cI Qm), ((b 8), iA cI Op), ((b 9), iA cI Lm), ((b 10), iA cI Hm), ((b 11), iA cI Mm), ((b 12), iA cI Rw), ((b 13), iA cI St)] sz) := by
  refine Met.ofW (cc := cX2_dig) (maxL := 4) (ret := (some .int)) (by decide) rfl ?_
  intro p e s m args below meth c s₁ B hml hv
  obtain ⟨rfl, hsz, hP, hK, hD0, hN⟩ := hv
  have hx := B.exec
  have hb := B.bytes
  have hr := B.returns
  have hlocks := B.notSynchronized
  have hts := atoms_spec (ws := wsX2_dig) B.pre
  have hown : s.vm.findClass RX2 = some m.cls := findClass_of_methodNamed B.named
  subst hsz
  have hD := hD0.self (sz := s.heap.size)
  have hA : ∀ q : Nat, s.heap.size ≤ q → va_A [((b 0), oM b th mo co le), ((b 4), iA cI K), ((b 5), iA cI Ah), ((b 6), iA cI Ot), ((b 7), iA cI Qm), ((b 8), iA cI Op), ((b 9), iA cI Lm), ((b 10), iA cI Hm), ((b 11), iA cI Mm), ((b 12), iA cI Rw), ((b 13), iA cI St)] s.heap.size q := fun q h => Or.inr h
  have hS : va_S (va_A [((b 0), oM b th mo co le), ((b 4), iA cI K), ((b 5), iA cI Ah), ((b 6), iA cI Ot), ((b 7), iA cI Qm), ((b 8), iA cI Op), ((b 9), iA cI Lm), ((b 10), iA cI Hm), ((b 11), iA cI Mm), ((b 12), iA cI Rw), ((b 13), iA cI St)] s.heap.size) s.heap s.heap [] := va_S.rf
  obtain ⟨A, hAe⟩ : ∃ A, A = va_A [((b 0), oM b th mo co le), ((b 4), iA cI K), ((b 5), iA cI Ah), ((b 6), iA cI Ot), ((b 7), iA cI Qm), ((b 8), iA cI Op), ((b 9), iA cI Lm), ((b 10), iA cI Hm), ((b 11), iA cI Mm), ((b 12), iA cI Rw), ((b 13), iA cI St)] s.heap.size := ⟨_, rfl⟩
  rw [← hAe] at hD hA hS
  have FX : CallFix p m c cX2_dig 4 s ([.ref (b 0), .int x, .int y] : List Value).toArray wsX2_dig RX2 := ⟨hx, hb, hml, hown, hts⟩
  have hl := lv_entry ([.ref (b 0), .int x, .int y]) (n := 4) (Nat.le_of_ble_eq_true rfl)
  rw [lg_entry_eq]
  generalize (lg_sl ([.ref (b 0), .int x, .int y]) ++ List.replicate (4 - (lg_sl ([.ref (b 0), .int x, .int y])).length) Slot.unset).toArray = ls at hl ⊢
  have hl : lv_has ls 4 [(0, .ref (b 0)), (1, .int x), (2, .int y)] := hl
  refine wq (fun Q hQ => ?_)
  have hzc : 0 + 0 ≤ (headSpec wsX2_dig rmX2_dig).room.cells := Nat.zero_le _
  have hzs : 0 + 0 ≤ (headSpec wsX2_dig rmX2_dig).room.slots := Nat.zero_le _
  have hf13 := hts (.fieldLink RX2 13 "CanalCityModel" "kind" "[I") (by decide +kernel)
  have hf44 := hts (.fieldLink RX2 44 "CanalCityModel" "thrown" "I") (by decide +kernel)
  have hf7 := hts (.fieldLink RX2 7 "CanalCityModel" "coins" "I") (by decide +kernel)
  have hinX2 : ∀ w ∈ u_ws RX2 TX2 14, w ∈ wsX2_dig := by decide +kernel
  refine lv_aload_n hx hb dX2_dig_0 rfl (lv_at hl 0 rfl) ?_
  refine lv_iconst (v := 0) hx hb dX2_dig_1 (by decide) ?_
  refine va_put (D := G) (ci := 2) (v := .int 0) (ty := .int) (C := RX2) (T := TX2) (N := 14) hx hb hts hinX2 tyX2 tyX2_ok nmX2 hown hK hP hD hS 0 rfl rfl 0 (by decide) hf44 (fun _ h9 => h9) rfl (by decide +kernel) rfl rfl (Nat.le_of_ble_eq_true rfl) dX2_dig_2 (fun H locs hP hD hS => ?_)
  have hP : va_P G vwCl [((b 0), oM b 0 mo co le), ((b 4), iA cI K), ((b 5), iA cI Ah), ((b 6), iA cI Ot), ((b 7), iA cI Qm), ((b 8), iA cI Op), ((b 9), iA cI Lm), ((b 10), iA cI Hm), ((b 11), iA cI Mm), ((b 12), iA cI Rw), ((b 13), iA cI St)] H := hP
  have hD : va_D A [((b 0), oM b 0 mo co le), ((b 4), iA cI K), ((b 5), iA cI Ah), ((b 6), iA cI Ot), ((b 7), iA cI Qm), ((b 8), iA cI Op), ((b 9), iA cI Lm), ((b 10), iA cI Hm), ((b 11), iA cI Mm), ((b 12), iA cI Rw), ((b 13), iA cI St)] := hD
  refine lv_iload_n hx hb dX2_dig_5 rfl (lv_at hl 1 rfl) ?_
  refine lv_iload_n hx hb dX2_dig_6 rfl (lv_at hl 2 rfl) ?_
  refine cr_i (va_runS (As := [.int x, .int y]) (rest := []) FX (c_X2_isPlace l x y) (va_cwS 2 hts gX2_dig_X2_isPlace rfl rfl rfl (by decide +kernel) ⟨Nat.le_of_ble_eq_true rfl, Nat.le_of_ble_eq_true rfl⟩) puS rfl rfl hl.1 rfl (lv_room (Nat.le_of_ble_eq_true rfl)) dX2_dig_7 ⟨hzc, hzs⟩) hS hP (fun H locs hP hS => ?_)
  rcases hpl : (inB 0 7 x && inB 0 7 y) with _ | _
  · skip
    have hcd : (cdDig k co x y) = 1 := by unfold cdDig; rw [hpl]; rfl
    refine tpi (x' := 0) (rfl) ?_
    refine lv_if_ne (tgt := 19) hx hb dX2_dig_10 (by decide) (fun c => absurd (rfl) c) (fun _ => ?_)
    refine lv_aload_n hx hb dX2_dig_13 rfl (lv_at hl 0 rfl) ?_
    refine lv_iconst (v := 1) hx hb dX2_dig_14 (by decide) ?_
    refine cw_i (wr := [((b 4), iA cI K), ((b 5), iA cI Ah), ((b 6), iA cI Ot), ((b 7), iA cI Qm), ((b 8), iA cI Op), ((b 9), iA cI Lm), ((b 10), iA cI Hm), ((b 11), iA cI Mm), ((b 12), iA cI Rw), ((b 13), iA cI St)]) (va_runV (As := [.int 1]) (rest := []) FX (c_X2_no l G cI b 0 mo co le 1 _) (cwV 1 hts gX2_dig_X2_no rfl rfl rfl (by decide +kernel) ⟨Nat.le_of_ble_eq_true rfl, Nat.le_of_ble_eq_true rfl⟩) (wrV hK hP hD hN [0] (by decide) rfl rfl (ci := 2) (q0 := 0) rfl rfl) rfl rfl hl.1 rfl (lv_room (Nat.le_of_ble_eq_true rfl)) dX2_dig_15 ⟨hzc, hzs⟩) hS hP hD hA [0] [1, 2, 3, 4, 5, 6, 7, 8, 9, 10] rfl rfl (by decide) (by decide) (fun r0 u H locs hw hP hD hS => ?_)
    have hP := hP.sub (ws' := [((b 0), oM b 1 mo co le), ((b 4), iA cI K), ((b 5), iA cI Ah), ((b 6), iA cI Ot), ((b 7), iA cI Qm), ((b 8), iA cI Op), ((b 9), iA cI Lm), ((b 10), iA cI Hm), ((b 11), iA cI Mm), ((b 12), iA cI Rw), ((b 13), iA cI St)]) [10, 0, 1, 2, 3, 4, 5, 6, 7, 8, 9] rfl
    have hD := hD.sub (ws' := [((b 0), oM b 1 mo co le), ((b 4), iA cI K), ((b 5), iA cI Ah), ((b 6), iA cI Ot), ((b 7), iA cI Qm), ((b 8), iA cI Op), ((b 9), iA cI Lm), ((b 10), iA cI Hm), ((b 11), iA cI Mm), ((b 12), iA cI Rw), ((b 13), iA cI St)]) [10, 0, 1, 2, 3, 4, 5, 6, 7, 8, 9] (by decide) rfl
    refine tpi (x' := 0) (hw) ?_
    subst hQ
    subst hAe
    rw [hcd, ncO_n (by decide), nkO_n (by decide)]
    exact wr_i K (⟨fun e => absurd e (by decide), hk⟩) hx hb hr hP hD hS hlocks dX2_dig_18
  · skip
    have hat := plc_at hpl
    refine tpi (x' := 1) (rfl) ?_
    refine lv_if_ne (tgt := 19) hx hb dX2_dig_10 (by decide) (fun _ => ?_) (fun c => absurd c (by decide))
    refine lv_aload_n hx hb dX2_dig_19 rfl (lv_at hl 0 rfl) ?_
    refine va_get (D := G) (ci := 2) (v := .ref (b 4)) (C := RX2) (T := TX2) (N := 14) hx hb hts hinX2 hown hK hP 0 rfl rfl 4 (by decide) hf13 (fun _ h9 => h9) rfl dX2_dig_20 ?_
    refine lv_bipush (v := 8) hx hb dX2_dig_23 (by decide) ?_
    refine lv_iload_n hx hb dX2_dig_25 rfl (lv_at hl 2 rfl) ?_
    refine lv_imul hx hb dX2_dig_26 ?_
    refine lv_iload_n hx hb dX2_dig_27 rfl (lv_at hl 1 rfl) ?_
    refine lv_iadd hx hb dX2_dig_28 ?_
    refine tpi (x' := nI (pAt x y)) (hat.2) ?_
    refine va_iald hx hb hK hP 1 0 rfl rfl (vp_in_nI hat.1 (by decide)) dX2_dig_29 ?_
    refine tpi (x' := K (pAt x y)) (congrArg K (nI_clamp (by omega))) ?_
    refine tpi (x' := k (pAt x y)) (hk _ hat.1) ?_
    refine lv_istore_n (lv' := [(3, .int (k (pAt x y))), (0, .ref (b 0)), (1, .int x), (2, .int y)]) hx hb dX2_dig_30 rfl hl (by decide) rfl (fun ls hl => ?_)
    refine lv_iload_n hx hb dX2_dig_31 rfl (lv_at hl 0 rfl) ?_
    refine lv_if_eq (tgt := 40) hx hb dX2_dig_32 (by decide) (fun c0 => ?_) (fun c0 => ?_)
    · skip
      refine lv_aload_n hx hb dX2_dig_40 rfl (lv_at hl 1 rfl) ?_
      refine lv_bipush (v := 8) hx hb dX2_dig_41 (by decide) ?_
      refine lv_iload_n hx hb dX2_dig_43 rfl (lv_at hl 3 rfl) ?_
      refine lv_imul hx hb dX2_dig_44 ?_
      refine lv_iload_n hx hb dX2_dig_45 rfl (lv_at hl 2 rfl) ?_
      refine lv_iadd hx hb dX2_dig_46 ?_
      refine tpi (x' := nI (pAt x y)) (hat.2) ?_
      refine lv_iconst (v := 1) hx hb dX2_dig_47 (by decide) ?_
      refine lv_iconst (v := 3) hx hb dX2_dig_48 (by decide) ?_
      refine cw_i (wr := [((b 5), iA cI Ah), ((b 6), iA cI Ot), ((b 7), iA cI Qm), ((b 8), iA cI Op), ((b 9), iA cI Lm), ((b 10), iA cI Hm), ((b 11), iA cI Mm), ((b 12), iA cI Rw), ((b 13), iA cI St)]) (va_runV (As := [.int (nI (pAt x y)), .int 1, .int 3]) (rest := []) FX (c_X2_isBuilt l G cI b 0 mo co le K (pAt x y) 1 3 hat.1 _) (cwV 3 hts gX2_dig_X2_isBuilt rfl rfl rfl (by decide +kernel) ⟨Nat.le_of_ble_eq_true rfl, Nat.le_of_ble_eq_true rfl⟩) (wrV hK hP hD hN [0, 1] (by decide) rfl rfl (ci := 2) (q0 := 0) rfl rfl) rfl rfl hl.1 rfl (lv_room (Nat.le_of_ble_eq_true rfl)) dX2_dig_49 ⟨hzc, hzs⟩) hS hP hD hA [0, 1] [2, 3, 4, 5, 6, 7, 8, 9, 10] rfl rfl (by decide) (by decide) (fun r9 u H locs hw hP hD hS => ?_)
      obtain ⟨cz, K2⟩ := u
      obtain ⟨hr9, hc2, hK2⟩ := hw
      have hP := hP.sub (ws' := [((b 0), oM b 0 mo cz le), ((b 4), iA cI K2), ((b 5), iA cI Ah), ((b 6), iA cI Ot), ((b 7), iA cI Qm), ((b 8), iA cI Op), ((b 9), iA cI Lm), ((b 10), iA cI Hm), ((b 11), iA cI Mm), ((b 12), iA cI Rw), ((b 13), iA cI St)]) [9, 10, 0, 1, 2, 3, 4, 5, 6, 7, 8] rfl
      have hD := hD.sub (ws' := [((b 0), oM b 0 mo cz le), ((b 4), iA cI K2), ((b 5), iA cI Ah), ((b 6), iA cI Ot), ((b 7), iA cI Qm), ((b 8), iA cI Op), ((b 9), iA cI Lm), ((b 10), iA cI Hm), ((b 11), iA cI Mm), ((b 12), iA cI Rw), ((b 13), iA cI St)]) [9, 10, 0, 1, 2, 3, 4, 5, 6, 7, 8] (by decide) rfl
      have hc2 : cz = (if 3 ≤ co then co - 3 else co) := hc2
      have hK2 : K2 = (if 3 ≤ co then upd K (pAt x y) 1 else K) := hK2
      by_cases hcs : 3 ≤ co
      · skip
        have hc3 := hc2.trans (if_pos hcs)
        have hK3 := hK2.trans (if_pos hcs)
        rw [hc3, hK3] at hP hD
        have hcd : (cdDig k co x y) = 0 := by unfold cdDig; rw [hpl]; rw [if_pos rfl, if_pos ⟨Or.inl c0, hcs⟩]
        refine tpi (x' := 1) (by rw [hr9, decide_eq_true hcs]; rfl) ?_
        refine lv_if_eq (tgt := 62) hx hb dX2_dig_52 (by decide) (fun c => absurd c (by decide)) (fun _ => ?_)
        refine lv_aload_n hx hb dX2_dig_55 rfl (lv_at hl 1 rfl) ?_
        refine va_get (D := G) (ci := 2) (v := .int (co - 3)) (C := RX2) (T := TX2) (N := 14) hx hb hts hinX2 hown hK hP 0 rfl rfl 2 (by decide) hf7 (fun _ h9 => h9) rfl dX2_dig_56 ?_
        refine lv_goto (tgt := 67) hx hb dX2_dig_59 (by decide) ?_
        subst hQ
        subst hAe
        rw [hcd, ncO_0, nkO_0]
        exact wr_i (upd K (pAt x y) 1) (⟨fun _ => rfl, eqK_upd hk⟩) hx hb hr hP hD hS hlocks dX2_dig_67
      · skip
        have hc3 := hc2.trans (if_neg hcs)
        have hK3 := hK2.trans (if_neg hcs)
        rw [hc3, hK3] at hP hD
        have hcd : (cdDig k co x y) = 2 := by unfold cdDig; rw [hpl]; rw [if_pos rfl, if_neg (fun e => hcs e.2)]
        refine tpi (x' := 0) (by rw [hr9, decide_eq_false hcs]; rfl) ?_
        refine lv_if_eq (tgt := 62) hx hb dX2_dig_52 (by decide) (fun _ => ?_) (fun c => absurd (rfl) c)
        refine lv_aload_n hx hb dX2_dig_62 rfl (lv_at hl 1 rfl) ?_
        refine lv_iconst (v := 2) hx hb dX2_dig_63 (by decide) ?_
        refine cw_i (wr := [((b 4), iA cI K), ((b 5), iA cI Ah), ((b 6), iA cI Ot), ((b 7), iA cI Qm), ((b 8), iA cI Op), ((b 9), iA cI Lm), ((b 10), iA cI Hm), ((b 11), iA cI Mm), ((b 12), iA cI Rw), ((b 13), iA cI St)]) (va_runV (As := [.int 2]) (rest := []) FX (c_X2_no l G cI b 0 mo co le 2 _) (cwV 1 hts gX2_dig_X2_no rfl rfl rfl (by decide +kernel) ⟨Nat.le_of_ble_eq_true rfl, Nat.le_of_ble_eq_true rfl⟩) (wrV hK hP hD hN [0] (by decide) rfl rfl (ci := 2) (q0 := 0) rfl rfl) rfl rfl hl.1 rfl (lv_room (Nat.le_of_ble_eq_true rfl)) dX2_dig_64 ⟨hzc, hzs⟩) hS hP hD hA [0] [1, 2, 3, 4, 5, 6, 7, 8, 9, 10] rfl rfl (by decide) (by decide) (fun r0 u H locs hw hP hD hS => ?_)
        have hP := hP.sub (ws' := [((b 0), oM b 2 mo co le), ((b 4), iA cI K), ((b 5), iA cI Ah), ((b 6), iA cI Ot), ((b 7), iA cI Qm), ((b 8), iA cI Op), ((b 9), iA cI Lm), ((b 10), iA cI Hm), ((b 11), iA cI Mm), ((b 12), iA cI Rw), ((b 13), iA cI St)]) [10, 0, 1, 2, 3, 4, 5, 6, 7, 8, 9] rfl
        have hD := hD.sub (ws' := [((b 0), oM b 2 mo co le), ((b 4), iA cI K), ((b 5), iA cI Ah), ((b 6), iA cI Ot), ((b 7), iA cI Qm), ((b 8), iA cI Op), ((b 9), iA cI Lm), ((b 10), iA cI Hm), ((b 11), iA cI Mm), ((b 12), iA cI Rw), ((b 13), iA cI St)]) [10, 0, 1, 2, 3, 4, 5, 6, 7, 8, 9] (by decide) rfl
        refine tpi (x' := 0) (hw) ?_
        subst hQ
        subst hAe
        rw [hcd, ncO_n (by decide), nkO_n (by decide)]
        exact wr_i K (⟨fun e => absurd e (by decide), hk⟩) hx hb hr hP hD hS hlocks dX2_dig_67
    · skip
      refine lv_iload_n hx hb dX2_dig_35 rfl (lv_at hl 0 rfl) ?_
      refine lv_iconst (v := 2) hx hb dX2_dig_36 (by decide) ?_
      refine lv_icmp_ne (tgt := 62) hx hb dX2_dig_37 (by decide) (fun c2 => ?_) (fun c2 => ?_)
      · skip
        have hcd : (cdDig k co x y) = 2 := by unfold cdDig; rw [hpl]; rw [if_pos rfl, if_neg (fun e => e.1.elim c0 c2)]
        refine lv_aload_n hx hb dX2_dig_62 rfl (lv_at hl 1 rfl) ?_
        refine lv_iconst (v := 2) hx hb dX2_dig_63 (by decide) ?_
        refine cw_i (wr := [((b 4), iA cI K), ((b 5), iA cI Ah), ((b 6), iA cI Ot), ((b 7), iA cI Qm), ((b 8), iA cI Op), ((b 9), iA cI Lm), ((b 10), iA cI Hm), ((b 11), iA cI Mm), ((b 12), iA cI Rw), ((b 13), iA cI St)]) (va_runV (As := [.int 2]) (rest := []) FX (c_X2_no l G cI b 0 mo co le 2 _) (cwV 1 hts gX2_dig_X2_no rfl rfl rfl (by decide +kernel) ⟨Nat.le_of_ble_eq_true rfl, Nat.le_of_ble_eq_true rfl⟩) (wrV hK hP hD hN [0] (by decide) rfl rfl (ci := 2) (q0 := 0) rfl rfl) rfl rfl hl.1 rfl (lv_room (Nat.le_of_ble_eq_true rfl)) dX2_dig_64 ⟨hzc, hzs⟩) hS hP hD hA [0] [1, 2, 3, 4, 5, 6, 7, 8, 9, 10] rfl rfl (by decide) (by decide) (fun r0 u H locs hw hP hD hS => ?_)
        have hP := hP.sub (ws' := [((b 0), oM b 2 mo co le), ((b 4), iA cI K), ((b 5), iA cI Ah), ((b 6), iA cI Ot), ((b 7), iA cI Qm), ((b 8), iA cI Op), ((b 9), iA cI Lm), ((b 10), iA cI Hm), ((b 11), iA cI Mm), ((b 12), iA cI Rw), ((b 13), iA cI St)]) [10, 0, 1, 2, 3, 4, 5, 6, 7, 8, 9] rfl
        have hD := hD.sub (ws' := [((b 0), oM b 2 mo co le), ((b 4), iA cI K), ((b 5), iA cI Ah), ((b 6), iA cI Ot), ((b 7), iA cI Qm), ((b 8), iA cI Op), ((b 9), iA cI Lm), ((b 10), iA cI Hm), ((b 11), iA cI Mm), ((b 12), iA cI Rw), ((b 13), iA cI St)]) [10, 0, 1, 2, 3, 4, 5, 6, 7, 8, 9] (by decide) rfl
        refine tpi (x' := 0) (hw) ?_
        subst hQ
        subst hAe
        rw [hcd, ncO_n (by decide), nkO_n (by decide)]
        exact wr_i K (⟨fun e => absurd e (by decide), hk⟩) hx hb hr hP hD hS hlocks dX2_dig_67
      · skip
        refine lv_aload_n hx hb dX2_dig_40 rfl (lv_at hl 1 rfl) ?_
        refine lv_bipush (v := 8) hx hb dX2_dig_41 (by decide) ?_
        refine lv_iload_n hx hb dX2_dig_43 rfl (lv_at hl 3 rfl) ?_
        refine lv_imul hx hb dX2_dig_44 ?_
        refine lv_iload_n hx hb dX2_dig_45 rfl (lv_at hl 2 rfl) ?_
        refine lv_iadd hx hb dX2_dig_46 ?_
        refine tpi (x' := nI (pAt x y)) (hat.2) ?_
        refine lv_iconst (v := 1) hx hb dX2_dig_47 (by decide) ?_
        refine lv_iconst (v := 3) hx hb dX2_dig_48 (by decide) ?_
        refine cw_i (wr := [((b 5), iA cI Ah), ((b 6), iA cI Ot), ((b 7), iA cI Qm), ((b 8), iA cI Op), ((b 9), iA cI Lm), ((b 10), iA cI Hm), ((b 11), iA cI Mm), ((b 12), iA cI Rw), ((b 13), iA cI St)]) (va_runV (As := [.int (nI (pAt x y)), .int 1, .int 3]) (rest := []) FX (c_X2_isBuilt l G cI b 0 mo co le K (pAt x y) 1 3 hat.1 _) (cwV 3 hts gX2_dig_X2_isBuilt rfl rfl rfl (by decide +kernel) ⟨Nat.le_of_ble_eq_true rfl, Nat.le_of_ble_eq_true rfl⟩) (wrV hK hP hD hN [0, 1] (by decide) rfl rfl (ci := 2) (q0 := 0) rfl rfl) rfl rfl hl.1 rfl (lv_room (Nat.le_of_ble_eq_true rfl)) dX2_dig_49 ⟨hzc, hzs⟩) hS hP hD hA [0, 1] [2, 3, 4, 5, 6, 7, 8, 9, 10] rfl rfl (by decide) (by decide) (fun r9 u H locs hw hP hD hS => ?_)
        obtain ⟨cz, K2⟩ := u
        obtain ⟨hr9, hc2, hK2⟩ := hw
        have hP := hP.sub (ws' := [((b 0), oM b 0 mo cz le), ((b 4), iA cI K2), ((b 5), iA cI Ah), ((b 6), iA cI Ot), ((b 7), iA cI Qm), ((b 8), iA cI Op), ((b 9), iA cI Lm), ((b 10), iA cI Hm), ((b 11), iA cI Mm), ((b 12), iA cI Rw), ((b 13), iA cI St)]) [9, 10, 0, 1, 2, 3, 4, 5, 6, 7, 8] rfl
        have hD := hD.sub (ws' := [((b 0), oM b 0 mo cz le), ((b 4), iA cI K2), ((b 5), iA cI Ah), ((b 6), iA cI Ot), ((b 7), iA cI Qm), ((b 8), iA cI Op), ((b 9), iA cI Lm), ((b 10), iA cI Hm), ((b 11), iA cI Mm), ((b 12), iA cI Rw), ((b 13), iA cI St)]) [9, 10, 0, 1, 2, 3, 4, 5, 6, 7, 8] (by decide) rfl
        have hc2 : cz = (if 3 ≤ co then co - 3 else co) := hc2
        have hK2 : K2 = (if 3 ≤ co then upd K (pAt x y) 1 else K) := hK2
        by_cases hcs : 3 ≤ co
        · skip
          have hc3 := hc2.trans (if_pos hcs)
          have hK3 := hK2.trans (if_pos hcs)
          rw [hc3, hK3] at hP hD
          have hcd : (cdDig k co x y) = 0 := by unfold cdDig; rw [hpl]; rw [if_pos rfl, if_pos ⟨Or.inr c2, hcs⟩]
          refine tpi (x' := 1) (by rw [hr9, decide_eq_true hcs]; rfl) ?_
          refine lv_if_eq (tgt := 62) hx hb dX2_dig_52 (by decide) (fun c => absurd c (by decide)) (fun _ => ?_)
          refine lv_aload_n hx hb dX2_dig_55 rfl (lv_at hl 1 rfl) ?_
          refine va_get (D := G) (ci := 2) (v := .int (co - 3)) (C := RX2) (T := TX2) (N := 14) hx hb hts hinX2 hown hK hP 0 rfl rfl 2 (by decide) hf7 (fun _ h9 => h9) rfl dX2_dig_56 ?_
          refine lv_goto (tgt := 67) hx hb dX2_dig_59 (by decide) ?_
          subst hQ
          subst hAe
          rw [hcd, ncO_0, nkO_0]
          exact wr_i (upd K (pAt x y) 1) (⟨fun _ => rfl, eqK_upd hk⟩) hx hb hr hP hD hS hlocks dX2_dig_67
        · skip
          have hc3 := hc2.trans (if_neg hcs)
          have hK3 := hK2.trans (if_neg hcs)
          rw [hc3, hK3] at hP hD
          have hcd : (cdDig k co x y) = 2 := by unfold cdDig; rw [hpl]; rw [if_pos rfl, if_neg (fun e => hcs e.2)]
          refine tpi (x' := 0) (by rw [hr9, decide_eq_false hcs]; rfl) ?_
          refine lv_if_eq (tgt := 62) hx hb dX2_dig_52 (by decide) (fun _ => ?_) (fun c => absurd (rfl) c)
          refine lv_aload_n hx hb dX2_dig_62 rfl (lv_at hl 1 rfl) ?_
          refine lv_iconst (v := 2) hx hb dX2_dig_63 (by decide) ?_
          refine cw_i (wr := [((b 4), iA cI K), ((b 5), iA cI Ah), ((b 6), iA cI Ot), ((b 7), iA cI Qm), ((b 8), iA cI Op), ((b 9), iA cI Lm), ((b 10), iA cI Hm), ((b 11), iA cI Mm), ((b 12), iA cI Rw), ((b 13), iA cI St)]) (va_runV (As := [.int 2]) (rest := []) FX (c_X2_no l G cI b 0 mo co le 2 _) (cwV 1 hts gX2_dig_X2_no rfl rfl rfl (by decide +kernel) ⟨Nat.le_of_ble_eq_true rfl, Nat.le_of_ble_eq_true rfl⟩) (wrV hK hP hD hN [0] (by decide) rfl rfl (ci := 2) (q0 := 0) rfl rfl) rfl rfl hl.1 rfl (lv_room (Nat.le_of_ble_eq_true rfl)) dX2_dig_64 ⟨hzc, hzs⟩) hS hP hD hA [0] [1, 2, 3, 4, 5, 6, 7, 8, 9, 10] rfl rfl (by decide) (by decide) (fun r0 u H locs hw hP hD hS => ?_)
          have hP := hP.sub (ws' := [((b 0), oM b 2 mo co le), ((b 4), iA cI K), ((b 5), iA cI Ah), ((b 6), iA cI Ot), ((b 7), iA cI Qm), ((b 8), iA cI Op), ((b 9), iA cI Lm), ((b 10), iA cI Hm), ((b 11), iA cI Mm), ((b 12), iA cI Rw), ((b 13), iA cI St)]) [10, 0, 1, 2, 3, 4, 5, 6, 7, 8, 9] rfl
          have hD := hD.sub (ws' := [((b 0), oM b 2 mo co le), ((b 4), iA cI K), ((b 5), iA cI Ah), ((b 6), iA cI Ot), ((b 7), iA cI Qm), ((b 8), iA cI Op), ((b 9), iA cI Lm), ((b 10), iA cI Hm), ((b 11), iA cI Mm), ((b 12), iA cI Rw), ((b 13), iA cI St)]) [10, 0, 1, 2, 3, 4, 5, 6, 7, 8, 9] (by decide) rfl
          refine tpi (x' := 0) (hw) ?_
          subst hQ
          subst hAe
          rw [hcd, ncO_n (by decide), nkO_n (by decide)]
          exact wr_i K (⟨fun e => absurd e (by decide), hk⟩) hx hb hr hP hD hS hlocks dX2_dig_67

def rmX2_raze : Room := { frames := 2, cells := 0, slots := 0, locals := 43 }
set_option maxHeartbeats 4000000 in
set_option maxRecDepth 100000 in
theorem c_X2_raze (l : Launch) (G : va_G) (cI : ClassId) (b : Nat → Nat) (th mo co le : Int32) (K Ah Ot Qm Op Lm Hm Mm Rw St k : Nat → Int32) (x y : Int32) (hk : eqK K k) (sz : Nat) : Met l yX2_raze wsX2_raze rmX2_raze (va_Pc [.ref (b 0), .int x, .int y] (WrP G cI [((b 0), oM b th mo co le), ((b 4), iA cI K), ((b 5), iA cI Ah), ((b 6), iA cI Ot), ((b 7), iA cI Qm), ((b 8), iA cI Op), ((b 9), iA cI Lm), ((b 10), iA cI Hm), ((b 11), iA cI Mm), ((b 12), iA cI Rw), ((b 13), iA cI St)] sz)) (va_Qi (fun (r : Int32) (u : Nat → Int32) => ((cdRaze k x y) = 0 → r = k (pAt x y)) ∧ eqK u (nkO (cdRaze k x y) k (pAt x y) (rzV k x y))) (WrB G [((b 0), oM b th mo co le), ((b 4), iA cI K), ((b 5), iA cI Ah), ((b 6), iA cI Ot), ((b 7), iA cI Qm), ((b 8), iA cI Op), ((b 9), iA cI Lm), ((b 10), iA cI Hm), ((b 11), iA cI Mm), ((b 12), iA cI Rw), ((b 13), iA cI St)] sz (fun u => [(b 0, oM b (cdRaze k x y) mo co le), (b 4, iA cI u), (b 5, iA cI Ah), (b 6, iA cI Ot), (b 7, iA cI Qm), (b 8, iA cI Op), (b 9, iA cI Lm), (b 10, iA cI Hm), (b 11, iA cI Mm), (b 12, iA cI Rw), (b 13, iA cI St)])) (va_A [((b 0), oM b th mo co le), ((b 4), iA cI K), ((b 5), iA cI Ah), ((b 6), iA cI Ot), ((b 7), iA cI Qm), ((b 8), iA cI Op), ((b 9), iA cI Lm), ((b 10), iA cI Hm), ((b 11), iA cI Mm), ((b 12), iA cI Rw), ((b 13), iA cI St)] sz)) 0 0 (va_A [((b 0), oM b th mo co le), ((b 4), iA cI K), ((b 5), iA cI Ah), ((b 6), iA cI Ot), ((b 7), iA cI Qm), ((b 8), iA cI Op), ((b 9), iA cI Lm), ((b 10), iA cI Hm), ((b 11), iA cI Mm), ((b 12), iA cI Rw), ((b 13), iA cI St)] sz) := by
  refine Met.ofW (cc := cX2_raze) (maxL := 4) (ret := (some .int)) (by decide) rfl ?_
  intro p e s m args below meth c s₁ B hml hv
  obtain ⟨rfl, hsz, hP, hK, hD0, hN⟩ := hv
  have hx := B.exec
  have hb := B.bytes
  have hr := B.returns
  have hlocks := B.notSynchronized
  have hts := atoms_spec (ws := wsX2_raze) B.pre
  have hown : s.vm.findClass RX2 = some m.cls := findClass_of_methodNamed B.named
  subst hsz
  have hD := hD0.self (sz := s.heap.size)
  have hA : ∀ q : Nat, s.heap.size ≤ q → va_A [((b 0), oM b th mo co le), ((b 4), iA cI K), ((b 5), iA cI Ah), ((b 6), iA cI Ot), ((b 7), iA cI Qm), ((b 8), iA cI Op), ((b 9), iA cI Lm), ((b 10), iA cI Hm), ((b 11), iA cI Mm), ((b 12), iA cI Rw), ((b 13), iA cI St)] s.heap.size q := fun q h => Or.inr h
  have hS : va_S (va_A [((b 0), oM b th mo co le), ((b 4), iA cI K), ((b 5), iA cI Ah), ((b 6), iA cI Ot), ((b 7), iA cI Qm), ((b 8), iA cI Op), ((b 9), iA cI Lm), ((b 10), iA cI Hm), ((b 11), iA cI Mm), ((b 12), iA cI Rw), ((b 13), iA cI St)] s.heap.size) s.heap s.heap [] := va_S.rf
  obtain ⟨A, hAe⟩ : ∃ A, A = va_A [((b 0), oM b th mo co le), ((b 4), iA cI K), ((b 5), iA cI Ah), ((b 6), iA cI Ot), ((b 7), iA cI Qm), ((b 8), iA cI Op), ((b 9), iA cI Lm), ((b 10), iA cI Hm), ((b 11), iA cI Mm), ((b 12), iA cI Rw), ((b 13), iA cI St)] s.heap.size := ⟨_, rfl⟩
  rw [← hAe] at hD hA hS
  have FX : CallFix p m c cX2_raze 4 s ([.ref (b 0), .int x, .int y] : List Value).toArray wsX2_raze RX2 := ⟨hx, hb, hml, hown, hts⟩
  have hl := lv_entry ([.ref (b 0), .int x, .int y]) (n := 4) (Nat.le_of_ble_eq_true rfl)
  rw [lg_entry_eq]
  generalize (lg_sl ([.ref (b 0), .int x, .int y]) ++ List.replicate (4 - (lg_sl ([.ref (b 0), .int x, .int y])).length) Slot.unset).toArray = ls at hl ⊢
  have hl : lv_has ls 4 [(0, .ref (b 0)), (1, .int x), (2, .int y)] := hl
  refine wq (fun Q hQ => ?_)
  have hzc : 0 + 0 ≤ (headSpec wsX2_raze rmX2_raze).room.cells := Nat.zero_le _
  have hzs : 0 + 0 ≤ (headSpec wsX2_raze rmX2_raze).room.slots := Nat.zero_le _
  have hf13 := hts (.fieldLink RX2 13 "CanalCityModel" "kind" "[I") (by decide +kernel)
  have hf44 := hts (.fieldLink RX2 44 "CanalCityModel" "thrown" "I") (by decide +kernel)
  have hinX2 : ∀ w ∈ u_ws RX2 TX2 14, w ∈ wsX2_raze := by decide +kernel
  refine lv_aload_n hx hb dX2_raze_0 rfl (lv_at hl 0 rfl) ?_
  refine lv_iconst (v := 0) hx hb dX2_raze_1 (by decide) ?_
  refine va_put (D := G) (ci := 2) (v := .int 0) (ty := .int) (C := RX2) (T := TX2) (N := 14) hx hb hts hinX2 tyX2 tyX2_ok nmX2 hown hK hP hD hS 0 rfl rfl 0 (by decide) hf44 (fun _ h9 => h9) rfl (by decide +kernel) rfl rfl (Nat.le_of_ble_eq_true rfl) dX2_raze_2 (fun H locs hP hD hS => ?_)
  have hP : va_P G vwCl [((b 0), oM b 0 mo co le), ((b 4), iA cI K), ((b 5), iA cI Ah), ((b 6), iA cI Ot), ((b 7), iA cI Qm), ((b 8), iA cI Op), ((b 9), iA cI Lm), ((b 10), iA cI Hm), ((b 11), iA cI Mm), ((b 12), iA cI Rw), ((b 13), iA cI St)] H := hP
  have hD : va_D A [((b 0), oM b 0 mo co le), ((b 4), iA cI K), ((b 5), iA cI Ah), ((b 6), iA cI Ot), ((b 7), iA cI Qm), ((b 8), iA cI Op), ((b 9), iA cI Lm), ((b 10), iA cI Hm), ((b 11), iA cI Mm), ((b 12), iA cI Rw), ((b 13), iA cI St)] := hD
  refine lv_iload_n hx hb dX2_raze_5 rfl (lv_at hl 1 rfl) ?_
  refine lv_iload_n hx hb dX2_raze_6 rfl (lv_at hl 2 rfl) ?_
  refine cr_i (va_runS (As := [.int x, .int y]) (rest := []) FX (c_X2_isPlace l x y) (va_cwS 2 hts gX2_raze_X2_isPlace rfl rfl rfl (by decide +kernel) ⟨Nat.le_of_ble_eq_true rfl, Nat.le_of_ble_eq_true rfl⟩) puS rfl rfl hl.1 rfl (lv_room (Nat.le_of_ble_eq_true rfl)) dX2_raze_7 ⟨hzc, hzs⟩) hS hP (fun H locs hP hS => ?_)
  rcases hpl : (inB 0 7 x && inB 0 7 y) with _ | _
  · skip
    have hcd : (cdRaze k x y) = 1 := by unfold cdRaze; rw [hpl]; rfl
    refine tpi (x' := 0) (rfl) ?_
    refine lv_if_ne (tgt := 19) hx hb dX2_raze_10 (by decide) (fun c => absurd (rfl) c) (fun _ => ?_)
    refine lv_aload_n hx hb dX2_raze_13 rfl (lv_at hl 0 rfl) ?_
    refine lv_iconst (v := 1) hx hb dX2_raze_14 (by decide) ?_
    refine cw_i (wr := [((b 4), iA cI K), ((b 5), iA cI Ah), ((b 6), iA cI Ot), ((b 7), iA cI Qm), ((b 8), iA cI Op), ((b 9), iA cI Lm), ((b 10), iA cI Hm), ((b 11), iA cI Mm), ((b 12), iA cI Rw), ((b 13), iA cI St)]) (va_runV (As := [.int 1]) (rest := []) FX (c_X2_no l G cI b 0 mo co le 1 _) (cwV 1 hts gX2_raze_X2_no rfl rfl rfl (by decide +kernel) ⟨Nat.le_of_ble_eq_true rfl, Nat.le_of_ble_eq_true rfl⟩) (wrV hK hP hD hN [0] (by decide) rfl rfl (ci := 2) (q0 := 0) rfl rfl) rfl rfl hl.1 rfl (lv_room (Nat.le_of_ble_eq_true rfl)) dX2_raze_15 ⟨hzc, hzs⟩) hS hP hD hA [0] [1, 2, 3, 4, 5, 6, 7, 8, 9, 10] rfl rfl (by decide) (by decide) (fun r0 u H locs hw hP hD hS => ?_)
    have hP := hP.sub (ws' := [((b 0), oM b 1 mo co le), ((b 4), iA cI K), ((b 5), iA cI Ah), ((b 6), iA cI Ot), ((b 7), iA cI Qm), ((b 8), iA cI Op), ((b 9), iA cI Lm), ((b 10), iA cI Hm), ((b 11), iA cI Mm), ((b 12), iA cI Rw), ((b 13), iA cI St)]) [10, 0, 1, 2, 3, 4, 5, 6, 7, 8, 9] rfl
    have hD := hD.sub (ws' := [((b 0), oM b 1 mo co le), ((b 4), iA cI K), ((b 5), iA cI Ah), ((b 6), iA cI Ot), ((b 7), iA cI Qm), ((b 8), iA cI Op), ((b 9), iA cI Lm), ((b 10), iA cI Hm), ((b 11), iA cI Mm), ((b 12), iA cI Rw), ((b 13), iA cI St)]) [10, 0, 1, 2, 3, 4, 5, 6, 7, 8, 9] (by decide) rfl
    refine tpi (x' := 0) (hw) ?_
    subst hQ
    subst hAe
    rw [hcd, nkO_n (by decide)]
    exact wr_i K (⟨fun e => absurd e (by decide), hk⟩) hx hb hr hP hD hS hlocks dX2_raze_18
  · skip
    have hat := plc_at hpl
    refine tpi (x' := 1) (rfl) ?_
    refine lv_if_ne (tgt := 19) hx hb dX2_raze_10 (by decide) (fun _ => ?_) (fun c => absurd c (by decide))
    refine lv_aload_n hx hb dX2_raze_19 rfl (lv_at hl 0 rfl) ?_
    refine va_get (D := G) (ci := 2) (v := .ref (b 4)) (C := RX2) (T := TX2) (N := 14) hx hb hts hinX2 hown hK hP 0 rfl rfl 4 (by decide) hf13 (fun _ h9 => h9) rfl dX2_raze_20 ?_
    refine lv_bipush (v := 8) hx hb dX2_raze_23 (by decide) ?_
    refine lv_iload_n hx hb dX2_raze_25 rfl (lv_at hl 2 rfl) ?_
    refine lv_imul hx hb dX2_raze_26 ?_
    refine lv_iload_n hx hb dX2_raze_27 rfl (lv_at hl 1 rfl) ?_
    refine lv_iadd hx hb dX2_raze_28 ?_
    refine tpi (x' := nI (pAt x y)) (hat.2) ?_
    refine va_iald hx hb hK hP 1 0 rfl rfl (vp_in_nI hat.1 (by decide)) dX2_raze_29 ?_
    refine tpi (x' := K (pAt x y)) (congrArg K (nI_clamp (by omega))) ?_
    refine tpi (x' := k (pAt x y)) (hk _ hat.1) ?_
    refine lv_istore_n (lv' := [(3, .int (k (pAt x y))), (0, .ref (b 0)), (1, .int x), (2, .int y)]) hx hb dX2_raze_30 rfl hl (by decide) rfl (fun ls hl => ?_)
    refine lv_iload_n hx hb dX2_raze_31 rfl (lv_at hl 0 rfl) ?_
    refine lv_iconst (v := 3) hx hb dX2_raze_32 (by decide) ?_
    refine lv_bipush (v := 6) hx hb dX2_raze_33 (by decide) ?_
    refine cr_i (va_runS (As := [.int (k (pAt x y)), .int 3, .int 6]) (rest := []) FX (c_X2_isIn l (k (pAt x y)) 3 6) (va_cwS 3 hts gX2_raze_X2_isIn rfl rfl rfl (by decide +kernel) ⟨Nat.le_of_ble_eq_true rfl, Nat.le_of_ble_eq_true rfl⟩) puS rfl rfl hl.1 rfl (lv_room (Nat.le_of_ble_eq_true rfl)) dX2_raze_35 ⟨hzc, hzs⟩) hS hP (fun H locs hP hS => ?_)
    rcases hin : inB 3 6 (k (pAt x y)) with _ | _
    · skip
      have hcd : (cdRaze k x y) = 2 := by unfold cdRaze; rw [hpl, hin]; rfl
      refine tpi (x' := 0) (rfl) ?_
      refine lv_if_ne (tgt := 47) hx hb dX2_raze_38 (by decide) (fun c => absurd (rfl) c) (fun _ => ?_)
      refine lv_aload_n hx hb dX2_raze_41 rfl (lv_at hl 1 rfl) ?_
      refine lv_iconst (v := 2) hx hb dX2_raze_42 (by decide) ?_
      refine cw_i (wr := [((b 4), iA cI K), ((b 5), iA cI Ah), ((b 6), iA cI Ot), ((b 7), iA cI Qm), ((b 8), iA cI Op), ((b 9), iA cI Lm), ((b 10), iA cI Hm), ((b 11), iA cI Mm), ((b 12), iA cI Rw), ((b 13), iA cI St)]) (va_runV (As := [.int 2]) (rest := []) FX (c_X2_no l G cI b 0 mo co le 2 _) (cwV 1 hts gX2_raze_X2_no rfl rfl rfl (by decide +kernel) ⟨Nat.le_of_ble_eq_true rfl, Nat.le_of_ble_eq_true rfl⟩) (wrV hK hP hD hN [0] (by decide) rfl rfl (ci := 2) (q0 := 0) rfl rfl) rfl rfl hl.1 rfl (lv_room (Nat.le_of_ble_eq_true rfl)) dX2_raze_43 ⟨hzc, hzs⟩) hS hP hD hA [0] [1, 2, 3, 4, 5, 6, 7, 8, 9, 10] rfl rfl (by decide) (by decide) (fun r0 u H locs hw hP hD hS => ?_)
      have hP := hP.sub (ws' := [((b 0), oM b 2 mo co le), ((b 4), iA cI K), ((b 5), iA cI Ah), ((b 6), iA cI Ot), ((b 7), iA cI Qm), ((b 8), iA cI Op), ((b 9), iA cI Lm), ((b 10), iA cI Hm), ((b 11), iA cI Mm), ((b 12), iA cI Rw), ((b 13), iA cI St)]) [10, 0, 1, 2, 3, 4, 5, 6, 7, 8, 9] rfl
      have hD := hD.sub (ws' := [((b 0), oM b 2 mo co le), ((b 4), iA cI K), ((b 5), iA cI Ah), ((b 6), iA cI Ot), ((b 7), iA cI Qm), ((b 8), iA cI Op), ((b 9), iA cI Lm), ((b 10), iA cI Hm), ((b 11), iA cI Mm), ((b 12), iA cI Rw), ((b 13), iA cI St)]) [10, 0, 1, 2, 3, 4, 5, 6, 7, 8, 9] (by decide) rfl
      refine tpi (x' := 0) (hw) ?_
      subst hQ
      subst hAe
      rw [hcd, nkO_n (by decide)]
      exact wr_i K (⟨fun e => absurd e (by decide), hk⟩) hx hb hr hP hD hS hlocks dX2_raze_46
    · skip
      have hcd : (cdRaze k x y) = 0 := by unfold cdRaze; rw [hpl, hin]; rfl
      refine tpi (x' := 1) (rfl) ?_
      refine lv_if_ne (tgt := 47) hx hb dX2_raze_38 (by decide) (fun _ => ?_) (fun c => absurd c (by decide))
      refine lv_aload_n hx hb dX2_raze_47 rfl (lv_at hl 1 rfl) ?_
      refine va_get (D := G) (ci := 2) (v := .ref (b 4)) (C := RX2) (T := TX2) (N := 14) hx hb hts hinX2 hown hK hP 0 rfl rfl 4 (by decide) hf13 (fun _ h9 => h9) rfl dX2_raze_48 ?_
      refine lv_bipush (v := 8) hx hb dX2_raze_51 (by decide) ?_
      refine lv_iload_n hx hb dX2_raze_53 rfl (lv_at hl 3 rfl) ?_
      refine lv_imul hx hb dX2_raze_54 ?_
      refine lv_iload_n hx hb dX2_raze_55 rfl (lv_at hl 2 rfl) ?_
      refine lv_iadd hx hb dX2_raze_56 ?_
      refine tpi (x' := nI (pAt x y)) (hat.2) ?_
      refine lv_iload_n hx hb dX2_raze_57 rfl (lv_at hl 0 rfl) ?_
      refine lv_bipush (v := 6) hx hb dX2_raze_58 (by decide) ?_
      refine lv_icmp_ne (tgt := 67) hx hb dX2_raze_60 (by decide) (fun c6 => ?_) (fun c6 => ?_)
      · skip
        refine lv_iconst (v := 2) hx hb dX2_raze_67 (by decide) ?_
        refine tpi (x' := rzV k x y) (by unfold rzV; rw [if_neg c6]) ?_
        refine va_iast hx hb hK hP hD hS 1 0 rfl rfl (vp_in_nI hat.1 (by decide)) dX2_raze_68 (fun H locs hP hD hS => ?_)
        rw [show ((nI (pAt x y))).toNatClampNeg = (pAt x y) from nI_clamp (by omega)] at hP hD
        have hP : va_P G vwCl [((b 0), oM b 0 mo co le), ((b 4), iA cI (upd K (pAt x y) (rzV k x y))), ((b 5), iA cI Ah), ((b 6), iA cI Ot), ((b 7), iA cI Qm), ((b 8), iA cI Op), ((b 9), iA cI Lm), ((b 10), iA cI Hm), ((b 11), iA cI Mm), ((b 12), iA cI Rw), ((b 13), iA cI St)] H := hP
        have hD : va_D A [((b 0), oM b 0 mo co le), ((b 4), iA cI (upd K (pAt x y) (rzV k x y))), ((b 5), iA cI Ah), ((b 6), iA cI Ot), ((b 7), iA cI Qm), ((b 8), iA cI Op), ((b 9), iA cI Lm), ((b 10), iA cI Hm), ((b 11), iA cI Mm), ((b 12), iA cI Rw), ((b 13), iA cI St)] := hD
        refine lv_iload_n hx hb dX2_raze_69 rfl (lv_at hl 0 rfl) ?_
        subst hQ
        subst hAe
        rw [hcd, nkO_0]
        exact wr_i (upd K (pAt x y) (rzV k x y)) (⟨fun _ => rfl, eqK_upd hk⟩) hx hb hr hP hD hS hlocks dX2_raze_70
      · skip
        refine lv_iconst (v := 1) hx hb dX2_raze_63 (by decide) ?_
        refine lv_goto (tgt := 68) hx hb dX2_raze_64 (by decide) ?_
        refine tpi (x' := rzV k x y) (by unfold rzV; rw [if_pos c6]) ?_
        refine va_iast hx hb hK hP hD hS 1 0 rfl rfl (vp_in_nI hat.1 (by decide)) dX2_raze_68 (fun H locs hP hD hS => ?_)
        rw [show ((nI (pAt x y))).toNatClampNeg = (pAt x y) from nI_clamp (by omega)] at hP hD
        have hP : va_P G vwCl [((b 0), oM b 0 mo co le), ((b 4), iA cI (upd K (pAt x y) (rzV k x y))), ((b 5), iA cI Ah), ((b 6), iA cI Ot), ((b 7), iA cI Qm), ((b 8), iA cI Op), ((b 9), iA cI Lm), ((b 10), iA cI Hm), ((b 11), iA cI Mm), ((b 12), iA cI Rw), ((b 13), iA cI St)] H := hP
        have hD : va_D A [((b 0), oM b 0 mo co le), ((b 4), iA cI (upd K (pAt x y) (rzV k x y))), ((b 5), iA cI Ah), ((b 6), iA cI Ot), ((b 7), iA cI Qm), ((b 8), iA cI Op), ((b 9), iA cI Lm), ((b 10), iA cI Hm), ((b 11), iA cI Mm), ((b 12), iA cI Rw), ((b 13), iA cI St)] := hD
        refine lv_iload_n hx hb dX2_raze_69 rfl (lv_at hl 0 rfl) ?_
        subst hQ
        subst hAe
        rw [hcd, nkO_0]
        exact wr_i (upd K (pAt x y) (rzV k x y)) (⟨fun _ => rfl, eqK_upd hk⟩) hx hb hr hP hD hS hlocks dX2_raze_70

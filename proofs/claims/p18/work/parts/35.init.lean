def rmX0_init : Room := { frames := 4, cells := 10, slots := 640, locals := 95 }
set_option maxHeartbeats 4000000 in
set_option maxRecDepth 100000 in
/-- a new city -/
theorem c_X0_init (l : Launch) (G : va_G) (cI : ClassId) (h : Nat)  (sz : Nat) : Met l yX0_init wsX0_init rmX0_init (va_Pc [.ref h] (WrP G cI [(h, .inr (0, [.int 0, .int 0, .int 0, .null, .null, .null, .null, .null, .null, .null, .null, .null, .null]))] sz)) (va_Qv (fun (u : (Nat → Nat) × (Nat → Int32) × (Nat → Int32) × (Nat → Int32) × (Nat → Int32) × (Nat → Int32) × (Nat → Int32) × (Nat → Int32) × (Nat → Int32) × (Nat → Int32)) => (u.1 0 = h ∧ eqK (u.2.1) k0) ∧ SVd k0 (u.2.2.1) (u.2.2.2.1) (u.2.2.2.2.1) (u.2.2.2.2.2.1) (u.2.2.2.2.2.2.1) (u.2.2.2.2.2.2.2.1) (u.2.2.2.2.2.2.2.2.1)) (WrB G [(h, .inr (0, [.int 0, .int 0, .int 0, .null, .null, .null, .null, .null, .null, .null, .null, .null, .null]))] sz (fun u => wC cI u.1 0 60 0 (u.2.1) (u.2.2.1) (u.2.2.2.1) (u.2.2.2.2.1) (u.2.2.2.2.2.1) (u.2.2.2.2.2.2.1) (u.2.2.2.2.2.2.2.1) (u.2.2.2.2.2.2.2.2.1) (fun _ => 0) (u.2.2.2.2.2.2.2.2.2))) (va_A [(h, .inr (0, [.int 0, .int 0, .int 0, .null, .null, .null, .null, .null, .null, .null, .null, .null, .null]))] sz)) 10 640 (va_A [(h, .inr (0, [.int 0, .int 0, .int 0, .null, .null, .null, .null, .null, .null, .null, .null, .null, .null]))] sz) := by
  refine Met.ofW (cc := cX0_init) (maxL := 2) (ret := none) (by decide) rfl ?_
  intro p e s m args below meth c s₁ B hml hv
  obtain ⟨rfl, hsz, hP, hK, hD0, hN⟩ := hv
  have hx := B.exec
  have hb := B.bytes
  have hr := B.returns
  have hlocks := B.notSynchronized
  have hts := atoms_spec (ws := wsX0_init) B.pre
  have hin9 : meth.name = "<init>" := (name_of_methodNamed B.named B.method).1
  have hown : s.vm.findClass RX0 = some m.cls := findClass_of_methodNamed B.named
  subst hsz
  have hD := hD0.self (sz := s.heap.size)
  have hA : ∀ q : Nat, s.heap.size ≤ q → va_A [(h, .inr (0, [.int 0, .int 0, .int 0, .null, .null, .null, .null, .null, .null, .null, .null, .null, .null]))] s.heap.size q := fun q h => Or.inr h
  have hS : va_S (va_A [(h, .inr (0, [.int 0, .int 0, .int 0, .null, .null, .null, .null, .null, .null, .null, .null, .null, .null]))] s.heap.size) s.heap s.heap [] := va_S.rf
  obtain ⟨A, hAe⟩ : ∃ A, A = va_A [(h, .inr (0, [.int 0, .int 0, .int 0, .null, .null, .null, .null, .null, .null, .null, .null, .null, .null]))] s.heap.size := ⟨_, rfl⟩
  rw [← hAe] at hD hA hS
  have FX : CallFix p m c cX0_init 2 s ([.ref h] : List Value).toArray wsX0_init RX0 := ⟨hx, hb, hml, hown, hts⟩
  have hl := lv_entry ([.ref h]) (n := 2) (Nat.le_of_ble_eq_true rfl)
  rw [lg_entry_eq]
  generalize (lg_sl ([.ref h]) ++ List.replicate (2 - (lg_sl ([.ref h])).length) Slot.unset).toArray = ls at hl ⊢
  have hl : lv_has ls 2 [(0, .ref h)] := hl
  refine wq (fun Q hQ => ?_)
  have hzc : 0 + 0 ≤ (headSpec wsX0_init rmX0_init).room.cells := Nat.zero_le _
  have hzs : 0 + 0 ≤ (headSpec wsX0_init rmX0_init).room.slots := Nat.zero_le _
  have hf15 := hts (.fieldLink RX0 15 "CanalCity$City" "coins" "I") (by decide +kernel)
  have hf18 := hts (.fieldLink RX0 18 "CanalCity$City" "left" "I") (by decide +kernel)
  have hf21 := hts (.fieldLink RX0 21 "CanalCity$City" "kinds" "[I") (by decide +kernel)
  have hf25 := hts (.fieldLink RX0 25 "CanalCity$City" "quarters" "[I") (by decide +kernel)
  have hf28 := hts (.fieldLink RX0 28 "CanalCity$City" "lotsOf" "[I") (by decide +kernel)
  have hf31 := hts (.fieldLink RX0 31 "CanalCity$City" "housesOf" "[I") (by decide +kernel)
  have hf34 := hts (.fieldLink RX0 34 "CanalCity$City" "marketsOf" "[I") (by decide +kernel)
  have hf37 := hts (.fieldLink RX0 37 "CanalCity$City" "boatSteps" "[I") (by decide +kernel)
  have hf40 := hts (.fieldLink RX0 40 "CanalCity$City" "complaints" "[I") (by decide +kernel)
  have hf43 := hts (.fieldLink RX0 43 "CanalCity$City" "dues" "[I") (by decide +kernel)
  have hf46 := hts (.fieldLink RX0 46 "CanalCity$City" "footSteps" "[I") (by decide +kernel)
  have hf49 := hts (.fieldLink RX0 49 "CanalCity$City" "waiting" "[I") (by decide +kernel)
  have hf9 := hts (.fieldLink RX0 9 "CanalCity$City" "month" "I") (by decide +kernel)
  have hinX0 : ∀ w ∈ u_ws RX0 TX0 13, w ∈ wsX0_init := by decide +kernel
  refine lv_aload_n hx hb dX0_init_0 rfl (lv_at hl 0 rfl) ?_
  refine W.objInit hx hb hown (hts (.methodLink RX0 3 objectInit) (by decide +kernel)) (hts (.instanceMethod objectInit) (by decide +kernel)) (hts (.code objectInit ⟨#[0xb1]⟩ 1 none) (by decide +kernel)) rfl (by rw [hml]; exact hl.1) rfl dX0_init_1 (Nat.le_of_ble_eq_true rfl) (Nat.le_of_ble_eq_true rfl) ?_
  refine W.eq (g2 := F0 m 4 ls []) rfl ?_
  refine lv_aload_n hx hb dX0_init_4 rfl (lv_at hl 0 rfl) ?_
  refine lv_iconst (v := 0) hx hb dX0_init_5 (by decide) ?_
  refine va_put (D := G) (ci := 0) (v := .int 0) (ty := .int) (C := RX0) (T := TX0) (N := 13) hx hb hts hinX0 tyX0 tyX0_ok nmX0 hown hK hP hD hS 0 rfl rfl 0 (by decide) hf9 (fun _ h9 => h9) rfl (by decide +kernel) rfl rfl (Nat.le_of_ble_eq_true rfl) dX0_init_6 (fun H locs hP hD hS => ?_)
  have hP : va_P G vwCl [(h, .inr (0, [.int 0, .int 0, .int 0, .null, .null, .null, .null, .null, .null, .null, .null, .null, .null]))] H := hP
  have hD : va_D A [(h, .inr (0, [.int 0, .int 0, .int 0, .null, .null, .null, .null, .null, .null, .null, .null, .null, .null]))] := hD
  refine lv_aload_n hx hb dX0_init_9 rfl (lv_at hl 0 rfl) ?_
  refine lv_bipush (v := 60) hx hb dX0_init_10 (by decide) ?_
  refine va_put (D := G) (ci := 0) (v := .int 60) (ty := .int) (C := RX0) (T := TX0) (N := 13) hx hb hts hinX0 tyX0 tyX0_ok nmX0 hown hK hP hD hS 0 rfl rfl 1 (by decide) hf15 (fun _ h9 => h9) rfl (by decide +kernel) rfl rfl (Nat.le_of_ble_eq_true rfl) dX0_init_12 (fun H locs hP hD hS => ?_)
  have hP : va_P G vwCl [(h, .inr (0, [.int 0, .int 60, .int 0, .null, .null, .null, .null, .null, .null, .null, .null, .null, .null]))] H := hP
  have hD : va_D A [(h, .inr (0, [.int 0, .int 60, .int 0, .null, .null, .null, .null, .null, .null, .null, .null, .null, .null]))] := hD
  refine lv_aload_n hx hb dX0_init_15 rfl (lv_at hl 0 rfl) ?_
  refine lv_iconst (v := 0) hx hb dX0_init_16 (by decide) ?_
  refine va_put (D := G) (ci := 0) (v := .int 0) (ty := .int) (C := RX0) (T := TX0) (N := 13) hx hb hts hinX0 tyX0 tyX0_ok nmX0 hown hK hP hD hS 0 rfl rfl 2 (by decide) hf18 (fun _ h9 => h9) rfl (by decide +kernel) rfl rfl (Nat.le_of_ble_eq_true rfl) dX0_init_17 (fun H locs hP hD hS => ?_)
  have hP : va_P G vwCl [(h, .inr (0, [.int 0, .int 60, .int 0, .null, .null, .null, .null, .null, .null, .null, .null, .null, .null]))] H := hP
  have hD : va_D A [(h, .inr (0, [.int 0, .int 60, .int 0, .null, .null, .null, .null, .null, .null, .null, .null, .null, .null]))] := hD
  refine lv_aload_n hx hb dX0_init_20 rfl (lv_at hl 0 rfl) ?_
  refine lv_bipush (v := 64) hx hb dX0_init_21 (by decide) ?_
  refine va_newI hx hb (hts (.arrayClass .int) (by decide +kernel)) hK hP hD hS hA (Nat.le_of_ble_eq_true rfl) (Nat.le_of_ble_eq_true rfl) dX0_init_23 (fun q3 H hP hD hS => ?_)
  have hP : va_P G vwCl [(h, .inr (0, [.int 0, .int 60, .int 0, .null, .null, .null, .null, .null, .null, .null, .null, .null, .null])), (q3, iA cI (fun _ => 0))] H := hP
  have hD : va_D A [(h, .inr (0, [.int 0, .int 60, .int 0, .null, .null, .null, .null, .null, .null, .null, .null, .null, .null])), (q3, iA cI (fun _ => 0))] := hD
  refine va_putF (D := G) (ci := 0) (v := .ref q3) (ty := (.array .int)) (C := RX0) (T := TX0) (N := 13) hx hb hts hinX0 tyX0 tyX0_ok nmX0 hown hK hP hD hS 0 rfl rfl 3 (by decide) hf21 (fun _ h9 => h9) rfl hin9 rfl (by decide +kernel) rfl rfl (Nat.le_of_ble_eq_true rfl) dX0_init_25 (fun H locs hP hD hS => ?_)
  have hP : va_P G vwCl [(h, .inr (0, [.int 0, .int 60, .int 0, .ref q3, .null, .null, .null, .null, .null, .null, .null, .null, .null])), (q3, iA cI (fun _ => 0))] H := hP
  have hD : va_D A [(h, .inr (0, [.int 0, .int 60, .int 0, .ref q3, .null, .null, .null, .null, .null, .null, .null, .null, .null])), (q3, iA cI (fun _ => 0))] := hD
  refine lv_aload_n hx hb dX0_init_28 rfl (lv_at hl 0 rfl) ?_
  refine lv_bipush (v := 64) hx hb dX0_init_29 (by decide) ?_
  refine va_newI hx hb (hts (.arrayClass .int) (by decide +kernel)) hK hP hD hS hA (Nat.le_of_ble_eq_true rfl) (Nat.le_of_ble_eq_true rfl) dX0_init_31 (fun q4 H hP hD hS => ?_)
  have hP : va_P G vwCl [(h, .inr (0, [.int 0, .int 60, .int 0, .ref q3, .null, .null, .null, .null, .null, .null, .null, .null, .null])), (q3, iA cI (fun _ => 0)), (q4, iA cI (fun _ => 0))] H := hP
  have hD : va_D A [(h, .inr (0, [.int 0, .int 60, .int 0, .ref q3, .null, .null, .null, .null, .null, .null, .null, .null, .null])), (q3, iA cI (fun _ => 0)), (q4, iA cI (fun _ => 0))] := hD
  refine va_putF (D := G) (ci := 0) (v := .ref q4) (ty := (.array .int)) (C := RX0) (T := TX0) (N := 13) hx hb hts hinX0 tyX0 tyX0_ok nmX0 hown hK hP hD hS 0 rfl rfl 4 (by decide) hf25 (fun _ h9 => h9) rfl hin9 rfl (by decide +kernel) rfl rfl (Nat.le_of_ble_eq_true rfl) dX0_init_33 (fun H locs hP hD hS => ?_)
  have hP : va_P G vwCl [(h, .inr (0, [.int 0, .int 60, .int 0, .ref q3, .ref q4, .null, .null, .null, .null, .null, .null, .null, .null])), (q3, iA cI (fun _ => 0)), (q4, iA cI (fun _ => 0))] H := hP
  have hD : va_D A [(h, .inr (0, [.int 0, .int 60, .int 0, .ref q3, .ref q4, .null, .null, .null, .null, .null, .null, .null, .null])), (q3, iA cI (fun _ => 0)), (q4, iA cI (fun _ => 0))] := hD
  refine lv_aload_n hx hb dX0_init_36 rfl (lv_at hl 0 rfl) ?_
  refine lv_bipush (v := 64) hx hb dX0_init_37 (by decide) ?_
  refine va_newI hx hb (hts (.arrayClass .int) (by decide +kernel)) hK hP hD hS hA (Nat.le_of_ble_eq_true rfl) (Nat.le_of_ble_eq_true rfl) dX0_init_39 (fun q5 H hP hD hS => ?_)
  have hP : va_P G vwCl [(h, .inr (0, [.int 0, .int 60, .int 0, .ref q3, .ref q4, .null, .null, .null, .null, .null, .null, .null, .null])), (q3, iA cI (fun _ => 0)), (q4, iA cI (fun _ => 0)), (q5, iA cI (fun _ => 0))] H := hP
  have hD : va_D A [(h, .inr (0, [.int 0, .int 60, .int 0, .ref q3, .ref q4, .null, .null, .null, .null, .null, .null, .null, .null])), (q3, iA cI (fun _ => 0)), (q4, iA cI (fun _ => 0)), (q5, iA cI (fun _ => 0))] := hD
  refine va_putF (D := G) (ci := 0) (v := .ref q5) (ty := (.array .int)) (C := RX0) (T := TX0) (N := 13) hx hb hts hinX0 tyX0 tyX0_ok nmX0 hown hK hP hD hS 0 rfl rfl 5 (by decide) hf28 (fun _ h9 => h9) rfl hin9 rfl (by decide +kernel) rfl rfl (Nat.le_of_ble_eq_true rfl) dX0_init_41 (fun H locs hP hD hS => ?_)
  have hP : va_P G vwCl [(h, .inr (0, [.int 0, .int 60, .int 0, .ref q3, .ref q4, .ref q5, .null, .null, .null, .null, .null, .null, .null])), (q3, iA cI (fun _ => 0)), (q4, iA cI (fun _ => 0)), (q5, iA cI (fun _ => 0))] H := hP
  have hD : va_D A [(h, .inr (0, [.int 0, .int 60, .int 0, .ref q3, .ref q4, .ref q5, .null, .null, .null, .null, .null, .null, .null])), (q3, iA cI (fun _ => 0)), (q4, iA cI (fun _ => 0)), (q5, iA cI (fun _ => 0))] := hD
  refine lv_aload_n hx hb dX0_init_44 rfl (lv_at hl 0 rfl) ?_
  refine lv_bipush (v := 64) hx hb dX0_init_45 (by decide) ?_
  refine va_newI hx hb (hts (.arrayClass .int) (by decide +kernel)) hK hP hD hS hA (Nat.le_of_ble_eq_true rfl) (Nat.le_of_ble_eq_true rfl) dX0_init_47 (fun q6 H hP hD hS => ?_)
  have hP : va_P G vwCl [(h, .inr (0, [.int 0, .int 60, .int 0, .ref q3, .ref q4, .ref q5, .null, .null, .null, .null, .null, .null, .null])), (q3, iA cI (fun _ => 0)), (q4, iA cI (fun _ => 0)), (q5, iA cI (fun _ => 0)), (q6, iA cI (fun _ => 0))] H := hP
  have hD : va_D A [(h, .inr (0, [.int 0, .int 60, .int 0, .ref q3, .ref q4, .ref q5, .null, .null, .null, .null, .null, .null, .null])), (q3, iA cI (fun _ => 0)), (q4, iA cI (fun _ => 0)), (q5, iA cI (fun _ => 0)), (q6, iA cI (fun _ => 0))] := hD
  refine va_putF (D := G) (ci := 0) (v := .ref q6) (ty := (.array .int)) (C := RX0) (T := TX0) (N := 13) hx hb hts hinX0 tyX0 tyX0_ok nmX0 hown hK hP hD hS 0 rfl rfl 6 (by decide) hf31 (fun _ h9 => h9) rfl hin9 rfl (by decide +kernel) rfl rfl (Nat.le_of_ble_eq_true rfl) dX0_init_49 (fun H locs hP hD hS => ?_)
  have hP : va_P G vwCl [(h, .inr (0, [.int 0, .int 60, .int 0, .ref q3, .ref q4, .ref q5, .ref q6, .null, .null, .null, .null, .null, .null])), (q3, iA cI (fun _ => 0)), (q4, iA cI (fun _ => 0)), (q5, iA cI (fun _ => 0)), (q6, iA cI (fun _ => 0))] H := hP
  have hD : va_D A [(h, .inr (0, [.int 0, .int 60, .int 0, .ref q3, .ref q4, .ref q5, .ref q6, .null, .null, .null, .null, .null, .null])), (q3, iA cI (fun _ => 0)), (q4, iA cI (fun _ => 0)), (q5, iA cI (fun _ => 0)), (q6, iA cI (fun _ => 0))] := hD
  refine lv_aload_n hx hb dX0_init_52 rfl (lv_at hl 0 rfl) ?_
  refine lv_bipush (v := 64) hx hb dX0_init_53 (by decide) ?_
  refine va_newI hx hb (hts (.arrayClass .int) (by decide +kernel)) hK hP hD hS hA (Nat.le_of_ble_eq_true rfl) (Nat.le_of_ble_eq_true rfl) dX0_init_55 (fun q7 H hP hD hS => ?_)
  have hP : va_P G vwCl [(h, .inr (0, [.int 0, .int 60, .int 0, .ref q3, .ref q4, .ref q5, .ref q6, .null, .null, .null, .null, .null, .null])), (q3, iA cI (fun _ => 0)), (q4, iA cI (fun _ => 0)), (q5, iA cI (fun _ => 0)), (q6, iA cI (fun _ => 0)), (q7, iA cI (fun _ => 0))] H := hP
  have hD : va_D A [(h, .inr (0, [.int 0, .int 60, .int 0, .ref q3, .ref q4, .ref q5, .ref q6, .null, .null, .null, .null, .null, .null])), (q3, iA cI (fun _ => 0)), (q4, iA cI (fun _ => 0)), (q5, iA cI (fun _ => 0)), (q6, iA cI (fun _ => 0)), (q7, iA cI (fun _ => 0))] := hD
  refine va_putF (D := G) (ci := 0) (v := .ref q7) (ty := (.array .int)) (C := RX0) (T := TX0) (N := 13) hx hb hts hinX0 tyX0 tyX0_ok nmX0 hown hK hP hD hS 0 rfl rfl 7 (by decide) hf34 (fun _ h9 => h9) rfl hin9 rfl (by decide +kernel) rfl rfl (Nat.le_of_ble_eq_true rfl) dX0_init_57 (fun H locs hP hD hS => ?_)
  have hP : va_P G vwCl [(h, .inr (0, [.int 0, .int 60, .int 0, .ref q3, .ref q4, .ref q5, .ref q6, .ref q7, .null, .null, .null, .null, .null])), (q3, iA cI (fun _ => 0)), (q4, iA cI (fun _ => 0)), (q5, iA cI (fun _ => 0)), (q6, iA cI (fun _ => 0)), (q7, iA cI (fun _ => 0))] H := hP
  have hD : va_D A [(h, .inr (0, [.int 0, .int 60, .int 0, .ref q3, .ref q4, .ref q5, .ref q6, .ref q7, .null, .null, .null, .null, .null])), (q3, iA cI (fun _ => 0)), (q4, iA cI (fun _ => 0)), (q5, iA cI (fun _ => 0)), (q6, iA cI (fun _ => 0)), (q7, iA cI (fun _ => 0))] := hD
  refine lv_aload_n hx hb dX0_init_60 rfl (lv_at hl 0 rfl) ?_
  refine lv_bipush (v := 64) hx hb dX0_init_61 (by decide) ?_
  refine va_newI hx hb (hts (.arrayClass .int) (by decide +kernel)) hK hP hD hS hA (Nat.le_of_ble_eq_true rfl) (Nat.le_of_ble_eq_true rfl) dX0_init_63 (fun q8 H hP hD hS => ?_)
  have hP : va_P G vwCl [(h, .inr (0, [.int 0, .int 60, .int 0, .ref q3, .ref q4, .ref q5, .ref q6, .ref q7, .null, .null, .null, .null, .null])), (q3, iA cI (fun _ => 0)), (q4, iA cI (fun _ => 0)), (q5, iA cI (fun _ => 0)), (q6, iA cI (fun _ => 0)), (q7, iA cI (fun _ => 0)), (q8, iA cI (fun _ => 0))] H := hP
  have hD : va_D A [(h, .inr (0, [.int 0, .int 60, .int 0, .ref q3, .ref q4, .ref q5, .ref q6, .ref q7, .null, .null, .null, .null, .null])), (q3, iA cI (fun _ => 0)), (q4, iA cI (fun _ => 0)), (q5, iA cI (fun _ => 0)), (q6, iA cI (fun _ => 0)), (q7, iA cI (fun _ => 0)), (q8, iA cI (fun _ => 0))] := hD
  refine va_putF (D := G) (ci := 0) (v := .ref q8) (ty := (.array .int)) (C := RX0) (T := TX0) (N := 13) hx hb hts hinX0 tyX0 tyX0_ok nmX0 hown hK hP hD hS 0 rfl rfl 8 (by decide) hf37 (fun _ h9 => h9) rfl hin9 rfl (by decide +kernel) rfl rfl (Nat.le_of_ble_eq_true rfl) dX0_init_65 (fun H locs hP hD hS => ?_)
  have hP : va_P G vwCl [(h, .inr (0, [.int 0, .int 60, .int 0, .ref q3, .ref q4, .ref q5, .ref q6, .ref q7, .ref q8, .null, .null, .null, .null])), (q3, iA cI (fun _ => 0)), (q4, iA cI (fun _ => 0)), (q5, iA cI (fun _ => 0)), (q6, iA cI (fun _ => 0)), (q7, iA cI (fun _ => 0)), (q8, iA cI (fun _ => 0))] H := hP
  have hD : va_D A [(h, .inr (0, [.int 0, .int 60, .int 0, .ref q3, .ref q4, .ref q5, .ref q6, .ref q7, .ref q8, .null, .null, .null, .null])), (q3, iA cI (fun _ => 0)), (q4, iA cI (fun _ => 0)), (q5, iA cI (fun _ => 0)), (q6, iA cI (fun _ => 0)), (q7, iA cI (fun _ => 0)), (q8, iA cI (fun _ => 0))] := hD
  refine lv_aload_n hx hb dX0_init_68 rfl (lv_at hl 0 rfl) ?_
  refine lv_bipush (v := 64) hx hb dX0_init_69 (by decide) ?_
  refine va_newI hx hb (hts (.arrayClass .int) (by decide +kernel)) hK hP hD hS hA (Nat.le_of_ble_eq_true rfl) (Nat.le_of_ble_eq_true rfl) dX0_init_71 (fun q9 H hP hD hS => ?_)
  have hP : va_P G vwCl [(h, .inr (0, [.int 0, .int 60, .int 0, .ref q3, .ref q4, .ref q5, .ref q6, .ref q7, .ref q8, .null, .null, .null, .null])), (q3, iA cI (fun _ => 0)), (q4, iA cI (fun _ => 0)), (q5, iA cI (fun _ => 0)), (q6, iA cI (fun _ => 0)), (q7, iA cI (fun _ => 0)), (q8, iA cI (fun _ => 0)), (q9, iA cI (fun _ => 0))] H := hP
  have hD : va_D A [(h, .inr (0, [.int 0, .int 60, .int 0, .ref q3, .ref q4, .ref q5, .ref q6, .ref q7, .ref q8, .null, .null, .null, .null])), (q3, iA cI (fun _ => 0)), (q4, iA cI (fun _ => 0)), (q5, iA cI (fun _ => 0)), (q6, iA cI (fun _ => 0)), (q7, iA cI (fun _ => 0)), (q8, iA cI (fun _ => 0)), (q9, iA cI (fun _ => 0))] := hD
  refine va_putF (D := G) (ci := 0) (v := .ref q9) (ty := (.array .int)) (C := RX0) (T := TX0) (N := 13) hx hb hts hinX0 tyX0 tyX0_ok nmX0 hown hK hP hD hS 0 rfl rfl 9 (by decide) hf40 (fun _ h9 => h9) rfl hin9 rfl (by decide +kernel) rfl rfl (Nat.le_of_ble_eq_true rfl) dX0_init_73 (fun H locs hP hD hS => ?_)
  have hP : va_P G vwCl [(h, .inr (0, [.int 0, .int 60, .int 0, .ref q3, .ref q4, .ref q5, .ref q6, .ref q7, .ref q8, .ref q9, .null, .null, .null])), (q3, iA cI (fun _ => 0)), (q4, iA cI (fun _ => 0)), (q5, iA cI (fun _ => 0)), (q6, iA cI (fun _ => 0)), (q7, iA cI (fun _ => 0)), (q8, iA cI (fun _ => 0)), (q9, iA cI (fun _ => 0))] H := hP
  have hD : va_D A [(h, .inr (0, [.int 0, .int 60, .int 0, .ref q3, .ref q4, .ref q5, .ref q6, .ref q7, .ref q8, .ref q9, .null, .null, .null])), (q3, iA cI (fun _ => 0)), (q4, iA cI (fun _ => 0)), (q5, iA cI (fun _ => 0)), (q6, iA cI (fun _ => 0)), (q7, iA cI (fun _ => 0)), (q8, iA cI (fun _ => 0)), (q9, iA cI (fun _ => 0))] := hD
  refine lv_aload_n hx hb dX0_init_76 rfl (lv_at hl 0 rfl) ?_
  refine lv_bipush (v := 64) hx hb dX0_init_77 (by decide) ?_
  refine va_newI hx hb (hts (.arrayClass .int) (by decide +kernel)) hK hP hD hS hA (Nat.le_of_ble_eq_true rfl) (Nat.le_of_ble_eq_true rfl) dX0_init_79 (fun q10 H hP hD hS => ?_)
  have hP : va_P G vwCl [(h, .inr (0, [.int 0, .int 60, .int 0, .ref q3, .ref q4, .ref q5, .ref q6, .ref q7, .ref q8, .ref q9, .null, .null, .null])), (q3, iA cI (fun _ => 0)), (q4, iA cI (fun _ => 0)), (q5, iA cI (fun _ => 0)), (q6, iA cI (fun _ => 0)), (q7, iA cI (fun _ => 0)), (q8, iA cI (fun _ => 0)), (q9, iA cI (fun _ => 0)), (q10, iA cI (fun _ => 0))] H := hP
  have hD : va_D A [(h, .inr (0, [.int 0, .int 60, .int 0, .ref q3, .ref q4, .ref q5, .ref q6, .ref q7, .ref q8, .ref q9, .null, .null, .null])), (q3, iA cI (fun _ => 0)), (q4, iA cI (fun _ => 0)), (q5, iA cI (fun _ => 0)), (q6, iA cI (fun _ => 0)), (q7, iA cI (fun _ => 0)), (q8, iA cI (fun _ => 0)), (q9, iA cI (fun _ => 0)), (q10, iA cI (fun _ => 0))] := hD
  refine va_putF (D := G) (ci := 0) (v := .ref q10) (ty := (.array .int)) (C := RX0) (T := TX0) (N := 13) hx hb hts hinX0 tyX0 tyX0_ok nmX0 hown hK hP hD hS 0 rfl rfl 10 (by decide) hf43 (fun _ h9 => h9) rfl hin9 rfl (by decide +kernel) rfl rfl (Nat.le_of_ble_eq_true rfl) dX0_init_81 (fun H locs hP hD hS => ?_)
  have hP : va_P G vwCl [(h, .inr (0, [.int 0, .int 60, .int 0, .ref q3, .ref q4, .ref q5, .ref q6, .ref q7, .ref q8, .ref q9, .ref q10, .null, .null])), (q3, iA cI (fun _ => 0)), (q4, iA cI (fun _ => 0)), (q5, iA cI (fun _ => 0)), (q6, iA cI (fun _ => 0)), (q7, iA cI (fun _ => 0)), (q8, iA cI (fun _ => 0)), (q9, iA cI (fun _ => 0)), (q10, iA cI (fun _ => 0))] H := hP
  have hD : va_D A [(h, .inr (0, [.int 0, .int 60, .int 0, .ref q3, .ref q4, .ref q5, .ref q6, .ref q7, .ref q8, .ref q9, .ref q10, .null, .null])), (q3, iA cI (fun _ => 0)), (q4, iA cI (fun _ => 0)), (q5, iA cI (fun _ => 0)), (q6, iA cI (fun _ => 0)), (q7, iA cI (fun _ => 0)), (q8, iA cI (fun _ => 0)), (q9, iA cI (fun _ => 0)), (q10, iA cI (fun _ => 0))] := hD
  refine lv_aload_n hx hb dX0_init_84 rfl (lv_at hl 0 rfl) ?_
  refine lv_bipush (v := 64) hx hb dX0_init_85 (by decide) ?_
  refine va_newI hx hb (hts (.arrayClass .int) (by decide +kernel)) hK hP hD hS hA (Nat.le_of_ble_eq_true rfl) (Nat.le_of_ble_eq_true rfl) dX0_init_87 (fun q11 H hP hD hS => ?_)
  have hP : va_P G vwCl [(h, .inr (0, [.int 0, .int 60, .int 0, .ref q3, .ref q4, .ref q5, .ref q6, .ref q7, .ref q8, .ref q9, .ref q10, .null, .null])), (q3, iA cI (fun _ => 0)), (q4, iA cI (fun _ => 0)), (q5, iA cI (fun _ => 0)), (q6, iA cI (fun _ => 0)), (q7, iA cI (fun _ => 0)), (q8, iA cI (fun _ => 0)), (q9, iA cI (fun _ => 0)), (q10, iA cI (fun _ => 0)), (q11, iA cI (fun _ => 0))] H := hP
  have hD : va_D A [(h, .inr (0, [.int 0, .int 60, .int 0, .ref q3, .ref q4, .ref q5, .ref q6, .ref q7, .ref q8, .ref q9, .ref q10, .null, .null])), (q3, iA cI (fun _ => 0)), (q4, iA cI (fun _ => 0)), (q5, iA cI (fun _ => 0)), (q6, iA cI (fun _ => 0)), (q7, iA cI (fun _ => 0)), (q8, iA cI (fun _ => 0)), (q9, iA cI (fun _ => 0)), (q10, iA cI (fun _ => 0)), (q11, iA cI (fun _ => 0))] := hD
  refine va_putF (D := G) (ci := 0) (v := .ref q11) (ty := (.array .int)) (C := RX0) (T := TX0) (N := 13) hx hb hts hinX0 tyX0 tyX0_ok nmX0 hown hK hP hD hS 0 rfl rfl 11 (by decide) hf46 (fun _ h9 => h9) rfl hin9 rfl (by decide +kernel) rfl rfl (Nat.le_of_ble_eq_true rfl) dX0_init_89 (fun H locs hP hD hS => ?_)
  have hP : va_P G vwCl [(h, .inr (0, [.int 0, .int 60, .int 0, .ref q3, .ref q4, .ref q5, .ref q6, .ref q7, .ref q8, .ref q9, .ref q10, .ref q11, .null])), (q3, iA cI (fun _ => 0)), (q4, iA cI (fun _ => 0)), (q5, iA cI (fun _ => 0)), (q6, iA cI (fun _ => 0)), (q7, iA cI (fun _ => 0)), (q8, iA cI (fun _ => 0)), (q9, iA cI (fun _ => 0)), (q10, iA cI (fun _ => 0)), (q11, iA cI (fun _ => 0))] H := hP
  have hD : va_D A [(h, .inr (0, [.int 0, .int 60, .int 0, .ref q3, .ref q4, .ref q5, .ref q6, .ref q7, .ref q8, .ref q9, .ref q10, .ref q11, .null])), (q3, iA cI (fun _ => 0)), (q4, iA cI (fun _ => 0)), (q5, iA cI (fun _ => 0)), (q6, iA cI (fun _ => 0)), (q7, iA cI (fun _ => 0)), (q8, iA cI (fun _ => 0)), (q9, iA cI (fun _ => 0)), (q10, iA cI (fun _ => 0)), (q11, iA cI (fun _ => 0))] := hD
  refine lv_aload_n hx hb dX0_init_92 rfl (lv_at hl 0 rfl) ?_
  refine lv_bipush (v := 64) hx hb dX0_init_93 (by decide) ?_
  refine va_newI hx hb (hts (.arrayClass .int) (by decide +kernel)) hK hP hD hS hA (Nat.le_of_ble_eq_true rfl) (Nat.le_of_ble_eq_true rfl) dX0_init_95 (fun q12 H hP hD hS => ?_)
  have hP : va_P G vwCl [(h, .inr (0, [.int 0, .int 60, .int 0, .ref q3, .ref q4, .ref q5, .ref q6, .ref q7, .ref q8, .ref q9, .ref q10, .ref q11, .null])), (q3, iA cI (fun _ => 0)), (q4, iA cI (fun _ => 0)), (q5, iA cI (fun _ => 0)), (q6, iA cI (fun _ => 0)), (q7, iA cI (fun _ => 0)), (q8, iA cI (fun _ => 0)), (q9, iA cI (fun _ => 0)), (q10, iA cI (fun _ => 0)), (q11, iA cI (fun _ => 0)), (q12, iA cI (fun _ => 0))] H := hP
  have hD : va_D A [(h, .inr (0, [.int 0, .int 60, .int 0, .ref q3, .ref q4, .ref q5, .ref q6, .ref q7, .ref q8, .ref q9, .ref q10, .ref q11, .null])), (q3, iA cI (fun _ => 0)), (q4, iA cI (fun _ => 0)), (q5, iA cI (fun _ => 0)), (q6, iA cI (fun _ => 0)), (q7, iA cI (fun _ => 0)), (q8, iA cI (fun _ => 0)), (q9, iA cI (fun _ => 0)), (q10, iA cI (fun _ => 0)), (q11, iA cI (fun _ => 0)), (q12, iA cI (fun _ => 0))] := hD
  refine va_putF (D := G) (ci := 0) (v := .ref q12) (ty := (.array .int)) (C := RX0) (T := TX0) (N := 13) hx hb hts hinX0 tyX0 tyX0_ok nmX0 hown hK hP hD hS 0 rfl rfl 12 (by decide) hf49 (fun _ h9 => h9) rfl hin9 rfl (by decide +kernel) rfl rfl (Nat.le_of_ble_eq_true rfl) dX0_init_97 (fun H locs hP hD hS => ?_)
  have hP : va_P G vwCl [(h, .inr (0, [.int 0, .int 60, .int 0, .ref q3, .ref q4, .ref q5, .ref q6, .ref q7, .ref q8, .ref q9, .ref q10, .ref q11, .ref q12])), (q3, iA cI (fun _ => 0)), (q4, iA cI (fun _ => 0)), (q5, iA cI (fun _ => 0)), (q6, iA cI (fun _ => 0)), (q7, iA cI (fun _ => 0)), (q8, iA cI (fun _ => 0)), (q9, iA cI (fun _ => 0)), (q10, iA cI (fun _ => 0)), (q11, iA cI (fun _ => 0)), (q12, iA cI (fun _ => 0))] H := hP
  have hD : va_D A [(h, .inr (0, [.int 0, .int 60, .int 0, .ref q3, .ref q4, .ref q5, .ref q6, .ref q7, .ref q8, .ref q9, .ref q10, .ref q11, .ref q12])), (q3, iA cI (fun _ => 0)), (q4, iA cI (fun _ => 0)), (q5, iA cI (fun _ => 0)), (q6, iA cI (fun _ => 0)), (q7, iA cI (fun _ => 0)), (q8, iA cI (fun _ => 0)), (q9, iA cI (fun _ => 0)), (q10, iA cI (fun _ => 0)), (q11, iA cI (fun _ => 0)), (q12, iA cI (fun _ => 0))] := hD
  refine W.widen (k := 10) (n := 640) (by decide) (by decide) ?_
  have hPn : va_P G vwCl [((mkA h q3 q4 q5 q6 q7 q8 q9 q10 q11 q12 0) 0, oC (mkA h q3 q4 q5 q6 q7 q8 q9 q10 q11 q12 0) 0 60 0), ((mkA h q3 q4 q5 q6 q7 q8 q9 q10 q11 q12 0) 3, iA cI (fun _ => 0)), ((mkA h q3 q4 q5 q6 q7 q8 q9 q10 q11 q12 0) 4, iA cI (fun _ => 0)), ((mkA h q3 q4 q5 q6 q7 q8 q9 q10 q11 q12 0) 5, iA cI (fun _ => 0)), ((mkA h q3 q4 q5 q6 q7 q8 q9 q10 q11 q12 0) 6, iA cI (fun _ => 0)), ((mkA h q3 q4 q5 q6 q7 q8 q9 q10 q11 q12 0) 7, iA cI (fun _ => 0)), ((mkA h q3 q4 q5 q6 q7 q8 q9 q10 q11 q12 0) 8, iA cI (fun _ => 0)), ((mkA h q3 q4 q5 q6 q7 q8 q9 q10 q11 q12 0) 9, iA cI (fun _ => 0)), ((mkA h q3 q4 q5 q6 q7 q8 q9 q10 q11 q12 0) 10, iA cI (fun _ => 0)), ((mkA h q3 q4 q5 q6 q7 q8 q9 q10 q11 q12 0) 11, iA cI (fun _ => 0)), ((mkA h q3 q4 q5 q6 q7 q8 q9 q10 q11 q12 0) 12, iA cI (fun _ => 0))] H := hP
  have hDn : va_D A [((mkA h q3 q4 q5 q6 q7 q8 q9 q10 q11 q12 0) 0, oC (mkA h q3 q4 q5 q6 q7 q8 q9 q10 q11 q12 0) 0 60 0), ((mkA h q3 q4 q5 q6 q7 q8 q9 q10 q11 q12 0) 3, iA cI (fun _ => 0)), ((mkA h q3 q4 q5 q6 q7 q8 q9 q10 q11 q12 0) 4, iA cI (fun _ => 0)), ((mkA h q3 q4 q5 q6 q7 q8 q9 q10 q11 q12 0) 5, iA cI (fun _ => 0)), ((mkA h q3 q4 q5 q6 q7 q8 q9 q10 q11 q12 0) 6, iA cI (fun _ => 0)), ((mkA h q3 q4 q5 q6 q7 q8 q9 q10 q11 q12 0) 7, iA cI (fun _ => 0)), ((mkA h q3 q4 q5 q6 q7 q8 q9 q10 q11 q12 0) 8, iA cI (fun _ => 0)), ((mkA h q3 q4 q5 q6 q7 q8 q9 q10 q11 q12 0) 9, iA cI (fun _ => 0)), ((mkA h q3 q4 q5 q6 q7 q8 q9 q10 q11 q12 0) 10, iA cI (fun _ => 0)), ((mkA h q3 q4 q5 q6 q7 q8 q9 q10 q11 q12 0) 11, iA cI (fun _ => 0)), ((mkA h q3 q4 q5 q6 q7 q8 q9 q10 q11 q12 0) 12, iA cI (fun _ => 0))] := hD
  obtain ⟨a, ha⟩ : ∃ z, z = (mkA h q3 q4 q5 q6 q7 q8 q9 q10 q11 q12 0) := ⟨_, rfl⟩
  rw [← ha] at hPn hDn
  have ha0 : h = a 0 := by rw [ha]; rfl
  clear ha
  subst ha0
  have hP := hPn
  have hD := hDn
  have hP : va_P G vwCl [((a 0), oC a 0 60 0), ((a 3), iA cI ((fun _ => 0))), ((a 4), iA cI ((fun _ => 0))), ((a 5), iA cI ((fun _ => 0))), ((a 6), iA cI ((fun _ => 0))), ((a 7), iA cI ((fun _ => 0))), ((a 8), iA cI ((fun _ => 0))), ((a 9), iA cI ((fun _ => 0))), ((a 10), iA cI ((fun _ => 0))), ((a 11), iA cI ((fun _ => 0))), ((a 12), iA cI ((fun _ => 0)))] H := hP
  have hD : va_D A [((a 0), oC a 0 60 0), ((a 3), iA cI ((fun _ => 0))), ((a 4), iA cI ((fun _ => 0))), ((a 5), iA cI ((fun _ => 0))), ((a 6), iA cI ((fun _ => 0))), ((a 7), iA cI ((fun _ => 0))), ((a 8), iA cI ((fun _ => 0))), ((a 9), iA cI ((fun _ => 0))), ((a 10), iA cI ((fun _ => 0))), ((a 11), iA cI ((fun _ => 0))), ((a 12), iA cI ((fun _ => 0)))] := hD
  refine lv_iconst (v := 0) hx hb dX0_init_100 (by decide) ?_
  refine tpi (x' := nI 0) (rfl) ?_
  refine lv_istore_n (lv' := [(1, .int (nI 0)), (0, .ref (a 0))]) hx hb dX0_init_101 rfl hl (by decide) rfl (fun ls hl => ?_)
  have lp : ∀ (n : Nat) (i : Nat) (K1 : Nat → Int32), (hi : i ≤ 8) → (hK1 : ∀ x, x < 64 → K1 x = k0p i x) → (8 - i) < n → ∀ (H : Heap) (locs : List Loc) (ls : Array Slot), va_P G vwCl [((a 0), oC a 0 60 0), ((a 3), iA cI K1), ((a 4), iA cI ((fun _ => 0))), ((a 5), iA cI ((fun _ => 0))), ((a 6), iA cI ((fun _ => 0))), ((a 7), iA cI ((fun _ => 0))), ((a 8), iA cI ((fun _ => 0))), ((a 9), iA cI ((fun _ => 0))), ((a 10), iA cI ((fun _ => 0))), ((a 11), iA cI ((fun _ => 0))), ((a 12), iA cI ((fun _ => 0)))] H → va_D A [((a 0), oC a 0 60 0), ((a 3), iA cI K1), ((a 4), iA cI ((fun _ => 0))), ((a 5), iA cI ((fun _ => 0))), ((a 6), iA cI ((fun _ => 0))), ((a 7), iA cI ((fun _ => 0))), ((a 8), iA cI ((fun _ => 0))), ((a 9), iA cI ((fun _ => 0))), ((a 10), iA cI ((fun _ => 0))), ((a 11), iA cI ((fun _ => 0))), ((a 12), iA cI ((fun _ => 0)))] → va_S A s.heap H locs → lv_has ls 2 [(0, .ref (a 0)), (1, .int (nI i))] → W p l e (headSpec wsX0_init rmX0_init).room s m ([.ref (a 0)] : List Value).toArray below meth c H locs 10 640 Q (F0 m 102 ls []) := by
    intro n
    induction n with
    | zero => intro i K1 hi hK1 hn; exact absurd hn (by omega)
    | succ n ih_lp =>
      intro i K1 hi hK1 hn H locs ls hP hD hS hl
      refine lv_iload_n hx hb dX0_init_102 rfl (lv_at hl 1 rfl) ?_
      refine lv_bipush (v := 8) hx hb dX0_init_103 (by decide) ?_
      rcases Nat.lt_or_ge i 8 with g | g
      · skip
        refine lv_icmp_ge (tgt := 126) hx hb dX0_init_105 (by decide) (fun c => absurd c (lt_n (n := 8) g (by decide))) (fun _ => ?_)
        refine lv_aload_n hx hb dX0_init_108 rfl (lv_at hl 0 rfl) ?_
        refine va_get (D := G) (ci := 0) (v := .ref (a 3)) (C := RX0) (T := TX0) (N := 13) hx hb hts hinX0 hown hK hP 0 rfl rfl 3 (by decide) hf21 (fun _ h9 => h9) rfl dX0_init_109 ?_
        refine lv_bipush (v := 8) hx hb dX0_init_112 (by decide) ?_
        refine lv_iload_n hx hb dX0_init_114 rfl (lv_at hl 1 rfl) ?_
        refine lv_imul hx hb dX0_init_115 ?_
        refine tpi (x' := nI (8 * i)) (pk_mul 8 i) ?_
        refine lv_iconst (v := 3) hx hb dX0_init_116 (by decide) ?_
        refine lv_iadd hx hb dX0_init_117 ?_
        refine tpi (x' := nI (8 * i + 3)) (nI_add (8 * i) 3) ?_
        refine lv_iconst (v := 1) hx hb dX0_init_118 (by decide) ?_
        refine va_iast hx hb hK hP hD hS 1 0 rfl rfl (vp_in_nI (n := 8 * i + 3) (by omega) (by decide)) dX0_init_119 (fun H locs hP hD hS => ?_)
        rw [show ((nI (8 * i + 3))).toNatClampNeg = (8 * i + 3) from nI_clamp (by omega)] at hP hD
        have hP : va_P G vwCl [((a 0), oC a 0 60 0), ((a 3), iA cI (upd K1 (8 * i + 3) 1)), ((a 4), iA cI ((fun _ => 0))), ((a 5), iA cI ((fun _ => 0))), ((a 6), iA cI ((fun _ => 0))), ((a 7), iA cI ((fun _ => 0))), ((a 8), iA cI ((fun _ => 0))), ((a 9), iA cI ((fun _ => 0))), ((a 10), iA cI ((fun _ => 0))), ((a 11), iA cI ((fun _ => 0))), ((a 12), iA cI ((fun _ => 0)))] H := hP
        have hD : va_D A [((a 0), oC a 0 60 0), ((a 3), iA cI (upd K1 (8 * i + 3) 1)), ((a 4), iA cI ((fun _ => 0))), ((a 5), iA cI ((fun _ => 0))), ((a 6), iA cI ((fun _ => 0))), ((a 7), iA cI ((fun _ => 0))), ((a 8), iA cI ((fun _ => 0))), ((a 9), iA cI ((fun _ => 0))), ((a 10), iA cI ((fun _ => 0))), ((a 11), iA cI ((fun _ => 0))), ((a 12), iA cI ((fun _ => 0)))] := hD
        refine lv_iinc (v := nI (i + 1)) (lv' := [(1, .int (nI (i + 1))), (0, .ref (a 0))]) hx hb dX0_init_120 hl (k := 1) rfl (nI_inc i) (by decide) rfl (fun ls hl => ?_)
        refine lv_goto (tgt := 102) hx hb dX0_init_123 (by decide) ?_
        exact ih_lp (i + 1) (upd K1 (8 * i + 3) 1) (by omega) (fun x hx => by by_cases e9 : x = 8 * i + 3; rw [e9, pk_us, k0p_in]; rw [pk_un e9, k0p_out e9]; exact hK1 x hx) (by omega) _ _ _ hP hD hS (lv_sub hl [1, 0] (rfl))
      · skip
        have g9 : 8 = i := by omega
        subst g9
        refine lv_icmp_ge (tgt := 126) hx hb dX0_init_105 (by decide) (fun _ => ?_) (fun c => absurd (le_n (n := 8) (i := 8) (by decide) (by decide)) c)
        have hk0 : eqK K1 k0 := fun x hx => (hK1 x hx).trans (k0p_64 hx)
        refine lv_aload_n hx hb dX0_init_126 rfl (lv_at hl 0 rfl) ?_
        refine cw_v (wr := []) (va_runV (As := []) (rest := []) FX (c_X0_survey l G cI a 0 60 0 K1 (fun _ => 0) (fun _ => 0) (fun _ => 0) (fun _ => 0) (fun _ => 0) (fun _ => 0) (fun _ => 0) (fun _ => 0) (fun _ => 0) k0 hk0 (by decide) _) (cwV 0 hts gX0_init_X0_survey rfl rfl rfl (by decide +kernel) ⟨Nat.le_of_ble_eq_true rfl, Nat.le_of_ble_eq_true rfl⟩) (wrV hK hP hD hN [0, 1, 2, 3, 4, 5, 6, 7, 8, 9, 10] (by decide) rfl rfl (ci := 0) (q0 := 0) rfl rfl) rfl rfl hl.1 rfl (lv_room (Nat.le_of_ble_eq_true rfl)) dX0_init_127 ⟨Nat.le_of_ble_eq_true rfl, Nat.le_of_ble_eq_true rfl⟩) hS hP hD hA [0, 1, 2, 3, 4, 5, 6, 7, 8, 9, 10] [] rfl rfl (by decide) (by decide) (fun u H locs hw hP hD hS => ?_)
        obtain ⟨Q1, L1, H1, M1, B1, C1, D1, W1⟩ := u
        have hP := hP.sub (ws' := [((a 0), oC a 0 60 0), ((a 3), iA cI K1), ((a 4), iA cI Q1), ((a 5), iA cI L1), ((a 6), iA cI H1), ((a 7), iA cI M1), ((a 8), iA cI B1), ((a 9), iA cI C1), ((a 10), iA cI D1), ((a 11), iA cI ((fun _ => 0))), ((a 12), iA cI W1)]) [0, 1, 2, 3, 4, 5, 6, 7, 8, 9, 10] rfl
        have hD := hD.sub (ws' := [((a 0), oC a 0 60 0), ((a 3), iA cI K1), ((a 4), iA cI Q1), ((a 5), iA cI L1), ((a 6), iA cI H1), ((a 7), iA cI M1), ((a 8), iA cI B1), ((a 9), iA cI C1), ((a 10), iA cI D1), ((a 11), iA cI ((fun _ => 0))), ((a 12), iA cI W1)]) [0, 1, 2, 3, 4, 5, 6, 7, 8, 9, 10] (by decide) rfl
        subst hQ
        subst hAe
        exact wr_v (a, K1, Q1, L1, H1, M1, B1, C1, D1, W1) (⟨⟨rfl, hk0⟩, hw⟩) hx hb hr hP hD hS hlocks dX0_init_130
  exact lp (_ + 1) 0 (fun _ => 0) (by omega) (fun x _ => (k0p_0 x).symm) (Nat.lt_succ_self _) _ _ _ hP hD hS (lv_sub hl [1, 0] rfl)

def rmX1_init : Room := { frames := 5, cells := 22, slots := 1306, locals := 116 }
set_option maxHeartbeats 4000000 in
set_option maxRecDepth 100000 in
/-- a new object -/
theorem c_X1_init (l : Launch) (G : va_G) (cI : ClassId) (h : Nat)  (sz : Nat) : Met l yX1_init wsX1_init rmX1_init (va_Pc [.ref h] (WrP G cI [(h, .inr (1, [.null, .null]))] sz)) (va_Qv (fun (u : ((Nat → Nat) × (Nat → Int32) × (Nat → Int32) × (Nat → Int32) × (Nat → Int32) × (Nat → Int32) × (Nat → Int32) × (Nat → Int32) × (Nat → Int32) × (Nat → Int32)) × ((Nat → Nat) × (Nat → Int32) × (Nat → Int32) × (Nat → Int32) × (Nat → Int32) × (Nat → Int32) × (Nat → Int32) × (Nat → Int32) × (Nat → Int32) × (Nat → Int32))) => eqK (u.1.2.1) k0 ∧ SVd k0 (u.1.2.2.1) (u.1.2.2.2.1) (u.1.2.2.2.2.1) (u.1.2.2.2.2.2.1) (u.1.2.2.2.2.2.2.1) (u.1.2.2.2.2.2.2.2.1) (u.1.2.2.2.2.2.2.2.2.1)) (WrB G [(h, .inr (1, [.null, .null]))] sz (fun u => (h, .inr (1, [.ref (u.1.1 0), .ref (u.2.1 0)])) :: (wC cI u.1.1 0 60 0 (u.1.2.1) (u.1.2.2.1) (u.1.2.2.2.1) (u.1.2.2.2.2.1) (u.1.2.2.2.2.2.1) (u.1.2.2.2.2.2.2.1) (u.1.2.2.2.2.2.2.2.1) (u.1.2.2.2.2.2.2.2.2.1) (fun _ => 0) (u.1.2.2.2.2.2.2.2.2.2) ++ wC cI u.2.1 0 60 0 (u.2.2.1) (u.2.2.2.1) (u.2.2.2.2.1) (u.2.2.2.2.2.1) (u.2.2.2.2.2.2.1) (u.2.2.2.2.2.2.2.1) (u.2.2.2.2.2.2.2.2.1) (u.2.2.2.2.2.2.2.2.2.1) (fun _ => 0) (u.2.2.2.2.2.2.2.2.2.2)))) (va_A [(h, .inr (1, [.null, .null]))] sz)) 22 1306 (va_A [(h, .inr (1, [.null, .null]))] sz) := by
  refine Met.ofW (cc := cX1_init) (maxL := 1) (ret := none) (by decide) rfl ?_
  intro p e s m args below meth c s₁ B hml hv
  obtain ⟨rfl, hsz, hP, hK, hD0, hN⟩ := hv
  have hx := B.exec
  have hb := B.bytes
  have hr := B.returns
  have hlocks := B.notSynchronized
  have hts := atoms_spec (ws := wsX1_init) B.pre
  have hin9 : meth.name = "<init>" := (name_of_methodNamed B.named B.method).1
  have hown : s.vm.findClass RX1 = some m.cls := findClass_of_methodNamed B.named
  subst hsz
  have hD := hD0.self (sz := s.heap.size)
  have hA : ∀ q : Nat, s.heap.size ≤ q → va_A [(h, .inr (1, [.null, .null]))] s.heap.size q := fun q h => Or.inr h
  have hS : va_S (va_A [(h, .inr (1, [.null, .null]))] s.heap.size) s.heap s.heap [] := va_S.rf
  obtain ⟨A, hAe⟩ : ∃ A, A = va_A [(h, .inr (1, [.null, .null]))] s.heap.size := ⟨_, rfl⟩
  rw [← hAe] at hD hA hS
  have FX : CallFix p m c cX1_init 1 s ([.ref h] : List Value).toArray wsX1_init RX1 := ⟨hx, hb, hml, hown, hts⟩
  have hl := lv_entry ([.ref h]) (n := 1) (Nat.le_of_ble_eq_true rfl)
  rw [lg_entry_eq]
  generalize (lg_sl ([.ref h]) ++ List.replicate (1 - (lg_sl ([.ref h])).length) Slot.unset).toArray = ls at hl ⊢
  have hl : lv_has ls 1 [(0, .ref h)] := hl
  refine wq (fun Q hQ => ?_)
  have hzc : 0 + 0 ≤ (headSpec wsX1_init rmX1_init).room.cells := Nat.zero_le _
  have hzs : 0 + 0 ≤ (headSpec wsX1_init rmX1_init).room.slots := Nat.zero_le _
  have hf10 := hts (.fieldLink RX1 10 "CanalCity" "now" "LCanalCity$City;") (by decide +kernel)
  have hf16 := hts (.fieldLink RX1 16 "CanalCity" "trial" "LCanalCity$City;") (by decide +kernel)
  have hinX0 : ∀ w ∈ u_ws RX0 TX0 13, w ∈ wsX1_init := by decide +kernel
  have hinX1 : ∀ w ∈ u_ws RX1 TX1 2, w ∈ wsX1_init := by decide +kernel
  refine lv_aload_n hx hb dX1_init_0 rfl (lv_at hl 0 rfl) ?_
  refine W.objInit hx hb hown (hts (.methodLink RX1 1 objectInit) (by decide +kernel)) (hts (.instanceMethod objectInit) (by decide +kernel)) (hts (.code objectInit ⟨#[0xb1]⟩ 1 none) (by decide +kernel)) rfl (by rw [hml]; exact hl.1) rfl dX1_init_1 (Nat.le_of_ble_eq_true rfl) (Nat.le_of_ble_eq_true rfl) ?_
  refine W.eq (g2 := F0 m 4 ls []) rfl ?_
  refine lv_aload_n hx hb dX1_init_4 rfl (lv_at hl 0 rfl) ?_
  refine va_new (D := G) (ci := 0) (fs := [.int 0, .int 0, .int 0, .null, .null, .null, .null, .null, .null, .null, .null, .null, .null]) (C := RX0) (T := TX0) (N := 13) hx hb hts hinX0 tyX0 tyX0_ok hown (hts (.classLink RX1 7 RX0) (by decide +kernel)) (hts (.instantiable RX0 13) (by decide +kernel)) (hts (.initialized RX0) (by decide +kernel)) hK hP hD hS hA rfl (fun j hj => by rcases (show j = 0 ∨ j = 1 ∨ j = 2 ∨ j = 3 ∨ j = 4 ∨ j = 5 ∨ j = 6 ∨ j = 7 ∨ j = 8 ∨ j = 9 ∨ j = 10 ∨ j = 11 ∨ j = 12 by omega) with rfl | rfl | rfl | rfl | rfl | rfl | rfl | rfl | rfl | rfl | rfl | rfl | rfl <;> rfl) (Nat.le_of_ble_eq_true rfl) (Nat.le_of_ble_eq_true rfl) dX1_init_5 (fun q1 H hP hD hS => ?_)
  have hP : va_P G vwCl [(h, .inr (1, [.null, .null])), (q1, .inr (0, [.int 0, .int 0, .int 0, .null, .null, .null, .null, .null, .null, .null, .null, .null, .null]))] H := hP
  have hD : va_D A [(h, .inr (1, [.null, .null])), (q1, .inr (0, [.int 0, .int 0, .int 0, .null, .null, .null, .null, .null, .null, .null, .null, .null, .null]))] := hD
  refine lv_dup hx hb dX1_init_8 rfl ?_
  refine cw_v (wr := [(h, .inr (1, [.null, .null]))]) (va_runI (As := []) (rest := [.ref q1, .ref h]) FX (c_X0_init l G cI q1 _) (cwI 0 hts gX1_init_X0_init rfl rfl rfl (hts (.initialized RX0) (by decide +kernel)) (hts (.methodLink RX1 9 yX0_init) (by decide +kernel)) (hts (.instanceMethod yX0_init) (by decide +kernel)) rfl (by decide +kernel) ⟨Nat.le_of_ble_eq_true rfl, Nat.le_of_ble_eq_true rfl⟩) (wrS hK hP hD hN [1] (by decide) rfl rfl) rfl rfl hl.1 rfl (lv_room (Nat.le_of_ble_eq_true rfl)) dX1_init_9 ⟨Nat.le_of_ble_eq_true rfl, Nat.le_of_ble_eq_true rfl⟩) hS hP hD hA [1] [0] rfl rfl (by decide) (by decide) (fun u H locs hw hP hD hS => ?_)
  obtain ⟨a, K1, Q1, L1, H1, M1, B1, C1, D1, W1⟩ := u
  obtain ⟨⟨ha0, hk1⟩, hs1⟩ := hw
  have hP : va_P G vwCl [(h, .inr (1, [.null, .null])), ((a 0), oC a 0 60 0), ((a 3), iA cI K1), ((a 4), iA cI Q1), ((a 5), iA cI L1), ((a 6), iA cI H1), ((a 7), iA cI M1), ((a 8), iA cI B1), ((a 9), iA cI C1), ((a 10), iA cI D1), ((a 11), iA cI (fun _ => 0)), ((a 12), iA cI W1)] H := hP
  have hD : va_D A [(h, .inr (1, [.null, .null])), ((a 0), oC a 0 60 0), ((a 3), iA cI K1), ((a 4), iA cI Q1), ((a 5), iA cI L1), ((a 6), iA cI H1), ((a 7), iA cI M1), ((a 8), iA cI B1), ((a 9), iA cI C1), ((a 10), iA cI D1), ((a 11), iA cI (fun _ => 0)), ((a 12), iA cI W1)] := hD
  have ha0 : a 0 = q1 := ha0
  refine tpr (x' := a 0) ha0.symm ?_
  refine va_putF (D := G) (ci := 1) (v := .ref (a 0)) (ty := (.object "CanalCity$City")) (C := RX1) (T := TX1) (N := 2) hx hb hts hinX1 tyX1 tyX1_ok nmX1 hown hK hP hD hS 0 rfl rfl 0 (by decide) hf10 (fun _ h9 => h9) rfl hin9 rfl (by decide +kernel) rfl rfl (Nat.le_of_ble_eq_true rfl) dX1_init_12 (fun H locs hP hD hS => ?_)
  have hP : va_P G vwCl [(h, .inr (1, [.ref (a 0), .null])), ((a 0), oC a 0 60 0), ((a 3), iA cI K1), ((a 4), iA cI Q1), ((a 5), iA cI L1), ((a 6), iA cI H1), ((a 7), iA cI M1), ((a 8), iA cI B1), ((a 9), iA cI C1), ((a 10), iA cI D1), ((a 11), iA cI (fun _ => 0)), ((a 12), iA cI W1)] H := hP
  have hD : va_D A [(h, .inr (1, [.ref (a 0), .null])), ((a 0), oC a 0 60 0), ((a 3), iA cI K1), ((a 4), iA cI Q1), ((a 5), iA cI L1), ((a 6), iA cI H1), ((a 7), iA cI M1), ((a 8), iA cI B1), ((a 9), iA cI C1), ((a 10), iA cI D1), ((a 11), iA cI (fun _ => 0)), ((a 12), iA cI W1)] := hD
  refine lv_aload_n hx hb dX1_init_15 rfl (lv_at hl 0 rfl) ?_
  refine va_new (D := G) (ci := 0) (fs := [.int 0, .int 0, .int 0, .null, .null, .null, .null, .null, .null, .null, .null, .null, .null]) (C := RX0) (T := TX0) (N := 13) hx hb hts hinX0 tyX0 tyX0_ok hown (hts (.classLink RX1 7 RX0) (by decide +kernel)) (hts (.instantiable RX0 13) (by decide +kernel)) (hts (.initialized RX0) (by decide +kernel)) hK hP hD hS hA rfl (fun j hj => by rcases (show j = 0 ∨ j = 1 ∨ j = 2 ∨ j = 3 ∨ j = 4 ∨ j = 5 ∨ j = 6 ∨ j = 7 ∨ j = 8 ∨ j = 9 ∨ j = 10 ∨ j = 11 ∨ j = 12 by omega) with rfl | rfl | rfl | rfl | rfl | rfl | rfl | rfl | rfl | rfl | rfl | rfl | rfl <;> rfl) (Nat.le_of_ble_eq_true rfl) (Nat.le_of_ble_eq_true rfl) dX1_init_16 (fun q2 H hP hD hS => ?_)
  have hP : va_P G vwCl [(h, .inr (1, [.ref (a 0), .null])), ((a 0), oC a 0 60 0), ((a 3), iA cI K1), ((a 4), iA cI Q1), ((a 5), iA cI L1), ((a 6), iA cI H1), ((a 7), iA cI M1), ((a 8), iA cI B1), ((a 9), iA cI C1), ((a 10), iA cI D1), ((a 11), iA cI (fun _ => 0)), ((a 12), iA cI W1), (q2, .inr (0, [.int 0, .int 0, .int 0, .null, .null, .null, .null, .null, .null, .null, .null, .null, .null]))] H := hP
  have hD : va_D A [(h, .inr (1, [.ref (a 0), .null])), ((a 0), oC a 0 60 0), ((a 3), iA cI K1), ((a 4), iA cI Q1), ((a 5), iA cI L1), ((a 6), iA cI H1), ((a 7), iA cI M1), ((a 8), iA cI B1), ((a 9), iA cI C1), ((a 10), iA cI D1), ((a 11), iA cI (fun _ => 0)), ((a 12), iA cI W1), (q2, .inr (0, [.int 0, .int 0, .int 0, .null, .null, .null, .null, .null, .null, .null, .null, .null, .null]))] := hD
  refine lv_dup hx hb dX1_init_19 rfl ?_
  refine cw_v (wr := [(h, .inr (1, [.ref (a 0), .null])), ((a 0), oC a 0 60 0), ((a 3), iA cI K1), ((a 4), iA cI Q1), ((a 5), iA cI L1), ((a 6), iA cI H1), ((a 7), iA cI M1), ((a 8), iA cI B1), ((a 9), iA cI C1), ((a 10), iA cI D1), ((a 11), iA cI (fun _ => 0)), ((a 12), iA cI W1)]) (va_runI (As := []) (rest := [.ref q2, .ref h]) FX (c_X0_init l G cI q2 _) (cwI 0 hts gX1_init_X0_init rfl rfl rfl (hts (.initialized RX0) (by decide +kernel)) (hts (.methodLink RX1 9 yX0_init) (by decide +kernel)) (hts (.instanceMethod yX0_init) (by decide +kernel)) rfl (by decide +kernel) ⟨Nat.le_of_ble_eq_true rfl, Nat.le_of_ble_eq_true rfl⟩) (wrS hK hP hD hN [12] (by decide) rfl rfl) rfl rfl hl.1 rfl (lv_room (Nat.le_of_ble_eq_true rfl)) dX1_init_20 ⟨Nat.le_of_ble_eq_true rfl, Nat.le_of_ble_eq_true rfl⟩) hS hP hD hA [12] [0, 1, 2, 3, 4, 5, 6, 7, 8, 9, 10, 11] rfl rfl (by decide) (by decide) (fun u H locs hw hP hD hS => ?_)
  obtain ⟨t, K2, Q2, L2, H2, M2, B2, C2, D2, W2⟩ := u
  obtain ⟨⟨ht0, hk2⟩, hs2⟩ := hw
  have hP : va_P G vwCl [(h, .inr (1, [.ref (a 0), .null])), ((a 0), oC a 0 60 0), ((a 3), iA cI K1), ((a 4), iA cI Q1), ((a 5), iA cI L1), ((a 6), iA cI H1), ((a 7), iA cI M1), ((a 8), iA cI B1), ((a 9), iA cI C1), ((a 10), iA cI D1), ((a 11), iA cI (fun _ => 0)), ((a 12), iA cI W1), ((t 0), oC t 0 60 0), ((t 3), iA cI K2), ((t 4), iA cI Q2), ((t 5), iA cI L2), ((t 6), iA cI H2), ((t 7), iA cI M2), ((t 8), iA cI B2), ((t 9), iA cI C2), ((t 10), iA cI D2), ((t 11), iA cI (fun _ => 0)), ((t 12), iA cI W2)] H := hP
  have hD : va_D A [(h, .inr (1, [.ref (a 0), .null])), ((a 0), oC a 0 60 0), ((a 3), iA cI K1), ((a 4), iA cI Q1), ((a 5), iA cI L1), ((a 6), iA cI H1), ((a 7), iA cI M1), ((a 8), iA cI B1), ((a 9), iA cI C1), ((a 10), iA cI D1), ((a 11), iA cI (fun _ => 0)), ((a 12), iA cI W1), ((t 0), oC t 0 60 0), ((t 3), iA cI K2), ((t 4), iA cI Q2), ((t 5), iA cI L2), ((t 6), iA cI H2), ((t 7), iA cI M2), ((t 8), iA cI B2), ((t 9), iA cI C2), ((t 10), iA cI D2), ((t 11), iA cI (fun _ => 0)), ((t 12), iA cI W2)] := hD
  have ht0 : t 0 = q2 := ht0
  refine tpr (x' := t 0) ht0.symm ?_
  refine va_putF (D := G) (ci := 1) (v := .ref (t 0)) (ty := (.object "CanalCity$City")) (C := RX1) (T := TX1) (N := 2) hx hb hts hinX1 tyX1 tyX1_ok nmX1 hown hK hP hD hS 0 rfl rfl 1 (by decide) hf16 (fun _ h9 => h9) rfl hin9 rfl (by decide +kernel) rfl rfl (Nat.le_of_ble_eq_true rfl) dX1_init_23 (fun H locs hP hD hS => ?_)
  have hP : va_P G vwCl [(h, .inr (1, [.ref (a 0), .ref (t 0)])), ((a 0), oC a 0 60 0), ((a 3), iA cI K1), ((a 4), iA cI Q1), ((a 5), iA cI L1), ((a 6), iA cI H1), ((a 7), iA cI M1), ((a 8), iA cI B1), ((a 9), iA cI C1), ((a 10), iA cI D1), ((a 11), iA cI (fun _ => 0)), ((a 12), iA cI W1), ((t 0), oC t 0 60 0), ((t 3), iA cI K2), ((t 4), iA cI Q2), ((t 5), iA cI L2), ((t 6), iA cI H2), ((t 7), iA cI M2), ((t 8), iA cI B2), ((t 9), iA cI C2), ((t 10), iA cI D2), ((t 11), iA cI (fun _ => 0)), ((t 12), iA cI W2)] H := hP
  have hD : va_D A [(h, .inr (1, [.ref (a 0), .ref (t 0)])), ((a 0), oC a 0 60 0), ((a 3), iA cI K1), ((a 4), iA cI Q1), ((a 5), iA cI L1), ((a 6), iA cI H1), ((a 7), iA cI M1), ((a 8), iA cI B1), ((a 9), iA cI C1), ((a 10), iA cI D1), ((a 11), iA cI (fun _ => 0)), ((a 12), iA cI W1), ((t 0), oC t 0 60 0), ((t 3), iA cI K2), ((t 4), iA cI Q2), ((t 5), iA cI L2), ((t 6), iA cI H2), ((t 7), iA cI M2), ((t 8), iA cI B2), ((t 9), iA cI C2), ((t 10), iA cI D2), ((t 11), iA cI (fun _ => 0)), ((t 12), iA cI W2)] := hD
  subst hQ
  subst hAe
  exact wr_v ((a, K1, Q1, L1, H1, M1, B1, C1, D1, W1), (t, K2, Q2, L2, H2, M2, B2, C2, D2, W2)) (⟨hk1, hs1⟩) hx hb hr hP hD hS hlocks dX1_init_26

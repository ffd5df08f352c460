def rmX1_would_ok : Room := { frames := 6, cells := 0, slots := 0, locals := 139 }
set_option maxHeartbeats 4000000 in
set_option maxRecDepth 100000 in
theorem c_X1_would_ok (l : Launch) (G : va_G) (cI : ClassId) (h : Nat) (a t : Nat → Nat) (mo co le : Int32) (K Qa La Ha Ma Ba Ca Da Fa Wa k : Nat → Int32) (tm tc tl : Int32) (TK TQ TL TH TM TB TC TD TF TW : Nat → Int32) (x y v : Int32) (hk : eqK K k) (hS0 : SVd k Qa La Ha Ma Ba Ca Da) (hg : wtr (k 3) = true) (hpl : (inB 0 7 x && inB 0 7 y) = true) (hin : inB 3 5 v = true) (hc1 : k (pAt x y) = 2) (sz : Nat) : Met l yX1_would wsX1_would rmX1_would_ok (va_Pc [.ref h, .int x, .int y, .int v] (WrP G cI [(h, oX a t), ((a 0), oC a mo co le), ((a 3), iA cI K), ((a 4), iA cI Qa), ((a 5), iA cI La), ((a 6), iA cI Ha), ((a 7), iA cI Ma), ((a 8), iA cI Ba), ((a 9), iA cI Ca), ((a 10), iA cI Da), ((a 11), iA cI Fa), ((a 12), iA cI Wa), ((t 0), oC t tm tc tl), ((t 3), iA cI TK), ((t 4), iA cI TQ), ((t 5), iA cI TL), ((t 6), iA cI TH), ((t 7), iA cI TM), ((t 8), iA cI TB), ((t 9), iA cI TC), ((t 10), iA cI TD), ((t 11), iA cI TF), ((t 12), iA cI TW)] sz)) (va_Qi (fun (r : Int32) (u : (Nat → Int32) × (Nat → Int32) × (Nat → Int32) × (Nat → Int32) × (Nat → Int32) × (Nat → Int32) × (Nat → Int32) × (Nat → Int32) × (Nat → Int32)) => r = dall (upd k (pAt x y) v) - dall k) (WrB G [(h, oX a t), ((a 0), oC a mo co le), ((a 3), iA cI K), ((a 4), iA cI Qa), ((a 5), iA cI La), ((a 6), iA cI Ha), ((a 7), iA cI Ma), ((a 8), iA cI Ba), ((a 9), iA cI Ca), ((a 10), iA cI Da), ((a 11), iA cI Fa), ((a 12), iA cI Wa), ((t 0), oC t tm tc tl), ((t 3), iA cI TK), ((t 4), iA cI TQ), ((t 5), iA cI TL), ((t 6), iA cI TH), ((t 7), iA cI TM), ((t 8), iA cI TB), ((t 9), iA cI TC), ((t 10), iA cI TD), ((t 11), iA cI TF), ((t 12), iA cI TW)] sz (fun u => [(h, oX a t), (a 0, oC a mo co le), (a 3, iA cI K), (a 4, iA cI Qa), (a 5, iA cI La), (a 6, iA cI Ha), (a 7, iA cI Ma), (a 8, iA cI Ba), (a 9, iA cI Ca), (a 10, iA cI Da), (a 11, iA cI Fa), (a 12, iA cI Wa), (t 0, oC t mo co le), (t 3, iA cI (u.1)), (t 4, iA cI (u.2.1)), (t 5, iA cI (u.2.2.1)), (t 6, iA cI (u.2.2.2.1)), (t 7, iA cI (u.2.2.2.2.1)), (t 8, iA cI (u.2.2.2.2.2.1)), (t 9, iA cI (u.2.2.2.2.2.2.1)), (t 10, iA cI (u.2.2.2.2.2.2.2.1)), (t 11, iA cI TF), (t 12, iA cI (u.2.2.2.2.2.2.2.2))])) (va_A [(h, oX a t), ((a 0), oC a mo co le), ((a 3), iA cI K), ((a 4), iA cI Qa), ((a 5), iA cI La), ((a 6), iA cI Ha), ((a 7), iA cI Ma), ((a 8), iA cI Ba), ((a 9), iA cI Ca), ((a 10), iA cI Da), ((a 11), iA cI Fa), ((a 12), iA cI Wa), ((t 0), oC t tm tc tl), ((t 3), iA cI TK), ((t 4), iA cI TQ), ((t 5), iA cI TL), ((t 6), iA cI TH), ((t 7), iA cI TM), ((t 8), iA cI TB), ((t 9), iA cI TC), ((t 10), iA cI TD), ((t 11), iA cI TF), ((t 12), iA cI TW)] sz)) 0 0 (va_A [(h, oX a t), ((a 0), oC a mo co le), ((a 3), iA cI K), ((a 4), iA cI Qa), ((a 5), iA cI La), ((a 6), iA cI Ha), ((a 7), iA cI Ma), ((a 8), iA cI Ba), ((a 9), iA cI Ca), ((a 10), iA cI Da), ((a 11), iA cI Fa), ((a 12), iA cI Wa), ((t 0), oC t tm tc tl), ((t 3), iA cI TK), ((t 4), iA cI TQ), ((t 5), iA cI TL), ((t 6), iA cI TH), ((t 7), iA cI TM), ((t 8), iA cI TB), ((t 9), iA cI TC), ((t 10), iA cI TD), ((t 11), iA cI TF), ((t 12), iA cI TW)] sz) := by
  refine Met.ofW (cc := cX1_would) (maxL := 5) (ret := (some .int)) (by decide) rfl ?_
  intro p e s m args below meth c s₁ B hml hv
  obtain ⟨rfl, hsz, hP, hK, hD0, hN⟩ := hv
  have hx := B.exec
  have hb := B.bytes
  have hr := B.returns
  have hlocks := B.notSynchronized
  have hts := atoms_spec (ws := wsX1_would) B.pre
  have hown : s.vm.findClass RX1 = some m.cls := findClass_of_methodNamed B.named
  subst hsz
  have hD := hD0.self (sz := s.heap.size)
  have hA : ∀ q : Nat, s.heap.size ≤ q → va_A [(h, oX a t), ((a 0), oC a mo co le), ((a 3), iA cI K), ((a 4), iA cI Qa), ((a 5), iA cI La), ((a 6), iA cI Ha), ((a 7), iA cI Ma), ((a 8), iA cI Ba), ((a 9), iA cI Ca), ((a 10), iA cI Da), ((a 11), iA cI Fa), ((a 12), iA cI Wa), ((t 0), oC t tm tc tl), ((t 3), iA cI TK), ((t 4), iA cI TQ), ((t 5), iA cI TL), ((t 6), iA cI TH), ((t 7), iA cI TM), ((t 8), iA cI TB), ((t 9), iA cI TC), ((t 10), iA cI TD), ((t 11), iA cI TF), ((t 12), iA cI TW)] s.heap.size q := fun q h => Or.inr h
  have hS : va_S (va_A [(h, oX a t), ((a 0), oC a mo co le), ((a 3), iA cI K), ((a 4), iA cI Qa), ((a 5), iA cI La), ((a 6), iA cI Ha), ((a 7), iA cI Ma), ((a 8), iA cI Ba), ((a 9), iA cI Ca), ((a 10), iA cI Da), ((a 11), iA cI Fa), ((a 12), iA cI Wa), ((t 0), oC t tm tc tl), ((t 3), iA cI TK), ((t 4), iA cI TQ), ((t 5), iA cI TL), ((t 6), iA cI TH), ((t 7), iA cI TM), ((t 8), iA cI TB), ((t 9), iA cI TC), ((t 10), iA cI TD), ((t 11), iA cI TF), ((t 12), iA cI TW)] s.heap.size) s.heap s.heap [] := va_S.rf
  obtain ⟨A, hAe⟩ : ∃ A, A = va_A [(h, oX a t), ((a 0), oC a mo co le), ((a 3), iA cI K), ((a 4), iA cI Qa), ((a 5), iA cI La), ((a 6), iA cI Ha), ((a 7), iA cI Ma), ((a 8), iA cI Ba), ((a 9), iA cI Ca), ((a 10), iA cI Da), ((a 11), iA cI Fa), ((a 12), iA cI Wa), ((t 0), oC t tm tc tl), ((t 3), iA cI TK), ((t 4), iA cI TQ), ((t 5), iA cI TL), ((t 6), iA cI TH), ((t 7), iA cI TM), ((t 8), iA cI TB), ((t 9), iA cI TC), ((t 10), iA cI TD), ((t 11), iA cI TF), ((t 12), iA cI TW)] s.heap.size := ⟨_, rfl⟩
  rw [← hAe] at hD hA hS
  have FX : CallFix p m c cX1_would 5 s ([.ref h, .int x, .int y, .int v] : List Value).toArray wsX1_would RX1 := ⟨hx, hb, hml, hown, hts⟩
  have hl := lv_entry ([.ref h, .int x, .int y, .int v]) (n := 5) (Nat.le_of_ble_eq_true rfl)
  rw [lg_entry_eq]
  generalize (lg_sl ([.ref h, .int x, .int y, .int v]) ++ List.replicate (5 - (lg_sl ([.ref h, .int x, .int y, .int v])).length) Slot.unset).toArray = ls at hl ⊢
  have hl : lv_has ls 5 [(0, .ref h), (1, .int x), (2, .int y), (3, .int v)] := hl
  refine wq (fun Q hQ => ?_)
  have hzc : 0 + 0 ≤ (headSpec wsX1_would rmX1_would_ok).room.cells := Nat.zero_le _
  have hzs : 0 + 0 ≤ (headSpec wsX1_would rmX1_would_ok).room.slots := Nat.zero_le _
  have hf10 := hts (.fieldLink RX1 10 "CanalCity" "now" "LCanalCity$City;") (by decide +kernel)
  have hinX1 : ∀ w ∈ u_ws RX1 TX1 2, w ∈ wsX1_would := by decide +kernel
  have hat := (plc_at hpl).1
  refine lv_iload_n hx hb dX1_would_0 rfl (lv_at hl 1 rfl) ?_
  refine lv_iload_n hx hb dX1_would_1 rfl (lv_at hl 2 rfl) ?_
  refine cr_i (va_runS (As := [.int x, .int y]) (rest := []) FX (c_X1_checkedNumber_ok l x y hpl) (va_cwS 2 hts gX1_would_X1_checkedNumber rfl rfl rfl (by decide +kernel) ⟨Nat.le_of_ble_eq_true rfl, Nat.le_of_ble_eq_true rfl⟩) puS rfl rfl hl.1 rfl (lv_room (Nat.le_of_ble_eq_true rfl)) dX1_would_2 ⟨hzc, hzs⟩) hS hP (fun H locs hP hS => ?_)
  refine lv_istore (lv' := [(4, .int (nI (pAt x y))), (0, .ref h), (1, .int x), (2, .int y), (3, .int v)]) hx hb dX1_would_5 hl (by decide) rfl (fun ls hl => ?_)
  refine lv_iload_n hx hb dX1_would_7 rfl (lv_at hl 4 rfl) ?_
  refine cr_v (va_runS (As := [.int v]) (rest := []) FX (c_X1_checkBuilding_ok l v hin) (va_cwS 1 hts gX1_would_X1_checkBuilding rfl rfl rfl (by decide +kernel) ⟨Nat.le_of_ble_eq_true rfl, Nat.le_of_ble_eq_true rfl⟩) puS rfl rfl hl.1 rfl (lv_room (Nat.le_of_ble_eq_true rfl)) dX1_would_8 ⟨hzc, hzs⟩) hS hP (fun H locs hP hS => ?_)
  refine lv_aload_n hx hb dX1_would_11 rfl (lv_at hl 1 rfl) ?_
  refine lv_iload hx hb dX1_would_12 (lv_at hl 0 rfl) ?_
  refine cr_v (va_runV (As := [.int (nI (pAt x y))]) (rest := []) FX (c_X1_checkDrained_ok l G cI h a t mo co le K Qa La Ha Ma Ba Ca Da Fa Wa k (pAt x y) hk hat hc1) (cwV 1 hts gX1_would_X1_checkDrained rfl rfl rfl (by decide +kernel) ⟨Nat.le_of_ble_eq_true rfl, Nat.le_of_ble_eq_true rfl⟩) (rdV hK hP hN [0, 1, 2, 3, 4, 5, 6, 7, 8, 9, 10, 11] rfl (ci := 1) (q0 := 0) rfl rfl) rfl rfl hl.1 rfl (lv_room (Nat.le_of_ble_eq_true rfl)) dX1_would_14 ⟨hzc, hzs⟩) hS hP (fun H locs hP hS => ?_)
  refine lv_aload_n hx hb dX1_would_17 rfl (lv_at hl 1 rfl) ?_
  refine lv_iload hx hb dX1_would_18 (lv_at hl 0 rfl) ?_
  refine lv_iload_n hx hb dX1_would_20 rfl (lv_at hl 4 rfl) ?_
  refine cw_i (wr := []) (va_runV (As := [.int (nI (pAt x y)), .int v]) (rest := []) FX (c_X1_duesWith l G cI h a t mo co le K Qa La Ha Ma Ba Ca Da Fa Wa k tm tc tl TK TQ TL TH TM TB TC TD TF TW (pAt x y) v hk hat (gate_upd hg (Or.inl (by rw [hc1]; decide))) _) (cwV 2 hts gX1_would_X1_duesWith rfl rfl rfl (by decide +kernel) ⟨Nat.le_of_ble_eq_true rfl, Nat.le_of_ble_eq_true rfl⟩) (wrV hK hP hD hN [0, 1, 2, 3, 4, 5, 6, 7, 8, 9, 10, 11, 12, 13, 14, 15, 16, 17, 18, 19, 20, 21, 22] (by decide) rfl rfl (ci := 1) (q0 := 0) rfl rfl) rfl rfl hl.1 rfl (lv_room (Nat.le_of_ble_eq_true rfl)) dX1_would_21 ⟨hzc, hzs⟩) hS hP hD hA [0, 1, 2, 3, 4, 5, 6, 7, 8, 9, 10, 11, 12, 13, 14, 15, 16, 17, 18, 19, 20, 21, 22] [] rfl rfl (by decide) (by decide) (fun r9 u H locs hw hP hD hS => ?_)
  obtain ⟨K2, Q2, L2, H2, M2, B2, C2, D2, W2⟩ := u
  have hP := hP.sub (ws' := [(h, oX a t), ((a 0), oC a mo co le), ((a 3), iA cI K), ((a 4), iA cI Qa), ((a 5), iA cI La), ((a 6), iA cI Ha), ((a 7), iA cI Ma), ((a 8), iA cI Ba), ((a 9), iA cI Ca), ((a 10), iA cI Da), ((a 11), iA cI Fa), ((a 12), iA cI Wa), ((t 0), oC t mo co le), ((t 3), iA cI K2), ((t 4), iA cI Q2), ((t 5), iA cI L2), ((t 6), iA cI H2), ((t 7), iA cI M2), ((t 8), iA cI B2), ((t 9), iA cI C2), ((t 10), iA cI D2), ((t 11), iA cI TF), ((t 12), iA cI W2)]) [0, 1, 2, 3, 4, 5, 6, 7, 8, 9, 10, 11, 12, 13, 14, 15, 16, 17, 18, 19, 20, 21, 22] rfl
  have hD := hD.sub (ws' := [(h, oX a t), ((a 0), oC a mo co le), ((a 3), iA cI K), ((a 4), iA cI Qa), ((a 5), iA cI La), ((a 6), iA cI Ha), ((a 7), iA cI Ma), ((a 8), iA cI Ba), ((a 9), iA cI Ca), ((a 10), iA cI Da), ((a 11), iA cI Fa), ((a 12), iA cI Wa), ((t 0), oC t mo co le), ((t 3), iA cI K2), ((t 4), iA cI Q2), ((t 5), iA cI L2), ((t 6), iA cI H2), ((t 7), iA cI M2), ((t 8), iA cI B2), ((t 9), iA cI C2), ((t 10), iA cI D2), ((t 11), iA cI TF), ((t 12), iA cI W2)]) [0, 1, 2, 3, 4, 5, 6, 7, 8, 9, 10, 11, 12, 13, 14, 15, 16, 17, 18, 19, 20, 21, 22] (by decide) rfl
  refine tpi (x' := dall (upd k (pAt x y) v)) (hw) ?_
  refine lv_aload_n hx hb dX1_would_24 rfl (lv_at hl 1 rfl) ?_
  refine va_get (D := G) (ci := 1) (v := .ref (a 0)) (C := RX1) (T := TX1) (N := 2) hx hb hts hinX1 hown hK hP 0 rfl rfl 0 (by decide) hf10 (fun _ h9 => h9) rfl dX1_would_25 ?_
  refine cr_i (va_runV (As := []) (rest := [.int (dall (upd k (pAt x y) v))]) FX (c_X0_duesOfAll l G cI a mo co le K Qa La Ha Ma Ba Ca Da Fa Wa k hS0.2.2.2.2.2.2) (cwV 0 hts gX1_would_X0_duesOfAll rfl rfl rfl (by decide +kernel) ⟨Nat.le_of_ble_eq_true rfl, Nat.le_of_ble_eq_true rfl⟩) (rdV hK hP hN [1, 2, 3, 4, 5, 6, 7, 8, 9, 10, 11] rfl (ci := 0) (q0 := 1) rfl rfl) rfl rfl hl.1 rfl (lv_room (Nat.le_of_ble_eq_true rfl)) dX1_would_28 ⟨hzc, hzs⟩) hS hP (fun H locs hP hS => ?_)
  refine lv_isub hx hb dX1_would_31 ?_
  subst hQ
  subst hAe
  exact wr_i (K2, Q2, L2, H2, M2, B2, C2, D2, W2) (rfl) hx hb hr hP hD hS hlocks dX1_would_32

def rmX1_best_ok : Room := { frames := 6, cells := 0, slots := 0, locals := 139 }
set_option maxHeartbeats 4000000 in
set_option maxRecDepth 100000 in
theorem c_X1_best_ok (l : Launch) (G : va_G) (cI : ClassId) (h : Nat) (a t : Nat → Nat) (mo co le : Int32) (K Qa La Ha Ma Ba Ca Da Fa Wa k : Nat → Int32) (tm tc tl : Int32) (TK TQ TL TH TM TB TC TD TF TW : Nat → Int32) (v : Int32) (hk : eqK K k) (hg : wtr (k 3) = true) (hin : inB 3 5 v = true) (sz : Nat) : Met l yX1_best wsX1_best rmX1_best_ok (va_Pc [.ref h, .int v] (WrP G cI [(h, oX a t), ((a 0), oC a mo co le), ((a 3), iA cI K), ((a 4), iA cI Qa), ((a 5), iA cI La), ((a 6), iA cI Ha), ((a 7), iA cI Ma), ((a 8), iA cI Ba), ((a 9), iA cI Ca), ((a 10), iA cI Da), ((a 11), iA cI Fa), ((a 12), iA cI Wa), ((t 0), oC t tm tc tl), ((t 3), iA cI TK), ((t 4), iA cI TQ), ((t 5), iA cI TL), ((t 6), iA cI TH), ((t 7), iA cI TM), ((t 8), iA cI TB), ((t 9), iA cI TC), ((t 10), iA cI TD), ((t 11), iA cI TF), ((t 12), iA cI TW)] sz)) (va_Qi (fun (r : Int32) (u : (Int32 × Int32 × Int32) × (Nat → Int32) × (Nat → Int32) × (Nat → Int32) × (Nat → Int32) × (Nat → Int32) × (Nat → Int32) × (Nat → Int32) × (Nat → Int32) × (Nat → Int32)) => r = (bsc k v 64).1) (WrB G [(h, oX a t), ((a 0), oC a mo co le), ((a 3), iA cI K), ((a 4), iA cI Qa), ((a 5), iA cI La), ((a 6), iA cI Ha), ((a 7), iA cI Ma), ((a 8), iA cI Ba), ((a 9), iA cI Ca), ((a 10), iA cI Da), ((a 11), iA cI Fa), ((a 12), iA cI Wa), ((t 0), oC t tm tc tl), ((t 3), iA cI TK), ((t 4), iA cI TQ), ((t 5), iA cI TL), ((t 6), iA cI TH), ((t 7), iA cI TM), ((t 8), iA cI TB), ((t 9), iA cI TC), ((t 10), iA cI TD), ((t 11), iA cI TF), ((t 12), iA cI TW)] sz (fun u => [(h, oX a t), (a 0, oC a mo co le), (a 3, iA cI K), (a 4, iA cI Qa), (a 5, iA cI La), (a 6, iA cI Ha), (a 7, iA cI Ma), (a 8, iA cI Ba), (a 9, iA cI Ca), (a 10, iA cI Da), (a 11, iA cI Fa), (a 12, iA cI Wa), (t 0, oC t (u.1.1) (u.1.2.1) (u.1.2.2)), (t 3, iA cI (u.2.1)), (t 4, iA cI (u.2.2.1)), (t 5, iA cI (u.2.2.2.1)), (t 6, iA cI (u.2.2.2.2.1)), (t 7, iA cI (u.2.2.2.2.2.1)), (t 8, iA cI (u.2.2.2.2.2.2.1)), (t 9, iA cI (u.2.2.2.2.2.2.2.1)), (t 10, iA cI (u.2.2.2.2.2.2.2.2.1)), (t 11, iA cI TF), (t 12, iA cI (u.2.2.2.2.2.2.2.2.2))])) (va_A [(h, oX a t), ((a 0), oC a mo co le), ((a 3), iA cI K), ((a 4), iA cI Qa), ((a 5), iA cI La), ((a 6), iA cI Ha), ((a 7), iA cI Ma), ((a 8), iA cI Ba), ((a 9), iA cI Ca), ((a 10), iA cI Da), ((a 11), iA cI Fa), ((a 12), iA cI Wa), ((t 0), oC t tm tc tl), ((t 3), iA cI TK), ((t 4), iA cI TQ), ((t 5), iA cI TL), ((t 6), iA cI TH), ((t 7), iA cI TM), ((t 8), iA cI TB), ((t 9), iA cI TC), ((t 10), iA cI TD), ((t 11), iA cI TF), ((t 12), iA cI TW)] sz)) 0 0 (va_A [(h, oX a t), ((a 0), oC a mo co le), ((a 3), iA cI K), ((a 4), iA cI Qa), ((a 5), iA cI La), ((a 6), iA cI Ha), ((a 7), iA cI Ma), ((a 8), iA cI Ba), ((a 9), iA cI Ca), ((a 10), iA cI Da), ((a 11), iA cI Fa), ((a 12), iA cI Wa), ((t 0), oC t tm tc tl), ((t 3), iA cI TK), ((t 4), iA cI TQ), ((t 5), iA cI TL), ((t 6), iA cI TH), ((t 7), iA cI TM), ((t 8), iA cI TB), ((t 9), iA cI TC), ((t 10), iA cI TD), ((t 11), iA cI TF), ((t 12), iA cI TW)] sz) := by
  refine Met.ofW (cc := cX1_best) (maxL := 6) (ret := (some .int)) (by decide) rfl ?_
  intro p e s m args below meth c s₁ B hml hv
  obtain ⟨rfl, hsz, hP, hK, hD0, hN⟩ := hv
  have hx := B.exec
  have hb := B.bytes
  have hr := B.returns
  have hlocks := B.notSynchronized
  have hts := atoms_spec (ws := wsX1_best) B.pre
  have hown : s.vm.findClass RX1 = some m.cls := findClass_of_methodNamed B.named
  subst hsz
  have hD := hD0.self (sz := s.heap.size)
  have hA : ∀ q : Nat, s.heap.size ≤ q → va_A [(h, oX a t), ((a 0), oC a mo co le), ((a 3), iA cI K), ((a 4), iA cI Qa), ((a 5), iA cI La), ((a 6), iA cI Ha), ((a 7), iA cI Ma), ((a 8), iA cI Ba), ((a 9), iA cI Ca), ((a 10), iA cI Da), ((a 11), iA cI Fa), ((a 12), iA cI Wa), ((t 0), oC t tm tc tl), ((t 3), iA cI TK), ((t 4), iA cI TQ), ((t 5), iA cI TL), ((t 6), iA cI TH), ((t 7), iA cI TM), ((t 8), iA cI TB), ((t 9), iA cI TC), ((t 10), iA cI TD), ((t 11), iA cI TF), ((t 12), iA cI TW)] s.heap.size q := fun q h => Or.inr h
  have hS : va_S (va_A [(h, oX a t), ((a 0), oC a mo co le), ((a 3), iA cI K), ((a 4), iA cI Qa), ((a 5), iA cI La), ((a 6), iA cI Ha), ((a 7), iA cI Ma), ((a 8), iA cI Ba), ((a 9), iA cI Ca), ((a 10), iA cI Da), ((a 11), iA cI Fa), ((a 12), iA cI Wa), ((t 0), oC t tm tc tl), ((t 3), iA cI TK), ((t 4), iA cI TQ), ((t 5), iA cI TL), ((t 6), iA cI TH), ((t 7), iA cI TM), ((t 8), iA cI TB), ((t 9), iA cI TC), ((t 10), iA cI TD), ((t 11), iA cI TF), ((t 12), iA cI TW)] s.heap.size) s.heap s.heap [] := va_S.rf
  obtain ⟨A, hAe⟩ : ∃ A, A = va_A [(h, oX a t), ((a 0), oC a mo co le), ((a 3), iA cI K), ((a 4), iA cI Qa), ((a 5), iA cI La), ((a 6), iA cI Ha), ((a 7), iA cI Ma), ((a 8), iA cI Ba), ((a 9), iA cI Ca), ((a 10), iA cI Da), ((a 11), iA cI Fa), ((a 12), iA cI Wa), ((t 0), oC t tm tc tl), ((t 3), iA cI TK), ((t 4), iA cI TQ), ((t 5), iA cI TL), ((t 6), iA cI TH), ((t 7), iA cI TM), ((t 8), iA cI TB), ((t 9), iA cI TC), ((t 10), iA cI TD), ((t 11), iA cI TF), ((t 12), iA cI TW)] s.heap.size := ⟨_, rfl⟩
  rw [← hAe] at hD hA hS
  have FX : CallFix p m c cX1_best 6 s ([.ref h, .int v] : List Value).toArray wsX1_best RX1 := ⟨hx, hb, hml, hown, hts⟩
  have hl := lv_entry ([.ref h, .int v]) (n := 6) (Nat.le_of_ble_eq_true rfl)
  rw [lg_entry_eq]
  generalize (lg_sl ([.ref h, .int v]) ++ List.replicate (6 - (lg_sl ([.ref h, .int v])).length) Slot.unset).toArray = ls at hl ⊢
  have hl : lv_has ls 6 [(0, .ref h), (1, .int v)] := hl
  refine wq (fun Q hQ => ?_)
  have hzc : 0 + 0 ≤ (headSpec wsX1_best rmX1_best_ok).room.cells := Nat.zero_le _
  have hzs : 0 + 0 ≤ (headSpec wsX1_best rmX1_best_ok).room.slots := Nat.zero_le _
  have hf10 := hts (.fieldLink RX1 10 "CanalCity" "now" "LCanalCity$City;") (by decide +kernel)
  have hinX0 : ∀ w ∈ u_ws RX0 TX0 13, w ∈ wsX1_best := by decide +kernel
  have hinX1 : ∀ w ∈ u_ws RX1 TX1 2, w ∈ wsX1_best := by decide +kernel
  refine lv_iload_n hx hb dX1_best_0 rfl (lv_at hl 1 rfl) ?_
  refine cr_v (va_runS (As := [.int v]) (rest := []) FX (c_X1_checkBuilding_ok l v hin) (va_cwS 1 hts gX1_best_X1_checkBuilding rfl rfl rfl (by decide +kernel) ⟨Nat.le_of_ble_eq_true rfl, Nat.le_of_ble_eq_true rfl⟩) puS rfl rfl hl.1 rfl (lv_room (Nat.le_of_ble_eq_true rfl)) dX1_best_1 ⟨hzc, hzs⟩) hS hP (fun H locs hP hS => ?_)
  refine lv_iconst (v := (-1)) hx hb dX1_best_4 (by decide) ?_
  refine tpi (x' := (bsc k v 0).1) (rfl) ?_
  refine lv_istore_n (lv' := [(2, .int ((bsc k v 0).1)), (0, .ref h), (1, .int v)]) hx hb dX1_best_5 rfl hl (by decide) rfl (fun ls hl => ?_)
  refine lv_iconst (v := 0) hx hb dX1_best_6 (by decide) ?_
  refine tpi (x' := (bsc k v 0).2) (rfl) ?_
  refine lv_istore_n (lv' := [(3, .int ((bsc k v 0).2)), (2, .int ((bsc k v 0).1)), (0, .ref h), (1, .int v)]) hx hb dX1_best_7 rfl hl (by decide) rfl (fun ls hl => ?_)
  refine lv_iconst (v := 0) hx hb dX1_best_8 (by decide) ?_
  refine tpi (x' := nI 0) (rfl) ?_
  refine lv_istore (lv' := [(4, .int (nI 0)), (3, .int ((bsc k v 0).2)), (2, .int ((bsc k v 0).1)), (0, .ref h), (1, .int v)]) hx hb dX1_best_9 hl (by decide) rfl (fun ls hl => ?_)
  have lp : ∀ (n : Nat) (i : Nat) (m2 c2 l2 : Int32) (K2 Q2 L2 H2 M2 B2 C2 D2 W2 : Nat → Int32), (hi : i ≤ 64) → (64 - i) < n → ∀ (H : Heap) (locs : List Loc) (ls : Array Slot), va_P G vwCl [(h, oX a t), ((a 0), oC a mo co le), ((a 3), iA cI K), ((a 4), iA cI Qa), ((a 5), iA cI La), ((a 6), iA cI Ha), ((a 7), iA cI Ma), ((a 8), iA cI Ba), ((a 9), iA cI Ca), ((a 10), iA cI Da), ((a 11), iA cI Fa), ((a 12), iA cI Wa), ((t 0), oC t m2 c2 l2), ((t 3), iA cI K2), ((t 4), iA cI Q2), ((t 5), iA cI L2), ((t 6), iA cI H2), ((t 7), iA cI M2), ((t 8), iA cI B2), ((t 9), iA cI C2), ((t 10), iA cI D2), ((t 11), iA cI TF), ((t 12), iA cI W2)] H → va_D A [(h, oX a t), ((a 0), oC a mo co le), ((a 3), iA cI K), ((a 4), iA cI Qa), ((a 5), iA cI La), ((a 6), iA cI Ha), ((a 7), iA cI Ma), ((a 8), iA cI Ba), ((a 9), iA cI Ca), ((a 10), iA cI Da), ((a 11), iA cI Fa), ((a 12), iA cI Wa), ((t 0), oC t m2 c2 l2), ((t 3), iA cI K2), ((t 4), iA cI Q2), ((t 5), iA cI L2), ((t 6), iA cI H2), ((t 7), iA cI M2), ((t 8), iA cI B2), ((t 9), iA cI C2), ((t 10), iA cI D2), ((t 11), iA cI TF), ((t 12), iA cI W2)] → va_S A s.heap H locs → lv_has ls 6 [(0, .ref h), (1, .int v), (2, .int (bsc k v i).1), (3, .int (bsc k v i).2), (4, .int (nI i))] → W p l e (headSpec wsX1_best rmX1_best_ok).room s m ([.ref h, .int v] : List Value).toArray below meth c H locs 0 0 Q (F0 m 11 ls []) := by
    intro n
    induction n with
    | zero => intro i m2 c2 l2 K2 Q2 L2 H2 M2 B2 C2 D2 W2 hi hn; exact absurd hn (by omega)
    | succ n ih_lp =>
      intro i m2 c2 l2 K2 Q2 L2 H2 M2 B2 C2 D2 W2 hi hn H locs ls hP hD hS hl
      refine lv_iload hx hb dX1_best_11 (lv_at hl 4 rfl) ?_
      refine lv_bipush (v := 64) hx hb dX1_best_13 (by decide) ?_
      rcases Nat.lt_or_ge i 64 with g | g
      · skip
        refine lv_icmp_ge (tgt := 63) hx hb dX1_best_15 (by decide) (fun c => absurd c (lt_n (n := 64) g (by decide))) (fun _ => ?_)
        refine lv_aload_n hx hb dX1_best_18 rfl (lv_at hl 0 rfl) ?_
        refine va_get (D := G) (ci := 1) (v := .ref (a 0)) (C := RX1) (T := TX1) (N := 2) hx hb hts hinX1 hown hK hP 0 rfl rfl 0 (by decide) hf10 (fun _ h9 => h9) rfl dX1_best_19 ?_
        refine va_getN (host := "CanalCity") (D := G) (ci := 0) (v := .ref (a 3)) (C := RX0) (T := TX0) (N := 13) hx hb hts hinX0 hown hK hP 1 rfl rfl 3 (by decide) (va_Nw.use rfl (NW_at hN 1 rfl)) (fun _ h9 => h9) rfl dX1_best_22 ?_
        refine lv_iload hx hb dX1_best_25 (lv_at hl 4 rfl) ?_
        refine va_iald hx hb hK hP 2 0 rfl rfl (vp_in_nI g (by decide)) dX1_best_27 ?_
        refine tpi (x' := K i) (congrArg K (nI_clamp (by omega))) ?_
        refine tpi (x' := k i) (hk i g) ?_
        refine lv_iconst (v := 2) hx hb dX1_best_28 (by decide) ?_
        refine lv_icmp_ne (tgt := 57) hx hb dX1_best_29 (by decide) (fun cki => ?_) (fun cki => ?_)
        · skip
          refine lv_iinc (v := nI (i + 1)) (lv' := [(4, .int (nI (i + 1))), (0, .ref h), (1, .int v), (2, .int (bsc k v i).1), (3, .int (bsc k v i).2)]) hx hb dX1_best_57 hl (k := 4) rfl (nI_inc i) (by decide) rfl (fun ls hl => ?_)
          refine lv_goto (tgt := 11) hx hb dX1_best_60 (by decide) ?_
          exact ih_lp (i + 1) m2 c2 l2 K2 Q2 L2 H2 M2 B2 C2 D2 W2 (by omega) (by omega) _ _ _ hP hD hS (lv_sub hl [1, 2, 3, 4, 0] (by rw [bsc_skip cki]; rfl))
        · skip
          refine lv_aload_n hx hb dX1_best_32 rfl (lv_at hl 0 rfl) ?_
          refine lv_iload hx hb dX1_best_33 (lv_at hl 4 rfl) ?_
          refine lv_iload_n hx hb dX1_best_35 rfl (lv_at hl 1 rfl) ?_
          refine cw_i (wr := []) (va_runV (As := [.int (nI i), .int v]) (rest := []) FX (c_X1_duesWith l G cI h a t mo co le K Qa La Ha Ma Ba Ca Da Fa Wa k m2 c2 l2 K2 Q2 L2 H2 M2 B2 C2 D2 TF W2 i v hk g (gate_upd hg (Or.inl (by rw [cki]; decide))) _) (cwV 2 hts gX1_best_X1_duesWith rfl rfl rfl (by decide +kernel) ⟨Nat.le_of_ble_eq_true rfl, Nat.le_of_ble_eq_true rfl⟩) (wrV hK hP hD hN [0, 1, 2, 3, 4, 5, 6, 7, 8, 9, 10, 11, 12, 13, 14, 15, 16, 17, 18, 19, 20, 21, 22] (by decide) rfl rfl (ci := 1) (q0 := 0) rfl rfl) rfl rfl hl.1 rfl (lv_room (Nat.le_of_ble_eq_true rfl)) dX1_best_36 ⟨hzc, hzs⟩) hS hP hD hA [0, 1, 2, 3, 4, 5, 6, 7, 8, 9, 10, 11, 12, 13, 14, 15, 16, 17, 18, 19, 20, 21, 22] [] rfl rfl (by decide) (by decide) (fun r9 u H locs hw hP hD hS => ?_)
          obtain ⟨K3, Q3, L3, H3, M3, B3, C3, D3, W3⟩ := u
          have hP := hP.sub (ws' := [(h, oX a t), ((a 0), oC a mo co le), ((a 3), iA cI K), ((a 4), iA cI Qa), ((a 5), iA cI La), ((a 6), iA cI Ha), ((a 7), iA cI Ma), ((a 8), iA cI Ba), ((a 9), iA cI Ca), ((a 10), iA cI Da), ((a 11), iA cI Fa), ((a 12), iA cI Wa), ((t 0), oC t mo co le), ((t 3), iA cI K3), ((t 4), iA cI Q3), ((t 5), iA cI L3), ((t 6), iA cI H3), ((t 7), iA cI M3), ((t 8), iA cI B3), ((t 9), iA cI C3), ((t 10), iA cI D3), ((t 11), iA cI TF), ((t 12), iA cI W3)]) [0, 1, 2, 3, 4, 5, 6, 7, 8, 9, 10, 11, 12, 13, 14, 15, 16, 17, 18, 19, 20, 21, 22] rfl
          have hD := hD.sub (ws' := [(h, oX a t), ((a 0), oC a mo co le), ((a 3), iA cI K), ((a 4), iA cI Qa), ((a 5), iA cI La), ((a 6), iA cI Ha), ((a 7), iA cI Ma), ((a 8), iA cI Ba), ((a 9), iA cI Ca), ((a 10), iA cI Da), ((a 11), iA cI Fa), ((a 12), iA cI Wa), ((t 0), oC t mo co le), ((t 3), iA cI K3), ((t 4), iA cI Q3), ((t 5), iA cI L3), ((t 6), iA cI H3), ((t 7), iA cI M3), ((t 8), iA cI B3), ((t 9), iA cI C3), ((t 10), iA cI D3), ((t 11), iA cI TF), ((t 12), iA cI W3)]) [0, 1, 2, 3, 4, 5, 6, 7, 8, 9, 10, 11, 12, 13, 14, 15, 16, 17, 18, 19, 20, 21, 22] (by decide) rfl
          refine tpi (x' := dall (upd k i v)) (hw) ?_
          refine lv_istore (lv' := [(5, .int (dall (upd k i v))), (0, .ref h), (1, .int v), (2, .int (bsc k v i).1), (3, .int (bsc k v i).2), (4, .int (nI i))]) hx hb dX1_best_39 hl (by decide) rfl (fun ls hl => ?_)
          refine lv_iload_n hx hb dX1_best_41 rfl (lv_at hl 3 rfl) ?_
          refine lv_if_lt (tgt := 51) hx hb dX1_best_42 (by decide) (fun c7 => ?_) (fun c7 => ?_)
          · skip
            refine lv_iload hx hb dX1_best_51 (lv_at hl 5 rfl) ?_
            refine lv_istore_n (lv' := [(2, .int (nI i)), (5, .int (dall (upd k i v))), (0, .ref h), (1, .int v), (3, .int (bsc k v i).2), (4, .int (nI i))]) hx hb dX1_best_53 rfl hl (by decide) rfl (fun ls hl => ?_)
            refine lv_iload hx hb dX1_best_54 (lv_at hl 1 rfl) ?_
            refine lv_istore_n (lv' := [(3, .int (dall (upd k i v))), (2, .int (nI i)), (5, .int (dall (upd k i v))), (0, .ref h), (1, .int v), (4, .int (nI i))]) hx hb dX1_best_56 rfl hl (by decide) rfl (fun ls hl => ?_)
            refine lv_iinc (v := nI (i + 1)) (lv' := [(4, .int (nI (i + 1))), (3, .int (dall (upd k i v))), (2, .int (nI i)), (5, .int (dall (upd k i v))), (0, .ref h), (1, .int v)]) hx hb dX1_best_57 hl (k := 5) rfl (nI_inc i) (by decide) rfl (fun ls hl => ?_)
            refine lv_goto (tgt := 11) hx hb dX1_best_60 (by decide) ?_
            exact ih_lp (i + 1) mo co le K3 Q3 L3 H3 M3 B3 C3 D3 W3 (by omega) (by omega) _ _ _ hP hD hS (lv_sub hl [4, 5, 2, 1, 0] (by rw [bsc_take cki (Or.inl c7)]; rfl))
          · skip
            refine lv_iload hx hb dX1_best_45 (lv_at hl 0 rfl) ?_
            refine lv_iload_n hx hb dX1_best_47 rfl (lv_at hl 4 rfl) ?_
            refine lv_icmp_le (tgt := 57) hx hb dX1_best_48 (by decide) (fun c8 => ?_) (fun c8 => ?_)
            · skip
              refine lv_iinc (v := nI (i + 1)) (lv' := [(4, .int (nI (i + 1))), (5, .int (dall (upd k i v))), (0, .ref h), (1, .int v), (2, .int (bsc k v i).1), (3, .int (bsc k v i).2)]) hx hb dX1_best_57 hl (k := 5) rfl (nI_inc i) (by decide) rfl (fun ls hl => ?_)
              refine lv_goto (tgt := 11) hx hb dX1_best_60 (by decide) ?_
              exact ih_lp (i + 1) mo co le K3 Q3 L3 H3 M3 B3 C3 D3 W3 (by omega) (by omega) _ _ _ hP hD hS (lv_sub hl [2, 3, 4, 5, 0] (by rw [bsc_keep cki c7 (Int32.not_lt.mpr c8)]; rfl))
            · skip
              refine lv_iload hx hb dX1_best_51 (lv_at hl 5 rfl) ?_
              refine lv_istore_n (lv' := [(2, .int (nI i)), (5, .int (dall (upd k i v))), (0, .ref h), (1, .int v), (3, .int (bsc k v i).2), (4, .int (nI i))]) hx hb dX1_best_53 rfl hl (by decide) rfl (fun ls hl => ?_)
              refine lv_iload hx hb dX1_best_54 (lv_at hl 1 rfl) ?_
              refine lv_istore_n (lv' := [(3, .int (dall (upd k i v))), (2, .int (nI i)), (5, .int (dall (upd k i v))), (0, .ref h), (1, .int v), (4, .int (nI i))]) hx hb dX1_best_56 rfl hl (by decide) rfl (fun ls hl => ?_)
              refine lv_iinc (v := nI (i + 1)) (lv' := [(4, .int (nI (i + 1))), (3, .int (dall (upd k i v))), (2, .int (nI i)), (5, .int (dall (upd k i v))), (0, .ref h), (1, .int v)]) hx hb dX1_best_57 hl (k := 5) rfl (nI_inc i) (by decide) rfl (fun ls hl => ?_)
              refine lv_goto (tgt := 11) hx hb dX1_best_60 (by decide) ?_
              exact ih_lp (i + 1) mo co le K3 Q3 L3 H3 M3 B3 C3 D3 W3 (by omega) (by omega) _ _ _ hP hD hS (lv_sub hl [4, 5, 2, 1, 0] (by rw [bsc_take cki (Or.inr (Int32.not_le.mp c8))]; rfl))
      · skip
        have g9 : 64 = i := by omega
        subst g9
        refine lv_icmp_ge (tgt := 63) hx hb dX1_best_15 (by decide) (fun _ => ?_) (fun c => absurd (le_n (n := 64) (i := 64) (by decide) (by decide)) c)
        refine lv_iload_n hx hb dX1_best_63 rfl (lv_at hl 2 rfl) ?_
        subst hQ
        subst hAe
        exact wr_i ((m2, c2, l2), K2, Q2, L2, H2, M2, B2, C2, D2, W2) (rfl) hx hb hr hP hD hS hlocks dX1_best_64
  exact lp (_ + 1) 0 tm tc tl TK TQ TL TH TM TB TC TD TW (by omega) (Nat.lt_succ_self _) _ _ _ hP hD hS (lv_sub hl [3, 4, 2, 1, 0] rfl)

def rmX1_mean : Room := { frames := 2, cells := 0, slots := 0, locals := 42 }
set_option maxHeartbeats 4000000 in
set_option maxRecDepth 100000 in
theorem c_X1_mean (l : Launch) (G : va_G) (cI : ClassId) (h : Nat) (a t : Nat → Nat) (mo co le : Int32) (K Qa La Ha Ma Ba Ca Da Fa Wa k : Nat → Int32) (hk : eqK K k) (hS0 : SVd k Qa La Ha Ma Ba Ca Da) : MetD lw_cs l yX1_mean wsX1_mean rmX1_mean (va_Pc [.ref h] (RdP G cI [(h, oX a t), ((a 0), oC a mo co le), ((a 3), iA cI K), ((a 4), iA cI Qa), ((a 5), iA cI La), ((a 6), iA cI Ha), ((a 7), iA cI Ma), ((a 8), iA cI Ba), ((a 9), iA cI Ca), ((a 10), iA cI Da), ((a 11), iA cI Fa), ((a 12), iA cI Wa)])) (va_Qd (fun (r : UInt64) (_ : Unit) => mnR k r) (fun _ _ => True) No) 0 0 No := by
  refine MetD.ofW (cc := cX1_mean) (maxL := 2) (ret := (some .double)) (by decide) rfl ?_
  intro p e s m args below meth c s₁ B hml hv hd0
  obtain ⟨rfl, hP, hK, hN⟩ := hv
  have hx := B.exec
  have hb := B.bytes
  have hr := B.returns
  have hlocks := B.notSynchronized
  have hts := atoms_spec (ws := wsX1_mean) B.pre
  have hown : s.vm.findClass RX1 = some m.cls := findClass_of_methodNamed B.named
  have hS : va_S No s.heap s.heap [] := va_S.rf
  have hts := dr_words hts s.drawn
  have hN : NW (s.setDrawn s.drawn) := NW_same (u := s) (U := s.setDrawn s.drawn) rfl hN
  have hK : va_K G vwCl (TY cI) (s.setDrawn s.drawn) := hK
  have FX : CallFix p m c cX1_mean 2 (s.setDrawn s.drawn) ([.ref h] : List Value).toArray wsX1_mean RX1 := ⟨hx, hb, hml, hown, hts⟩
  have hl := lv_entry ([.ref h]) (n := 2) (Nat.le_of_ble_eq_true rfl)
  rw [lg_entry_eq]
  generalize (lg_sl ([.ref h]) ++ List.replicate (2 - (lg_sl ([.ref h])).length) Slot.unset).toArray = ls at hl ⊢
  have hl : lv_has ls 2 [(0, .ref h)] := hl
  refine wq (fun Q hQ => ?_)
  have hzc : 0 + 0 ≤ (headSpec wsX1_mean rmX1_mean).room.cells := Nat.zero_le _
  have hzs : 0 + 0 ≤ (headSpec wsX1_mean rmX1_mean).room.slots := Nat.zero_le _
  have hf10 := hts (.fieldLink RX1 10 "CanalCity" "now" "LCanalCity$City;") (by decide +kernel)
  have hinX1 : ∀ w ∈ u_ws RX1 TX1 2, w ∈ wsX1_mean := by decide +kernel
  refine lv_aload_n hx hb dX1_mean_0 rfl (lv_at hl 0 rfl) ?_
  refine va_get (D := G) (ci := 1) (v := .ref (a 0)) (C := RX1) (T := TX1) (N := 2) hx hb hts hinX1 hown hK hP 0 rfl rfl 0 (by decide) hf10 (fun _ h9 => h9) rfl dX1_mean_1 ?_
  refine lv_iconst (v := 3) hx hb dX1_mean_4 (by decide) ?_
  refine cr_i (va_runV (As := [.int 3]) (rest := []) FX (c_X0_lotsOfKind l G cI a mo co le K Qa La Ha Ma Ba Ca Da Fa Wa k 3 hk) (cwV 1 hts gX1_mean_X0_lotsOfKind rfl rfl rfl (by decide +kernel) ⟨Nat.le_of_ble_eq_true rfl, Nat.le_of_ble_eq_true rfl⟩) (rdV hK hP hN [1, 2, 3, 4, 5, 6, 7, 8, 9, 10, 11] rfl (ci := 0) (q0 := 1) rfl rfl) rfl rfl hl.1 rfl (lv_room (Nat.le_of_ble_eq_true rfl)) dX1_mean_5 ⟨hzc, hzs⟩) hS hP (fun H locs hP hS => ?_)
  refine lv_istore_n (lv' := [(1, .int (many k 3)), (0, .ref h)]) hx hb dX1_mean_8 rfl hl (by decide) rfl (fun ls hl => ?_)
  refine lv_iload_n hx hb dX1_mean_9 rfl (lv_at hl 0 rfl) ?_
  refine lv_if_ne (tgt := 15) hx hb dX1_mean_10 (by decide) (fun c9 => ?_) (fun c9 => ?_)
  · skip
    refine lv_aload_n hx hb dX1_mean_15 rfl (lv_at hl 1 rfl) ?_
    refine va_get (D := G) (ci := 1) (v := .ref (a 0)) (C := RX1) (T := TX1) (N := 2) hx hb hts hinX1 hown hK hP 0 rfl rfl 0 (by decide) hf10 (fun _ h9 => h9) rfl dX1_mean_16 ?_
    refine cr_i (va_runV (As := []) (rest := []) FX (c_X0_complaintsOfAll l G cI a mo co le K Qa La Ha Ma Ba Ca Da Fa Wa k hS0.2.2.2.2.2.1) (cwV 0 hts gX1_mean_X0_complaintsOfAll rfl rfl rfl (by decide +kernel) ⟨Nat.le_of_ble_eq_true rfl, Nat.le_of_ble_eq_true rfl⟩) (rdV hK hP hN [1, 2, 3, 4, 5, 6, 7, 8, 9, 10, 11] rfl (ci := 0) (q0 := 1) rfl rfl) rfl rfl hl.1 rfl (lv_room (Nat.le_of_ble_eq_true rfl)) dX1_mean_19 ⟨hzc, hzs⟩) hS hP (fun H locs hP hS => ?_)
    refine lv_i2d hx hb dX1_mean_22 ?_
    refine lv_iload_n hx hb dX1_mean_23 rfl (lv_at hl 0 rfl) ?_
    refine lv_i2d hx hb dX1_mean_24 ?_
    refine lv_ddiv_any hd0 lw_bits hx hb dX1_mean_25 (fun r9 d1 hal hd1 => ?_)
    subst hQ
    refine W.endD hd1 ?_
    exact rd_d (by unfold mnR; rw [if_neg c9]; exact hal) hx hb hr hS hlocks dX1_mean_26
  · skip
    refine lv_dconst0 hx hb dX1_mean_13 ?_
    subst hQ
    refine W.endD hd0 ?_
    exact rd_d (by unfold mnR; rw [if_pos c9]) hx hb hr hS hlocks dX1_mean_14

def rmX1_digest : Room := { frames := 3, cells := 0, slots := 0, locals := 69 }
set_option maxHeartbeats 4000000 in
set_option maxRecDepth 100000 in
theorem c_X1_digest (l : Launch) (G : va_G) (cI : ClassId) (h : Nat) (a t : Nat → Nat) (mo co le : Int32) (K Qa La Ha Ma Ba Ca Da Fa Wa k : Nat → Int32) (hk : eqK K k) (hS0 : SVd k Qa La Ha Ma Ba Ca Da) : Met l yX1_digest wsX1_digest rmX1_digest (va_Pc [.ref h] (RdP G cI [(h, oX a t), ((a 0), oC a mo co le), ((a 3), iA cI K), ((a 4), iA cI Qa), ((a 5), iA cI La), ((a 6), iA cI Ha), ((a 7), iA cI Ma), ((a 8), iA cI Ba), ((a 9), iA cI Ca), ((a 10), iA cI Da), ((a 11), iA cI Fa), ((a 12), iA cI Wa)])) (RdQl (dg3 k (dg1 k mo co le 13) 64)) 0 0 No := by
  refine Met.ofW (cc := cX1_digest) (maxL := 5) (ret := (some .long)) (by decide) rfl ?_
  intro p e s m args below meth c s₁ B hml hv
  obtain ⟨rfl, hP, hK, hN⟩ := hv
  have hx := B.exec
  have hb := B.bytes
  have hr := B.returns
  have hlocks := B.notSynchronized
  have hts := atoms_spec (ws := wsX1_digest) B.pre
  have hown : s.vm.findClass RX1 = some m.cls := findClass_of_methodNamed B.named
  have hS : va_S No s.heap s.heap [] := va_S.rf
  have FX : CallFix p m c cX1_digest 5 s ([.ref h] : List Value).toArray wsX1_digest RX1 := ⟨hx, hb, hml, hown, hts⟩
  have hl := lv_entry ([.ref h]) (n := 5) (Nat.le_of_ble_eq_true rfl)
  rw [lg_entry_eq]
  generalize (lg_sl ([.ref h]) ++ List.replicate (5 - (lg_sl ([.ref h])).length) Slot.unset).toArray = ls at hl ⊢
  have hl : lv_has ls 5 [(0, .ref h)] := hl
  refine wq (fun Q hQ => ?_)
  have hzc : 0 + 0 ≤ (headSpec wsX1_digest rmX1_digest).room.cells := Nat.zero_le _
  have hzs : 0 + 0 ≤ (headSpec wsX1_digest rmX1_digest).room.slots := Nat.zero_le _
  have hf10 := hts (.fieldLink RX1 10 "CanalCity" "now" "LCanalCity$City;") (by decide +kernel)
  have hinX1 : ∀ w ∈ u_ws RX1 TX1 2, w ∈ wsX1_digest := by decide +kernel
  refine lv_ldc2 hx hb hown (hts (.constantLong RX1 130 1409) (by decide +kernel)) dX1_digest_0 ?_
  refine tpl (x' := dg1 k mo co le 0) (rfl) ?_
  refine lv_lstore_n (lv' := [(1, .long (dg1 k mo co le 0)), (0, .ref h)]) hx hb dX1_digest_3 rfl hl (by decide) rfl (fun ls hl => ?_)
  refine lv_iconst (v := 0) hx hb dX1_digest_4 (by decide) ?_
  refine tpi (x' := nI 0) (rfl) ?_
  refine lv_istore_n (lv' := [(3, .int (nI 0)), (1, .long (dg1 k mo co le 0)), (0, .ref h)]) hx hb dX1_digest_5 rfl hl (by decide) rfl (fun ls hl => ?_)
  have lp : ∀ (n : Nat) (i : Nat), (hi : i ≤ 13) → (13 - i) < n → ∀ (H : Heap) (locs : List Loc) (ls : Array Slot), va_P G vwCl [(h, oX a t), ((a 0), oC a mo co le), ((a 3), iA cI K), ((a 4), iA cI Qa), ((a 5), iA cI La), ((a 6), iA cI Ha), ((a 7), iA cI Ma), ((a 8), iA cI Ba), ((a 9), iA cI Ca), ((a 10), iA cI Da), ((a 11), iA cI Fa), ((a 12), iA cI Wa)] H → va_S No s.heap H locs → lv_has ls 5 [(0, .ref h), (1, .long (dg1 k mo co le i)), (3, .int (nI i))] → W p l e (headSpec wsX1_digest rmX1_digest).room s m ([.ref h] : List Value).toArray below meth c H locs 0 0 Q (F0 m 6 ls []) := by
    intro n
    induction n with
    | zero => intro i hi hn; exact absurd hn (by omega)
    | succ n ih_lp =>
      intro i hi hn H locs ls hP hS hl
      refine lv_iload_n hx hb dX1_digest_6 rfl (lv_at hl 2 rfl) ?_
      refine lv_bipush (v := 12) hx hb dX1_digest_7 (by decide) ?_
      rcases Nat.lt_or_ge i 13 with g | g
      · skip
        refine lv_icmp_gt (tgt := 34) hx hb dX1_digest_9 (by decide) (fun c => absurd c (nI_nlt (a := 12) (b := i) (by omega) (by decide))) (fun _ => ?_)
        refine lv_lload_n hx hb dX1_digest_12 rfl (lv_at hl 1 rfl) ?_
        refine lv_ldc2 hx hb hown (hts (.constantLong RX1 132 31) (by decide +kernel)) dX1_digest_13 ?_
        refine lv_lmul hx hb dX1_digest_16 ?_
        refine lv_aload_n hx hb dX1_digest_17 rfl (lv_at hl 0 rfl) ?_
        refine va_get (D := G) (ci := 1) (v := .ref (a 0)) (C := RX1) (T := TX1) (N := 2) hx hb hts hinX1 hown hK hP 0 rfl rfl 0 (by decide) hf10 (fun _ h9 => h9) rfl dX1_digest_18 ?_
        refine lv_iload_n hx hb dX1_digest_21 rfl (lv_at hl 2 rfl) ?_
        refine cr_i (va_runV (As := [.int (nI i)]) (rest := [.long ((dg1 k mo co le i) * 31)]) FX (c_X0_total l G cI a mo co le K Qa La Ha Ma Ba Ca Da Fa Wa k (nI i) hk hS0.1 hS0.2.2.2.2.2.1 hS0.2.2.2.2.2.2) (cwV 1 hts gX1_digest_X0_total rfl rfl rfl (by decide +kernel) ⟨Nat.le_of_ble_eq_true rfl, Nat.le_of_ble_eq_true rfl⟩) (rdV hK hP hN [1, 2, 3, 4, 5, 6, 7, 8, 9, 10, 11] rfl (ci := 0) (q0 := 1) rfl rfl) rfl rfl hl.1 rfl (lv_room (Nat.le_of_ble_eq_true rfl)) dX1_digest_22 ⟨hzc, hzs⟩) hS hP (fun H locs hP hS => ?_)
        refine lv_i2l (v := (tot k mo co le (nI i)).toInt64) hx hb dX1_digest_25 rfl ?_
        refine lv_ladd hx hb dX1_digest_26 ?_
        refine tpl (x' := dg1 k mo co le (i + 1)) (rfl) ?_
        refine lv_lstore_n (lv' := [(1, .long (dg1 k mo co le (i + 1))), (0, .ref h), (3, .int (nI i))]) hx hb dX1_digest_27 rfl hl (by decide) rfl (fun ls hl => ?_)
        refine lv_iinc (v := nI (i + 1)) (lv' := [(3, .int (nI (i + 1))), (1, .long (dg1 k mo co le (i + 1))), (0, .ref h)]) hx hb dX1_digest_28 hl (k := 2) rfl (nI_inc i) (by decide) rfl (fun ls hl => ?_)
        refine lv_goto (tgt := 6) hx hb dX1_digest_31 (by decide) ?_
        exact ih_lp (i + 1) (by omega) (by omega) _ _ _ hP hS (lv_sub hl [2, 1, 0] (rfl))
      · skip
        have g9 : 13 = i := by omega
        subst g9
        refine lv_icmp_gt (tgt := 34) hx hb dX1_digest_9 (by decide) (fun _ => ?_) (fun c => absurd (by decide) c)
        refine lv_iconst (v := 0) hx hb dX1_digest_34 (by decide) ?_
        refine tpi (x' := nI 0) (rfl) ?_
        have d0 : dg1 k mo co le 13 = dg3 k (dg1 k mo co le 13) 0 := rfl
        refine lv_istore_n (lv' := [(3, .int (nI 0)), (0, .ref h), (1, .long (dg1 k mo co le 13))]) hx hb dX1_digest_35 rfl hl (by decide) rfl (fun ls hl => ?_)
        have lq : ∀ (n : Nat) (y : Nat), (hy : y ≤ 64) → (64 - y) < n → ∀ (H : Heap) (locs : List Loc) (ls : Array Slot), va_P G vwCl [(h, oX a t), ((a 0), oC a mo co le), ((a 3), iA cI K), ((a 4), iA cI Qa), ((a 5), iA cI La), ((a 6), iA cI Ha), ((a 7), iA cI Ma), ((a 8), iA cI Ba), ((a 9), iA cI Ca), ((a 10), iA cI Da), ((a 11), iA cI Fa), ((a 12), iA cI Wa)] H → va_S No s.heap H locs → lv_has ls 5 [(0, .ref h), (1, .long (dg3 k (dg1 k mo co le 13) y)), (3, .int (nI y))] → W p l e (headSpec wsX1_digest rmX1_digest).room s m ([.ref h] : List Value).toArray below meth c H locs 0 0 Q (F0 m 36 ls []) := by
          intro n
          induction n with
          | zero => intro y hy hn; exact absurd hn (by omega)
          | succ n ih_lq =>
            intro y hy hn H locs ls hP hS hl
            refine lv_iload_n hx hb dX1_digest_36 rfl (lv_at hl 2 rfl) ?_
            refine lv_bipush (v := 64) hx hb dX1_digest_37 (by decide) ?_
            rcases Nat.lt_or_ge y 64 with g | g
            · skip
              refine lv_icmp_ge (tgt := 81) hx hb dX1_digest_39 (by decide) (fun c => absurd c (lt_n (n := 64) g (by decide))) (fun _ => ?_)
              refine lv_iconst (v := 0) hx hb dX1_digest_42 (by decide) ?_
              refine tpi (x' := nI 0) (rfl) ?_
              refine lv_istore (lv' := [(4, .int (nI 0)), (0, .ref h), (1, .long (dg3 k (dg1 k mo co le 13) y)), (3, .int (nI y))]) hx hb dX1_digest_43 hl (by decide) rfl (fun ls hl => ?_)
              have lr : ∀ (n : Nat) (t9 : Nat), (ht9 : t9 ≤ 6) → (6 - t9) < n → ∀ (H : Heap) (locs : List Loc) (ls : Array Slot), va_P G vwCl [(h, oX a t), ((a 0), oC a mo co le), ((a 3), iA cI K), ((a 4), iA cI Qa), ((a 5), iA cI La), ((a 6), iA cI Ha), ((a 7), iA cI Ma), ((a 8), iA cI Ba), ((a 9), iA cI Ca), ((a 10), iA cI Da), ((a 11), iA cI Fa), ((a 12), iA cI Wa)] H → va_S No s.heap H locs → lv_has ls 5 [(0, .ref h), (1, .long (dg2 k y (dg3 k (dg1 k mo co le 13) y) t9)), (3, .int (nI y)), (4, .int (nI t9))] → W p l e (headSpec wsX1_digest rmX1_digest).room s m ([.ref h] : List Value).toArray below meth c H locs 0 0 Q (F0 m 45 ls []) := by
                intro n
                induction n with
                | zero => intro t9 ht9 hn; exact absurd hn (by omega)
                | succ n ih_lr =>
                  intro t9 ht9 hn H locs ls hP hS hl
                  refine lv_iload hx hb dX1_digest_45 (lv_at hl 3 rfl) ?_
                  refine lv_iconst (v := 5) hx hb dX1_digest_47 (by decide) ?_
                  rcases Nat.lt_or_ge t9 6 with g4 | g4
                  · skip
                    refine lv_icmp_gt (tgt := 75) hx hb dX1_digest_48 (by decide) (fun c => absurd c (nI_nlt (a := 5) (b := t9) (by omega) (by decide))) (fun _ => ?_)
                    refine lv_lload_n hx hb dX1_digest_51 rfl (lv_at hl 1 rfl) ?_
                    refine lv_ldc2 hx hb hown (hts (.constantLong RX1 132 31) (by decide +kernel)) dX1_digest_52 ?_
                    refine lv_lmul hx hb dX1_digest_55 ?_
                    refine lv_aload_n hx hb dX1_digest_56 rfl (lv_at hl 0 rfl) ?_
                    refine va_get (D := G) (ci := 1) (v := .ref (a 0)) (C := RX1) (T := TX1) (N := 2) hx hb hts hinX1 hown hK hP 0 rfl rfl 0 (by decide) hf10 (fun _ h9 => h9) rfl dX1_digest_57 ?_
                    refine lv_iload_n hx hb dX1_digest_60 rfl (lv_at hl 2 rfl) ?_
                    refine lv_iload hx hb dX1_digest_61 (lv_at hl 3 rfl) ?_
                    refine cr_i (va_runV (As := [.int (nI y), .int (nI t9)]) (rest := [.long ((dg2 k y (dg3 k (dg1 k mo co le 13) y) t9) * 31)]) FX (c_X0_factOf l G cI a mo co le K Qa La Ha Ma Ba Ca Da Fa Wa k y (nI t9) hk hS0.1 hS0.2.1 hS0.2.2.2.2.1 hS0.2.2.2.2.2.1 hS0.2.2.2.2.2.2 g) (cwV 2 hts gX1_digest_X0_factOf rfl rfl rfl (by decide +kernel) ⟨Nat.le_of_ble_eq_true rfl, Nat.le_of_ble_eq_true rfl⟩) (rdV hK hP hN [1, 2, 3, 4, 5, 6, 7, 8, 9, 10, 11] rfl (ci := 0) (q0 := 1) rfl rfl) rfl rfl hl.1 rfl (lv_room (Nat.le_of_ble_eq_true rfl)) dX1_digest_63 ⟨hzc, hzs⟩) hS hP (fun H locs hP hS => ?_)
                    refine lv_i2l (v := (fct k y (nI t9)).toInt64) hx hb dX1_digest_66 rfl ?_
                    refine lv_ladd hx hb dX1_digest_67 ?_
                    refine tpl (x' := dg2 k y (dg3 k (dg1 k mo co le 13) y) (t9 + 1)) (rfl) ?_
                    refine lv_lstore_n (lv' := [(1, .long (dg2 k y (dg3 k (dg1 k mo co le 13) y) (t9 + 1))), (0, .ref h), (3, .int (nI y)), (4, .int (nI t9))]) hx hb dX1_digest_68 rfl hl (by decide) rfl (fun ls hl => ?_)
                    refine lv_iinc (v := nI (t9 + 1)) (lv' := [(4, .int (nI (t9 + 1))), (1, .long (dg2 k y (dg3 k (dg1 k mo co le 13) y) (t9 + 1))), (0, .ref h), (3, .int (nI y))]) hx hb dX1_digest_69 hl (k := 3) rfl (nI_inc t9) (by decide) rfl (fun ls hl => ?_)
                    refine lv_goto (tgt := 45) hx hb dX1_digest_72 (by decide) ?_
                    exact ih_lr (t9 + 1) (by omega) (by omega) _ _ _ hP hS (lv_sub hl [2, 1, 3, 0] (rfl))
                  · skip
                    have g9 : 6 = t9 := by omega
                    subst g9
                    refine lv_icmp_gt (tgt := 75) hx hb dX1_digest_48 (by decide) (fun _ => ?_) (fun c => absurd (by decide) c)
                    refine lv_iinc (v := nI (y + 1)) (lv' := [(3, .int (nI (y + 1))), (0, .ref h), (1, .long (dg2 k y (dg3 k (dg1 k mo co le 13) y) 6)), (4, .int (nI 6))]) hx hb dX1_digest_75 hl (k := 2) rfl (nI_inc y) (by decide) rfl (fun ls hl => ?_)
                    refine lv_goto (tgt := 36) hx hb dX1_digest_78 (by decide) ?_
                    exact ih_lq (y + 1) (by omega) (by omega) _ _ _ hP hS (lv_sub hl [1, 2, 0] (rfl))
              exact lr (_ + 1) 0 (by omega) (Nat.lt_succ_self _) _ _ _ hP hS (lv_sub hl [1, 2, 3, 0] rfl)
            · skip
              have g9 : 64 = y := by omega
              subst g9
              refine lv_icmp_ge (tgt := 81) hx hb dX1_digest_39 (by decide) (fun _ => ?_) (fun c => absurd (le_n (n := 64) (i := 64) (by decide) (by decide)) c)
              refine lv_lload_n hx hb dX1_digest_81 rfl (lv_at hl 1 rfl) ?_
              subst hQ
              exact rd_l (rfl) hx hb hr hS hlocks dX1_digest_82
        exact lq (_ + 1) 0 (by omega) (Nat.lt_succ_self _) _ _ _ hP hS (lv_sub hl [1, 2, 0] rfl)
  exact lp (_ + 1) 0 (by omega) (Nat.lt_succ_self _) _ _ _ hP hS (lv_sub hl [2, 1, 0] rfl)

def rmX2_init : Room := { frames := 1, cells := 9, slots := 72, locals := 20 }
set_option maxHeartbeats 4000000 in
set_option maxRecDepth 100000 in
/-- a new city by hand -/
theorem c_X2_init (l : Launch) (G : va_G) (cs : Nat → ClassId) (h : Nat)  (sz : Nat) : Met l yX2_init wsX2_init rmX2_init (va_Pc [.ref h] (WsP G cs [(h, .inr (2, [.null, .int 0, .int 0, .int 0]))] sz)) (va_Qv (fun (u : Nat × (Nat → Nat) × (Nat → Int32)) => eqK u.2.2 k0) (WrB G [(h, .inr (2, [.null, .int 0, .int 0, .int 0]))] sz (fun u => [(h, oS (u.1) 0 60 0), ((u.1), oQ (cs 1) 8 (u.2.1)), (((u.2.1) 0), iB (cs 0) 8 (cl8 (u.2.2) 0)), (((u.2.1) 1), iB (cs 0) 8 (cl8 (u.2.2) 1)), (((u.2.1) 2), iB (cs 0) 8 (cl8 (u.2.2) 2)), (((u.2.1) 3), iB (cs 0) 8 (cl8 (u.2.2) 3)), (((u.2.1) 4), iB (cs 0) 8 (cl8 (u.2.2) 4)), (((u.2.1) 5), iB (cs 0) 8 (cl8 (u.2.2) 5)), (((u.2.1) 6), iB (cs 0) 8 (cl8 (u.2.2) 6)), (((u.2.1) 7), iB (cs 0) 8 (cl8 (u.2.2) 7))])) (va_A [(h, .inr (2, [.null, .int 0, .int 0, .int 0]))] sz)) 9 72 (va_A [(h, .inr (2, [.null, .int 0, .int 0, .int 0]))] sz) := by
  refine Met.ofW (cc := cX2_init) (maxL := 2) (ret := none) (by decide) rfl ?_
  intro p e s m args below meth c s₁ B hml hv
  obtain ⟨rfl, hsz, hP, hK, hD0, hN⟩ := hv
  have hx := B.exec
  have hb := B.bytes
  have hr := B.returns
  have hlocks := B.notSynchronized
  have hts := atoms_spec (ws := wsX2_init) B.pre
  have hin9 : meth.name = "<init>" := (name_of_methodNamed B.named B.method).1
  have hown : s.vm.findClass RX2 = some m.cls := findClass_of_methodNamed B.named
  subst hsz
  have hD := hD0.self (sz := s.heap.size)
  have hA : ∀ q : Nat, s.heap.size ≤ q → va_A [(h, .inr (2, [.null, .int 0, .int 0, .int 0]))] s.heap.size q := fun q h => Or.inr h
  have hS : va_S (va_A [(h, .inr (2, [.null, .int 0, .int 0, .int 0]))] s.heap.size) s.heap s.heap [] := va_S.rf
  obtain ⟨A, hAe⟩ : ∃ A, A = va_A [(h, .inr (2, [.null, .int 0, .int 0, .int 0]))] s.heap.size := ⟨_, rfl⟩
  rw [← hAe] at hD hA hS
  have FX : CallFix p m c cX2_init 2 s ([.ref h] : List Value).toArray wsX2_init RX2 := ⟨hx, hb, hml, hown, hts⟩
  have hl := lv_entry ([.ref h]) (n := 2) (Nat.le_of_ble_eq_true rfl)
  rw [lg_entry_eq]
  generalize (lg_sl ([.ref h]) ++ List.replicate (2 - (lg_sl ([.ref h])).length) Slot.unset).toArray = ls at hl ⊢
  have hl : lv_has ls 2 [(0, .ref h)] := hl
  refine wq (fun Q hQ => ?_)
  have hzc : 0 + 0 ≤ (headSpec wsX2_init rmX2_init).room.cells := Nat.zero_le _
  have hzs : 0 + 0 ≤ (headSpec wsX2_init rmX2_init).room.slots := Nat.zero_le _
  have hf14 := hts (.fieldLink RX2 14 "CanalCityLaw$Sim" "coins" "I") (by decide +kernel)
  have hf9 := hts (.fieldLink RX2 9 "CanalCityLaw$Sim" "kind" "[[I") (by decide +kernel)
  have hinX2 : ∀ w ∈ u_ws RX2 TX2 4, w ∈ wsX2_init := by decide +kernel
  refine lv_aload_n hx hb dX2_init_0 rfl (lv_at hl 0 rfl) ?_
  refine W.objInit hx hb hown (hts (.methodLink RX2 1 objectInit) (by decide +kernel)) (hts (.instanceMethod objectInit) (by decide +kernel)) (hts (.code objectInit ⟨#[0xb1]⟩ 1 none) (by decide +kernel)) rfl (by rw [hml]; exact hl.1) rfl dX2_init_1 (Nat.le_of_ble_eq_true rfl) (Nat.le_of_ble_eq_true rfl) ?_
  refine W.eq (g2 := F0 m 4 ls []) rfl ?_
  refine lv_aload_n hx hb dX2_init_4 rfl (lv_at hl 0 rfl) ?_
  refine lv_bipush (v := 8) hx hb dX2_init_5 (by decide) ?_
  refine lv_bipush (v := 8) hx hb dX2_init_7 (by decide) ?_
  have hP0 : va_P G vwCl ([(h, .inr (2, [.null, .int 0, .int 0, .int 0]))] ++ va_pl [] (fun _ => iB (cs 0) 8 (fun _ => 0))) s.heap := by rw [show va_pl [] (fun _ => iB (cs 0) 8 (fun _ => 0)) = [] from rfl, List.append_nil]; exact hP
  have hD0 : va_D A ([(h, .inr (2, [.null, .int 0, .int 0, .int 0]))] ++ va_pl [] (fun _ => iB (cs 0) 8 (fun _ => 0))) := by rw [show va_pl [] (fun _ => iB (cs 0) 8 (fun _ => 0)) = [] from rfl, List.append_nil]; exact hD
  refine va_mna (ty := .int) (cy := (cs 0)) (N' := 8) (K' := 8) (n := 8) (k := 8) (z := (8, .inl (fun _ => 0))) hx hb hown (hts (.classLink RX2 7 ("[" ++ (FieldType.array .int).toString)) (by decide +kernel)) (AOs_use (t := .int) hN.2.1.1) (hts (.arrayClass .int) (by decide +kernel)) ((hK.2 0 _ rfl).2) hK hP0 hD0 hS hA (by decide) (by decide) (by decide) (by decide) (by decide) (by decide) (by decide) rfl rfl (Nat.le_of_ble_eq_true rfl) (Nat.le_of_ble_eq_true rfl) (fun c9 => (arrV_new c9 8 _)) dX2_init_9 (fun o r cA H hr9 hl9 hK9 hP hD hS => ?_)
  have hc9 : cA = (cs 1) := Option.some.inj (((hK9.2 5 (cA, .array .int) rfl).2 : s.vm.findClass _ = some cA).symm.trans ((hK.2 1 _ rfl).2 : s.vm.findClass _ = some (cs 1)))
  rw [hc9] at hP hD
  clear hP0 hD0 hK9 hc9
  rw [List.append_assoc, gW_new] at hP hD
  have hP : va_P G vwCl [(h, .inr (2, [.null, .int 0, .int 0, .int 0])), (o, oQ (cs 1) 8 r), ((r 0), iB (cs 0) 8 (cl8 (fun _ => 0) 0)), ((r 1), iB (cs 0) 8 (cl8 (fun _ => 0) 1)), ((r 2), iB (cs 0) 8 (cl8 (fun _ => 0) 2)), ((r 3), iB (cs 0) 8 (cl8 (fun _ => 0) 3)), ((r 4), iB (cs 0) 8 (cl8 (fun _ => 0) 4)), ((r 5), iB (cs 0) 8 (cl8 (fun _ => 0) 5)), ((r 6), iB (cs 0) 8 (cl8 (fun _ => 0) 6)), ((r 7), iB (cs 0) 8 (cl8 (fun _ => 0) 7))] H := hP
  have hD : va_D A [(h, .inr (2, [.null, .int 0, .int 0, .int 0])), (o, oQ (cs 1) 8 r), ((r 0), iB (cs 0) 8 (cl8 (fun _ => 0) 0)), ((r 1), iB (cs 0) 8 (cl8 (fun _ => 0) 1)), ((r 2), iB (cs 0) 8 (cl8 (fun _ => 0) 2)), ((r 3), iB (cs 0) 8 (cl8 (fun _ => 0) 3)), ((r 4), iB (cs 0) 8 (cl8 (fun _ => 0) 4)), ((r 5), iB (cs 0) 8 (cl8 (fun _ => 0) 5)), ((r 6), iB (cs 0) 8 (cl8 (fun _ => 0) 6)), ((r 7), iB (cs 0) 8 (cl8 (fun _ => 0) 7))] := hD
  refine W.widen (k := 9) (n := 72) (by decide) (by decide) ?_
  refine va_put (D := G) (ci := 2) (v := .ref o) (ty := (.array (.array .int))) (C := RX2) (T := TX2) (N := 4) hx hb hts hinX2 tyX2 tyX2_ok nmX2 hown hK hP hD hS 0 rfl rfl 0 (by decide) hf9 (fun _ h9 => h9) rfl (by decide +kernel) rfl rfl (Nat.le_of_ble_eq_true rfl) dX2_init_13 (fun H locs hP hD hS => ?_)
  have hP : va_P G vwCl [(h, .inr (2, [.ref o, .int 0, .int 0, .int 0])), (o, oQ (cs 1) 8 r), ((r 0), iB (cs 0) 8 (cl8 (fun _ => 0) 0)), ((r 1), iB (cs 0) 8 (cl8 (fun _ => 0) 1)), ((r 2), iB (cs 0) 8 (cl8 (fun _ => 0) 2)), ((r 3), iB (cs 0) 8 (cl8 (fun _ => 0) 3)), ((r 4), iB (cs 0) 8 (cl8 (fun _ => 0) 4)), ((r 5), iB (cs 0) 8 (cl8 (fun _ => 0) 5)), ((r 6), iB (cs 0) 8 (cl8 (fun _ => 0) 6)), ((r 7), iB (cs 0) 8 (cl8 (fun _ => 0) 7))] H := hP
  have hD : va_D A [(h, .inr (2, [.ref o, .int 0, .int 0, .int 0])), (o, oQ (cs 1) 8 r), ((r 0), iB (cs 0) 8 (cl8 (fun _ => 0) 0)), ((r 1), iB (cs 0) 8 (cl8 (fun _ => 0) 1)), ((r 2), iB (cs 0) 8 (cl8 (fun _ => 0) 2)), ((r 3), iB (cs 0) 8 (cl8 (fun _ => 0) 3)), ((r 4), iB (cs 0) 8 (cl8 (fun _ => 0) 4)), ((r 5), iB (cs 0) 8 (cl8 (fun _ => 0) 5)), ((r 6), iB (cs 0) 8 (cl8 (fun _ => 0) 6)), ((r 7), iB (cs 0) 8 (cl8 (fun _ => 0) 7))] := hD
  refine lv_aload_n hx hb dX2_init_16 rfl (lv_at hl 0 rfl) ?_
  refine lv_bipush (v := 60) hx hb dX2_init_17 (by decide) ?_
  refine va_put (D := G) (ci := 2) (v := .int 60) (ty := .int) (C := RX2) (T := TX2) (N := 4) hx hb hts hinX2 tyX2 tyX2_ok nmX2 hown hK hP hD hS 0 rfl rfl 2 (by decide) hf14 (fun _ h9 => h9) rfl (by decide +kernel) rfl rfl (Nat.le_of_ble_eq_true rfl) dX2_init_19 (fun H locs hP hD hS => ?_)
  have hP : va_P G vwCl [(h, .inr (2, [.ref o, .int 0, .int 60, .int 0])), (o, oQ (cs 1) 8 r), ((r 0), iB (cs 0) 8 (cl8 (fun _ => 0) 0)), ((r 1), iB (cs 0) 8 (cl8 (fun _ => 0) 1)), ((r 2), iB (cs 0) 8 (cl8 (fun _ => 0) 2)), ((r 3), iB (cs 0) 8 (cl8 (fun _ => 0) 3)), ((r 4), iB (cs 0) 8 (cl8 (fun _ => 0) 4)), ((r 5), iB (cs 0) 8 (cl8 (fun _ => 0) 5)), ((r 6), iB (cs 0) 8 (cl8 (fun _ => 0) 6)), ((r 7), iB (cs 0) 8 (cl8 (fun _ => 0) 7))] H := hP
  have hD : va_D A [(h, .inr (2, [.ref o, .int 0, .int 60, .int 0])), (o, oQ (cs 1) 8 r), ((r 0), iB (cs 0) 8 (cl8 (fun _ => 0) 0)), ((r 1), iB (cs 0) 8 (cl8 (fun _ => 0) 1)), ((r 2), iB (cs 0) 8 (cl8 (fun _ => 0) 2)), ((r 3), iB (cs 0) 8 (cl8 (fun _ => 0) 3)), ((r 4), iB (cs 0) 8 (cl8 (fun _ => 0) 4)), ((r 5), iB (cs 0) 8 (cl8 (fun _ => 0) 5)), ((r 6), iB (cs 0) 8 (cl8 (fun _ => 0) 6)), ((r 7), iB (cs 0) 8 (cl8 (fun _ => 0) 7))] := hD
  have hP : va_P G vwCl [(h, oS o 0 60 0), (o, oQ (cs 1) 8 r), ((r 0), iB (cs 0) 8 (cl8 (fun _ => 0) 0)), ((r 1), iB (cs 0) 8 (cl8 (fun _ => 0) 1)), ((r 2), iB (cs 0) 8 (cl8 (fun _ => 0) 2)), ((r 3), iB (cs 0) 8 (cl8 (fun _ => 0) 3)), ((r 4), iB (cs 0) 8 (cl8 (fun _ => 0) 4)), ((r 5), iB (cs 0) 8 (cl8 (fun _ => 0) 5)), ((r 6), iB (cs 0) 8 (cl8 (fun _ => 0) 6)), ((r 7), iB (cs 0) 8 (cl8 (fun _ => 0) 7))] H := hP
  have hD : va_D A [(h, oS o 0 60 0), (o, oQ (cs 1) 8 r), ((r 0), iB (cs 0) 8 (cl8 (fun _ => 0) 0)), ((r 1), iB (cs 0) 8 (cl8 (fun _ => 0) 1)), ((r 2), iB (cs 0) 8 (cl8 (fun _ => 0) 2)), ((r 3), iB (cs 0) 8 (cl8 (fun _ => 0) 3)), ((r 4), iB (cs 0) 8 (cl8 (fun _ => 0) 4)), ((r 5), iB (cs 0) 8 (cl8 (fun _ => 0) 5)), ((r 6), iB (cs 0) 8 (cl8 (fun _ => 0) 6)), ((r 7), iB (cs 0) 8 (cl8 (fun _ => 0) 7))] := hD
  refine lv_iconst (v := 0) hx hb dX2_init_22 (by decide) ?_
  refine lv_istore_n (lv' := [(1, .int 0), (0, .ref h)]) hx hb dX2_init_23 rfl hl (by decide) rfl (fun ls hl => ?_)
  have hl : lv_has ls 2 [(1, .int (nI 0)), (0, .ref h)] := hl
  have lp : ∀ (n : Nat) (y : Nat) (K1 : Nat → Int32), (hy9 : y ≤ 8) → (hK1 : ∀ p, p < 64 → K1 p = k0p y p) → (8 - y) < n → ∀ (H : Heap) (locs : List Loc) (ls : Array Slot), va_P G vwCl [(h, oS o 0 60 0), (o, oQ (cs 1) 8 r), ((r 0), iB (cs 0) 8 (cl8 K1 0)), ((r 1), iB (cs 0) 8 (cl8 K1 1)), ((r 2), iB (cs 0) 8 (cl8 K1 2)), ((r 3), iB (cs 0) 8 (cl8 K1 3)), ((r 4), iB (cs 0) 8 (cl8 K1 4)), ((r 5), iB (cs 0) 8 (cl8 K1 5)), ((r 6), iB (cs 0) 8 (cl8 K1 6)), ((r 7), iB (cs 0) 8 (cl8 K1 7))] H → va_D A [(h, oS o 0 60 0), (o, oQ (cs 1) 8 r), ((r 0), iB (cs 0) 8 (cl8 K1 0)), ((r 1), iB (cs 0) 8 (cl8 K1 1)), ((r 2), iB (cs 0) 8 (cl8 K1 2)), ((r 3), iB (cs 0) 8 (cl8 K1 3)), ((r 4), iB (cs 0) 8 (cl8 K1 4)), ((r 5), iB (cs 0) 8 (cl8 K1 5)), ((r 6), iB (cs 0) 8 (cl8 K1 6)), ((r 7), iB (cs 0) 8 (cl8 K1 7))] → va_S A s.heap H locs → lv_has ls 2 [(0, .ref h), (1, .int (nI y))] → W p l e (headSpec wsX2_init rmX2_init).room s m ([.ref h] : List Value).toArray below meth c H locs 9 72 Q (F0 m 24 ls []) := by
    intro n
    induction n with
    | zero => intro y K1 hy9 hK1 hn; exact absurd hn (by omega)
    | succ n ih_lp =>
      intro y K1 hy9 hK1 hn H locs ls hP hD hS hl
      refine lv_iload_n hx hb dX2_init_24 rfl (lv_at hl 1 rfl) ?_
      refine lv_bipush (v := 8) hx hb dX2_init_25 (by decide) ?_
      rcases Nat.lt_or_ge y 8 with hy8 | g
      · skip
        refine lv_icmp_ge (tgt := 45) hx hb dX2_init_27 (by decide) (fun c => absurd c (lt_n (n := 8) hy8 (by decide))) (fun _ => ?_)
        refine lv_aload_n hx hb dX2_init_30 rfl (lv_at hl 0 rfl) ?_
        refine va_get (D := G) (ci := 2) (v := .ref o) (C := RX2) (T := TX2) (N := 4) hx hb hts hinX2 hown hK hP 0 rfl rfl 0 (by decide) hf9 (fun _ h9 => h9) rfl dX2_init_31 ?_
        refine lv_iconst (v := 3) hx hb dX2_init_34 (by decide) ?_
        refine tpi (x' := nI 3) (rfl) ?_
        refine g_ald (r := r) (n := 8) hx hb hK hP 1 1 rfl rfl (x := 3) (by decide) (by decide) dX2_init_35 ?_
        refine lv_iload_n hx hb dX2_init_36 rfl (lv_at hl 1 rfl) ?_
        refine lv_iconst (v := 1) hx hb dX2_init_37 (by decide) ?_
        refine g_iast (pre := [(h, oS o 0 60 0)]) (post := []) (cO := (cs 1)) (cR := (cs 0)) (o := o) (r := r) (K := K1) hx hb hK hP hD hS 0 rfl (x := 3) (y := y) (by decide) (hy8) (v := 1) dX2_init_38 (fun H locs hP hD hS => ?_)
        have hP : va_P G vwCl [(h, oS o 0 60 0), (o, oQ (cs 1) 8 r), ((r 0), iB (cs 0) 8 (cl8 (upd K1 (8 * y + 3) 1) 0)), ((r 1), iB (cs 0) 8 (cl8 (upd K1 (8 * y + 3) 1) 1)), ((r 2), iB (cs 0) 8 (cl8 (upd K1 (8 * y + 3) 1) 2)), ((r 3), iB (cs 0) 8 (cl8 (upd K1 (8 * y + 3) 1) 3)), ((r 4), iB (cs 0) 8 (cl8 (upd K1 (8 * y + 3) 1) 4)), ((r 5), iB (cs 0) 8 (cl8 (upd K1 (8 * y + 3) 1) 5)), ((r 6), iB (cs 0) 8 (cl8 (upd K1 (8 * y + 3) 1) 6)), ((r 7), iB (cs 0) 8 (cl8 (upd K1 (8 * y + 3) 1) 7))] H := hP
        have hD : va_D A [(h, oS o 0 60 0), (o, oQ (cs 1) 8 r), ((r 0), iB (cs 0) 8 (cl8 (upd K1 (8 * y + 3) 1) 0)), ((r 1), iB (cs 0) 8 (cl8 (upd K1 (8 * y + 3) 1) 1)), ((r 2), iB (cs 0) 8 (cl8 (upd K1 (8 * y + 3) 1) 2)), ((r 3), iB (cs 0) 8 (cl8 (upd K1 (8 * y + 3) 1) 3)), ((r 4), iB (cs 0) 8 (cl8 (upd K1 (8 * y + 3) 1) 4)), ((r 5), iB (cs 0) 8 (cl8 (upd K1 (8 * y + 3) 1) 5)), ((r 6), iB (cs 0) 8 (cl8 (upd K1 (8 * y + 3) 1) 6)), ((r 7), iB (cs 0) 8 (cl8 (upd K1 (8 * y + 3) 1) 7))] := hD
        refine lv_iinc (v := nI (y + 1)) (lv' := [(1, .int (nI (y + 1))), (0, .ref h)]) hx hb dX2_init_39 hl (k := 1) rfl (nI_inc y) (by decide) rfl (fun ls hl => ?_)
        refine lv_goto (tgt := 24) hx hb dX2_init_42 (by decide) ?_
        exact ih_lp (y + 1) (upd K1 (8 * y + 3) 1) (by omega) (fun p hp => by rcases Nat.decEq p (8 * y + 3) with e9 | e9; rw [pk_un e9, k0p_out e9]; exact hK1 p hp; rw [e9, pk_us, k0p_in]) (by omega) _ _ _ hP hD hS (lv_sub hl [1, 0] (rfl))
      · skip
        have g : y = 8 := by omega
        subst g
        refine lv_icmp_ge (tgt := 45) hx hb dX2_init_27 (by decide) (fun _ => ?_) (fun c => absurd (le_n (n := 8) (i := 8) (by decide) (by decide)) c)
        subst hQ
        subst hAe
        exact wr_v (o, r, K1) (fun p hp => (hK1 p hp).trans (k0p_64 hp)) hx hb hr hP hD hS hlocks dX2_init_45
  exact lp (_ + 1) 0 (fun _ => 0) (by omega) (fun p _ => (k0p_0 p).symm) (Nat.lt_succ_self _) _ _ _ hP hD hS (lv_sub hl [1, 0] rfl)

noncomputable def qI (k : Nat → Int32) (p : Nat) : Int32 := if qrt k p = some p then 1 else 0
def kI (k : Nat → Int32) (v : Nat) (p : Nat) : Int32 := if k p = nI v then 1 else 0
def CT (k : Nat → Int32) (mo co le : Int32) (x y : Nat) (R : Nat → Int32) : Prop := R 0 = mo ∧ R 1 = co ∧ R 10 = call k ∧ R 11 = dall k ∧ R 12 = le ∧ R 9 = xs (qI k) x y ∧ ∀ v, v < 7 → R (2 + v) = xs (kI k v) x y
theorem CT_step {k R : Nat → Int32} {mo co le : Int32} {x y v : Nat} (h : CT k mo co le x y R) (hv : v < 7) (hk : k (8 * y + x) = nI v) : CT k mo co le x (y + 1) (upd (upd R (2 + v) (R (2 + v) + 1)) 9 (upd R (2 + v) (R (2 + v) + 1) 9 + qI k (8 * y + x))) := by
  obtain ⟨h0, h1, h10, h11, h12, h9, hv9⟩ := h
  refine ⟨?_, ?_, ?_, ?_, ?_, ?_, fun w hw => ?_⟩
  · rw [pk_un (by decide), pk_un (by omega)]; exact h0
  · rw [pk_un (by decide), pk_un (by omega)]; exact h1
  · rw [pk_un (by decide), pk_un (by omega)]; exact h10
  · rw [pk_un (by decide), pk_un (by omega)]; exact h11
  · rw [pk_un (by decide), pk_un (by omega)]; exact h12
  · rw [pk_us, pk_un (by omega), h9, xs_y]
  · rw [pk_un (by omega), xs_y, ← hv9 w hw]
    unfold kI
    rcases Nat.decEq w v with e | e
    · rw [pk_un (by omega), if_neg (fun e9 => e ((nI_eq (by omega) (by omega)).mp (e9.symm.trans hk)))]
      exact (Int32.add_zero _).symm
    · subst e
      rw [pk_us, if_pos hk]
theorem CT_row {k R : Nat → Int32} {mo co le : Int32} {x : Nat} (h : CT k mo co le x 8 R) : CT k mo co le (x + 1) 0 R := by
  obtain ⟨h0, h1, h10, h11, h12, h9, hv9⟩ := h
  exact ⟨h0, h1, h10, h11, h12, by rw [← xs_x]; exact h9, fun v hv => by rw [← xs_x]; exact hv9 v hv⟩
theorem CT_end {k R : Nat → Int32} {mo co le : Int32} (h : CT k mo co le 8 0 R) : ∀ i, i < 13 → R i = tot k mo co le (nI i) := by
  obtain ⟨h0, h1, h10, h11, h12, h9, hv9⟩ := h
  have key : ∀ v, v < 7 → R (2 + v) = many k (nI v) := fun v hv => by
    rw [hv9 v hv, xs_end]
    rfl
  intro i hi
  rcases (show i = 0 ∨ i = 1 ∨ i = 2 ∨ i = 3 ∨ i = 4 ∨ i = 5 ∨ i = 6 ∨ i = 7 ∨ i = 8 ∨ i = 9 ∨ i = 10 ∨ i = 11 ∨ i = 12 by omega) with rfl | rfl | rfl | rfl | rfl | rfl | rfl | rfl | rfl | rfl | rfl | rfl | rfl
  · exact h0
  · exact h1
  · exact key 0 (by decide)
  · exact key 1 (by decide)
  · exact key 2 (by decide)
  · exact key 3 (by decide)
  · exact key 4 (by decide)
  · exact key 5 (by decide)
  · exact key 6 (by decide)
  · rw [h9, xs_end]; rfl
  · exact h10
  · exact h11
  · exact h12
theorem kd_nat {x : Int32} (h : kd x) : ∃ v : Nat, v < 7 ∧ x = nI v := by
  obtain ⟨j, hj, e⟩ := nI_of2 (M := 6) (n := 6) (by decide) (Int32.not_lt.mpr h.1) h.2
  exact ⟨j, by omega, e⟩

def rmX2_counts : Room := { frames := 5, cells := 84, slots := 665, locals := 118 }
set_option maxHeartbeats 4000000 in
set_option maxRecDepth 100000 in
/-- what is counted -/
theorem c_X2_counts (l : Launch) (G : va_G) (cs : Nat → ClassId) (h o : Nat) (r : Nat → Nat) (mo co le : Int32) (K k : Nat → Int32) (hk : eqK K k) (hkd : ∀ x, x < 64 → kd (k x)) (hg3 : wtr (k 3) = true) (sz : Nat) : Met l yX2_counts wsX2_counts rmX2_counts (va_Pc [.ref h] (WsP G cs [(h, oS o mo co le), (o, oQ (cs 1) 8 r), ((r 0), iB (cs 0) 8 (cl8 K 0)), ((r 1), iB (cs 0) 8 (cl8 K 1)), ((r 2), iB (cs 0) 8 (cl8 K 2)), ((r 3), iB (cs 0) 8 (cl8 K 3)), ((r 4), iB (cs 0) 8 (cl8 K 4)), ((r 5), iB (cs 0) 8 (cl8 K 5)), ((r 6), iB (cs 0) 8 (cl8 K 6)), ((r 7), iB (cs 0) 8 (cl8 K 7))] sz)) (va_Qr (fun (u : Nat → Int32) => ∀ i, i < 13 → u i = tot k mo co le (nI i)) (WrBr G [(h, oS o mo co le), (o, oQ (cs 1) 8 r), ((r 0), iB (cs 0) 8 (cl8 K 0)), ((r 1), iB (cs 0) 8 (cl8 K 1)), ((r 2), iB (cs 0) 8 (cl8 K 2)), ((r 3), iB (cs 0) 8 (cl8 K 3)), ((r 4), iB (cs 0) 8 (cl8 K 4)), ((r 5), iB (cs 0) 8 (cl8 K 5)), ((r 6), iB (cs 0) 8 (cl8 K 6)), ((r 7), iB (cs 0) 8 (cl8 K 7))] sz (fun u ra => [(h, oS o mo co le), (o, oQ (cs 1) 8 r), ((r 0), iB (cs 0) 8 (cl8 K 0)), ((r 1), iB (cs 0) 8 (cl8 K 1)), ((r 2), iB (cs 0) 8 (cl8 K 2)), ((r 3), iB (cs 0) 8 (cl8 K 3)), ((r 4), iB (cs 0) 8 (cl8 K 4)), ((r 5), iB (cs 0) 8 (cl8 K 5)), ((r 6), iB (cs 0) 8 (cl8 K 6)), ((r 7), iB (cs 0) 8 (cl8 K 7)), (ra, iB (cs 0) 13 u)])) (va_A [(h, oS o mo co le), (o, oQ (cs 1) 8 r), ((r 0), iB (cs 0) 8 (cl8 K 0)), ((r 1), iB (cs 0) 8 (cl8 K 1)), ((r 2), iB (cs 0) 8 (cl8 K 2)), ((r 3), iB (cs 0) 8 (cl8 K 3)), ((r 4), iB (cs 0) 8 (cl8 K 4)), ((r 5), iB (cs 0) 8 (cl8 K 5)), ((r 6), iB (cs 0) 8 (cl8 K 6)), ((r 7), iB (cs 0) 8 (cl8 K 7))] sz)) 84 665 (va_A [(h, oS o mo co le), (o, oQ (cs 1) 8 r), ((r 0), iB (cs 0) 8 (cl8 K 0)), ((r 1), iB (cs 0) 8 (cl8 K 1)), ((r 2), iB (cs 0) 8 (cl8 K 2)), ((r 3), iB (cs 0) 8 (cl8 K 3)), ((r 4), iB (cs 0) 8 (cl8 K 4)), ((r 5), iB (cs 0) 8 (cl8 K 5)), ((r 6), iB (cs 0) 8 (cl8 K 6)), ((r 7), iB (cs 0) 8 (cl8 K 7))] sz) := by
  refine Met.ofW (cc := cX2_counts) (maxL := 5) (ret := (some (.array .int))) (by decide) rfl ?_
  intro p e s m args below meth c s₁ B hml hv
  obtain ⟨rfl, hsz, hP, hK, hD0, hN⟩ := hv
  have hx := B.exec
  have hb := B.bytes
  have hr := B.returns
  have hlocks := B.notSynchronized
  have hts := atoms_spec (ws := wsX2_counts) B.pre
  have hown : s.vm.findClass RX2 = some m.cls := findClass_of_methodNamed B.named
  subst hsz
  have hD := hD0.self (sz := s.heap.size)
  have hA : ∀ q : Nat, s.heap.size ≤ q → va_A [(h, oS o mo co le), (o, oQ (cs 1) 8 r), ((r 0), iB (cs 0) 8 (cl8 K 0)), ((r 1), iB (cs 0) 8 (cl8 K 1)), ((r 2), iB (cs 0) 8 (cl8 K 2)), ((r 3), iB (cs 0) 8 (cl8 K 3)), ((r 4), iB (cs 0) 8 (cl8 K 4)), ((r 5), iB (cs 0) 8 (cl8 K 5)), ((r 6), iB (cs 0) 8 (cl8 K 6)), ((r 7), iB (cs 0) 8 (cl8 K 7))] s.heap.size q := fun q h => Or.inr h
  have hS : va_S (va_A [(h, oS o mo co le), (o, oQ (cs 1) 8 r), ((r 0), iB (cs 0) 8 (cl8 K 0)), ((r 1), iB (cs 0) 8 (cl8 K 1)), ((r 2), iB (cs 0) 8 (cl8 K 2)), ((r 3), iB (cs 0) 8 (cl8 K 3)), ((r 4), iB (cs 0) 8 (cl8 K 4)), ((r 5), iB (cs 0) 8 (cl8 K 5)), ((r 6), iB (cs 0) 8 (cl8 K 6)), ((r 7), iB (cs 0) 8 (cl8 K 7))] s.heap.size) s.heap s.heap [] := va_S.rf
  obtain ⟨A, hAe⟩ : ∃ A, A = va_A [(h, oS o mo co le), (o, oQ (cs 1) 8 r), ((r 0), iB (cs 0) 8 (cl8 K 0)), ((r 1), iB (cs 0) 8 (cl8 K 1)), ((r 2), iB (cs 0) 8 (cl8 K 2)), ((r 3), iB (cs 0) 8 (cl8 K 3)), ((r 4), iB (cs 0) 8 (cl8 K 4)), ((r 5), iB (cs 0) 8 (cl8 K 5)), ((r 6), iB (cs 0) 8 (cl8 K 6)), ((r 7), iB (cs 0) 8 (cl8 K 7))] s.heap.size := ⟨_, rfl⟩
  rw [← hAe] at hD hA hS
  have FX : CallFix p m c cX2_counts 5 s ([.ref h] : List Value).toArray wsX2_counts RX2 := ⟨hx, hb, hml, hown, hts⟩
  have hl := lv_entry ([.ref h]) (n := 5) (Nat.le_of_ble_eq_true rfl)
  rw [lg_entry_eq]
  generalize (lg_sl ([.ref h]) ++ List.replicate (5 - (lg_sl ([.ref h])).length) Slot.unset).toArray = ls at hl ⊢
  have hl : lv_has ls 5 [(0, .ref h)] := hl
  refine wq (fun Q hQ => ?_)
  have hzc : 0 + 0 ≤ (headSpec wsX2_counts rmX2_counts).room.cells := Nat.zero_le _
  have hzs : 0 + 0 ≤ (headSpec wsX2_counts rmX2_counts).room.slots := Nat.zero_le _
  have hf14 := hts (.fieldLink RX2 14 "CanalCityLaw$Sim" "coins" "I") (by decide +kernel)
  have hf25 := hts (.fieldLink RX2 25 "CanalCityLaw$Sim" "month" "I") (by decide +kernel)
  have hf28 := hts (.fieldLink RX2 28 "CanalCityLaw$Sim" "left" "I") (by decide +kernel)
  have hf9 := hts (.fieldLink RX2 9 "CanalCityLaw$Sim" "kind" "[[I") (by decide +kernel)
  have hinX2 : ∀ w ∈ u_ws RX2 TX2 4, w ∈ wsX2_counts := by decide +kernel
  refine lv_bipush (v := 13) hx hb dX2_counts_0 (by decide) ?_
  refine va_newa (atype := .int) (ty := .int) (n := 13) (N' := 13) (a0 := (13, .inl (fun _ => 0))) hx hb (hts (.arrayClass .int) (by decide +kernel)) rfl hK hP hD hS hA (fun _ => rfl) (by decide) (by decide) (by decide) (by exact Nat.le_of_ble_eq_true rfl) (by exact Nat.le_of_ble_eq_true rfl) dX2_counts_2 (fun q9 cA H hK9 hP hD hS => ?_)
  have hc9 : cA = (cs 0) := Option.some.inj (((hK9.2 5 (cA, .int) rfl).2 : s.vm.findClass _ = some cA).symm.trans ((hK.2 0 _ rfl).2 : s.vm.findClass _ = some (cs 0)))
  rw [hc9] at hP hD
  clear hK9 hc9
  have hP : va_P G vwCl [(h, oS o mo co le), (o, oQ (cs 1) 8 r), ((r 0), iB (cs 0) 8 (cl8 K 0)), ((r 1), iB (cs 0) 8 (cl8 K 1)), ((r 2), iB (cs 0) 8 (cl8 K 2)), ((r 3), iB (cs 0) 8 (cl8 K 3)), ((r 4), iB (cs 0) 8 (cl8 K 4)), ((r 5), iB (cs 0) 8 (cl8 K 5)), ((r 6), iB (cs 0) 8 (cl8 K 6)), ((r 7), iB (cs 0) 8 (cl8 K 7)), (q9, iB (cs 0) 13 (fun _ => 0))] H := hP
  have hD : va_D A [(h, oS o mo co le), (o, oQ (cs 1) 8 r), ((r 0), iB (cs 0) 8 (cl8 K 0)), ((r 1), iB (cs 0) 8 (cl8 K 1)), ((r 2), iB (cs 0) 8 (cl8 K 2)), ((r 3), iB (cs 0) 8 (cl8 K 3)), ((r 4), iB (cs 0) 8 (cl8 K 4)), ((r 5), iB (cs 0) 8 (cl8 K 5)), ((r 6), iB (cs 0) 8 (cl8 K 6)), ((r 7), iB (cs 0) 8 (cl8 K 7)), (q9, iB (cs 0) 13 (fun _ => 0))] := hD
  refine W.widen (k := 1) (n := 13) (by decide) (by decide) ?_
  refine lv_dup hx hb dX2_counts_4 rfl ?_
  refine lv_iconst (v := 0) hx hb dX2_counts_5 (by decide) ?_
  refine lv_aload_n hx hb dX2_counts_6 rfl (lv_at hl 0 rfl) ?_
  refine va_get (D := G) (ci := 2) (v := .int mo) (C := RX2) (T := TX2) (N := 4) hx hb hts hinX2 hown hK hP 0 rfl rfl 1 (by decide) hf25 (fun _ h9 => h9) rfl dX2_counts_7 ?_
  refine W.eq (g2 := F0 m 10 ls [.int mo, .int (nI 0), .ref q9, .ref q9]) rfl ?_
  refine va_iast hx hb hK hP hD hS 10 0 rfl rfl (vp_in_nI (n := 0) (N := 13) (by decide) (by decide)) dX2_counts_10 (fun H locs hP hD hS => ?_)
  rw [nI_clamp (n := 0) (by omega)] at hP hD
  have hP : va_P G vwCl [(h, oS o mo co le), (o, oQ (cs 1) 8 r), ((r 0), iB (cs 0) 8 (cl8 K 0)), ((r 1), iB (cs 0) 8 (cl8 K 1)), ((r 2), iB (cs 0) 8 (cl8 K 2)), ((r 3), iB (cs 0) 8 (cl8 K 3)), ((r 4), iB (cs 0) 8 (cl8 K 4)), ((r 5), iB (cs 0) 8 (cl8 K 5)), ((r 6), iB (cs 0) 8 (cl8 K 6)), ((r 7), iB (cs 0) 8 (cl8 K 7)), (q9, iB (cs 0) 13 (upd (fun _ => 0) 0 mo))] H := hP
  have hD : va_D A [(h, oS o mo co le), (o, oQ (cs 1) 8 r), ((r 0), iB (cs 0) 8 (cl8 K 0)), ((r 1), iB (cs 0) 8 (cl8 K 1)), ((r 2), iB (cs 0) 8 (cl8 K 2)), ((r 3), iB (cs 0) 8 (cl8 K 3)), ((r 4), iB (cs 0) 8 (cl8 K 4)), ((r 5), iB (cs 0) 8 (cl8 K 5)), ((r 6), iB (cs 0) 8 (cl8 K 6)), ((r 7), iB (cs 0) 8 (cl8 K 7)), (q9, iB (cs 0) 13 (upd (fun _ => 0) 0 mo))] := hD
  obtain ⟨R0, hR0⟩ : ∃ z, z = (upd (fun _ => 0) 0 mo) := ⟨_, rfl⟩
  rw [← hR0] at hP hD
  have hP : va_P G vwCl [(h, oS o mo co le), (o, oQ (cs 1) 8 r), ((r 0), iB (cs 0) 8 (cl8 K 0)), ((r 1), iB (cs 0) 8 (cl8 K 1)), ((r 2), iB (cs 0) 8 (cl8 K 2)), ((r 3), iB (cs 0) 8 (cl8 K 3)), ((r 4), iB (cs 0) 8 (cl8 K 4)), ((r 5), iB (cs 0) 8 (cl8 K 5)), ((r 6), iB (cs 0) 8 (cl8 K 6)), ((r 7), iB (cs 0) 8 (cl8 K 7)), (q9, iB (cs 0) 13 R0)] H := hP
  have hD : va_D A [(h, oS o mo co le), (o, oQ (cs 1) 8 r), ((r 0), iB (cs 0) 8 (cl8 K 0)), ((r 1), iB (cs 0) 8 (cl8 K 1)), ((r 2), iB (cs 0) 8 (cl8 K 2)), ((r 3), iB (cs 0) 8 (cl8 K 3)), ((r 4), iB (cs 0) 8 (cl8 K 4)), ((r 5), iB (cs 0) 8 (cl8 K 5)), ((r 6), iB (cs 0) 8 (cl8 K 6)), ((r 7), iB (cs 0) 8 (cl8 K 7)), (q9, iB (cs 0) 13 R0)] := hD
  refine lv_dup hx hb dX2_counts_11 rfl ?_
  refine lv_iconst (v := 1) hx hb dX2_counts_12 (by decide) ?_
  refine lv_aload_n hx hb dX2_counts_13 rfl (lv_at hl 0 rfl) ?_
  refine va_get (D := G) (ci := 2) (v := .int co) (C := RX2) (T := TX2) (N := 4) hx hb hts hinX2 hown hK hP 0 rfl rfl 2 (by decide) hf14 (fun _ h9 => h9) rfl dX2_counts_14 ?_
  refine W.eq (g2 := F0 m 17 ls [.int co, .int (nI 1), .ref q9, .ref q9]) rfl ?_
  refine va_iast hx hb hK hP hD hS 10 0 rfl rfl (vp_in_nI (n := 1) (N := 13) (by decide) (by decide)) dX2_counts_17 (fun H locs hP hD hS => ?_)
  rw [nI_clamp (n := 1) (by omega)] at hP hD
  have hP : va_P G vwCl [(h, oS o mo co le), (o, oQ (cs 1) 8 r), ((r 0), iB (cs 0) 8 (cl8 K 0)), ((r 1), iB (cs 0) 8 (cl8 K 1)), ((r 2), iB (cs 0) 8 (cl8 K 2)), ((r 3), iB (cs 0) 8 (cl8 K 3)), ((r 4), iB (cs 0) 8 (cl8 K 4)), ((r 5), iB (cs 0) 8 (cl8 K 5)), ((r 6), iB (cs 0) 8 (cl8 K 6)), ((r 7), iB (cs 0) 8 (cl8 K 7)), (q9, iB (cs 0) 13 (upd R0 1 co))] H := hP
  have hD : va_D A [(h, oS o mo co le), (o, oQ (cs 1) 8 r), ((r 0), iB (cs 0) 8 (cl8 K 0)), ((r 1), iB (cs 0) 8 (cl8 K 1)), ((r 2), iB (cs 0) 8 (cl8 K 2)), ((r 3), iB (cs 0) 8 (cl8 K 3)), ((r 4), iB (cs 0) 8 (cl8 K 4)), ((r 5), iB (cs 0) 8 (cl8 K 5)), ((r 6), iB (cs 0) 8 (cl8 K 6)), ((r 7), iB (cs 0) 8 (cl8 K 7)), (q9, iB (cs 0) 13 (upd R0 1 co))] := hD
  obtain ⟨R1, hR1⟩ : ∃ z, z = (upd R0 1 co) := ⟨_, rfl⟩
  rw [← hR1] at hP hD
  have hP : va_P G vwCl [(h, oS o mo co le), (o, oQ (cs 1) 8 r), ((r 0), iB (cs 0) 8 (cl8 K 0)), ((r 1), iB (cs 0) 8 (cl8 K 1)), ((r 2), iB (cs 0) 8 (cl8 K 2)), ((r 3), iB (cs 0) 8 (cl8 K 3)), ((r 4), iB (cs 0) 8 (cl8 K 4)), ((r 5), iB (cs 0) 8 (cl8 K 5)), ((r 6), iB (cs 0) 8 (cl8 K 6)), ((r 7), iB (cs 0) 8 (cl8 K 7)), (q9, iB (cs 0) 13 R1)] H := hP
  have hD : va_D A [(h, oS o mo co le), (o, oQ (cs 1) 8 r), ((r 0), iB (cs 0) 8 (cl8 K 0)), ((r 1), iB (cs 0) 8 (cl8 K 1)), ((r 2), iB (cs 0) 8 (cl8 K 2)), ((r 3), iB (cs 0) 8 (cl8 K 3)), ((r 4), iB (cs 0) 8 (cl8 K 4)), ((r 5), iB (cs 0) 8 (cl8 K 5)), ((r 6), iB (cs 0) 8 (cl8 K 6)), ((r 7), iB (cs 0) 8 (cl8 K 7)), (q9, iB (cs 0) 13 R1)] := hD
  refine lv_dup hx hb dX2_counts_18 rfl ?_
  refine lv_iconst (v := 2) hx hb dX2_counts_19 (by decide) ?_
  refine lv_iconst (v := 0) hx hb dX2_counts_20 (by decide) ?_
  refine W.eq (g2 := F0 m 21 ls [.int 0, .int (nI 2), .ref q9, .ref q9]) rfl ?_
  refine va_iast hx hb hK hP hD hS 10 0 rfl rfl (vp_in_nI (n := 2) (N := 13) (by decide) (by decide)) dX2_counts_21 (fun H locs hP hD hS => ?_)
  rw [nI_clamp (n := 2) (by omega)] at hP hD
  have hP : va_P G vwCl [(h, oS o mo co le), (o, oQ (cs 1) 8 r), ((r 0), iB (cs 0) 8 (cl8 K 0)), ((r 1), iB (cs 0) 8 (cl8 K 1)), ((r 2), iB (cs 0) 8 (cl8 K 2)), ((r 3), iB (cs 0) 8 (cl8 K 3)), ((r 4), iB (cs 0) 8 (cl8 K 4)), ((r 5), iB (cs 0) 8 (cl8 K 5)), ((r 6), iB (cs 0) 8 (cl8 K 6)), ((r 7), iB (cs 0) 8 (cl8 K 7)), (q9, iB (cs 0) 13 (upd R1 2 0))] H := hP
  have hD : va_D A [(h, oS o mo co le), (o, oQ (cs 1) 8 r), ((r 0), iB (cs 0) 8 (cl8 K 0)), ((r 1), iB (cs 0) 8 (cl8 K 1)), ((r 2), iB (cs 0) 8 (cl8 K 2)), ((r 3), iB (cs 0) 8 (cl8 K 3)), ((r 4), iB (cs 0) 8 (cl8 K 4)), ((r 5), iB (cs 0) 8 (cl8 K 5)), ((r 6), iB (cs 0) 8 (cl8 K 6)), ((r 7), iB (cs 0) 8 (cl8 K 7)), (q9, iB (cs 0) 13 (upd R1 2 0))] := hD
  obtain ⟨R2, hR2⟩ : ∃ z, z = (upd R1 2 0) := ⟨_, rfl⟩
  rw [← hR2] at hP hD
  have hP : va_P G vwCl [(h, oS o mo co le), (o, oQ (cs 1) 8 r), ((r 0), iB (cs 0) 8 (cl8 K 0)), ((r 1), iB (cs 0) 8 (cl8 K 1)), ((r 2), iB (cs 0) 8 (cl8 K 2)), ((r 3), iB (cs 0) 8 (cl8 K 3)), ((r 4), iB (cs 0) 8 (cl8 K 4)), ((r 5), iB (cs 0) 8 (cl8 K 5)), ((r 6), iB (cs 0) 8 (cl8 K 6)), ((r 7), iB (cs 0) 8 (cl8 K 7)), (q9, iB (cs 0) 13 R2)] H := hP
  have hD : va_D A [(h, oS o mo co le), (o, oQ (cs 1) 8 r), ((r 0), iB (cs 0) 8 (cl8 K 0)), ((r 1), iB (cs 0) 8 (cl8 K 1)), ((r 2), iB (cs 0) 8 (cl8 K 2)), ((r 3), iB (cs 0) 8 (cl8 K 3)), ((r 4), iB (cs 0) 8 (cl8 K 4)), ((r 5), iB (cs 0) 8 (cl8 K 5)), ((r 6), iB (cs 0) 8 (cl8 K 6)), ((r 7), iB (cs 0) 8 (cl8 K 7)), (q9, iB (cs 0) 13 R2)] := hD
  refine lv_dup hx hb dX2_counts_22 rfl ?_
  refine lv_iconst (v := 3) hx hb dX2_counts_23 (by decide) ?_
  refine lv_iconst (v := 0) hx hb dX2_counts_24 (by decide) ?_
  refine W.eq (g2 := F0 m 25 ls [.int 0, .int (nI 3), .ref q9, .ref q9]) rfl ?_
  refine va_iast hx hb hK hP hD hS 10 0 rfl rfl (vp_in_nI (n := 3) (N := 13) (by decide) (by decide)) dX2_counts_25 (fun H locs hP hD hS => ?_)
  rw [nI_clamp (n := 3) (by omega)] at hP hD
  have hP : va_P G vwCl [(h, oS o mo co le), (o, oQ (cs 1) 8 r), ((r 0), iB (cs 0) 8 (cl8 K 0)), ((r 1), iB (cs 0) 8 (cl8 K 1)), ((r 2), iB (cs 0) 8 (cl8 K 2)), ((r 3), iB (cs 0) 8 (cl8 K 3)), ((r 4), iB (cs 0) 8 (cl8 K 4)), ((r 5), iB (cs 0) 8 (cl8 K 5)), ((r 6), iB (cs 0) 8 (cl8 K 6)), ((r 7), iB (cs 0) 8 (cl8 K 7)), (q9, iB (cs 0) 13 (upd R2 3 0))] H := hP
  have hD : va_D A [(h, oS o mo co le), (o, oQ (cs 1) 8 r), ((r 0), iB (cs 0) 8 (cl8 K 0)), ((r 1), iB (cs 0) 8 (cl8 K 1)), ((r 2), iB (cs 0) 8 (cl8 K 2)), ((r 3), iB (cs 0) 8 (cl8 K 3)), ((r 4), iB (cs 0) 8 (cl8 K 4)), ((r 5), iB (cs 0) 8 (cl8 K 5)), ((r 6), iB (cs 0) 8 (cl8 K 6)), ((r 7), iB (cs 0) 8 (cl8 K 7)), (q9, iB (cs 0) 13 (upd R2 3 0))] := hD
  obtain ⟨R3, hR3⟩ : ∃ z, z = (upd R2 3 0) := ⟨_, rfl⟩
  rw [← hR3] at hP hD
  have hP : va_P G vwCl [(h, oS o mo co le), (o, oQ (cs 1) 8 r), ((r 0), iB (cs 0) 8 (cl8 K 0)), ((r 1), iB (cs 0) 8 (cl8 K 1)), ((r 2), iB (cs 0) 8 (cl8 K 2)), ((r 3), iB (cs 0) 8 (cl8 K 3)), ((r 4), iB (cs 0) 8 (cl8 K 4)), ((r 5), iB (cs 0) 8 (cl8 K 5)), ((r 6), iB (cs 0) 8 (cl8 K 6)), ((r 7), iB (cs 0) 8 (cl8 K 7)), (q9, iB (cs 0) 13 R3)] H := hP
  have hD : va_D A [(h, oS o mo co le), (o, oQ (cs 1) 8 r), ((r 0), iB (cs 0) 8 (cl8 K 0)), ((r 1), iB (cs 0) 8 (cl8 K 1)), ((r 2), iB (cs 0) 8 (cl8 K 2)), ((r 3), iB (cs 0) 8 (cl8 K 3)), ((r 4), iB (cs 0) 8 (cl8 K 4)), ((r 5), iB (cs 0) 8 (cl8 K 5)), ((r 6), iB (cs 0) 8 (cl8 K 6)), ((r 7), iB (cs 0) 8 (cl8 K 7)), (q9, iB (cs 0) 13 R3)] := hD
  refine lv_dup hx hb dX2_counts_26 rfl ?_
  refine lv_iconst (v := 4) hx hb dX2_counts_27 (by decide) ?_
  refine lv_iconst (v := 0) hx hb dX2_counts_28 (by decide) ?_
  refine W.eq (g2 := F0 m 29 ls [.int 0, .int (nI 4), .ref q9, .ref q9]) rfl ?_
  refine va_iast hx hb hK hP hD hS 10 0 rfl rfl (vp_in_nI (n := 4) (N := 13) (by decide) (by decide)) dX2_counts_29 (fun H locs hP hD hS => ?_)
  rw [nI_clamp (n := 4) (by omega)] at hP hD
  have hP : va_P G vwCl [(h, oS o mo co le), (o, oQ (cs 1) 8 r), ((r 0), iB (cs 0) 8 (cl8 K 0)), ((r 1), iB (cs 0) 8 (cl8 K 1)), ((r 2), iB (cs 0) 8 (cl8 K 2)), ((r 3), iB (cs 0) 8 (cl8 K 3)), ((r 4), iB (cs 0) 8 (cl8 K 4)), ((r 5), iB (cs 0) 8 (cl8 K 5)), ((r 6), iB (cs 0) 8 (cl8 K 6)), ((r 7), iB (cs 0) 8 (cl8 K 7)), (q9, iB (cs 0) 13 (upd R3 4 0))] H := hP
  have hD : va_D A [(h, oS o mo co le), (o, oQ (cs 1) 8 r), ((r 0), iB (cs 0) 8 (cl8 K 0)), ((r 1), iB (cs 0) 8 (cl8 K 1)), ((r 2), iB (cs 0) 8 (cl8 K 2)), ((r 3), iB (cs 0) 8 (cl8 K 3)), ((r 4), iB (cs 0) 8 (cl8 K 4)), ((r 5), iB (cs 0) 8 (cl8 K 5)), ((r 6), iB (cs 0) 8 (cl8 K 6)), ((r 7), iB (cs 0) 8 (cl8 K 7)), (q9, iB (cs 0) 13 (upd R3 4 0))] := hD
  obtain ⟨R4, hR4⟩ : ∃ z, z = (upd R3 4 0) := ⟨_, rfl⟩
  rw [← hR4] at hP hD
  have hP : va_P G vwCl [(h, oS o mo co le), (o, oQ (cs 1) 8 r), ((r 0), iB (cs 0) 8 (cl8 K 0)), ((r 1), iB (cs 0) 8 (cl8 K 1)), ((r 2), iB (cs 0) 8 (cl8 K 2)), ((r 3), iB (cs 0) 8 (cl8 K 3)), ((r 4), iB (cs 0) 8 (cl8 K 4)), ((r 5), iB (cs 0) 8 (cl8 K 5)), ((r 6), iB (cs 0) 8 (cl8 K 6)), ((r 7), iB (cs 0) 8 (cl8 K 7)), (q9, iB (cs 0) 13 R4)] H := hP
  have hD : va_D A [(h, oS o mo co le), (o, oQ (cs 1) 8 r), ((r 0), iB (cs 0) 8 (cl8 K 0)), ((r 1), iB (cs 0) 8 (cl8 K 1)), ((r 2), iB (cs 0) 8 (cl8 K 2)), ((r 3), iB (cs 0) 8 (cl8 K 3)), ((r 4), iB (cs 0) 8 (cl8 K 4)), ((r 5), iB (cs 0) 8 (cl8 K 5)), ((r 6), iB (cs 0) 8 (cl8 K 6)), ((r 7), iB (cs 0) 8 (cl8 K 7)), (q9, iB (cs 0) 13 R4)] := hD
  refine lv_dup hx hb dX2_counts_30 rfl ?_
  refine lv_iconst (v := 5) hx hb dX2_counts_31 (by decide) ?_
  refine lv_iconst (v := 0) hx hb dX2_counts_32 (by decide) ?_
  refine W.eq (g2 := F0 m 33 ls [.int 0, .int (nI 5), .ref q9, .ref q9]) rfl ?_
  refine va_iast hx hb hK hP hD hS 10 0 rfl rfl (vp_in_nI (n := 5) (N := 13) (by decide) (by decide)) dX2_counts_33 (fun H locs hP hD hS => ?_)
  rw [nI_clamp (n := 5) (by omega)] at hP hD
  have hP : va_P G vwCl [(h, oS o mo co le), (o, oQ (cs 1) 8 r), ((r 0), iB (cs 0) 8 (cl8 K 0)), ((r 1), iB (cs 0) 8 (cl8 K 1)), ((r 2), iB (cs 0) 8 (cl8 K 2)), ((r 3), iB (cs 0) 8 (cl8 K 3)), ((r 4), iB (cs 0) 8 (cl8 K 4)), ((r 5), iB (cs 0) 8 (cl8 K 5)), ((r 6), iB (cs 0) 8 (cl8 K 6)), ((r 7), iB (cs 0) 8 (cl8 K 7)), (q9, iB (cs 0) 13 (upd R4 5 0))] H := hP
  have hD : va_D A [(h, oS o mo co le), (o, oQ (cs 1) 8 r), ((r 0), iB (cs 0) 8 (cl8 K 0)), ((r 1), iB (cs 0) 8 (cl8 K 1)), ((r 2), iB (cs 0) 8 (cl8 K 2)), ((r 3), iB (cs 0) 8 (cl8 K 3)), ((r 4), iB (cs 0) 8 (cl8 K 4)), ((r 5), iB (cs 0) 8 (cl8 K 5)), ((r 6), iB (cs 0) 8 (cl8 K 6)), ((r 7), iB (cs 0) 8 (cl8 K 7)), (q9, iB (cs 0) 13 (upd R4 5 0))] := hD
  obtain ⟨R5, hR5⟩ : ∃ z, z = (upd R4 5 0) := ⟨_, rfl⟩
  rw [← hR5] at hP hD
  have hP : va_P G vwCl [(h, oS o mo co le), (o, oQ (cs 1) 8 r), ((r 0), iB (cs 0) 8 (cl8 K 0)), ((r 1), iB (cs 0) 8 (cl8 K 1)), ((r 2), iB (cs 0) 8 (cl8 K 2)), ((r 3), iB (cs 0) 8 (cl8 K 3)), ((r 4), iB (cs 0) 8 (cl8 K 4)), ((r 5), iB (cs 0) 8 (cl8 K 5)), ((r 6), iB (cs 0) 8 (cl8 K 6)), ((r 7), iB (cs 0) 8 (cl8 K 7)), (q9, iB (cs 0) 13 R5)] H := hP
  have hD : va_D A [(h, oS o mo co le), (o, oQ (cs 1) 8 r), ((r 0), iB (cs 0) 8 (cl8 K 0)), ((r 1), iB (cs 0) 8 (cl8 K 1)), ((r 2), iB (cs 0) 8 (cl8 K 2)), ((r 3), iB (cs 0) 8 (cl8 K 3)), ((r 4), iB (cs 0) 8 (cl8 K 4)), ((r 5), iB (cs 0) 8 (cl8 K 5)), ((r 6), iB (cs 0) 8 (cl8 K 6)), ((r 7), iB (cs 0) 8 (cl8 K 7)), (q9, iB (cs 0) 13 R5)] := hD
  refine lv_dup hx hb dX2_counts_34 rfl ?_
  refine lv_bipush (v := 6) hx hb dX2_counts_35 (by decide) ?_
  refine lv_iconst (v := 0) hx hb dX2_counts_37 (by decide) ?_
  refine W.eq (g2 := F0 m 38 ls [.int 0, .int (nI 6), .ref q9, .ref q9]) rfl ?_
  refine va_iast hx hb hK hP hD hS 10 0 rfl rfl (vp_in_nI (n := 6) (N := 13) (by decide) (by decide)) dX2_counts_38 (fun H locs hP hD hS => ?_)
  rw [nI_clamp (n := 6) (by omega)] at hP hD
  have hP : va_P G vwCl [(h, oS o mo co le), (o, oQ (cs 1) 8 r), ((r 0), iB (cs 0) 8 (cl8 K 0)), ((r 1), iB (cs 0) 8 (cl8 K 1)), ((r 2), iB (cs 0) 8 (cl8 K 2)), ((r 3), iB (cs 0) 8 (cl8 K 3)), ((r 4), iB (cs 0) 8 (cl8 K 4)), ((r 5), iB (cs 0) 8 (cl8 K 5)), ((r 6), iB (cs 0) 8 (cl8 K 6)), ((r 7), iB (cs 0) 8 (cl8 K 7)), (q9, iB (cs 0) 13 (upd R5 6 0))] H := hP
  have hD : va_D A [(h, oS o mo co le), (o, oQ (cs 1) 8 r), ((r 0), iB (cs 0) 8 (cl8 K 0)), ((r 1), iB (cs 0) 8 (cl8 K 1)), ((r 2), iB (cs 0) 8 (cl8 K 2)), ((r 3), iB (cs 0) 8 (cl8 K 3)), ((r 4), iB (cs 0) 8 (cl8 K 4)), ((r 5), iB (cs 0) 8 (cl8 K 5)), ((r 6), iB (cs 0) 8 (cl8 K 6)), ((r 7), iB (cs 0) 8 (cl8 K 7)), (q9, iB (cs 0) 13 (upd R5 6 0))] := hD
  obtain ⟨R6, hR6⟩ : ∃ z, z = (upd R5 6 0) := ⟨_, rfl⟩
  rw [← hR6] at hP hD
  have hP : va_P G vwCl [(h, oS o mo co le), (o, oQ (cs 1) 8 r), ((r 0), iB (cs 0) 8 (cl8 K 0)), ((r 1), iB (cs 0) 8 (cl8 K 1)), ((r 2), iB (cs 0) 8 (cl8 K 2)), ((r 3), iB (cs 0) 8 (cl8 K 3)), ((r 4), iB (cs 0) 8 (cl8 K 4)), ((r 5), iB (cs 0) 8 (cl8 K 5)), ((r 6), iB (cs 0) 8 (cl8 K 6)), ((r 7), iB (cs 0) 8 (cl8 K 7)), (q9, iB (cs 0) 13 R6)] H := hP
  have hD : va_D A [(h, oS o mo co le), (o, oQ (cs 1) 8 r), ((r 0), iB (cs 0) 8 (cl8 K 0)), ((r 1), iB (cs 0) 8 (cl8 K 1)), ((r 2), iB (cs 0) 8 (cl8 K 2)), ((r 3), iB (cs 0) 8 (cl8 K 3)), ((r 4), iB (cs 0) 8 (cl8 K 4)), ((r 5), iB (cs 0) 8 (cl8 K 5)), ((r 6), iB (cs 0) 8 (cl8 K 6)), ((r 7), iB (cs 0) 8 (cl8 K 7)), (q9, iB (cs 0) 13 R6)] := hD
  refine lv_dup hx hb dX2_counts_39 rfl ?_
  refine lv_bipush (v := 7) hx hb dX2_counts_40 (by decide) ?_
  refine lv_iconst (v := 0) hx hb dX2_counts_42 (by decide) ?_
  refine W.eq (g2 := F0 m 43 ls [.int 0, .int (nI 7), .ref q9, .ref q9]) rfl ?_
  refine va_iast hx hb hK hP hD hS 10 0 rfl rfl (vp_in_nI (n := 7) (N := 13) (by decide) (by decide)) dX2_counts_43 (fun H locs hP hD hS => ?_)
  rw [nI_clamp (n := 7) (by omega)] at hP hD
  have hP : va_P G vwCl [(h, oS o mo co le), (o, oQ (cs 1) 8 r), ((r 0), iB (cs 0) 8 (cl8 K 0)), ((r 1), iB (cs 0) 8 (cl8 K 1)), ((r 2), iB (cs 0) 8 (cl8 K 2)), ((r 3), iB (cs 0) 8 (cl8 K 3)), ((r 4), iB (cs 0) 8 (cl8 K 4)), ((r 5), iB (cs 0) 8 (cl8 K 5)), ((r 6), iB (cs 0) 8 (cl8 K 6)), ((r 7), iB (cs 0) 8 (cl8 K 7)), (q9, iB (cs 0) 13 (upd R6 7 0))] H := hP
  have hD : va_D A [(h, oS o mo co le), (o, oQ (cs 1) 8 r), ((r 0), iB (cs 0) 8 (cl8 K 0)), ((r 1), iB (cs 0) 8 (cl8 K 1)), ((r 2), iB (cs 0) 8 (cl8 K 2)), ((r 3), iB (cs 0) 8 (cl8 K 3)), ((r 4), iB (cs 0) 8 (cl8 K 4)), ((r 5), iB (cs 0) 8 (cl8 K 5)), ((r 6), iB (cs 0) 8 (cl8 K 6)), ((r 7), iB (cs 0) 8 (cl8 K 7)), (q9, iB (cs 0) 13 (upd R6 7 0))] := hD
  obtain ⟨R7, hR7⟩ : ∃ z, z = (upd R6 7 0) := ⟨_, rfl⟩
  rw [← hR7] at hP hD
  have hP : va_P G vwCl [(h, oS o mo co le), (o, oQ (cs 1) 8 r), ((r 0), iB (cs 0) 8 (cl8 K 0)), ((r 1), iB (cs 0) 8 (cl8 K 1)), ((r 2), iB (cs 0) 8 (cl8 K 2)), ((r 3), iB (cs 0) 8 (cl8 K 3)), ((r 4), iB (cs 0) 8 (cl8 K 4)), ((r 5), iB (cs 0) 8 (cl8 K 5)), ((r 6), iB (cs 0) 8 (cl8 K 6)), ((r 7), iB (cs 0) 8 (cl8 K 7)), (q9, iB (cs 0) 13 R7)] H := hP
  have hD : va_D A [(h, oS o mo co le), (o, oQ (cs 1) 8 r), ((r 0), iB (cs 0) 8 (cl8 K 0)), ((r 1), iB (cs 0) 8 (cl8 K 1)), ((r 2), iB (cs 0) 8 (cl8 K 2)), ((r 3), iB (cs 0) 8 (cl8 K 3)), ((r 4), iB (cs 0) 8 (cl8 K 4)), ((r 5), iB (cs 0) 8 (cl8 K 5)), ((r 6), iB (cs 0) 8 (cl8 K 6)), ((r 7), iB (cs 0) 8 (cl8 K 7)), (q9, iB (cs 0) 13 R7)] := hD
  refine lv_dup hx hb dX2_counts_44 rfl ?_
  refine lv_bipush (v := 8) hx hb dX2_counts_45 (by decide) ?_
  refine lv_iconst (v := 0) hx hb dX2_counts_47 (by decide) ?_
  refine W.eq (g2 := F0 m 48 ls [.int 0, .int (nI 8), .ref q9, .ref q9]) rfl ?_
  refine va_iast hx hb hK hP hD hS 10 0 rfl rfl (vp_in_nI (n := 8) (N := 13) (by decide) (by decide)) dX2_counts_48 (fun H locs hP hD hS => ?_)
  rw [nI_clamp (n := 8) (by omega)] at hP hD
  have hP : va_P G vwCl [(h, oS o mo co le), (o, oQ (cs 1) 8 r), ((r 0), iB (cs 0) 8 (cl8 K 0)), ((r 1), iB (cs 0) 8 (cl8 K 1)), ((r 2), iB (cs 0) 8 (cl8 K 2)), ((r 3), iB (cs 0) 8 (cl8 K 3)), ((r 4), iB (cs 0) 8 (cl8 K 4)), ((r 5), iB (cs 0) 8 (cl8 K 5)), ((r 6), iB (cs 0) 8 (cl8 K 6)), ((r 7), iB (cs 0) 8 (cl8 K 7)), (q9, iB (cs 0) 13 (upd R7 8 0))] H := hP
  have hD : va_D A [(h, oS o mo co le), (o, oQ (cs 1) 8 r), ((r 0), iB (cs 0) 8 (cl8 K 0)), ((r 1), iB (cs 0) 8 (cl8 K 1)), ((r 2), iB (cs 0) 8 (cl8 K 2)), ((r 3), iB (cs 0) 8 (cl8 K 3)), ((r 4), iB (cs 0) 8 (cl8 K 4)), ((r 5), iB (cs 0) 8 (cl8 K 5)), ((r 6), iB (cs 0) 8 (cl8 K 6)), ((r 7), iB (cs 0) 8 (cl8 K 7)), (q9, iB (cs 0) 13 (upd R7 8 0))] := hD
  obtain ⟨R8, hR8⟩ : ∃ z, z = (upd R7 8 0) := ⟨_, rfl⟩
  rw [← hR8] at hP hD
  have hP : va_P G vwCl [(h, oS o mo co le), (o, oQ (cs 1) 8 r), ((r 0), iB (cs 0) 8 (cl8 K 0)), ((r 1), iB (cs 0) 8 (cl8 K 1)), ((r 2), iB (cs 0) 8 (cl8 K 2)), ((r 3), iB (cs 0) 8 (cl8 K 3)), ((r 4), iB (cs 0) 8 (cl8 K 4)), ((r 5), iB (cs 0) 8 (cl8 K 5)), ((r 6), iB (cs 0) 8 (cl8 K 6)), ((r 7), iB (cs 0) 8 (cl8 K 7)), (q9, iB (cs 0) 13 R8)] H := hP
  have hD : va_D A [(h, oS o mo co le), (o, oQ (cs 1) 8 r), ((r 0), iB (cs 0) 8 (cl8 K 0)), ((r 1), iB (cs 0) 8 (cl8 K 1)), ((r 2), iB (cs 0) 8 (cl8 K 2)), ((r 3), iB (cs 0) 8 (cl8 K 3)), ((r 4), iB (cs 0) 8 (cl8 K 4)), ((r 5), iB (cs 0) 8 (cl8 K 5)), ((r 6), iB (cs 0) 8 (cl8 K 6)), ((r 7), iB (cs 0) 8 (cl8 K 7)), (q9, iB (cs 0) 13 R8)] := hD
  refine lv_dup hx hb dX2_counts_49 rfl ?_
  refine lv_bipush (v := 9) hx hb dX2_counts_50 (by decide) ?_
  refine lv_iconst (v := 0) hx hb dX2_counts_52 (by decide) ?_
  refine W.eq (g2 := F0 m 53 ls [.int 0, .int (nI 9), .ref q9, .ref q9]) rfl ?_
  refine va_iast hx hb hK hP hD hS 10 0 rfl rfl (vp_in_nI (n := 9) (N := 13) (by decide) (by decide)) dX2_counts_53 (fun H locs hP hD hS => ?_)
  rw [nI_clamp (n := 9) (by omega)] at hP hD
  have hP : va_P G vwCl [(h, oS o mo co le), (o, oQ (cs 1) 8 r), ((r 0), iB (cs 0) 8 (cl8 K 0)), ((r 1), iB (cs 0) 8 (cl8 K 1)), ((r 2), iB (cs 0) 8 (cl8 K 2)), ((r 3), iB (cs 0) 8 (cl8 K 3)), ((r 4), iB (cs 0) 8 (cl8 K 4)), ((r 5), iB (cs 0) 8 (cl8 K 5)), ((r 6), iB (cs 0) 8 (cl8 K 6)), ((r 7), iB (cs 0) 8 (cl8 K 7)), (q9, iB (cs 0) 13 (upd R8 9 0))] H := hP
  have hD : va_D A [(h, oS o mo co le), (o, oQ (cs 1) 8 r), ((r 0), iB (cs 0) 8 (cl8 K 0)), ((r 1), iB (cs 0) 8 (cl8 K 1)), ((r 2), iB (cs 0) 8 (cl8 K 2)), ((r 3), iB (cs 0) 8 (cl8 K 3)), ((r 4), iB (cs 0) 8 (cl8 K 4)), ((r 5), iB (cs 0) 8 (cl8 K 5)), ((r 6), iB (cs 0) 8 (cl8 K 6)), ((r 7), iB (cs 0) 8 (cl8 K 7)), (q9, iB (cs 0) 13 (upd R8 9 0))] := hD
  obtain ⟨R9, hR9⟩ : ∃ z, z = (upd R8 9 0) := ⟨_, rfl⟩
  rw [← hR9] at hP hD
  have hP : va_P G vwCl [(h, oS o mo co le), (o, oQ (cs 1) 8 r), ((r 0), iB (cs 0) 8 (cl8 K 0)), ((r 1), iB (cs 0) 8 (cl8 K 1)), ((r 2), iB (cs 0) 8 (cl8 K 2)), ((r 3), iB (cs 0) 8 (cl8 K 3)), ((r 4), iB (cs 0) 8 (cl8 K 4)), ((r 5), iB (cs 0) 8 (cl8 K 5)), ((r 6), iB (cs 0) 8 (cl8 K 6)), ((r 7), iB (cs 0) 8 (cl8 K 7)), (q9, iB (cs 0) 13 R9)] H := hP
  have hD : va_D A [(h, oS o mo co le), (o, oQ (cs 1) 8 r), ((r 0), iB (cs 0) 8 (cl8 K 0)), ((r 1), iB (cs 0) 8 (cl8 K 1)), ((r 2), iB (cs 0) 8 (cl8 K 2)), ((r 3), iB (cs 0) 8 (cl8 K 3)), ((r 4), iB (cs 0) 8 (cl8 K 4)), ((r 5), iB (cs 0) 8 (cl8 K 5)), ((r 6), iB (cs 0) 8 (cl8 K 6)), ((r 7), iB (cs 0) 8 (cl8 K 7)), (q9, iB (cs 0) 13 R9)] := hD
  refine lv_dup hx hb dX2_counts_54 rfl ?_
  refine lv_bipush (v := 10) hx hb dX2_counts_55 (by decide) ?_
  refine lv_aload_n hx hb dX2_counts_57 rfl (lv_at hl 0 rfl) ?_
  refine lv_iconst (v := 0) hx hb dX2_counts_58 (by decide) ?_
  refine cw_i (wr := [(q9, iB (cs 0) 13 R9)]) (va_runV (As := [.int 0]) (rest := [.int 10, .ref q9, .ref q9]) FX (c_X2_all_0 l G cs h o r mo co le K k hk hkd hg3 _) (cwV 1 hts gX2_counts_X2_all rfl rfl rfl (by decide +kernel) ⟨Nat.le_of_ble_eq_true rfl, Nat.le_of_ble_eq_true rfl⟩) (wsrV hK hP hD hN [0, 1, 2, 3, 4, 5, 6, 7, 8, 9] (by decide) rfl rfl (ci := 2) (q0 := 0) rfl rfl) rfl rfl hl.1 rfl (lv_room (Nat.le_of_ble_eq_true rfl)) dX2_counts_59 ⟨Nat.le_of_ble_eq_true rfl, Nat.le_of_ble_eq_true rfl⟩) hS hP hD hA [0, 1, 2, 3, 4, 5, 6, 7, 8, 9] [10] rfl rfl (by decide) (by decide) (fun t10 u H locs hw hP hD hS => ?_)
  have e10 := hw
  have hP := hP.sub (ws' := [(h, oS o mo co le), (o, oQ (cs 1) 8 r), ((r 0), iB (cs 0) 8 (cl8 K 0)), ((r 1), iB (cs 0) 8 (cl8 K 1)), ((r 2), iB (cs 0) 8 (cl8 K 2)), ((r 3), iB (cs 0) 8 (cl8 K 3)), ((r 4), iB (cs 0) 8 (cl8 K 4)), ((r 5), iB (cs 0) 8 (cl8 K 5)), ((r 6), iB (cs 0) 8 (cl8 K 6)), ((r 7), iB (cs 0) 8 (cl8 K 7)), (q9, iB (cs 0) 13 R9)]) [1, 2, 3, 4, 5, 6, 7, 8, 9, 10, 0] rfl
  have hD := hD.sub (ws' := [(h, oS o mo co le), (o, oQ (cs 1) 8 r), ((r 0), iB (cs 0) 8 (cl8 K 0)), ((r 1), iB (cs 0) 8 (cl8 K 1)), ((r 2), iB (cs 0) 8 (cl8 K 2)), ((r 3), iB (cs 0) 8 (cl8 K 3)), ((r 4), iB (cs 0) 8 (cl8 K 4)), ((r 5), iB (cs 0) 8 (cl8 K 5)), ((r 6), iB (cs 0) 8 (cl8 K 6)), ((r 7), iB (cs 0) 8 (cl8 K 7)), (q9, iB (cs 0) 13 R9)]) [1, 2, 3, 4, 5, 6, 7, 8, 9, 10, 0] (by decide) rfl
  refine W.widen (k := 38) (n := 303) (by decide) (by decide) ?_
  refine W.eq (g2 := F0 m 62 ls [.int t10, .int (nI 10), .ref q9, .ref q9]) rfl ?_
  refine va_iast hx hb hK hP hD hS 10 0 rfl rfl (vp_in_nI (n := 10) (N := 13) (by decide) (by decide)) dX2_counts_62 (fun H locs hP hD hS => ?_)
  rw [nI_clamp (n := 10) (by omega)] at hP hD
  have hP : va_P G vwCl [(h, oS o mo co le), (o, oQ (cs 1) 8 r), ((r 0), iB (cs 0) 8 (cl8 K 0)), ((r 1), iB (cs 0) 8 (cl8 K 1)), ((r 2), iB (cs 0) 8 (cl8 K 2)), ((r 3), iB (cs 0) 8 (cl8 K 3)), ((r 4), iB (cs 0) 8 (cl8 K 4)), ((r 5), iB (cs 0) 8 (cl8 K 5)), ((r 6), iB (cs 0) 8 (cl8 K 6)), ((r 7), iB (cs 0) 8 (cl8 K 7)), (q9, iB (cs 0) 13 (upd R9 10 t10))] H := hP
  have hD : va_D A [(h, oS o mo co le), (o, oQ (cs 1) 8 r), ((r 0), iB (cs 0) 8 (cl8 K 0)), ((r 1), iB (cs 0) 8 (cl8 K 1)), ((r 2), iB (cs 0) 8 (cl8 K 2)), ((r 3), iB (cs 0) 8 (cl8 K 3)), ((r 4), iB (cs 0) 8 (cl8 K 4)), ((r 5), iB (cs 0) 8 (cl8 K 5)), ((r 6), iB (cs 0) 8 (cl8 K 6)), ((r 7), iB (cs 0) 8 (cl8 K 7)), (q9, iB (cs 0) 13 (upd R9 10 t10))] := hD
  obtain ⟨R10, hR10⟩ : ∃ z, z = (upd R9 10 t10) := ⟨_, rfl⟩
  rw [← hR10] at hP hD
  have hP : va_P G vwCl [(h, oS o mo co le), (o, oQ (cs 1) 8 r), ((r 0), iB (cs 0) 8 (cl8 K 0)), ((r 1), iB (cs 0) 8 (cl8 K 1)), ((r 2), iB (cs 0) 8 (cl8 K 2)), ((r 3), iB (cs 0) 8 (cl8 K 3)), ((r 4), iB (cs 0) 8 (cl8 K 4)), ((r 5), iB (cs 0) 8 (cl8 K 5)), ((r 6), iB (cs 0) 8 (cl8 K 6)), ((r 7), iB (cs 0) 8 (cl8 K 7)), (q9, iB (cs 0) 13 R10)] H := hP
  have hD : va_D A [(h, oS o mo co le), (o, oQ (cs 1) 8 r), ((r 0), iB (cs 0) 8 (cl8 K 0)), ((r 1), iB (cs 0) 8 (cl8 K 1)), ((r 2), iB (cs 0) 8 (cl8 K 2)), ((r 3), iB (cs 0) 8 (cl8 K 3)), ((r 4), iB (cs 0) 8 (cl8 K 4)), ((r 5), iB (cs 0) 8 (cl8 K 5)), ((r 6), iB (cs 0) 8 (cl8 K 6)), ((r 7), iB (cs 0) 8 (cl8 K 7)), (q9, iB (cs 0) 13 R10)] := hD
  refine lv_dup hx hb dX2_counts_63 rfl ?_
  refine lv_bipush (v := 11) hx hb dX2_counts_64 (by decide) ?_
  refine lv_aload_n hx hb dX2_counts_66 rfl (lv_at hl 0 rfl) ?_
  refine lv_iconst (v := 1) hx hb dX2_counts_67 (by decide) ?_
  refine cw_i (wr := [(q9, iB (cs 0) 13 R10)]) (va_runV (As := [.int 1]) (rest := [.int 11, .ref q9, .ref q9]) FX (c_X2_all_1 l G cs h o r mo co le K k hk hkd hg3 _) (cwV 1 hts gX2_counts_X2_all rfl rfl rfl (by decide +kernel) ⟨Nat.le_of_ble_eq_true rfl, Nat.le_of_ble_eq_true rfl⟩) (wsrV hK hP hD hN [0, 1, 2, 3, 4, 5, 6, 7, 8, 9] (by decide) rfl rfl (ci := 2) (q0 := 0) rfl rfl) rfl rfl hl.1 rfl (lv_room (Nat.le_of_ble_eq_true rfl)) dX2_counts_68 ⟨Nat.le_of_ble_eq_true rfl, Nat.le_of_ble_eq_true rfl⟩) hS hP hD hA [0, 1, 2, 3, 4, 5, 6, 7, 8, 9] [10] rfl rfl (by decide) (by decide) (fun t11 u H locs hw hP hD hS => ?_)
  have e11 := hw
  have hP := hP.sub (ws' := [(h, oS o mo co le), (o, oQ (cs 1) 8 r), ((r 0), iB (cs 0) 8 (cl8 K 0)), ((r 1), iB (cs 0) 8 (cl8 K 1)), ((r 2), iB (cs 0) 8 (cl8 K 2)), ((r 3), iB (cs 0) 8 (cl8 K 3)), ((r 4), iB (cs 0) 8 (cl8 K 4)), ((r 5), iB (cs 0) 8 (cl8 K 5)), ((r 6), iB (cs 0) 8 (cl8 K 6)), ((r 7), iB (cs 0) 8 (cl8 K 7)), (q9, iB (cs 0) 13 R10)]) [1, 2, 3, 4, 5, 6, 7, 8, 9, 10, 0] rfl
  have hD := hD.sub (ws' := [(h, oS o mo co le), (o, oQ (cs 1) 8 r), ((r 0), iB (cs 0) 8 (cl8 K 0)), ((r 1), iB (cs 0) 8 (cl8 K 1)), ((r 2), iB (cs 0) 8 (cl8 K 2)), ((r 3), iB (cs 0) 8 (cl8 K 3)), ((r 4), iB (cs 0) 8 (cl8 K 4)), ((r 5), iB (cs 0) 8 (cl8 K 5)), ((r 6), iB (cs 0) 8 (cl8 K 6)), ((r 7), iB (cs 0) 8 (cl8 K 7)), (q9, iB (cs 0) 13 R10)]) [1, 2, 3, 4, 5, 6, 7, 8, 9, 10, 0] (by decide) rfl
  refine W.widen (k := 75) (n := 593) (by decide) (by decide) ?_
  refine W.eq (g2 := F0 m 71 ls [.int t11, .int (nI 11), .ref q9, .ref q9]) rfl ?_
  refine va_iast hx hb hK hP hD hS 10 0 rfl rfl (vp_in_nI (n := 11) (N := 13) (by decide) (by decide)) dX2_counts_71 (fun H locs hP hD hS => ?_)
  rw [nI_clamp (n := 11) (by omega)] at hP hD
  have hP : va_P G vwCl [(h, oS o mo co le), (o, oQ (cs 1) 8 r), ((r 0), iB (cs 0) 8 (cl8 K 0)), ((r 1), iB (cs 0) 8 (cl8 K 1)), ((r 2), iB (cs 0) 8 (cl8 K 2)), ((r 3), iB (cs 0) 8 (cl8 K 3)), ((r 4), iB (cs 0) 8 (cl8 K 4)), ((r 5), iB (cs 0) 8 (cl8 K 5)), ((r 6), iB (cs 0) 8 (cl8 K 6)), ((r 7), iB (cs 0) 8 (cl8 K 7)), (q9, iB (cs 0) 13 (upd R10 11 t11))] H := hP
  have hD : va_D A [(h, oS o mo co le), (o, oQ (cs 1) 8 r), ((r 0), iB (cs 0) 8 (cl8 K 0)), ((r 1), iB (cs 0) 8 (cl8 K 1)), ((r 2), iB (cs 0) 8 (cl8 K 2)), ((r 3), iB (cs 0) 8 (cl8 K 3)), ((r 4), iB (cs 0) 8 (cl8 K 4)), ((r 5), iB (cs 0) 8 (cl8 K 5)), ((r 6), iB (cs 0) 8 (cl8 K 6)), ((r 7), iB (cs 0) 8 (cl8 K 7)), (q9, iB (cs 0) 13 (upd R10 11 t11))] := hD
  obtain ⟨R11, hR11⟩ : ∃ z, z = (upd R10 11 t11) := ⟨_, rfl⟩
  rw [← hR11] at hP hD
  have hP : va_P G vwCl [(h, oS o mo co le), (o, oQ (cs 1) 8 r), ((r 0), iB (cs 0) 8 (cl8 K 0)), ((r 1), iB (cs 0) 8 (cl8 K 1)), ((r 2), iB (cs 0) 8 (cl8 K 2)), ((r 3), iB (cs 0) 8 (cl8 K 3)), ((r 4), iB (cs 0) 8 (cl8 K 4)), ((r 5), iB (cs 0) 8 (cl8 K 5)), ((r 6), iB (cs 0) 8 (cl8 K 6)), ((r 7), iB (cs 0) 8 (cl8 K 7)), (q9, iB (cs 0) 13 R11)] H := hP
  have hD : va_D A [(h, oS o mo co le), (o, oQ (cs 1) 8 r), ((r 0), iB (cs 0) 8 (cl8 K 0)), ((r 1), iB (cs 0) 8 (cl8 K 1)), ((r 2), iB (cs 0) 8 (cl8 K 2)), ((r 3), iB (cs 0) 8 (cl8 K 3)), ((r 4), iB (cs 0) 8 (cl8 K 4)), ((r 5), iB (cs 0) 8 (cl8 K 5)), ((r 6), iB (cs 0) 8 (cl8 K 6)), ((r 7), iB (cs 0) 8 (cl8 K 7)), (q9, iB (cs 0) 13 R11)] := hD
  refine lv_dup hx hb dX2_counts_72 rfl ?_
  refine lv_bipush (v := 12) hx hb dX2_counts_73 (by decide) ?_
  refine lv_aload_n hx hb dX2_counts_75 rfl (lv_at hl 0 rfl) ?_
  refine va_get (D := G) (ci := 2) (v := .int le) (C := RX2) (T := TX2) (N := 4) hx hb hts hinX2 hown hK hP 0 rfl rfl 3 (by decide) hf28 (fun _ h9 => h9) rfl dX2_counts_76 ?_
  refine W.eq (g2 := F0 m 79 ls [.int le, .int (nI 12), .ref q9, .ref q9]) rfl ?_
  refine va_iast hx hb hK hP hD hS 10 0 rfl rfl (vp_in_nI (n := 12) (N := 13) (by decide) (by decide)) dX2_counts_79 (fun H locs hP hD hS => ?_)
  rw [nI_clamp (n := 12) (by omega)] at hP hD
  have hP : va_P G vwCl [(h, oS o mo co le), (o, oQ (cs 1) 8 r), ((r 0), iB (cs 0) 8 (cl8 K 0)), ((r 1), iB (cs 0) 8 (cl8 K 1)), ((r 2), iB (cs 0) 8 (cl8 K 2)), ((r 3), iB (cs 0) 8 (cl8 K 3)), ((r 4), iB (cs 0) 8 (cl8 K 4)), ((r 5), iB (cs 0) 8 (cl8 K 5)), ((r 6), iB (cs 0) 8 (cl8 K 6)), ((r 7), iB (cs 0) 8 (cl8 K 7)), (q9, iB (cs 0) 13 (upd R11 12 le))] H := hP
  have hD : va_D A [(h, oS o mo co le), (o, oQ (cs 1) 8 r), ((r 0), iB (cs 0) 8 (cl8 K 0)), ((r 1), iB (cs 0) 8 (cl8 K 1)), ((r 2), iB (cs 0) 8 (cl8 K 2)), ((r 3), iB (cs 0) 8 (cl8 K 3)), ((r 4), iB (cs 0) 8 (cl8 K 4)), ((r 5), iB (cs 0) 8 (cl8 K 5)), ((r 6), iB (cs 0) 8 (cl8 K 6)), ((r 7), iB (cs 0) 8 (cl8 K 7)), (q9, iB (cs 0) 13 (upd R11 12 le))] := hD
  obtain ⟨R12, hR12⟩ : ∃ z, z = (upd R11 12 le) := ⟨_, rfl⟩
  rw [← hR12] at hP hD
  have hP : va_P G vwCl [(h, oS o mo co le), (o, oQ (cs 1) 8 r), ((r 0), iB (cs 0) 8 (cl8 K 0)), ((r 1), iB (cs 0) 8 (cl8 K 1)), ((r 2), iB (cs 0) 8 (cl8 K 2)), ((r 3), iB (cs 0) 8 (cl8 K 3)), ((r 4), iB (cs 0) 8 (cl8 K 4)), ((r 5), iB (cs 0) 8 (cl8 K 5)), ((r 6), iB (cs 0) 8 (cl8 K 6)), ((r 7), iB (cs 0) 8 (cl8 K 7)), (q9, iB (cs 0) 13 R12)] H := hP
  have hD : va_D A [(h, oS o mo co le), (o, oQ (cs 1) 8 r), ((r 0), iB (cs 0) 8 (cl8 K 0)), ((r 1), iB (cs 0) 8 (cl8 K 1)), ((r 2), iB (cs 0) 8 (cl8 K 2)), ((r 3), iB (cs 0) 8 (cl8 K 3)), ((r 4), iB (cs 0) 8 (cl8 K 4)), ((r 5), iB (cs 0) 8 (cl8 K 5)), ((r 6), iB (cs 0) 8 (cl8 K 6)), ((r 7), iB (cs 0) 8 (cl8 K 7)), (q9, iB (cs 0) 13 R12)] := hD
  refine lv_astore_n (lv' := [(1, .ref q9), (0, .ref h)]) hx hb dX2_counts_80 rfl hl (by decide) rfl (fun ls hl => ?_)
  refine lv_aload_n hx hb dX2_counts_81 rfl (lv_at hl 1 rfl) ?_
  refine cw_r (wr := [(q9, iB (cs 0) 13 R12)]) (va_runV (As := []) (rest := []) FX (c_X2_quarters l G cs h o r mo co le K k hk hkd _) (cwV 0 hts gX2_counts_X2_quarters rfl rfl rfl (by decide +kernel) ⟨Nat.le_of_ble_eq_true rfl, Nat.le_of_ble_eq_true rfl⟩) (wsrV hK hP hD hN [0, 1, 2, 3, 4, 5, 6, 7, 8, 9] (by decide) rfl rfl (ci := 2) (q0 := 0) rfl rfl) rfl rfl hl.1 rfl (lv_room (Nat.le_of_ble_eq_true rfl)) dX2_counts_82 ⟨Nat.le_of_ble_eq_true rfl, Nat.le_of_ble_eq_true rfl⟩) hS hP hD hA [0, 1, 2, 3, 4, 5, 6, 7, 8, 9] [10] rfl rfl (by decide) (by decide) (fun u oq H locs hw hP hD hS => ?_)
  obtain ⟨rq, Qa⟩ := u
  have hQa := hw
  have hP := hP.sub (ws' := [(h, oS o mo co le), (o, oQ (cs 1) 8 r), ((r 0), iB (cs 0) 8 (cl8 K 0)), ((r 1), iB (cs 0) 8 (cl8 K 1)), ((r 2), iB (cs 0) 8 (cl8 K 2)), ((r 3), iB (cs 0) 8 (cl8 K 3)), ((r 4), iB (cs 0) 8 (cl8 K 4)), ((r 5), iB (cs 0) 8 (cl8 K 5)), ((r 6), iB (cs 0) 8 (cl8 K 6)), ((r 7), iB (cs 0) 8 (cl8 K 7)), (q9, iB (cs 0) 13 R12), (oq, oQ (cs 1) 8 rq), ((rq 0), iB (cs 0) 8 (cl8 Qa 0)), ((rq 1), iB (cs 0) 8 (cl8 Qa 1)), ((rq 2), iB (cs 0) 8 (cl8 Qa 2)), ((rq 3), iB (cs 0) 8 (cl8 Qa 3)), ((rq 4), iB (cs 0) 8 (cl8 Qa 4)), ((rq 5), iB (cs 0) 8 (cl8 Qa 5)), ((rq 6), iB (cs 0) 8 (cl8 Qa 6)), ((rq 7), iB (cs 0) 8 (cl8 Qa 7))]) [1, 2, 3, 4, 5, 6, 7, 8, 9, 10, 0, 11, 12, 13, 14, 15, 16, 17, 18, 19] rfl
  have hD := hD.sub (ws' := [(h, oS o mo co le), (o, oQ (cs 1) 8 r), ((r 0), iB (cs 0) 8 (cl8 K 0)), ((r 1), iB (cs 0) 8 (cl8 K 1)), ((r 2), iB (cs 0) 8 (cl8 K 2)), ((r 3), iB (cs 0) 8 (cl8 K 3)), ((r 4), iB (cs 0) 8 (cl8 K 4)), ((r 5), iB (cs 0) 8 (cl8 K 5)), ((r 6), iB (cs 0) 8 (cl8 K 6)), ((r 7), iB (cs 0) 8 (cl8 K 7)), (q9, iB (cs 0) 13 R12), (oq, oQ (cs 1) 8 rq), ((rq 0), iB (cs 0) 8 (cl8 Qa 0)), ((rq 1), iB (cs 0) 8 (cl8 Qa 1)), ((rq 2), iB (cs 0) 8 (cl8 Qa 2)), ((rq 3), iB (cs 0) 8 (cl8 Qa 3)), ((rq 4), iB (cs 0) 8 (cl8 Qa 4)), ((rq 5), iB (cs 0) 8 (cl8 Qa 5)), ((rq 6), iB (cs 0) 8 (cl8 Qa 6)), ((rq 7), iB (cs 0) 8 (cl8 Qa 7))]) [1, 2, 3, 4, 5, 6, 7, 8, 9, 10, 0, 11, 12, 13, 14, 15, 16, 17, 18, 19] (by decide) rfl
  refine W.widen (k := 84) (n := 665) (by decide) (by decide) ?_
  refine lv_astore_n (lv' := [(2, .ref oq), (1, .ref q9), (0, .ref h)]) hx hb dX2_counts_85 rfl hl (by decide) rfl (fun ls hl => ?_)
  refine lv_iconst (v := 0) hx hb dX2_counts_86 (by decide) ?_
  refine lv_istore_n (lv' := [(3, .int 0), (2, .ref oq), (1, .ref q9), (0, .ref h)]) hx hb dX2_counts_87 rfl hl (by decide) rfl (fun ls hl => ?_)
  have hl : lv_has ls 5 [(3, .int (nI 0)), (2, .ref oq), (1, .ref q9), (0, .ref h)] := hl
  have hCT : CT k mo co le 0 0 R12 := ⟨by rw [hR12]; rw [pk_un (by decide)]; rw [hR11]; rw [pk_un (by decide)]; rw [hR10]; rw [pk_un (by decide)]; rw [hR9]; rw [pk_un (by decide)]; rw [hR8]; rw [pk_un (by decide)]; rw [hR7]; rw [pk_un (by decide)]; rw [hR6]; rw [pk_un (by decide)]; rw [hR5]; rw [pk_un (by decide)]; rw [hR4]; rw [pk_un (by decide)]; rw [hR3]; rw [pk_un (by decide)]; rw [hR2]; rw [pk_un (by decide)]; rw [hR1]; rw [pk_un (by decide)]; rw [hR0]; rw [pk_us], by rw [hR12]; rw [pk_un (by decide)]; rw [hR11]; rw [pk_un (by decide)]; rw [hR10]; rw [pk_un (by decide)]; rw [hR9]; rw [pk_un (by decide)]; rw [hR8]; rw [pk_un (by decide)]; rw [hR7]; rw [pk_un (by decide)]; rw [hR6]; rw [pk_un (by decide)]; rw [hR5]; rw [pk_un (by decide)]; rw [hR4]; rw [pk_un (by decide)]; rw [hR3]; rw [pk_un (by decide)]; rw [hR2]; rw [pk_un (by decide)]; rw [hR1]; rw [pk_us], by rw [hR12]; rw [pk_un (by decide)]; rw [hR11]; rw [pk_un (by decide)]; rw [hR10]; rw [pk_us]; exact e10, by rw [hR12]; rw [pk_un (by decide)]; rw [hR11]; rw [pk_us]; exact e11, by  rw [hR12]; rw [pk_us], by rw [hR12]; rw [pk_un (by decide)]; rw [hR11]; rw [pk_un (by decide)]; rw [hR10]; rw [pk_un (by decide)]; rw [hR9]; rw [pk_us]; rfl, fun v hv => by
      rcases (show v = 0 ∨ v = 1 ∨ v = 2 ∨ v = 3 ∨ v = 4 ∨ v = 5 ∨ v = 6 by omega) with rfl | rfl | rfl | rfl | rfl | rfl | rfl
      · show R12 2 = _; rw [hR12]; rw [pk_un (by decide)]; rw [hR11]; rw [pk_un (by decide)]; rw [hR10]; rw [pk_un (by decide)]; rw [hR9]; rw [pk_un (by decide)]; rw [hR8]; rw [pk_un (by decide)]; rw [hR7]; rw [pk_un (by decide)]; rw [hR6]; rw [pk_un (by decide)]; rw [hR5]; rw [pk_un (by decide)]; rw [hR4]; rw [pk_un (by decide)]; rw [hR3]; rw [pk_un (by decide)]; rw [hR2]; rw [pk_us]; rfl
      · show R12 3 = _; rw [hR12]; rw [pk_un (by decide)]; rw [hR11]; rw [pk_un (by decide)]; rw [hR10]; rw [pk_un (by decide)]; rw [hR9]; rw [pk_un (by decide)]; rw [hR8]; rw [pk_un (by decide)]; rw [hR7]; rw [pk_un (by decide)]; rw [hR6]; rw [pk_un (by decide)]; rw [hR5]; rw [pk_un (by decide)]; rw [hR4]; rw [pk_un (by decide)]; rw [hR3]; rw [pk_us]; rfl
      · show R12 4 = _; rw [hR12]; rw [pk_un (by decide)]; rw [hR11]; rw [pk_un (by decide)]; rw [hR10]; rw [pk_un (by decide)]; rw [hR9]; rw [pk_un (by decide)]; rw [hR8]; rw [pk_un (by decide)]; rw [hR7]; rw [pk_un (by decide)]; rw [hR6]; rw [pk_un (by decide)]; rw [hR5]; rw [pk_un (by decide)]; rw [hR4]; rw [pk_us]; rfl
      · show R12 5 = _; rw [hR12]; rw [pk_un (by decide)]; rw [hR11]; rw [pk_un (by decide)]; rw [hR10]; rw [pk_un (by decide)]; rw [hR9]; rw [pk_un (by decide)]; rw [hR8]; rw [pk_un (by decide)]; rw [hR7]; rw [pk_un (by decide)]; rw [hR6]; rw [pk_un (by decide)]; rw [hR5]; rw [pk_us]; rfl
      · show R12 6 = _; rw [hR12]; rw [pk_un (by decide)]; rw [hR11]; rw [pk_un (by decide)]; rw [hR10]; rw [pk_un (by decide)]; rw [hR9]; rw [pk_un (by decide)]; rw [hR8]; rw [pk_un (by decide)]; rw [hR7]; rw [pk_un (by decide)]; rw [hR6]; rw [pk_us]; rfl
      · show R12 7 = _; rw [hR12]; rw [pk_un (by decide)]; rw [hR11]; rw [pk_un (by decide)]; rw [hR10]; rw [pk_un (by decide)]; rw [hR9]; rw [pk_un (by decide)]; rw [hR8]; rw [pk_un (by decide)]; rw [hR7]; rw [pk_us]; rfl
      · show R12 8 = _; rw [hR12]; rw [pk_un (by decide)]; rw [hR11]; rw [pk_un (by decide)]; rw [hR10]; rw [pk_un (by decide)]; rw [hR9]; rw [pk_un (by decide)]; rw [hR8]; rw [pk_us]; rfl⟩
  have lx : ∀ (n : Nat) (x : Nat) (R : Nat → Int32), (hx9 : x ≤ 8) → (hCT : CT k mo co le x 0 R) → (8 - x) < n → ∀ (H : Heap) (locs : List Loc) (ls : Array Slot), va_P G vwCl [(h, oS o mo co le), (o, oQ (cs 1) 8 r), ((r 0), iB (cs 0) 8 (cl8 K 0)), ((r 1), iB (cs 0) 8 (cl8 K 1)), ((r 2), iB (cs 0) 8 (cl8 K 2)), ((r 3), iB (cs 0) 8 (cl8 K 3)), ((r 4), iB (cs 0) 8 (cl8 K 4)), ((r 5), iB (cs 0) 8 (cl8 K 5)), ((r 6), iB (cs 0) 8 (cl8 K 6)), ((r 7), iB (cs 0) 8 (cl8 K 7)), (q9, iB (cs 0) 13 R), (oq, oQ (cs 1) 8 rq), ((rq 0), iB (cs 0) 8 (cl8 Qa 0)), ((rq 1), iB (cs 0) 8 (cl8 Qa 1)), ((rq 2), iB (cs 0) 8 (cl8 Qa 2)), ((rq 3), iB (cs 0) 8 (cl8 Qa 3)), ((rq 4), iB (cs 0) 8 (cl8 Qa 4)), ((rq 5), iB (cs 0) 8 (cl8 Qa 5)), ((rq 6), iB (cs 0) 8 (cl8 Qa 6)), ((rq 7), iB (cs 0) 8 (cl8 Qa 7))] H → va_D A [(h, oS o mo co le), (o, oQ (cs 1) 8 r), ((r 0), iB (cs 0) 8 (cl8 K 0)), ((r 1), iB (cs 0) 8 (cl8 K 1)), ((r 2), iB (cs 0) 8 (cl8 K 2)), ((r 3), iB (cs 0) 8 (cl8 K 3)), ((r 4), iB (cs 0) 8 (cl8 K 4)), ((r 5), iB (cs 0) 8 (cl8 K 5)), ((r 6), iB (cs 0) 8 (cl8 K 6)), ((r 7), iB (cs 0) 8 (cl8 K 7)), (q9, iB (cs 0) 13 R), (oq, oQ (cs 1) 8 rq), ((rq 0), iB (cs 0) 8 (cl8 Qa 0)), ((rq 1), iB (cs 0) 8 (cl8 Qa 1)), ((rq 2), iB (cs 0) 8 (cl8 Qa 2)), ((rq 3), iB (cs 0) 8 (cl8 Qa 3)), ((rq 4), iB (cs 0) 8 (cl8 Qa 4)), ((rq 5), iB (cs 0) 8 (cl8 Qa 5)), ((rq 6), iB (cs 0) 8 (cl8 Qa 6)), ((rq 7), iB (cs 0) 8 (cl8 Qa 7))] → va_S A s.heap H locs → lv_has ls 5 [(0, .ref h), (1, .ref q9), (2, .ref oq), (3, .int (nI x))] → W p l e (headSpec wsX2_counts rmX2_counts).room s m ([.ref h] : List Value).toArray below meth c H locs 84 665 Q (F0 m 88 ls []) := by
    intro n
    induction n with
    | zero => intro x R hx9 hCT hn; exact absurd hn (by omega)
    | succ n ih_lx =>
      intro x R hx9 hCT hn H locs ls hP hD hS hl
      refine lv_iload_n hx hb dX2_counts_88 rfl (lv_at hl 3 rfl) ?_
      refine lv_bipush (v := 8) hx hb dX2_counts_89 (by decide) ?_
      rcases Nat.lt_or_ge x 8 with hx8 | g
      · skip
        refine lv_icmp_ge (tgt := 161) hx hb dX2_counts_91 (by decide) (fun c => absurd c (lt_n (n := 8) hx8 (by decide))) (fun _ => ?_)
        refine lv_iconst (v := 0) hx hb dX2_counts_94 (by decide) ?_
        refine lv_istore (lv' := [(4, .int 0), (0, .ref h), (1, .ref q9), (2, .ref oq), (3, .int (nI x))]) hx hb dX2_counts_95 hl (by decide) rfl (fun ls hl => ?_)
        have hl : lv_has ls 5 [(4, .int (nI 0)), (0, .ref h), (1, .ref q9), (2, .ref oq), (3, .int (nI x))] := hl
        have ly : ∀ (n : Nat) (y : Nat) (R : Nat → Int32), (hy9 : y ≤ 8) → (hCT : CT k mo co le x y R) → (8 - y) < n → ∀ (H : Heap) (locs : List Loc) (ls : Array Slot), va_P G vwCl [(h, oS o mo co le), (o, oQ (cs 1) 8 r), ((r 0), iB (cs 0) 8 (cl8 K 0)), ((r 1), iB (cs 0) 8 (cl8 K 1)), ((r 2), iB (cs 0) 8 (cl8 K 2)), ((r 3), iB (cs 0) 8 (cl8 K 3)), ((r 4), iB (cs 0) 8 (cl8 K 4)), ((r 5), iB (cs 0) 8 (cl8 K 5)), ((r 6), iB (cs 0) 8 (cl8 K 6)), ((r 7), iB (cs 0) 8 (cl8 K 7)), (q9, iB (cs 0) 13 R), (oq, oQ (cs 1) 8 rq), ((rq 0), iB (cs 0) 8 (cl8 Qa 0)), ((rq 1), iB (cs 0) 8 (cl8 Qa 1)), ((rq 2), iB (cs 0) 8 (cl8 Qa 2)), ((rq 3), iB (cs 0) 8 (cl8 Qa 3)), ((rq 4), iB (cs 0) 8 (cl8 Qa 4)), ((rq 5), iB (cs 0) 8 (cl8 Qa 5)), ((rq 6), iB (cs 0) 8 (cl8 Qa 6)), ((rq 7), iB (cs 0) 8 (cl8 Qa 7))] H → va_D A [(h, oS o mo co le), (o, oQ (cs 1) 8 r), ((r 0), iB (cs 0) 8 (cl8 K 0)), ((r 1), iB (cs 0) 8 (cl8 K 1)), ((r 2), iB (cs 0) 8 (cl8 K 2)), ((r 3), iB (cs 0) 8 (cl8 K 3)), ((r 4), iB (cs 0) 8 (cl8 K 4)), ((r 5), iB (cs 0) 8 (cl8 K 5)), ((r 6), iB (cs 0) 8 (cl8 K 6)), ((r 7), iB (cs 0) 8 (cl8 K 7)), (q9, iB (cs 0) 13 R), (oq, oQ (cs 1) 8 rq), ((rq 0), iB (cs 0) 8 (cl8 Qa 0)), ((rq 1), iB (cs 0) 8 (cl8 Qa 1)), ((rq 2), iB (cs 0) 8 (cl8 Qa 2)), ((rq 3), iB (cs 0) 8 (cl8 Qa 3)), ((rq 4), iB (cs 0) 8 (cl8 Qa 4)), ((rq 5), iB (cs 0) 8 (cl8 Qa 5)), ((rq 6), iB (cs 0) 8 (cl8 Qa 6)), ((rq 7), iB (cs 0) 8 (cl8 Qa 7))] → va_S A s.heap H locs → lv_has ls 5 [(0, .ref h), (1, .ref q9), (2, .ref oq), (3, .int (nI x)), (4, .int (nI y))] → W p l e (headSpec wsX2_counts rmX2_counts).room s m ([.ref h] : List Value).toArray below meth c H locs 84 665 Q (F0 m 97 ls []) := by
          intro n
          induction n with
          | zero => intro y R hy9 hCT hn; exact absurd hn (by omega)
          | succ n ih_ly =>
            intro y R hy9 hCT hn H locs ls hP hD hS hl
            refine lv_iload hx hb dX2_counts_97 (lv_at hl 4 rfl) ?_
            refine lv_bipush (v := 8) hx hb dX2_counts_99 (by decide) ?_
            rcases Nat.lt_or_ge y 8 with hy8 | g2
            · skip
              have hp64 : 8 * y + x < 64 := by omega
              obtain ⟨v, hv7, hkv⟩ := kd_nat (hkd _ hp64)
              refine lv_icmp_ge (tgt := 155) hx hb dX2_counts_101 (by decide) (fun c => absurd c (lt_n (n := 8) hy8 (by decide))) (fun _ => ?_)
              refine lv_aload_n hx hb dX2_counts_104 rfl (lv_at hl 1 rfl) ?_
              refine lv_iconst (v := 2) hx hb dX2_counts_105 (by decide) ?_
              refine lv_aload_n hx hb dX2_counts_106 rfl (lv_at hl 0 rfl) ?_
              refine va_get (D := G) (ci := 2) (v := .ref o) (C := RX2) (T := TX2) (N := 4) hx hb hts hinX2 hown hK hP 0 rfl rfl 0 (by decide) hf9 (fun _ h9 => h9) rfl dX2_counts_107 ?_
              refine lv_iload_n hx hb dX2_counts_110 rfl (lv_at hl 3 rfl) ?_
              refine g_ald (r := r) (n := 8) hx hb hK hP 1 1 rfl rfl (x := x) (hx8) (by decide) dX2_counts_111 ?_
              refine lv_iload hx hb dX2_counts_112 (lv_at hl 4 rfl) ?_
              refine g_iald (pre := [(h, oS o mo co le)]) (post := [(q9, iB (cs 0) 13 R), (oq, oQ (cs 1) 8 rq), ((rq 0), iB (cs 0) 8 (cl8 Qa 0)), ((rq 1), iB (cs 0) 8 (cl8 Qa 1)), ((rq 2), iB (cs 0) 8 (cl8 Qa 2)), ((rq 3), iB (cs 0) 8 (cl8 Qa 3)), ((rq 4), iB (cs 0) 8 (cl8 Qa 4)), ((rq 5), iB (cs 0) 8 (cl8 Qa 5)), ((rq 6), iB (cs 0) 8 (cl8 Qa 6)), ((rq 7), iB (cs 0) 8 (cl8 Qa 7))]) (cO := (cs 1)) (cR := (cs 0)) (o := o) (r := r) (K := K) hx hb hK hP 0 rfl (x := x) (y := y) (hx8) (hy8) dX2_counts_114 ?_
              refine tpi (x' := nI v) ((hk _ hp64).trans hkv) ?_
              refine lv_iadd hx hb dX2_counts_115 ?_
              refine tpi (x' := nI (2 + v)) (nI_add 2 v) ?_
              refine lv_dup2_11 hx hb dX2_counts_116 rfl rfl ?_
              refine tpi (x' := nI (2 + v)) (rfl) ?_
              refine va_iald hx hb hK hP 10 0 rfl rfl (vp_in_nI (n := (2 + v)) (N := 13) (by omega) (by decide)) dX2_counts_117 ?_
              refine tpi (x' := R (2 + v)) (congrArg R (nI_clamp (n := (2 + v)) (by omega))) ?_
              refine lv_iconst (v := 1) hx hb dX2_counts_118 (by decide) ?_
              refine lv_iadd hx hb dX2_counts_119 ?_
              refine W.eq (g2 := F0 m 120 ls [.int ((R (2 + v)) + 1), .int (nI (2 + v)), .ref q9]) rfl ?_
              refine va_iast hx hb hK hP hD hS 10 0 rfl rfl (vp_in_nI (n := (2 + v)) (N := 13) (by omega) (by decide)) dX2_counts_120 (fun H locs hP hD hS => ?_)
              rw [nI_clamp (n := (2 + v)) (by omega)] at hP hD
              have hP : va_P G vwCl [(h, oS o mo co le), (o, oQ (cs 1) 8 r), ((r 0), iB (cs 0) 8 (cl8 K 0)), ((r 1), iB (cs 0) 8 (cl8 K 1)), ((r 2), iB (cs 0) 8 (cl8 K 2)), ((r 3), iB (cs 0) 8 (cl8 K 3)), ((r 4), iB (cs 0) 8 (cl8 K 4)), ((r 5), iB (cs 0) 8 (cl8 K 5)), ((r 6), iB (cs 0) 8 (cl8 K 6)), ((r 7), iB (cs 0) 8 (cl8 K 7)), (q9, iB (cs 0) 13 (upd R (2 + v) ((R (2 + v)) + 1))), (oq, oQ (cs 1) 8 rq), ((rq 0), iB (cs 0) 8 (cl8 Qa 0)), ((rq 1), iB (cs 0) 8 (cl8 Qa 1)), ((rq 2), iB (cs 0) 8 (cl8 Qa 2)), ((rq 3), iB (cs 0) 8 (cl8 Qa 3)), ((rq 4), iB (cs 0) 8 (cl8 Qa 4)), ((rq 5), iB (cs 0) 8 (cl8 Qa 5)), ((rq 6), iB (cs 0) 8 (cl8 Qa 6)), ((rq 7), iB (cs 0) 8 (cl8 Qa 7))] H := hP
              have hD : va_D A [(h, oS o mo co le), (o, oQ (cs 1) 8 r), ((r 0), iB (cs 0) 8 (cl8 K 0)), ((r 1), iB (cs 0) 8 (cl8 K 1)), ((r 2), iB (cs 0) 8 (cl8 K 2)), ((r 3), iB (cs 0) 8 (cl8 K 3)), ((r 4), iB (cs 0) 8 (cl8 K 4)), ((r 5), iB (cs 0) 8 (cl8 K 5)), ((r 6), iB (cs 0) 8 (cl8 K 6)), ((r 7), iB (cs 0) 8 (cl8 K 7)), (q9, iB (cs 0) 13 (upd R (2 + v) ((R (2 + v)) + 1))), (oq, oQ (cs 1) 8 rq), ((rq 0), iB (cs 0) 8 (cl8 Qa 0)), ((rq 1), iB (cs 0) 8 (cl8 Qa 1)), ((rq 2), iB (cs 0) 8 (cl8 Qa 2)), ((rq 3), iB (cs 0) 8 (cl8 Qa 3)), ((rq 4), iB (cs 0) 8 (cl8 Qa 4)), ((rq 5), iB (cs 0) 8 (cl8 Qa 5)), ((rq 6), iB (cs 0) 8 (cl8 Qa 6)), ((rq 7), iB (cs 0) 8 (cl8 Qa 7))] := hD
              obtain ⟨Ra, hRa⟩ : ∃ z, z = (upd R (2 + v) ((R (2 + v)) + 1)) := ⟨_, rfl⟩
              rw [← hRa] at hP hD
              have hP : va_P G vwCl [(h, oS o mo co le), (o, oQ (cs 1) 8 r), ((r 0), iB (cs 0) 8 (cl8 K 0)), ((r 1), iB (cs 0) 8 (cl8 K 1)), ((r 2), iB (cs 0) 8 (cl8 K 2)), ((r 3), iB (cs 0) 8 (cl8 K 3)), ((r 4), iB (cs 0) 8 (cl8 K 4)), ((r 5), iB (cs 0) 8 (cl8 K 5)), ((r 6), iB (cs 0) 8 (cl8 K 6)), ((r 7), iB (cs 0) 8 (cl8 K 7)), (q9, iB (cs 0) 13 Ra), (oq, oQ (cs 1) 8 rq), ((rq 0), iB (cs 0) 8 (cl8 Qa 0)), ((rq 1), iB (cs 0) 8 (cl8 Qa 1)), ((rq 2), iB (cs 0) 8 (cl8 Qa 2)), ((rq 3), iB (cs 0) 8 (cl8 Qa 3)), ((rq 4), iB (cs 0) 8 (cl8 Qa 4)), ((rq 5), iB (cs 0) 8 (cl8 Qa 5)), ((rq 6), iB (cs 0) 8 (cl8 Qa 6)), ((rq 7), iB (cs 0) 8 (cl8 Qa 7))] H := hP
              have hD : va_D A [(h, oS o mo co le), (o, oQ (cs 1) 8 r), ((r 0), iB (cs 0) 8 (cl8 K 0)), ((r 1), iB (cs 0) 8 (cl8 K 1)), ((r 2), iB (cs 0) 8 (cl8 K 2)), ((r 3), iB (cs 0) 8 (cl8 K 3)), ((r 4), iB (cs 0) 8 (cl8 K 4)), ((r 5), iB (cs 0) 8 (cl8 K 5)), ((r 6), iB (cs 0) 8 (cl8 K 6)), ((r 7), iB (cs 0) 8 (cl8 K 7)), (q9, iB (cs 0) 13 Ra), (oq, oQ (cs 1) 8 rq), ((rq 0), iB (cs 0) 8 (cl8 Qa 0)), ((rq 1), iB (cs 0) 8 (cl8 Qa 1)), ((rq 2), iB (cs 0) 8 (cl8 Qa 2)), ((rq 3), iB (cs 0) 8 (cl8 Qa 3)), ((rq 4), iB (cs 0) 8 (cl8 Qa 4)), ((rq 5), iB (cs 0) 8 (cl8 Qa 5)), ((rq 6), iB (cs 0) 8 (cl8 Qa 6)), ((rq 7), iB (cs 0) 8 (cl8 Qa 7))] := hD
              refine lv_aload_n hx hb dX2_counts_121 rfl (lv_at hl 1 rfl) ?_
              refine lv_bipush (v := 9) hx hb dX2_counts_122 (by decide) ?_
              refine lv_dup2_11 hx hb dX2_counts_124 rfl rfl ?_
              refine tpi (x' := nI 9) (rfl) ?_
              refine va_iald hx hb hK hP 10 0 rfl rfl (vp_in_nI (n := 9) (N := 13) (by decide) (by decide)) dX2_counts_125 ?_
              refine tpi (x' := Ra 9) (congrArg Ra (nI_clamp (n := 9) (by omega))) ?_
              refine lv_aload_n hx hb dX2_counts_126 rfl (lv_at hl 2 rfl) ?_
              refine lv_iload_n hx hb dX2_counts_127 rfl (lv_at hl 3 rfl) ?_
              refine g_ald (r := rq) (n := 8) hx hb hK hP 11 1 rfl rfl (x := x) (hx8) (by decide) dX2_counts_128 ?_
              refine lv_iload hx hb dX2_counts_129 (lv_at hl 4 rfl) ?_
              refine g_iald (pre := [(h, oS o mo co le), (o, oQ (cs 1) 8 r), ((r 0), iB (cs 0) 8 (cl8 K 0)), ((r 1), iB (cs 0) 8 (cl8 K 1)), ((r 2), iB (cs 0) 8 (cl8 K 2)), ((r 3), iB (cs 0) 8 (cl8 K 3)), ((r 4), iB (cs 0) 8 (cl8 K 4)), ((r 5), iB (cs 0) 8 (cl8 K 5)), ((r 6), iB (cs 0) 8 (cl8 K 6)), ((r 7), iB (cs 0) 8 (cl8 K 7)), (q9, iB (cs 0) 13 Ra)]) (post := []) (cO := (cs 1)) (cR := (cs 0)) (o := oq) (r := rq) (K := Qa) hx hb hK hP 0 rfl (x := x) (y := y) (hx8) (hy8) dX2_counts_131 ?_
              refine tpi (x' := toI (qrt k (8 * y + x))) (hQa _ hp64) ?_
              refine lv_bipush (v := 8) hx hb dX2_counts_132 (by decide) ?_
              refine lv_iload hx hb dX2_counts_134 (lv_at hl 4 rfl) ?_
              refine lv_imul hx hb dX2_counts_136 ?_
              refine tpi (x' := nI (8 * y)) (pk_mul 8 y) ?_
              refine lv_iload_n hx hb dX2_counts_137 rfl (lv_at hl 3 rfl) ?_
              refine lv_iadd hx hb dX2_counts_138 ?_
              refine tpi (x' := nI (8 * y + x)) (nI_add (8 * y) x) ?_
              have j1 : ∀ (H : Heap) (locs : List Loc), va_P G vwCl [(h, oS o mo co le), (o, oQ (cs 1) 8 r), ((r 0), iB (cs 0) 8 (cl8 K 0)), ((r 1), iB (cs 0) 8 (cl8 K 1)), ((r 2), iB (cs 0) 8 (cl8 K 2)), ((r 3), iB (cs 0) 8 (cl8 K 3)), ((r 4), iB (cs 0) 8 (cl8 K 4)), ((r 5), iB (cs 0) 8 (cl8 K 5)), ((r 6), iB (cs 0) 8 (cl8 K 6)), ((r 7), iB (cs 0) 8 (cl8 K 7)), (q9, iB (cs 0) 13 Ra), (oq, oQ (cs 1) 8 rq), ((rq 0), iB (cs 0) 8 (cl8 Qa 0)), ((rq 1), iB (cs 0) 8 (cl8 Qa 1)), ((rq 2), iB (cs 0) 8 (cl8 Qa 2)), ((rq 3), iB (cs 0) 8 (cl8 Qa 3)), ((rq 4), iB (cs 0) 8 (cl8 Qa 4)), ((rq 5), iB (cs 0) 8 (cl8 Qa 5)), ((rq 6), iB (cs 0) 8 (cl8 Qa 6)), ((rq 7), iB (cs 0) 8 (cl8 Qa 7))] H → va_D A [(h, oS o mo co le), (o, oQ (cs 1) 8 r), ((r 0), iB (cs 0) 8 (cl8 K 0)), ((r 1), iB (cs 0) 8 (cl8 K 1)), ((r 2), iB (cs 0) 8 (cl8 K 2)), ((r 3), iB (cs 0) 8 (cl8 K 3)), ((r 4), iB (cs 0) 8 (cl8 K 4)), ((r 5), iB (cs 0) 8 (cl8 K 5)), ((r 6), iB (cs 0) 8 (cl8 K 6)), ((r 7), iB (cs 0) 8 (cl8 K 7)), (q9, iB (cs 0) 13 Ra), (oq, oQ (cs 1) 8 rq), ((rq 0), iB (cs 0) 8 (cl8 Qa 0)), ((rq 1), iB (cs 0) 8 (cl8 Qa 1)), ((rq 2), iB (cs 0) 8 (cl8 Qa 2)), ((rq 3), iB (cs 0) 8 (cl8 Qa 3)), ((rq 4), iB (cs 0) 8 (cl8 Qa 4)), ((rq 5), iB (cs 0) 8 (cl8 Qa 5)), ((rq 6), iB (cs 0) 8 (cl8 Qa 6)), ((rq 7), iB (cs 0) 8 (cl8 Qa 7))] → va_S A s.heap H locs → W p l e (headSpec wsX2_counts rmX2_counts).room s m ([.ref h] : List Value).toArray below meth c H locs 84 665 Q (F0 m 147 ls [.int (qI k (8 * y + x)), .int (Ra 9), .int 9, .ref q9]) := by
                intro H locs hP hD hS
                refine lv_iadd hx hb dX2_counts_147 ?_
                refine W.eq (g2 := F0 m 148 ls [.int ((Ra 9) + (qI k (8 * y + x))), .int (nI 9), .ref q9]) rfl ?_
                refine va_iast hx hb hK hP hD hS 10 0 rfl rfl (vp_in_nI (n := 9) (N := 13) (by decide) (by decide)) dX2_counts_148 (fun H locs hP hD hS => ?_)
                rw [nI_clamp (n := 9) (by omega)] at hP hD
                have hP : va_P G vwCl [(h, oS o mo co le), (o, oQ (cs 1) 8 r), ((r 0), iB (cs 0) 8 (cl8 K 0)), ((r 1), iB (cs 0) 8 (cl8 K 1)), ((r 2), iB (cs 0) 8 (cl8 K 2)), ((r 3), iB (cs 0) 8 (cl8 K 3)), ((r 4), iB (cs 0) 8 (cl8 K 4)), ((r 5), iB (cs 0) 8 (cl8 K 5)), ((r 6), iB (cs 0) 8 (cl8 K 6)), ((r 7), iB (cs 0) 8 (cl8 K 7)), (q9, iB (cs 0) 13 (upd Ra 9 ((Ra 9) + (qI k (8 * y + x))))), (oq, oQ (cs 1) 8 rq), ((rq 0), iB (cs 0) 8 (cl8 Qa 0)), ((rq 1), iB (cs 0) 8 (cl8 Qa 1)), ((rq 2), iB (cs 0) 8 (cl8 Qa 2)), ((rq 3), iB (cs 0) 8 (cl8 Qa 3)), ((rq 4), iB (cs 0) 8 (cl8 Qa 4)), ((rq 5), iB (cs 0) 8 (cl8 Qa 5)), ((rq 6), iB (cs 0) 8 (cl8 Qa 6)), ((rq 7), iB (cs 0) 8 (cl8 Qa 7))] H := hP
                have hD : va_D A [(h, oS o mo co le), (o, oQ (cs 1) 8 r), ((r 0), iB (cs 0) 8 (cl8 K 0)), ((r 1), iB (cs 0) 8 (cl8 K 1)), ((r 2), iB (cs 0) 8 (cl8 K 2)), ((r 3), iB (cs 0) 8 (cl8 K 3)), ((r 4), iB (cs 0) 8 (cl8 K 4)), ((r 5), iB (cs 0) 8 (cl8 K 5)), ((r 6), iB (cs 0) 8 (cl8 K 6)), ((r 7), iB (cs 0) 8 (cl8 K 7)), (q9, iB (cs 0) 13 (upd Ra 9 ((Ra 9) + (qI k (8 * y + x))))), (oq, oQ (cs 1) 8 rq), ((rq 0), iB (cs 0) 8 (cl8 Qa 0)), ((rq 1), iB (cs 0) 8 (cl8 Qa 1)), ((rq 2), iB (cs 0) 8 (cl8 Qa 2)), ((rq 3), iB (cs 0) 8 (cl8 Qa 3)), ((rq 4), iB (cs 0) 8 (cl8 Qa 4)), ((rq 5), iB (cs 0) 8 (cl8 Qa 5)), ((rq 6), iB (cs 0) 8 (cl8 Qa 6)), ((rq 7), iB (cs 0) 8 (cl8 Qa 7))] := hD
                refine lv_iinc (v := nI (y + 1)) (lv' := [(4, .int (nI (y + 1))), (0, .ref h), (1, .ref q9), (2, .ref oq), (3, .int (nI x))]) hx hb dX2_counts_149 hl (k := 4) rfl (nI_inc y) (by decide) rfl (fun ls hl => ?_)
                refine lv_goto (tgt := 97) hx hb dX2_counts_152 (by decide) ?_
                have hCT2 := CT_step hCT hv7 hkv
                rw [← hRa] at hCT2
                exact ih_ly (y + 1) (upd Ra 9 (Ra 9 + qI k (8 * y + x))) (by omega) (hCT2) (by omega) _ _ _ hP hD hS (lv_sub hl [1, 2, 3, 4, 0] (rfl))
              refine lv_icmp_ne (tgt := 146) hx hb dX2_counts_139 (by decide) (fun c9 => ?_) (fun c9 => ?_)
              · skip
                refine lv_iconst (v := 0) hx hb dX2_counts_146 (by decide) ?_
                refine tpi (x' := qI k (8 * y + x)) (by unfold qI; rw [if_neg (fun e9 => c9 (by rw [e9]; rfl))]) ?_
                exact j1 H locs hP hD hS
              · skip
                refine lv_iconst (v := 1) hx hb dX2_counts_142 (by decide) ?_
                refine lv_goto (tgt := 147) hx hb dX2_counts_143 (by decide) ?_
                refine tpi (x' := qI k (8 * y + x)) (by unfold qI; rw [if_pos (toI_eq (fun q hq => Nat.lt_of_le_of_lt (qrt_le hq) hp64) hp64 c9)]) ?_
                exact j1 H locs hP hD hS
            · skip
              have g2 : y = 8 := by omega
              subst g2
              refine lv_icmp_ge (tgt := 155) hx hb dX2_counts_101 (by decide) (fun _ => ?_) (fun c => absurd (le_n (n := 8) (i := 8) (by decide) (by decide)) c)
              refine lv_iinc (v := nI (x + 1)) (lv' := [(3, .int (nI (x + 1))), (0, .ref h), (1, .ref q9), (2, .ref oq), (4, .int (nI 8))]) hx hb dX2_counts_155 hl (k := 3) rfl (nI_inc x) (by decide) rfl (fun ls hl => ?_)
              refine lv_goto (tgt := 88) hx hb dX2_counts_158 (by decide) ?_
              exact ih_lx (x + 1) R (by omega) (CT_row hCT) (by omega) _ _ _ hP hD hS (lv_sub hl [1, 2, 3, 0] (rfl))
        exact ly (_ + 1) 0 R (by omega) (hCT) (Nat.lt_succ_self _) _ _ _ hP hD hS (lv_sub hl [1, 2, 3, 4, 0] rfl)
      · skip
        have g : x = 8 := by omega
        subst g
        refine lv_icmp_ge (tgt := 161) hx hb dX2_counts_91 (by decide) (fun _ => ?_) (fun c => absurd (le_n (n := 8) (i := 8) (by decide) (by decide)) c)
        refine lv_aload_n hx hb dX2_counts_161 rfl (lv_at hl 1 rfl) ?_
        have hP := hP.sub (ws' := [(h, oS o mo co le), (o, oQ (cs 1) 8 r), ((r 0), iB (cs 0) 8 (cl8 K 0)), ((r 1), iB (cs 0) 8 (cl8 K 1)), ((r 2), iB (cs 0) 8 (cl8 K 2)), ((r 3), iB (cs 0) 8 (cl8 K 3)), ((r 4), iB (cs 0) 8 (cl8 K 4)), ((r 5), iB (cs 0) 8 (cl8 K 5)), ((r 6), iB (cs 0) 8 (cl8 K 6)), ((r 7), iB (cs 0) 8 (cl8 K 7)), (q9, iB (cs 0) 13 R)]) [0, 1, 2, 3, 4, 5, 6, 7, 8, 9, 10] rfl
        have hD := hD.sub (ws' := [(h, oS o mo co le), (o, oQ (cs 1) 8 r), ((r 0), iB (cs 0) 8 (cl8 K 0)), ((r 1), iB (cs 0) 8 (cl8 K 1)), ((r 2), iB (cs 0) 8 (cl8 K 2)), ((r 3), iB (cs 0) 8 (cl8 K 3)), ((r 4), iB (cs 0) 8 (cl8 K 4)), ((r 5), iB (cs 0) 8 (cl8 K 5)), ((r 6), iB (cs 0) 8 (cl8 K 6)), ((r 7), iB (cs 0) 8 (cl8 K 7)), (q9, iB (cs 0) 13 R)]) [0, 1, 2, 3, 4, 5, 6, 7, 8, 9, 10] (by decide) rfl
        subst hQ
        subst hAe
        exact wr_r R (CT_end hCT) hx hb hr hP hD hS hlocks dX2_counts_162
  exact lx (_ + 1) 0 R12 (by omega) (hCT) (Nat.lt_succ_self _) _ _ _ hP hD hS (lv_sub hl [3, 2, 1, 0] rfl)

theorem fld_eq {k : Nat → Int32} {o : Option Nat} {b : Bool} (h : lnO k o = b) : b2i (lnO k o) = b2i b := by rw [h]
theorem mo_or {mo : Nat} {b : Bool} (h : mo = 0 ∨ mo = 1) : nI mo ||| b2i b = nI (if b = true then 1 else mo) := by
  rcases h with rfl | rfl <;> cases b <;> decide
theorem SQ_mo {k : Nat → Int32} {v : Nat → Nat} {S0 mo : Nat} {P : Nat → Prop} (h : SQ k v S0 P mo) : mo = 0 ∨ mo = 1 := h.elim (fun h => Or.inl h.1) (fun h => Or.inr h.1)
theorem SU_mo {k : Nat → Int32} {u : Nat → Nat} {S0 n mo : Nat} (h : SU k u S0 n mo) : mo = 0 ∨ mo = 1 := h.elim (fun h => Or.inl h.1) (fun h => Or.inr h.1)
def mk0 (k : Nat → Int32) (p : Nat) : Int32 := if lnd (k p) = true then nI p else -1
theorem QV_0 (k : Nat → Int32) : QV k (fun p => p) := fun p _ hl => ⟨Nat.le_refl _, hl, 0, rfl⟩
theorem nI_ltb {a b : Nat} (ha : a < 2 ^ 31) (hb : b < 2 ^ 31) : (nI a < nI b) ↔ a < b := by
  rw [Int32.lt_iff_toInt_lt, nI_toInt ha, nI_toInt hb]
  omega
theorem lst_31 {k : Nat → Int32} {v : Nat → Nat} {p : Nat} (h : v p < 64) : lst k v p < 64 := Nat.lt_of_le_of_lt (lst_le k v p) h

def rmX2_quarters : Room := { frames := 2, cells := 9, slots := 72, locals := 44 }
set_option maxHeartbeats 4000000 in
set_option maxRecDepth 100000 in
/-- the quarters, spread till none changes -/
theorem c_X2_quarters (l : Launch) (G : va_G) (cs : Nat → ClassId) (h o : Nat) (r : Nat → Nat) (mo co le : Int32) (K k : Nat → Int32) (hk : eqK K k) (hkd : ∀ x, x < 64 → kd (k x)) (sz : Nat) : Met l yX2_quarters wsX2_quarters rmX2_quarters (va_Pc [.ref h] (WsP G cs [(h, oS o mo co le), (o, oQ (cs 1) 8 r), ((r 0), iB (cs 0) 8 (cl8 K 0)), ((r 1), iB (cs 0) 8 (cl8 K 1)), ((r 2), iB (cs 0) 8 (cl8 K 2)), ((r 3), iB (cs 0) 8 (cl8 K 3)), ((r 4), iB (cs 0) 8 (cl8 K 4)), ((r 5), iB (cs 0) 8 (cl8 K 5)), ((r 6), iB (cs 0) 8 (cl8 K 6)), ((r 7), iB (cs 0) 8 (cl8 K 7))] sz)) (va_Qr (fun (u : (Nat → Nat) × (Nat → Int32)) => hatQ k u.2) (WrBr G [(h, oS o mo co le), (o, oQ (cs 1) 8 r), ((r 0), iB (cs 0) 8 (cl8 K 0)), ((r 1), iB (cs 0) 8 (cl8 K 1)), ((r 2), iB (cs 0) 8 (cl8 K 2)), ((r 3), iB (cs 0) 8 (cl8 K 3)), ((r 4), iB (cs 0) 8 (cl8 K 4)), ((r 5), iB (cs 0) 8 (cl8 K 5)), ((r 6), iB (cs 0) 8 (cl8 K 6)), ((r 7), iB (cs 0) 8 (cl8 K 7))] sz (fun u ra => [(h, oS o mo co le), (o, oQ (cs 1) 8 r), ((r 0), iB (cs 0) 8 (cl8 K 0)), ((r 1), iB (cs 0) 8 (cl8 K 1)), ((r 2), iB (cs 0) 8 (cl8 K 2)), ((r 3), iB (cs 0) 8 (cl8 K 3)), ((r 4), iB (cs 0) 8 (cl8 K 4)), ((r 5), iB (cs 0) 8 (cl8 K 5)), ((r 6), iB (cs 0) 8 (cl8 K 6)), ((r 7), iB (cs 0) 8 (cl8 K 7)), (ra, oQ (cs 1) 8 (u.1)), (((u.1) 0), iB (cs 0) 8 (cl8 (u.2) 0)), (((u.1) 1), iB (cs 0) 8 (cl8 (u.2) 1)), (((u.1) 2), iB (cs 0) 8 (cl8 (u.2) 2)), (((u.1) 3), iB (cs 0) 8 (cl8 (u.2) 3)), (((u.1) 4), iB (cs 0) 8 (cl8 (u.2) 4)), (((u.1) 5), iB (cs 0) 8 (cl8 (u.2) 5)), (((u.1) 6), iB (cs 0) 8 (cl8 (u.2) 6)), (((u.1) 7), iB (cs 0) 8 (cl8 (u.2) 7))])) (va_A [(h, oS o mo co le), (o, oQ (cs 1) 8 r), ((r 0), iB (cs 0) 8 (cl8 K 0)), ((r 1), iB (cs 0) 8 (cl8 K 1)), ((r 2), iB (cs 0) 8 (cl8 K 2)), ((r 3), iB (cs 0) 8 (cl8 K 3)), ((r 4), iB (cs 0) 8 (cl8 K 4)), ((r 5), iB (cs 0) 8 (cl8 K 5)), ((r 6), iB (cs 0) 8 (cl8 K 6)), ((r 7), iB (cs 0) 8 (cl8 K 7))] sz)) 9 72 (va_A [(h, oS o mo co le), (o, oQ (cs 1) 8 r), ((r 0), iB (cs 0) 8 (cl8 K 0)), ((r 1), iB (cs 0) 8 (cl8 K 1)), ((r 2), iB (cs 0) 8 (cl8 K 2)), ((r 3), iB (cs 0) 8 (cl8 K 3)), ((r 4), iB (cs 0) 8 (cl8 K 4)), ((r 5), iB (cs 0) 8 (cl8 K 5)), ((r 6), iB (cs 0) 8 (cl8 K 6)), ((r 7), iB (cs 0) 8 (cl8 K 7))] sz) := by
  refine Met.ofW (cc := cX2_quarters) (maxL := 6) (ret := (some (.array (.array .int)))) (by decide) rfl ?_
  intro p e s m args below meth c s₁ B hml hv
  obtain ⟨rfl, hsz, hP, hK, hD0, hN⟩ := hv
  have hx := B.exec
  have hb := B.bytes
  have hr := B.returns
  have hlocks := B.notSynchronized
  have hts := atoms_spec (ws := wsX2_quarters) B.pre
  have hown : s.vm.findClass RX2 = some m.cls := findClass_of_methodNamed B.named
  subst hsz
  have hD := hD0.self (sz := s.heap.size)
  have hA : ∀ q : Nat, s.heap.size ≤ q → va_A [(h, oS o mo co le), (o, oQ (cs 1) 8 r), ((r 0), iB (cs 0) 8 (cl8 K 0)), ((r 1), iB (cs 0) 8 (cl8 K 1)), ((r 2), iB (cs 0) 8 (cl8 K 2)), ((r 3), iB (cs 0) 8 (cl8 K 3)), ((r 4), iB (cs 0) 8 (cl8 K 4)), ((r 5), iB (cs 0) 8 (cl8 K 5)), ((r 6), iB (cs 0) 8 (cl8 K 6)), ((r 7), iB (cs 0) 8 (cl8 K 7))] s.heap.size q := fun q h => Or.inr h
  have hS : va_S (va_A [(h, oS o mo co le), (o, oQ (cs 1) 8 r), ((r 0), iB (cs 0) 8 (cl8 K 0)), ((r 1), iB (cs 0) 8 (cl8 K 1)), ((r 2), iB (cs 0) 8 (cl8 K 2)), ((r 3), iB (cs 0) 8 (cl8 K 3)), ((r 4), iB (cs 0) 8 (cl8 K 4)), ((r 5), iB (cs 0) 8 (cl8 K 5)), ((r 6), iB (cs 0) 8 (cl8 K 6)), ((r 7), iB (cs 0) 8 (cl8 K 7))] s.heap.size) s.heap s.heap [] := va_S.rf
  obtain ⟨A, hAe⟩ : ∃ A, A = va_A [(h, oS o mo co le), (o, oQ (cs 1) 8 r), ((r 0), iB (cs 0) 8 (cl8 K 0)), ((r 1), iB (cs 0) 8 (cl8 K 1)), ((r 2), iB (cs 0) 8 (cl8 K 2)), ((r 3), iB (cs 0) 8 (cl8 K 3)), ((r 4), iB (cs 0) 8 (cl8 K 4)), ((r 5), iB (cs 0) 8 (cl8 K 5)), ((r 6), iB (cs 0) 8 (cl8 K 6)), ((r 7), iB (cs 0) 8 (cl8 K 7))] s.heap.size := ⟨_, rfl⟩
  rw [← hAe] at hD hA hS
  have FX : CallFix p m c cX2_quarters 6 s ([.ref h] : List Value).toArray wsX2_quarters RX2 := ⟨hx, hb, hml, hown, hts⟩
  have hl := lv_entry ([.ref h]) (n := 6) (Nat.le_of_ble_eq_true rfl)
  rw [lg_entry_eq]
  generalize (lg_sl ([.ref h]) ++ List.replicate (6 - (lg_sl ([.ref h])).length) Slot.unset).toArray = ls at hl ⊢
  have hl : lv_has ls 6 [(0, .ref h)] := hl
  refine wq (fun Q hQ => ?_)
  have hzc : 0 + 0 ≤ (headSpec wsX2_quarters rmX2_quarters).room.cells := Nat.zero_le _
  have hzs : 0 + 0 ≤ (headSpec wsX2_quarters rmX2_quarters).room.slots := Nat.zero_le _
  refine lv_bipush (v := 8) hx hb dX2_quarters_0 (by decide) ?_
  refine lv_bipush (v := 8) hx hb dX2_quarters_2 (by decide) ?_
  have hP0 : va_P G vwCl ([(h, oS o mo co le), (o, oQ (cs 1) 8 r), ((r 0), iB (cs 0) 8 (cl8 K 0)), ((r 1), iB (cs 0) 8 (cl8 K 1)), ((r 2), iB (cs 0) 8 (cl8 K 2)), ((r 3), iB (cs 0) 8 (cl8 K 3)), ((r 4), iB (cs 0) 8 (cl8 K 4)), ((r 5), iB (cs 0) 8 (cl8 K 5)), ((r 6), iB (cs 0) 8 (cl8 K 6)), ((r 7), iB (cs 0) 8 (cl8 K 7))] ++ va_pl [] (fun _ => iB (cs 0) 8 (fun _ => 0))) s.heap := by rw [show va_pl [] (fun _ => iB (cs 0) 8 (fun _ => 0)) = [] from rfl, List.append_nil]; exact hP
  have hD0 : va_D A ([(h, oS o mo co le), (o, oQ (cs 1) 8 r), ((r 0), iB (cs 0) 8 (cl8 K 0)), ((r 1), iB (cs 0) 8 (cl8 K 1)), ((r 2), iB (cs 0) 8 (cl8 K 2)), ((r 3), iB (cs 0) 8 (cl8 K 3)), ((r 4), iB (cs 0) 8 (cl8 K 4)), ((r 5), iB (cs 0) 8 (cl8 K 5)), ((r 6), iB (cs 0) 8 (cl8 K 6)), ((r 7), iB (cs 0) 8 (cl8 K 7))] ++ va_pl [] (fun _ => iB (cs 0) 8 (fun _ => 0))) := by rw [show va_pl [] (fun _ => iB (cs 0) 8 (fun _ => 0)) = [] from rfl, List.append_nil]; exact hD
  refine va_mna (ty := .int) (cy := (cs 0)) (N' := 8) (K' := 8) (n := 8) (k := 8) (z := (8, .inl (fun _ => 0))) hx hb hown (hts (.classLink RX2 7 ("[" ++ (FieldType.array .int).toString)) (by decide +kernel)) (AOs_use (t := .int) hN.2.1.1) (hts (.arrayClass .int) (by decide +kernel)) ((hK.2 0 _ rfl).2) hK hP0 hD0 hS hA (by decide) (by decide) (by decide) (by decide) (by decide) (by decide) (by decide) rfl rfl (Nat.le_of_ble_eq_true rfl) (Nat.le_of_ble_eq_true rfl) (fun c9 => (arrV_new c9 8 _)) dX2_quarters_4 (fun o9 r9 cA H hr9 hl9 hK9 hP hD hS => ?_)
  have hc9 : cA = (cs 1) := Option.some.inj (((hK9.2 5 (cA, .array .int) rfl).2 : s.vm.findClass _ = some cA).symm.trans ((hK.2 1 _ rfl).2 : s.vm.findClass _ = some (cs 1)))
  rw [hc9] at hP hD
  clear hP0 hD0 hK9 hc9
  rw [List.append_assoc, gW_new] at hP hD
  have hP : va_P G vwCl [(h, oS o mo co le), (o, oQ (cs 1) 8 r), ((r 0), iB (cs 0) 8 (cl8 K 0)), ((r 1), iB (cs 0) 8 (cl8 K 1)), ((r 2), iB (cs 0) 8 (cl8 K 2)), ((r 3), iB (cs 0) 8 (cl8 K 3)), ((r 4), iB (cs 0) 8 (cl8 K 4)), ((r 5), iB (cs 0) 8 (cl8 K 5)), ((r 6), iB (cs 0) 8 (cl8 K 6)), ((r 7), iB (cs 0) 8 (cl8 K 7)), (o9, oQ (cs 1) 8 r9), ((r9 0), iB (cs 0) 8 (cl8 (fun _ => 0) 0)), ((r9 1), iB (cs 0) 8 (cl8 (fun _ => 0) 1)), ((r9 2), iB (cs 0) 8 (cl8 (fun _ => 0) 2)), ((r9 3), iB (cs 0) 8 (cl8 (fun _ => 0) 3)), ((r9 4), iB (cs 0) 8 (cl8 (fun _ => 0) 4)), ((r9 5), iB (cs 0) 8 (cl8 (fun _ => 0) 5)), ((r9 6), iB (cs 0) 8 (cl8 (fun _ => 0) 6)), ((r9 7), iB (cs 0) 8 (cl8 (fun _ => 0) 7))] H := hP
  have hD : va_D A [(h, oS o mo co le), (o, oQ (cs 1) 8 r), ((r 0), iB (cs 0) 8 (cl8 K 0)), ((r 1), iB (cs 0) 8 (cl8 K 1)), ((r 2), iB (cs 0) 8 (cl8 K 2)), ((r 3), iB (cs 0) 8 (cl8 K 3)), ((r 4), iB (cs 0) 8 (cl8 K 4)), ((r 5), iB (cs 0) 8 (cl8 K 5)), ((r 6), iB (cs 0) 8 (cl8 K 6)), ((r 7), iB (cs 0) 8 (cl8 K 7)), (o9, oQ (cs 1) 8 r9), ((r9 0), iB (cs 0) 8 (cl8 (fun _ => 0) 0)), ((r9 1), iB (cs 0) 8 (cl8 (fun _ => 0) 1)), ((r9 2), iB (cs 0) 8 (cl8 (fun _ => 0) 2)), ((r9 3), iB (cs 0) 8 (cl8 (fun _ => 0) 3)), ((r9 4), iB (cs 0) 8 (cl8 (fun _ => 0) 4)), ((r9 5), iB (cs 0) 8 (cl8 (fun _ => 0) 5)), ((r9 6), iB (cs 0) 8 (cl8 (fun _ => 0) 6)), ((r9 7), iB (cs 0) 8 (cl8 (fun _ => 0) 7))] := hD
  refine W.widen (k := 9) (n := 72) (by decide) (by decide) ?_
  refine lv_astore_n (lv' := [(1, .ref o9), (0, .ref h)]) hx hb dX2_quarters_8 rfl hl (by decide) rfl (fun ls hl => ?_)
  refine lv_iconst (v := 0) hx hb dX2_quarters_9 (by decide) ?_
  refine lv_istore_n (lv' := [(2, .int 0), (1, .ref o9), (0, .ref h)]) hx hb dX2_quarters_10 rfl hl (by decide) rfl (fun ls hl => ?_)
  have hl : lv_has ls 6 [(2, .int (nI 0)), (1, .ref o9), (0, .ref h)] := hl
  have lx : ∀ (n : Nat) (x : Nat) (V : Nat → Int32), (hx9 : x ≤ 8) → (hV : ∀ p, p < 64 → bfx x 0 p → V p = mk0 k p) → (8 - x) < n → ∀ (H : Heap) (locs : List Loc) (ls : Array Slot), va_P G vwCl [(h, oS o mo co le), (o, oQ (cs 1) 8 r), ((r 0), iB (cs 0) 8 (cl8 K 0)), ((r 1), iB (cs 0) 8 (cl8 K 1)), ((r 2), iB (cs 0) 8 (cl8 K 2)), ((r 3), iB (cs 0) 8 (cl8 K 3)), ((r 4), iB (cs 0) 8 (cl8 K 4)), ((r 5), iB (cs 0) 8 (cl8 K 5)), ((r 6), iB (cs 0) 8 (cl8 K 6)), ((r 7), iB (cs 0) 8 (cl8 K 7)), (o9, oQ (cs 1) 8 r9), ((r9 0), iB (cs 0) 8 (cl8 V 0)), ((r9 1), iB (cs 0) 8 (cl8 V 1)), ((r9 2), iB (cs 0) 8 (cl8 V 2)), ((r9 3), iB (cs 0) 8 (cl8 V 3)), ((r9 4), iB (cs 0) 8 (cl8 V 4)), ((r9 5), iB (cs 0) 8 (cl8 V 5)), ((r9 6), iB (cs 0) 8 (cl8 V 6)), ((r9 7), iB (cs 0) 8 (cl8 V 7))] H → va_D A [(h, oS o mo co le), (o, oQ (cs 1) 8 r), ((r 0), iB (cs 0) 8 (cl8 K 0)), ((r 1), iB (cs 0) 8 (cl8 K 1)), ((r 2), iB (cs 0) 8 (cl8 K 2)), ((r 3), iB (cs 0) 8 (cl8 K 3)), ((r 4), iB (cs 0) 8 (cl8 K 4)), ((r 5), iB (cs 0) 8 (cl8 K 5)), ((r 6), iB (cs 0) 8 (cl8 K 6)), ((r 7), iB (cs 0) 8 (cl8 K 7)), (o9, oQ (cs 1) 8 r9), ((r9 0), iB (cs 0) 8 (cl8 V 0)), ((r9 1), iB (cs 0) 8 (cl8 V 1)), ((r9 2), iB (cs 0) 8 (cl8 V 2)), ((r9 3), iB (cs 0) 8 (cl8 V 3)), ((r9 4), iB (cs 0) 8 (cl8 V 4)), ((r9 5), iB (cs 0) 8 (cl8 V 5)), ((r9 6), iB (cs 0) 8 (cl8 V 6)), ((r9 7), iB (cs 0) 8 (cl8 V 7))] → va_S A s.heap H locs → lv_has ls 6 [(0, .ref h), (1, .ref o9), (2, .int (nI x))] → W p l e (headSpec wsX2_quarters rmX2_quarters).room s m ([.ref h] : List Value).toArray below meth c H locs 9 72 Q (F0 m 11 ls []) := by
    intro n
    induction n with
    | zero => intro x V hx9 hV hn; exact absurd hn (by omega)
    | succ n ih_lx =>
      intro x V hx9 hV hn H locs ls hP hD hS hl
      refine lv_iload_n hx hb dX2_quarters_11 rfl (lv_at hl 2 rfl) ?_
      refine lv_bipush (v := 8) hx hb dX2_quarters_12 (by decide) ?_
      rcases Nat.lt_or_ge x 8 with hx8 | g
      · skip
        refine lv_icmp_ge (tgt := 61) hx hb dX2_quarters_14 (by decide) (fun c => absurd c (lt_n (n := 8) hx8 (by decide))) (fun _ => ?_)
        refine lv_iconst (v := 0) hx hb dX2_quarters_17 (by decide) ?_
        refine lv_istore_n (lv' := [(3, .int 0), (0, .ref h), (1, .ref o9), (2, .int (nI x))]) hx hb dX2_quarters_18 rfl hl (by decide) rfl (fun ls hl => ?_)
        have hl : lv_has ls 6 [(3, .int (nI 0)), (0, .ref h), (1, .ref o9), (2, .int (nI x))] := hl
        have ly : ∀ (n : Nat) (y : Nat) (V : Nat → Int32), (hy9 : y ≤ 8) → (hV : ∀ p, p < 64 → bfx x y p → V p = mk0 k p) → (8 - y) < n → ∀ (H : Heap) (locs : List Loc) (ls : Array Slot), va_P G vwCl [(h, oS o mo co le), (o, oQ (cs 1) 8 r), ((r 0), iB (cs 0) 8 (cl8 K 0)), ((r 1), iB (cs 0) 8 (cl8 K 1)), ((r 2), iB (cs 0) 8 (cl8 K 2)), ((r 3), iB (cs 0) 8 (cl8 K 3)), ((r 4), iB (cs 0) 8 (cl8 K 4)), ((r 5), iB (cs 0) 8 (cl8 K 5)), ((r 6), iB (cs 0) 8 (cl8 K 6)), ((r 7), iB (cs 0) 8 (cl8 K 7)), (o9, oQ (cs 1) 8 r9), ((r9 0), iB (cs 0) 8 (cl8 V 0)), ((r9 1), iB (cs 0) 8 (cl8 V 1)), ((r9 2), iB (cs 0) 8 (cl8 V 2)), ((r9 3), iB (cs 0) 8 (cl8 V 3)), ((r9 4), iB (cs 0) 8 (cl8 V 4)), ((r9 5), iB (cs 0) 8 (cl8 V 5)), ((r9 6), iB (cs 0) 8 (cl8 V 6)), ((r9 7), iB (cs 0) 8 (cl8 V 7))] H → va_D A [(h, oS o mo co le), (o, oQ (cs 1) 8 r), ((r 0), iB (cs 0) 8 (cl8 K 0)), ((r 1), iB (cs 0) 8 (cl8 K 1)), ((r 2), iB (cs 0) 8 (cl8 K 2)), ((r 3), iB (cs 0) 8 (cl8 K 3)), ((r 4), iB (cs 0) 8 (cl8 K 4)), ((r 5), iB (cs 0) 8 (cl8 K 5)), ((r 6), iB (cs 0) 8 (cl8 K 6)), ((r 7), iB (cs 0) 8 (cl8 K 7)), (o9, oQ (cs 1) 8 r9), ((r9 0), iB (cs 0) 8 (cl8 V 0)), ((r9 1), iB (cs 0) 8 (cl8 V 1)), ((r9 2), iB (cs 0) 8 (cl8 V 2)), ((r9 3), iB (cs 0) 8 (cl8 V 3)), ((r9 4), iB (cs 0) 8 (cl8 V 4)), ((r9 5), iB (cs 0) 8 (cl8 V 5)), ((r9 6), iB (cs 0) 8 (cl8 V 6)), ((r9 7), iB (cs 0) 8 (cl8 V 7))] → va_S A s.heap H locs → lv_has ls 6 [(0, .ref h), (1, .ref o9), (2, .int (nI x)), (3, .int (nI y))] → W p l e (headSpec wsX2_quarters rmX2_quarters).room s m ([.ref h] : List Value).toArray below meth c H locs 9 72 Q (F0 m 19 ls []) := by
          intro n
          induction n with
          | zero => intro y V hy9 hV hn; exact absurd hn (by omega)
          | succ n ih_ly =>
            intro y V hy9 hV hn H locs ls hP hD hS hl
            refine lv_iload_n hx hb dX2_quarters_19 rfl (lv_at hl 3 rfl) ?_
            refine lv_bipush (v := 8) hx hb dX2_quarters_20 (by decide) ?_
            rcases Nat.lt_or_ge y 8 with hy8 | g2
            · skip
              have hp64 : 8 * y + x < 64 := by omega
              refine lv_icmp_ge (tgt := 55) hx hb dX2_quarters_22 (by decide) (fun c => absurd c (lt_n (n := 8) hy8 (by decide))) (fun _ => ?_)
              refine lv_aload_n hx hb dX2_quarters_25 rfl (lv_at hl 1 rfl) ?_
              refine lv_iload_n hx hb dX2_quarters_26 rfl (lv_at hl 2 rfl) ?_
              refine g_ald (r := r9) (n := 8) hx hb hK hP 10 1 rfl rfl (x := x) (hx8) (by decide) dX2_quarters_27 ?_
              refine lv_iload_n hx hb dX2_quarters_28 rfl (lv_at hl 3 rfl) ?_
              refine lv_aload_n hx hb dX2_quarters_29 rfl (lv_at hl 0 rfl) ?_
              refine lv_iload_n hx hb dX2_quarters_30 rfl (lv_at hl 2 rfl) ?_
              refine lv_iload_n hx hb dX2_quarters_31 rfl (lv_at hl 3 rfl) ?_
              refine cr_i (va_runV (As := [.int (nI x), .int (nI y)]) (rest := [.int (nI y), .ref (r9 x)]) FX (c_X2_isLand l G cs h o r mo co le K k (nI x) (nI y) hk hkd) (cwV 2 hts gX2_quarters_X2_isLand rfl rfl rfl (by decide +kernel) ⟨Nat.le_of_ble_eq_true rfl, Nat.le_of_ble_eq_true rfl⟩) (rsV hK hP hN [0, 1, 2, 3, 4, 5, 6, 7, 8, 9] rfl (ci := 2) (q0 := 0) rfl rfl) rfl rfl hl.1 rfl (lv_room (Nat.le_of_ble_eq_true rfl)) dX2_quarters_32 ⟨Nat.le_of_ble_eq_true rfl, Nat.le_of_ble_eq_true rfl⟩) hS hP (fun H locs hP hS => ?_)
              refine tpi (x' := b2i (lnd (k (8 * y + x)))) (by rw [lotO_in hx8 hy8]; rfl) ?_
              have j1 : ∀ (H : Heap) (locs : List Loc), va_P G vwCl [(h, oS o mo co le), (o, oQ (cs 1) 8 r), ((r 0), iB (cs 0) 8 (cl8 K 0)), ((r 1), iB (cs 0) 8 (cl8 K 1)), ((r 2), iB (cs 0) 8 (cl8 K 2)), ((r 3), iB (cs 0) 8 (cl8 K 3)), ((r 4), iB (cs 0) 8 (cl8 K 4)), ((r 5), iB (cs 0) 8 (cl8 K 5)), ((r 6), iB (cs 0) 8 (cl8 K 6)), ((r 7), iB (cs 0) 8 (cl8 K 7)), (o9, oQ (cs 1) 8 r9), ((r9 0), iB (cs 0) 8 (cl8 V 0)), ((r9 1), iB (cs 0) 8 (cl8 V 1)), ((r9 2), iB (cs 0) 8 (cl8 V 2)), ((r9 3), iB (cs 0) 8 (cl8 V 3)), ((r9 4), iB (cs 0) 8 (cl8 V 4)), ((r9 5), iB (cs 0) 8 (cl8 V 5)), ((r9 6), iB (cs 0) 8 (cl8 V 6)), ((r9 7), iB (cs 0) 8 (cl8 V 7))] H → va_D A [(h, oS o mo co le), (o, oQ (cs 1) 8 r), ((r 0), iB (cs 0) 8 (cl8 K 0)), ((r 1), iB (cs 0) 8 (cl8 K 1)), ((r 2), iB (cs 0) 8 (cl8 K 2)), ((r 3), iB (cs 0) 8 (cl8 K 3)), ((r 4), iB (cs 0) 8 (cl8 K 4)), ((r 5), iB (cs 0) 8 (cl8 K 5)), ((r 6), iB (cs 0) 8 (cl8 K 6)), ((r 7), iB (cs 0) 8 (cl8 K 7)), (o9, oQ (cs 1) 8 r9), ((r9 0), iB (cs 0) 8 (cl8 V 0)), ((r9 1), iB (cs 0) 8 (cl8 V 1)), ((r9 2), iB (cs 0) 8 (cl8 V 2)), ((r9 3), iB (cs 0) 8 (cl8 V 3)), ((r9 4), iB (cs 0) 8 (cl8 V 4)), ((r9 5), iB (cs 0) 8 (cl8 V 5)), ((r9 6), iB (cs 0) 8 (cl8 V 6)), ((r9 7), iB (cs 0) 8 (cl8 V 7))] → va_S A s.heap H locs → W p l e (headSpec wsX2_quarters rmX2_quarters).room s m ([.ref h] : List Value).toArray below meth c H locs 9 72 Q (F0 m 48 ls [.int (mk0 k (8 * y + x)), .int (nI y), .ref (r9 x)]) := by
                intro H locs hP hD hS
                refine g_iast (pre := [(h, oS o mo co le), (o, oQ (cs 1) 8 r), ((r 0), iB (cs 0) 8 (cl8 K 0)), ((r 1), iB (cs 0) 8 (cl8 K 1)), ((r 2), iB (cs 0) 8 (cl8 K 2)), ((r 3), iB (cs 0) 8 (cl8 K 3)), ((r 4), iB (cs 0) 8 (cl8 K 4)), ((r 5), iB (cs 0) 8 (cl8 K 5)), ((r 6), iB (cs 0) 8 (cl8 K 6)), ((r 7), iB (cs 0) 8 (cl8 K 7))]) (post := []) (cO := (cs 1)) (cR := (cs 0)) (o := o9) (r := r9) (K := V) hx hb hK hP hD hS 0 rfl (x := x) (y := y) (hx8) (hy8) (v := (mk0 k (8 * y + x))) dX2_quarters_48 (fun H locs hP hD hS => ?_)
                have hP : va_P G vwCl [(h, oS o mo co le), (o, oQ (cs 1) 8 r), ((r 0), iB (cs 0) 8 (cl8 K 0)), ((r 1), iB (cs 0) 8 (cl8 K 1)), ((r 2), iB (cs 0) 8 (cl8 K 2)), ((r 3), iB (cs 0) 8 (cl8 K 3)), ((r 4), iB (cs 0) 8 (cl8 K 4)), ((r 5), iB (cs 0) 8 (cl8 K 5)), ((r 6), iB (cs 0) 8 (cl8 K 6)), ((r 7), iB (cs 0) 8 (cl8 K 7)), (o9, oQ (cs 1) 8 r9), ((r9 0), iB (cs 0) 8 (cl8 (upd V (8 * y + x) (mk0 k (8 * y + x))) 0)), ((r9 1), iB (cs 0) 8 (cl8 (upd V (8 * y + x) (mk0 k (8 * y + x))) 1)), ((r9 2), iB (cs 0) 8 (cl8 (upd V (8 * y + x) (mk0 k (8 * y + x))) 2)), ((r9 3), iB (cs 0) 8 (cl8 (upd V (8 * y + x) (mk0 k (8 * y + x))) 3)), ((r9 4), iB (cs 0) 8 (cl8 (upd V (8 * y + x) (mk0 k (8 * y + x))) 4)), ((r9 5), iB (cs 0) 8 (cl8 (upd V (8 * y + x) (mk0 k (8 * y + x))) 5)), ((r9 6), iB (cs 0) 8 (cl8 (upd V (8 * y + x) (mk0 k (8 * y + x))) 6)), ((r9 7), iB (cs 0) 8 (cl8 (upd V (8 * y + x) (mk0 k (8 * y + x))) 7))] H := hP
                have hD : va_D A [(h, oS o mo co le), (o, oQ (cs 1) 8 r), ((r 0), iB (cs 0) 8 (cl8 K 0)), ((r 1), iB (cs 0) 8 (cl8 K 1)), ((r 2), iB (cs 0) 8 (cl8 K 2)), ((r 3), iB (cs 0) 8 (cl8 K 3)), ((r 4), iB (cs 0) 8 (cl8 K 4)), ((r 5), iB (cs 0) 8 (cl8 K 5)), ((r 6), iB (cs 0) 8 (cl8 K 6)), ((r 7), iB (cs 0) 8 (cl8 K 7)), (o9, oQ (cs 1) 8 r9), ((r9 0), iB (cs 0) 8 (cl8 (upd V (8 * y + x) (mk0 k (8 * y + x))) 0)), ((r9 1), iB (cs 0) 8 (cl8 (upd V (8 * y + x) (mk0 k (8 * y + x))) 1)), ((r9 2), iB (cs 0) 8 (cl8 (upd V (8 * y + x) (mk0 k (8 * y + x))) 2)), ((r9 3), iB (cs 0) 8 (cl8 (upd V (8 * y + x) (mk0 k (8 * y + x))) 3)), ((r9 4), iB (cs 0) 8 (cl8 (upd V (8 * y + x) (mk0 k (8 * y + x))) 4)), ((r9 5), iB (cs 0) 8 (cl8 (upd V (8 * y + x) (mk0 k (8 * y + x))) 5)), ((r9 6), iB (cs 0) 8 (cl8 (upd V (8 * y + x) (mk0 k (8 * y + x))) 6)), ((r9 7), iB (cs 0) 8 (cl8 (upd V (8 * y + x) (mk0 k (8 * y + x))) 7))] := hD
                refine lv_iinc (v := nI (y + 1)) (lv' := [(3, .int (nI (y + 1))), (0, .ref h), (1, .ref o9), (2, .int (nI x))]) hx hb dX2_quarters_49 hl (k := 3) rfl (nI_inc y) (by decide) rfl (fun ls hl => ?_)
                refine lv_goto (tgt := 19) hx hb dX2_quarters_52 (by decide) ?_
                exact ih_ly (y + 1) (upd V (8 * y + x) (mk0 k (8 * y + x))) (by omega) (fun p hp hb => by rcases Nat.decEq p (8 * y + x) with g9 | g9; rw [pk_un g9]; exact hV p hp ((bfx_y hb).resolve_right g9); rw [g9, pk_us]) (by omega) _ _ _ hP hD hS (lv_sub hl [1, 2, 3, 0] (rfl))
              rcases hln : lnd (k (8 * y + x)) with _ | _
              · skip
                refine tpi (x' := 0) (rfl) ?_
                refine lv_if_eq (tgt := 47) hx hb dX2_quarters_35 (by decide) (fun _ => ?_) (fun c => absurd (rfl) c)
                refine lv_iconst (v := (-1)) hx hb dX2_quarters_47 (by decide) ?_
                refine tpi (x' := mk0 k (8 * y + x)) (by unfold mk0; rw [hln]; rfl) ?_
                exact j1 H locs hP hD hS
              · skip
                refine tpi (x' := 1) (rfl) ?_
                refine lv_if_eq (tgt := 47) hx hb dX2_quarters_35 (by decide) (fun c => absurd c (by decide)) (fun _ => ?_)
                refine lv_bipush (v := 8) hx hb dX2_quarters_38 (by decide) ?_
                refine lv_iload_n hx hb dX2_quarters_40 rfl (lv_at hl 3 rfl) ?_
                refine lv_imul hx hb dX2_quarters_41 ?_
                refine tpi (x' := nI (8 * y)) (pk_mul 8 y) ?_
                refine lv_iload_n hx hb dX2_quarters_42 rfl (lv_at hl 2 rfl) ?_
                refine lv_iadd hx hb dX2_quarters_43 ?_
                refine tpi (x' := nI (8 * y + x)) (nI_add (8 * y) x) ?_
                refine lv_goto (tgt := 48) hx hb dX2_quarters_44 (by decide) ?_
                refine tpi (x' := mk0 k (8 * y + x)) (by unfold mk0; rw [hln]; rfl) ?_
                exact j1 H locs hP hD hS
            · skip
              have g2 : y = 8 := by omega
              subst g2
              refine lv_icmp_ge (tgt := 55) hx hb dX2_quarters_22 (by decide) (fun _ => ?_) (fun c => absurd (le_n (n := 8) (i := 8) (by decide) (by decide)) c)
              refine lv_iinc (v := nI (x + 1)) (lv' := [(2, .int (nI (x + 1))), (0, .ref h), (1, .ref o9), (3, .int (nI 8))]) hx hb dX2_quarters_55 hl (k := 2) rfl (nI_inc x) (by decide) rfl (fun ls hl => ?_)
              refine lv_goto (tgt := 11) hx hb dX2_quarters_58 (by decide) ?_
              exact ih_lx (x + 1) V (by omega) (fun p hp hb => hV p hp (bfx_x hp hb)) (by omega) _ _ _ hP hD hS (lv_sub hl [1, 2, 0] (rfl))
        exact ly (_ + 1) 0 V (by omega) (hV) (Nat.lt_succ_self _) _ _ _ hP hD hS (lv_sub hl [1, 2, 3, 0] rfl)
      · skip
        have g : x = 8 := by omega
        subst g
        refine lv_icmp_ge (tgt := 61) hx hb dX2_quarters_14 (by decide) (fun _ => ?_) (fun c => absurd (le_n (n := 8) (i := 8) (by decide) (by decide)) c)
        have hV0 : ∀ p, p < 64 → V p = mkQ k (fun p => p) p := fun p hp => hV p hp bfx_8
        refine lv_iconst (v := 1) hx hb dX2_quarters_61 (by decide) ?_
        refine lv_istore_n (lv' := [(2, .int 1), (0, .ref h), (1, .ref o9)]) hx hb dX2_quarters_62 rfl hl (by decide) rfl (fun ls hl => ?_)
        have hl : lv_has ls 6 [(2, .int (nI 1)), (0, .ref h), (1, .ref o9)] := hl
        have lw : ∀ (n : Nat) (fg : Nat) (v : Nat → Nat) (V : Nat → Int32), (hmo : fg = 1 ∨ (fg = 0 ∧ ∀ p, p < 64 → stab k v p)) → (hQV : QV k v) → (hV : ∀ p, p < 64 → V p = mkQ k v p) → (2 * nsum v 64 + fg) < n → ∀ (H : Heap) (locs : List Loc) (ls : Array Slot), va_P G vwCl [(h, oS o mo co le), (o, oQ (cs 1) 8 r), ((r 0), iB (cs 0) 8 (cl8 K 0)), ((r 1), iB (cs 0) 8 (cl8 K 1)), ((r 2), iB (cs 0) 8 (cl8 K 2)), ((r 3), iB (cs 0) 8 (cl8 K 3)), ((r 4), iB (cs 0) 8 (cl8 K 4)), ((r 5), iB (cs 0) 8 (cl8 K 5)), ((r 6), iB (cs 0) 8 (cl8 K 6)), ((r 7), iB (cs 0) 8 (cl8 K 7)), (o9, oQ (cs 1) 8 r9), ((r9 0), iB (cs 0) 8 (cl8 V 0)), ((r9 1), iB (cs 0) 8 (cl8 V 1)), ((r9 2), iB (cs 0) 8 (cl8 V 2)), ((r9 3), iB (cs 0) 8 (cl8 V 3)), ((r9 4), iB (cs 0) 8 (cl8 V 4)), ((r9 5), iB (cs 0) 8 (cl8 V 5)), ((r9 6), iB (cs 0) 8 (cl8 V 6)), ((r9 7), iB (cs 0) 8 (cl8 V 7))] H → va_D A [(h, oS o mo co le), (o, oQ (cs 1) 8 r), ((r 0), iB (cs 0) 8 (cl8 K 0)), ((r 1), iB (cs 0) 8 (cl8 K 1)), ((r 2), iB (cs 0) 8 (cl8 K 2)), ((r 3), iB (cs 0) 8 (cl8 K 3)), ((r 4), iB (cs 0) 8 (cl8 K 4)), ((r 5), iB (cs 0) 8 (cl8 K 5)), ((r 6), iB (cs 0) 8 (cl8 K 6)), ((r 7), iB (cs 0) 8 (cl8 K 7)), (o9, oQ (cs 1) 8 r9), ((r9 0), iB (cs 0) 8 (cl8 V 0)), ((r9 1), iB (cs 0) 8 (cl8 V 1)), ((r9 2), iB (cs 0) 8 (cl8 V 2)), ((r9 3), iB (cs 0) 8 (cl8 V 3)), ((r9 4), iB (cs 0) 8 (cl8 V 4)), ((r9 5), iB (cs 0) 8 (cl8 V 5)), ((r9 6), iB (cs 0) 8 (cl8 V 6)), ((r9 7), iB (cs 0) 8 (cl8 V 7))] → va_S A s.heap H locs → lv_has ls 6 [(0, .ref h), (1, .ref o9), (2, .int (nI fg))] → W p l e (headSpec wsX2_quarters rmX2_quarters).room s m ([.ref h] : List Value).toArray below meth c H locs 9 72 Q (F0 m 63 ls []) := by
          intro n
          induction n with
          | zero => intro fg v V hmo hQV hV hn; exact absurd hn (by omega)
          | succ n ih_lw =>
            intro fg v V hmo hQV hV hn H locs ls hP hD hS hl
            refine lv_iload_n hx hb dX2_quarters_63 rfl (lv_at hl 2 rfl) ?_
            rcases hmo with hm1 | ⟨hm0, hst⟩
            · skip
              subst hm1
              refine lv_if_eq (tgt := 257) hx hb dX2_quarters_64 (by decide) (fun c => absurd c (by decide)) (fun _ => ?_)
              refine lv_iconst (v := 0) hx hb dX2_quarters_67 (by decide) ?_
              refine lv_istore_n (lv' := [(2, .int 0), (0, .ref h), (1, .ref o9)]) hx hb dX2_quarters_68 rfl hl (by decide) rfl (fun ls hl => ?_)
              refine lv_iconst (v := 0) hx hb dX2_quarters_69 (by decide) ?_
              refine lv_istore_n (lv' := [(3, .int 0), (2, .int 0), (0, .ref h), (1, .ref o9)]) hx hb dX2_quarters_70 rfl hl (by decide) rfl (fun ls hl => ?_)
              have hl : lv_has ls 6 [(3, .int (nI 0)), (2, .int (nI 0)), (0, .ref h), (1, .ref o9)] := hl
              obtain ⟨S0, hS0⟩ : ∃ S0, S0 = nsum v 64 := ⟨_, rfl⟩
              have px : ∀ (n : Nat) (x fg : Nat) (v : Nat → Nat) (V : Nat → Int32), (hx9 : x ≤ 8) → (hSQ : SQ k v S0 (bfx x 0) fg) → (hQV : QV k v) → (hV : ∀ p, p < 64 → V p = mkQ k v p) → (8 - x) < n → ∀ (H : Heap) (locs : List Loc) (ls : Array Slot), va_P G vwCl [(h, oS o mo co le), (o, oQ (cs 1) 8 r), ((r 0), iB (cs 0) 8 (cl8 K 0)), ((r 1), iB (cs 0) 8 (cl8 K 1)), ((r 2), iB (cs 0) 8 (cl8 K 2)), ((r 3), iB (cs 0) 8 (cl8 K 3)), ((r 4), iB (cs 0) 8 (cl8 K 4)), ((r 5), iB (cs 0) 8 (cl8 K 5)), ((r 6), iB (cs 0) 8 (cl8 K 6)), ((r 7), iB (cs 0) 8 (cl8 K 7)), (o9, oQ (cs 1) 8 r9), ((r9 0), iB (cs 0) 8 (cl8 V 0)), ((r9 1), iB (cs 0) 8 (cl8 V 1)), ((r9 2), iB (cs 0) 8 (cl8 V 2)), ((r9 3), iB (cs 0) 8 (cl8 V 3)), ((r9 4), iB (cs 0) 8 (cl8 V 4)), ((r9 5), iB (cs 0) 8 (cl8 V 5)), ((r9 6), iB (cs 0) 8 (cl8 V 6)), ((r9 7), iB (cs 0) 8 (cl8 V 7))] H → va_D A [(h, oS o mo co le), (o, oQ (cs 1) 8 r), ((r 0), iB (cs 0) 8 (cl8 K 0)), ((r 1), iB (cs 0) 8 (cl8 K 1)), ((r 2), iB (cs 0) 8 (cl8 K 2)), ((r 3), iB (cs 0) 8 (cl8 K 3)), ((r 4), iB (cs 0) 8 (cl8 K 4)), ((r 5), iB (cs 0) 8 (cl8 K 5)), ((r 6), iB (cs 0) 8 (cl8 K 6)), ((r 7), iB (cs 0) 8 (cl8 K 7)), (o9, oQ (cs 1) 8 r9), ((r9 0), iB (cs 0) 8 (cl8 V 0)), ((r9 1), iB (cs 0) 8 (cl8 V 1)), ((r9 2), iB (cs 0) 8 (cl8 V 2)), ((r9 3), iB (cs 0) 8 (cl8 V 3)), ((r9 4), iB (cs 0) 8 (cl8 V 4)), ((r9 5), iB (cs 0) 8 (cl8 V 5)), ((r9 6), iB (cs 0) 8 (cl8 V 6)), ((r9 7), iB (cs 0) 8 (cl8 V 7))] → va_S A s.heap H locs → lv_has ls 6 [(0, .ref h), (1, .ref o9), (2, .int (nI fg)), (3, .int (nI x))] → W p l e (headSpec wsX2_quarters rmX2_quarters).room s m ([.ref h] : List Value).toArray below meth c H locs 9 72 Q (F0 m 71 ls []) := by
                intro n
                induction n with
                | zero => intro x fg v V hx9 hSQ hQV hV hn; exact absurd hn (by omega)
                | succ n ih_px =>
                  intro x fg v V hx9 hSQ hQV hV hn H locs ls hP hD hS hl
                  refine lv_iload_n hx hb dX2_quarters_71 rfl (lv_at hl 3 rfl) ?_
                  refine lv_bipush (v := 8) hx hb dX2_quarters_72 (by decide) ?_
                  rcases Nat.lt_or_ge x 8 with hx8 | g
                  · skip
                    refine lv_icmp_ge (tgt := 254) hx hb dX2_quarters_74 (by decide) (fun c => absurd c (lt_n (n := 8) hx8 (by decide))) (fun _ => ?_)
                    refine lv_iconst (v := 0) hx hb dX2_quarters_77 (by decide) ?_
                    refine lv_istore (lv' := [(4, .int 0), (0, .ref h), (1, .ref o9), (2, .int (nI fg)), (3, .int (nI x))]) hx hb dX2_quarters_78 hl (by decide) rfl (fun ls hl => ?_)
                    have hl : lv_has ls 6 [(4, .int (nI 0)), (0, .ref h), (1, .ref o9), (2, .int (nI fg)), (3, .int (nI x))] := hl
                    have py : ∀ (n : Nat) (y fg : Nat) (v : Nat → Nat) (V : Nat → Int32), (hy9 : y ≤ 8) → (hSQ : SQ k v S0 (bfx x y) fg) → (hQV : QV k v) → (hV : ∀ p, p < 64 → V p = mkQ k v p) → (8 - y) < n → ∀ (H : Heap) (locs : List Loc) (ls : Array Slot), va_P G vwCl [(h, oS o mo co le), (o, oQ (cs 1) 8 r), ((r 0), iB (cs 0) 8 (cl8 K 0)), ((r 1), iB (cs 0) 8 (cl8 K 1)), ((r 2), iB (cs 0) 8 (cl8 K 2)), ((r 3), iB (cs 0) 8 (cl8 K 3)), ((r 4), iB (cs 0) 8 (cl8 K 4)), ((r 5), iB (cs 0) 8 (cl8 K 5)), ((r 6), iB (cs 0) 8 (cl8 K 6)), ((r 7), iB (cs 0) 8 (cl8 K 7)), (o9, oQ (cs 1) 8 r9), ((r9 0), iB (cs 0) 8 (cl8 V 0)), ((r9 1), iB (cs 0) 8 (cl8 V 1)), ((r9 2), iB (cs 0) 8 (cl8 V 2)), ((r9 3), iB (cs 0) 8 (cl8 V 3)), ((r9 4), iB (cs 0) 8 (cl8 V 4)), ((r9 5), iB (cs 0) 8 (cl8 V 5)), ((r9 6), iB (cs 0) 8 (cl8 V 6)), ((r9 7), iB (cs 0) 8 (cl8 V 7))] H → va_D A [(h, oS o mo co le), (o, oQ (cs 1) 8 r), ((r 0), iB (cs 0) 8 (cl8 K 0)), ((r 1), iB (cs 0) 8 (cl8 K 1)), ((r 2), iB (cs 0) 8 (cl8 K 2)), ((r 3), iB (cs 0) 8 (cl8 K 3)), ((r 4), iB (cs 0) 8 (cl8 K 4)), ((r 5), iB (cs 0) 8 (cl8 K 5)), ((r 6), iB (cs 0) 8 (cl8 K 6)), ((r 7), iB (cs 0) 8 (cl8 K 7)), (o9, oQ (cs 1) 8 r9), ((r9 0), iB (cs 0) 8 (cl8 V 0)), ((r9 1), iB (cs 0) 8 (cl8 V 1)), ((r9 2), iB (cs 0) 8 (cl8 V 2)), ((r9 3), iB (cs 0) 8 (cl8 V 3)), ((r9 4), iB (cs 0) 8 (cl8 V 4)), ((r9 5), iB (cs 0) 8 (cl8 V 5)), ((r9 6), iB (cs 0) 8 (cl8 V 6)), ((r9 7), iB (cs 0) 8 (cl8 V 7))] → va_S A s.heap H locs → lv_has ls 6 [(0, .ref h), (1, .ref o9), (2, .int (nI fg)), (3, .int (nI x)), (4, .int (nI y))] → W p l e (headSpec wsX2_quarters rmX2_quarters).room s m ([.ref h] : List Value).toArray below meth c H locs 9 72 Q (F0 m 80 ls []) := by
                      intro n
                      induction n with
                      | zero => intro y fg v V hy9 hSQ hQV hV hn; exact absurd hn (by omega)
                      | succ n ih_py =>
                        intro y fg v V hy9 hSQ hQV hV hn H locs ls hP hD hS hl
                        refine lv_iload hx hb dX2_quarters_80 (lv_at hl 4 rfl) ?_
                        refine lv_bipush (v := 8) hx hb dX2_quarters_82 (by decide) ?_
                        rcases Nat.lt_or_ge y 8 with hy8 | g2
                        · skip
                          have hp64 : 8 * y + x < 64 := by omega
                          refine lv_icmp_ge (tgt := 248) hx hb dX2_quarters_84 (by decide) (fun c => absurd c (lt_n (n := 8) hy8 (by decide))) (fun _ => ?_)
                          refine lv_aload_n hx hb dX2_quarters_87 rfl (lv_at hl 1 rfl) ?_
                          refine lv_iload_n hx hb dX2_quarters_88 rfl (lv_at hl 3 rfl) ?_
                          refine g_ald (r := r9) (n := 8) hx hb hK hP 10 1 rfl rfl (x := x) (hx8) (by decide) dX2_quarters_89 ?_
                          refine lv_iload hx hb dX2_quarters_90 (lv_at hl 4 rfl) ?_
                          refine g_iald (pre := [(h, oS o mo co le), (o, oQ (cs 1) 8 r), ((r 0), iB (cs 0) 8 (cl8 K 0)), ((r 1), iB (cs 0) 8 (cl8 K 1)), ((r 2), iB (cs 0) 8 (cl8 K 2)), ((r 3), iB (cs 0) 8 (cl8 K 3)), ((r 4), iB (cs 0) 8 (cl8 K 4)), ((r 5), iB (cs 0) 8 (cl8 K 5)), ((r 6), iB (cs 0) 8 (cl8 K 6)), ((r 7), iB (cs 0) 8 (cl8 K 7))]) (post := []) (cO := (cs 1)) (cR := (cs 0)) (o := o9) (r := r9) (K := V) hx hb hK hP 0 rfl (x := x) (y := y) (hx8) (hy8) dX2_quarters_92 ?_
                          refine tpi (x' := mkQ k v (8 * y + x)) (hV _ hp64) ?_
                          rcases hln : lnd (k (8 * y + x)) with _ | _
                          · skip
                            refine tpi (x' := -1) (by unfold mkQ; rw [hln]; rfl) ?_
                            refine lv_if_ge (tgt := 99) hx hb dX2_quarters_93 (by decide) (fun c => absurd c (by decide)) (fun _ => ?_)
                            refine lv_goto (tgt := 242) hx hb dX2_quarters_96 (by decide) ?_
                            refine lv_iinc (v := nI (y + 1)) (lv' := [(4, .int (nI (y + 1))), (0, .ref h), (1, .ref o9), (2, .int (nI fg)), (3, .int (nI x))]) hx hb dX2_quarters_242 hl (k := 4) rfl (nI_inc y) (by decide) rfl (fun ls hl => ?_)
                            refine lv_goto (tgt := 80) hx hb dX2_quarters_245 (by decide) ?_
                            exact ih_py (y + 1) fg v V (by omega) (SQ_skip hSQ hln) (hQV) (hV) (by omega) _ _ _ hP hD hS (lv_sub hl [1, 2, 3, 4, 0] (rfl))
                          · skip
                            obtain ⟨hv1, hv2, -⟩ := hQV _ hp64 hln
                            have hv64 : v (8 * y + x) < 64 := by omega
                            refine tpi (x' := nI (v (8 * y + x))) (by unfold mkQ; rw [if_pos hln]) ?_
                            refine lv_if_ge (tgt := 99) hx hb dX2_quarters_93 (by decide) (fun _ => ?_) (fun c => absurd (nI_pos' (n := v (8 * y + x)) (by omega)) c)
                            refine lv_aload_n hx hb dX2_quarters_99 rfl (lv_at hl 1 rfl) ?_
                            refine lv_iload_n hx hb dX2_quarters_100 rfl (lv_at hl 3 rfl) ?_
                            refine g_ald (r := r9) (n := 8) hx hb hK hP 10 1 rfl rfl (x := x) (hx8) (by decide) dX2_quarters_101 ?_
                            refine lv_iload hx hb dX2_quarters_102 (lv_at hl 4 rfl) ?_
                            refine g_iald (pre := [(h, oS o mo co le), (o, oQ (cs 1) 8 r), ((r 0), iB (cs 0) 8 (cl8 K 0)), ((r 1), iB (cs 0) 8 (cl8 K 1)), ((r 2), iB (cs 0) 8 (cl8 K 2)), ((r 3), iB (cs 0) 8 (cl8 K 3)), ((r 4), iB (cs 0) 8 (cl8 K 4)), ((r 5), iB (cs 0) 8 (cl8 K 5)), ((r 6), iB (cs 0) 8 (cl8 K 6)), ((r 7), iB (cs 0) 8 (cl8 K 7))]) (post := []) (cO := (cs 1)) (cR := (cs 0)) (o := o9) (r := r9) (K := V) hx hb hK hP 0 rfl (x := x) (y := y) (hx8) (hy8) dX2_quarters_104 ?_
                            refine tpi (x' := nI (v (8 * y + x))) ((hV _ hp64).trans (if_pos hln)) ?_
                            refine lv_istore (lv' := [(5, .int (nI (v (8 * y + x)))), (0, .ref h), (1, .ref o9), (2, .int (nI fg)), (3, .int (nI x)), (4, .int (nI y))]) hx hb dX2_quarters_105 hl (by decide) rfl (fun ls hl => ?_)
                            have ha0 : (v (8 * y + x)) < 64 := hv64
                            refine lv_aload_n hx hb dX2_quarters_107 rfl (lv_at hl 1 rfl) ?_
                            refine lv_iload_n hx hb dX2_quarters_108 rfl (lv_at hl 4 rfl) ?_
                            refine lv_iconst (v := 1) hx hb dX2_quarters_109 (by decide) ?_
                            refine lv_isub hx hb dX2_quarters_110 ?_
                            refine lv_iload hx hb dX2_quarters_111 (lv_at hl 5 rfl) ?_
                            refine cr_i (va_runV (As := [.int ((nI x) - 1), .int (nI y)]) (rest := []) FX (c_X2_isLand l G cs h o r mo co le K k (nI x - 1) (nI y) hk hkd) (cwV 2 hts gX2_quarters_X2_isLand rfl rfl rfl (by decide +kernel) ⟨Nat.le_of_ble_eq_true rfl, Nat.le_of_ble_eq_true rfl⟩) (rsV hK hP hN [0, 1, 2, 3, 4, 5, 6, 7, 8, 9] rfl (ci := 2) (q0 := 0) rfl rfl) rfl rfl hl.1 rfl (lv_room (Nat.le_of_ble_eq_true rfl)) dX2_quarters_113 ⟨Nat.le_of_ble_eq_true rfl, Nat.le_of_ble_eq_true rfl⟩) hS hP (fun H locs hP hS => ?_)
                            refine tpi (x' := b2i (lnO k (nbC (8 * y + x) 1))) (by rw [lotO_l hx8 hy8]) ?_
                            have hb0 : (lsO k v (nbC (8 * y + x) 1) (v (8 * y + x))) < 64 := Nat.lt_of_le_of_lt (lsO_le _ _ _ _) ha0
                            have jn0 : ∀ (H : Heap) (locs : List Loc) (ls : Array Slot), va_P G vwCl [(h, oS o mo co le), (o, oQ (cs 1) 8 r), ((r 0), iB (cs 0) 8 (cl8 K 0)), ((r 1), iB (cs 0) 8 (cl8 K 1)), ((r 2), iB (cs 0) 8 (cl8 K 2)), ((r 3), iB (cs 0) 8 (cl8 K 3)), ((r 4), iB (cs 0) 8 (cl8 K 4)), ((r 5), iB (cs 0) 8 (cl8 K 5)), ((r 6), iB (cs 0) 8 (cl8 K 6)), ((r 7), iB (cs 0) 8 (cl8 K 7)), (o9, oQ (cs 1) 8 r9), ((r9 0), iB (cs 0) 8 (cl8 V 0)), ((r9 1), iB (cs 0) 8 (cl8 V 1)), ((r9 2), iB (cs 0) 8 (cl8 V 2)), ((r9 3), iB (cs 0) 8 (cl8 V 3)), ((r9 4), iB (cs 0) 8 (cl8 V 4)), ((r9 5), iB (cs 0) 8 (cl8 V 5)), ((r9 6), iB (cs 0) 8 (cl8 V 6)), ((r9 7), iB (cs 0) 8 (cl8 V 7))] H → va_D A [(h, oS o mo co le), (o, oQ (cs 1) 8 r), ((r 0), iB (cs 0) 8 (cl8 K 0)), ((r 1), iB (cs 0) 8 (cl8 K 1)), ((r 2), iB (cs 0) 8 (cl8 K 2)), ((r 3), iB (cs 0) 8 (cl8 K 3)), ((r 4), iB (cs 0) 8 (cl8 K 4)), ((r 5), iB (cs 0) 8 (cl8 K 5)), ((r 6), iB (cs 0) 8 (cl8 K 6)), ((r 7), iB (cs 0) 8 (cl8 K 7)), (o9, oQ (cs 1) 8 r9), ((r9 0), iB (cs 0) 8 (cl8 V 0)), ((r9 1), iB (cs 0) 8 (cl8 V 1)), ((r9 2), iB (cs 0) 8 (cl8 V 2)), ((r9 3), iB (cs 0) 8 (cl8 V 3)), ((r9 4), iB (cs 0) 8 (cl8 V 4)), ((r9 5), iB (cs 0) 8 (cl8 V 5)), ((r9 6), iB (cs 0) 8 (cl8 V 6)), ((r9 7), iB (cs 0) 8 (cl8 V 7))] → va_S A s.heap H locs → lv_has ls 6 [(5, .int (nI (lsO k v (nbC (8 * y + x) 1) (v (8 * y + x))))), (0, .ref h), (1, .ref o9), (2, .int (nI fg)), (3, .int (nI x)), (4, .int (nI y))] → W p l e (headSpec wsX2_quarters rmX2_quarters).room s m ([.ref h] : List Value).toArray below meth c H locs 9 72 Q (F0 m 134 ls []) := by
                              intro H locs ls hP hD hS hl
                              have ha1 := hb0
                              refine lv_aload_n hx hb dX2_quarters_134 rfl (lv_at hl 1 rfl) ?_
                              refine lv_iload_n hx hb dX2_quarters_135 rfl (lv_at hl 4 rfl) ?_
                              refine lv_iconst (v := 1) hx hb dX2_quarters_136 (by decide) ?_
                              refine lv_iadd hx hb dX2_quarters_137 ?_
                              refine lv_iload hx hb dX2_quarters_138 (lv_at hl 5 rfl) ?_
                              refine cr_i (va_runV (As := [.int ((nI x) + 1), .int (nI y)]) (rest := []) FX (c_X2_isLand l G cs h o r mo co le K k (nI x + 1) (nI y) hk hkd) (cwV 2 hts gX2_quarters_X2_isLand rfl rfl rfl (by decide +kernel) ⟨Nat.le_of_ble_eq_true rfl, Nat.le_of_ble_eq_true rfl⟩) (rsV hK hP hN [0, 1, 2, 3, 4, 5, 6, 7, 8, 9] rfl (ci := 2) (q0 := 0) rfl rfl) rfl rfl hl.1 rfl (lv_room (Nat.le_of_ble_eq_true rfl)) dX2_quarters_140 ⟨Nat.le_of_ble_eq_true rfl, Nat.le_of_ble_eq_true rfl⟩) hS hP (fun H locs hP hS => ?_)
                              refine tpi (x' := b2i (lnO k (nbC (8 * y + x) 2))) (by rw [lotO_r hx8 hy8]) ?_
                              have hb1 : (lsO k v (nbC (8 * y + x) 2) (lsO k v (nbC (8 * y + x) 1) (v (8 * y + x)))) < 64 := Nat.lt_of_le_of_lt (lsO_le _ _ _ _) ha1
                              have jn1 : ∀ (H : Heap) (locs : List Loc) (ls : Array Slot), va_P G vwCl [(h, oS o mo co le), (o, oQ (cs 1) 8 r), ((r 0), iB (cs 0) 8 (cl8 K 0)), ((r 1), iB (cs 0) 8 (cl8 K 1)), ((r 2), iB (cs 0) 8 (cl8 K 2)), ((r 3), iB (cs 0) 8 (cl8 K 3)), ((r 4), iB (cs 0) 8 (cl8 K 4)), ((r 5), iB (cs 0) 8 (cl8 K 5)), ((r 6), iB (cs 0) 8 (cl8 K 6)), ((r 7), iB (cs 0) 8 (cl8 K 7)), (o9, oQ (cs 1) 8 r9), ((r9 0), iB (cs 0) 8 (cl8 V 0)), ((r9 1), iB (cs 0) 8 (cl8 V 1)), ((r9 2), iB (cs 0) 8 (cl8 V 2)), ((r9 3), iB (cs 0) 8 (cl8 V 3)), ((r9 4), iB (cs 0) 8 (cl8 V 4)), ((r9 5), iB (cs 0) 8 (cl8 V 5)), ((r9 6), iB (cs 0) 8 (cl8 V 6)), ((r9 7), iB (cs 0) 8 (cl8 V 7))] H → va_D A [(h, oS o mo co le), (o, oQ (cs 1) 8 r), ((r 0), iB (cs 0) 8 (cl8 K 0)), ((r 1), iB (cs 0) 8 (cl8 K 1)), ((r 2), iB (cs 0) 8 (cl8 K 2)), ((r 3), iB (cs 0) 8 (cl8 K 3)), ((r 4), iB (cs 0) 8 (cl8 K 4)), ((r 5), iB (cs 0) 8 (cl8 K 5)), ((r 6), iB (cs 0) 8 (cl8 K 6)), ((r 7), iB (cs 0) 8 (cl8 K 7)), (o9, oQ (cs 1) 8 r9), ((r9 0), iB (cs 0) 8 (cl8 V 0)), ((r9 1), iB (cs 0) 8 (cl8 V 1)), ((r9 2), iB (cs 0) 8 (cl8 V 2)), ((r9 3), iB (cs 0) 8 (cl8 V 3)), ((r9 4), iB (cs 0) 8 (cl8 V 4)), ((r9 5), iB (cs 0) 8 (cl8 V 5)), ((r9 6), iB (cs 0) 8 (cl8 V 6)), ((r9 7), iB (cs 0) 8 (cl8 V 7))] → va_S A s.heap H locs → lv_has ls 6 [(5, .int (nI (lsO k v (nbC (8 * y + x) 2) (lsO k v (nbC (8 * y + x) 1) (v (8 * y + x)))))), (0, .ref h), (1, .ref o9), (2, .int (nI fg)), (3, .int (nI x)), (4, .int (nI y))] → W p l e (headSpec wsX2_quarters rmX2_quarters).room s m ([.ref h] : List Value).toArray below meth c H locs 9 72 Q (F0 m 161 ls []) := by
                                intro H locs ls hP hD hS hl
                                have ha2 := hb1
                                refine lv_aload_n hx hb dX2_quarters_161 rfl (lv_at hl 1 rfl) ?_
                                refine lv_iload_n hx hb dX2_quarters_162 rfl (lv_at hl 4 rfl) ?_
                                refine lv_iload hx hb dX2_quarters_163 (lv_at hl 5 rfl) ?_
                                refine lv_iconst (v := 1) hx hb dX2_quarters_165 (by decide) ?_
                                refine lv_isub hx hb dX2_quarters_166 ?_
                                refine cr_i (va_runV (As := [.int (nI x), .int ((nI y) - 1)]) (rest := []) FX (c_X2_isLand l G cs h o r mo co le K k (nI x) (nI y - 1) hk hkd) (cwV 2 hts gX2_quarters_X2_isLand rfl rfl rfl (by decide +kernel) ⟨Nat.le_of_ble_eq_true rfl, Nat.le_of_ble_eq_true rfl⟩) (rsV hK hP hN [0, 1, 2, 3, 4, 5, 6, 7, 8, 9] rfl (ci := 2) (q0 := 0) rfl rfl) rfl rfl hl.1 rfl (lv_room (Nat.le_of_ble_eq_true rfl)) dX2_quarters_167 ⟨Nat.le_of_ble_eq_true rfl, Nat.le_of_ble_eq_true rfl⟩) hS hP (fun H locs hP hS => ?_)
                                refine tpi (x' := b2i (lnO k (nbC (8 * y + x) 0))) (by rw [lotO_u hx8 hy8]) ?_
                                have hb2 : (lsO k v (nbC (8 * y + x) 0) (lsO k v (nbC (8 * y + x) 2) (lsO k v (nbC (8 * y + x) 1) (v (8 * y + x))))) < 64 := Nat.lt_of_le_of_lt (lsO_le _ _ _ _) ha2
                                have jn2 : ∀ (H : Heap) (locs : List Loc) (ls : Array Slot), va_P G vwCl [(h, oS o mo co le), (o, oQ (cs 1) 8 r), ((r 0), iB (cs 0) 8 (cl8 K 0)), ((r 1), iB (cs 0) 8 (cl8 K 1)), ((r 2), iB (cs 0) 8 (cl8 K 2)), ((r 3), iB (cs 0) 8 (cl8 K 3)), ((r 4), iB (cs 0) 8 (cl8 K 4)), ((r 5), iB (cs 0) 8 (cl8 K 5)), ((r 6), iB (cs 0) 8 (cl8 K 6)), ((r 7), iB (cs 0) 8 (cl8 K 7)), (o9, oQ (cs 1) 8 r9), ((r9 0), iB (cs 0) 8 (cl8 V 0)), ((r9 1), iB (cs 0) 8 (cl8 V 1)), ((r9 2), iB (cs 0) 8 (cl8 V 2)), ((r9 3), iB (cs 0) 8 (cl8 V 3)), ((r9 4), iB (cs 0) 8 (cl8 V 4)), ((r9 5), iB (cs 0) 8 (cl8 V 5)), ((r9 6), iB (cs 0) 8 (cl8 V 6)), ((r9 7), iB (cs 0) 8 (cl8 V 7))] H → va_D A [(h, oS o mo co le), (o, oQ (cs 1) 8 r), ((r 0), iB (cs 0) 8 (cl8 K 0)), ((r 1), iB (cs 0) 8 (cl8 K 1)), ((r 2), iB (cs 0) 8 (cl8 K 2)), ((r 3), iB (cs 0) 8 (cl8 K 3)), ((r 4), iB (cs 0) 8 (cl8 K 4)), ((r 5), iB (cs 0) 8 (cl8 K 5)), ((r 6), iB (cs 0) 8 (cl8 K 6)), ((r 7), iB (cs 0) 8 (cl8 K 7)), (o9, oQ (cs 1) 8 r9), ((r9 0), iB (cs 0) 8 (cl8 V 0)), ((r9 1), iB (cs 0) 8 (cl8 V 1)), ((r9 2), iB (cs 0) 8 (cl8 V 2)), ((r9 3), iB (cs 0) 8 (cl8 V 3)), ((r9 4), iB (cs 0) 8 (cl8 V 4)), ((r9 5), iB (cs 0) 8 (cl8 V 5)), ((r9 6), iB (cs 0) 8 (cl8 V 6)), ((r9 7), iB (cs 0) 8 (cl8 V 7))] → va_S A s.heap H locs → lv_has ls 6 [(5, .int (nI (lsO k v (nbC (8 * y + x) 0) (lsO k v (nbC (8 * y + x) 2) (lsO k v (nbC (8 * y + x) 1) (v (8 * y + x))))))), (0, .ref h), (1, .ref o9), (2, .int (nI fg)), (3, .int (nI x)), (4, .int (nI y))] → W p l e (headSpec wsX2_quarters rmX2_quarters).room s m ([.ref h] : List Value).toArray below meth c H locs 9 72 Q (F0 m 188 ls []) := by
                                  intro H locs ls hP hD hS hl
                                  have ha3 := hb2
                                  refine lv_aload_n hx hb dX2_quarters_188 rfl (lv_at hl 1 rfl) ?_
                                  refine lv_iload_n hx hb dX2_quarters_189 rfl (lv_at hl 4 rfl) ?_
                                  refine lv_iload hx hb dX2_quarters_190 (lv_at hl 5 rfl) ?_
                                  refine lv_iconst (v := 1) hx hb dX2_quarters_192 (by decide) ?_
                                  refine lv_iadd hx hb dX2_quarters_193 ?_
                                  refine cr_i (va_runV (As := [.int (nI x), .int ((nI y) + 1)]) (rest := []) FX (c_X2_isLand l G cs h o r mo co le K k (nI x) (nI y + 1) hk hkd) (cwV 2 hts gX2_quarters_X2_isLand rfl rfl rfl (by decide +kernel) ⟨Nat.le_of_ble_eq_true rfl, Nat.le_of_ble_eq_true rfl⟩) (rsV hK hP hN [0, 1, 2, 3, 4, 5, 6, 7, 8, 9] rfl (ci := 2) (q0 := 0) rfl rfl) rfl rfl hl.1 rfl (lv_room (Nat.le_of_ble_eq_true rfl)) dX2_quarters_194 ⟨Nat.le_of_ble_eq_true rfl, Nat.le_of_ble_eq_true rfl⟩) hS hP (fun H locs hP hS => ?_)
                                  refine tpi (x' := b2i (lnO k (nbC (8 * y + x) 3))) (by rw [lotO_d hx8 hy8]) ?_
                                  have hb3 : (lsO k v (nbC (8 * y + x) 3) (lsO k v (nbC (8 * y + x) 0) (lsO k v (nbC (8 * y + x) 2) (lsO k v (nbC (8 * y + x) 1) (v (8 * y + x)))))) < 64 := Nat.lt_of_le_of_lt (lsO_le _ _ _ _) ha3
                                  have jn3 : ∀ (H : Heap) (locs : List Loc) (ls : Array Slot), va_P G vwCl [(h, oS o mo co le), (o, oQ (cs 1) 8 r), ((r 0), iB (cs 0) 8 (cl8 K 0)), ((r 1), iB (cs 0) 8 (cl8 K 1)), ((r 2), iB (cs 0) 8 (cl8 K 2)), ((r 3), iB (cs 0) 8 (cl8 K 3)), ((r 4), iB (cs 0) 8 (cl8 K 4)), ((r 5), iB (cs 0) 8 (cl8 K 5)), ((r 6), iB (cs 0) 8 (cl8 K 6)), ((r 7), iB (cs 0) 8 (cl8 K 7)), (o9, oQ (cs 1) 8 r9), ((r9 0), iB (cs 0) 8 (cl8 V 0)), ((r9 1), iB (cs 0) 8 (cl8 V 1)), ((r9 2), iB (cs 0) 8 (cl8 V 2)), ((r9 3), iB (cs 0) 8 (cl8 V 3)), ((r9 4), iB (cs 0) 8 (cl8 V 4)), ((r9 5), iB (cs 0) 8 (cl8 V 5)), ((r9 6), iB (cs 0) 8 (cl8 V 6)), ((r9 7), iB (cs 0) 8 (cl8 V 7))] H → va_D A [(h, oS o mo co le), (o, oQ (cs 1) 8 r), ((r 0), iB (cs 0) 8 (cl8 K 0)), ((r 1), iB (cs 0) 8 (cl8 K 1)), ((r 2), iB (cs 0) 8 (cl8 K 2)), ((r 3), iB (cs 0) 8 (cl8 K 3)), ((r 4), iB (cs 0) 8 (cl8 K 4)), ((r 5), iB (cs 0) 8 (cl8 K 5)), ((r 6), iB (cs 0) 8 (cl8 K 6)), ((r 7), iB (cs 0) 8 (cl8 K 7)), (o9, oQ (cs 1) 8 r9), ((r9 0), iB (cs 0) 8 (cl8 V 0)), ((r9 1), iB (cs 0) 8 (cl8 V 1)), ((r9 2), iB (cs 0) 8 (cl8 V 2)), ((r9 3), iB (cs 0) 8 (cl8 V 3)), ((r9 4), iB (cs 0) 8 (cl8 V 4)), ((r9 5), iB (cs 0) 8 (cl8 V 5)), ((r9 6), iB (cs 0) 8 (cl8 V 6)), ((r9 7), iB (cs 0) 8 (cl8 V 7))] → va_S A s.heap H locs → lv_has ls 6 [(5, .int (nI (lsO k v (nbC (8 * y + x) 3) (lsO k v (nbC (8 * y + x) 0) (lsO k v (nbC (8 * y + x) 2) (lsO k v (nbC (8 * y + x) 1) (v (8 * y + x)))))))), (0, .ref h), (1, .ref o9), (2, .int (nI fg)), (3, .int (nI x)), (4, .int (nI y))] → W p l e (headSpec wsX2_quarters rmX2_quarters).room s m ([.ref h] : List Value).toArray below meth c H locs 9 72 Q (F0 m 215 ls []) := by
                                    intro H locs ls hP hD hS hl
                                    have ha4 := hb3
                                    have hL : (lsO k v (nbC (8 * y + x) 3) (lsO k v (nbC (8 * y + x) 0) (lsO k v (nbC (8 * y + x) 2) (lsO k v (nbC (8 * y + x) 1) (v (8 * y + x)))))) = lst k v (8 * y + x) := rfl
                                    rw [hL] at hl
                                    have hl : lv_has ls 6 [(5, .int (nI (lst k v (8 * y + x)))), (0, .ref h), (1, .ref o9), (2, .int (nI fg)), (3, .int (nI x)), (4, .int (nI y))] := hl
                                    have hL64 : lst k v (8 * y + x) < 64 := lst_31 hv64
                                    have hL1 := lst_le k v (8 * y + x)
                                    refine lv_iload_n hx hb dX2_quarters_215 rfl (lv_at hl 3 rfl) ?_
                                    refine lv_iload hx hb dX2_quarters_216 (lv_at hl 0 rfl) ?_
                                    refine lv_aload_n hx hb dX2_quarters_218 rfl (lv_at hl 2 rfl) ?_
                                    refine lv_iload_n hx hb dX2_quarters_219 rfl (lv_at hl 4 rfl) ?_
                                    refine g_ald (r := r9) (n := 8) hx hb hK hP 10 1 rfl rfl (x := x) (hx8) (by decide) dX2_quarters_220 ?_
                                    refine lv_iload hx hb dX2_quarters_221 (lv_at hl 5 rfl) ?_
                                    refine g_iald (pre := [(h, oS o mo co le), (o, oQ (cs 1) 8 r), ((r 0), iB (cs 0) 8 (cl8 K 0)), ((r 1), iB (cs 0) 8 (cl8 K 1)), ((r 2), iB (cs 0) 8 (cl8 K 2)), ((r 3), iB (cs 0) 8 (cl8 K 3)), ((r 4), iB (cs 0) 8 (cl8 K 4)), ((r 5), iB (cs 0) 8 (cl8 K 5)), ((r 6), iB (cs 0) 8 (cl8 K 6)), ((r 7), iB (cs 0) 8 (cl8 K 7))]) (post := []) (cO := (cs 1)) (cR := (cs 0)) (o := o9) (r := r9) (K := V) hx hb hK hP 0 rfl (x := x) (y := y) (hx8) (hy8) dX2_quarters_223 ?_
                                    refine tpi (x' := nI (v (8 * y + x))) ((hV _ hp64).trans (if_pos hln)) ?_
                                    have jk : ∀ (H : Heap) (locs : List Loc), va_P G vwCl [(h, oS o mo co le), (o, oQ (cs 1) 8 r), ((r 0), iB (cs 0) 8 (cl8 K 0)), ((r 1), iB (cs 0) 8 (cl8 K 1)), ((r 2), iB (cs 0) 8 (cl8 K 2)), ((r 3), iB (cs 0) 8 (cl8 K 3)), ((r 4), iB (cs 0) 8 (cl8 K 4)), ((r 5), iB (cs 0) 8 (cl8 K 5)), ((r 6), iB (cs 0) 8 (cl8 K 6)), ((r 7), iB (cs 0) 8 (cl8 K 7)), (o9, oQ (cs 1) 8 r9), ((r9 0), iB (cs 0) 8 (cl8 V 0)), ((r9 1), iB (cs 0) 8 (cl8 V 1)), ((r9 2), iB (cs 0) 8 (cl8 V 2)), ((r9 3), iB (cs 0) 8 (cl8 V 3)), ((r9 4), iB (cs 0) 8 (cl8 V 4)), ((r9 5), iB (cs 0) 8 (cl8 V 5)), ((r9 6), iB (cs 0) 8 (cl8 V 6)), ((r9 7), iB (cs 0) 8 (cl8 V 7))] H → va_D A [(h, oS o mo co le), (o, oQ (cs 1) 8 r), ((r 0), iB (cs 0) 8 (cl8 K 0)), ((r 1), iB (cs 0) 8 (cl8 K 1)), ((r 2), iB (cs 0) 8 (cl8 K 2)), ((r 3), iB (cs 0) 8 (cl8 K 3)), ((r 4), iB (cs 0) 8 (cl8 K 4)), ((r 5), iB (cs 0) 8 (cl8 K 5)), ((r 6), iB (cs 0) 8 (cl8 K 6)), ((r 7), iB (cs 0) 8 (cl8 K 7)), (o9, oQ (cs 1) 8 r9), ((r9 0), iB (cs 0) 8 (cl8 V 0)), ((r9 1), iB (cs 0) 8 (cl8 V 1)), ((r9 2), iB (cs 0) 8 (cl8 V 2)), ((r9 3), iB (cs 0) 8 (cl8 V 3)), ((r9 4), iB (cs 0) 8 (cl8 V 4)), ((r9 5), iB (cs 0) 8 (cl8 V 5)), ((r9 6), iB (cs 0) 8 (cl8 V 6)), ((r9 7), iB (cs 0) 8 (cl8 V 7))] → va_S A s.heap H locs → W p l e (headSpec wsX2_quarters rmX2_quarters).room s m ([.ref h] : List Value).toArray below meth c H locs 9 72 Q (F0 m 232 ls [.int (b2i (decide (lst k v (8 * y + x) < v (8 * y + x)))), .int (nI fg)]) := by
                                      intro H locs hP hD hS
                                      refine lv_ior hx hb dX2_quarters_232 ?_
                                      refine tpi (x' := nI (if lst k v (8 * y + x) < v (8 * y + x) then 1 else fg)) ((mo_or (SQ_mo hSQ)).trans (by by_cases g9 : lst k v (8 * y + x) < v (8 * y + x); rw [decide_eq_true g9, if_pos rfl, if_pos g9]; rw [decide_eq_false g9, if_neg g9]; rfl)) ?_
                                      refine lv_istore_n (lv' := [(2, .int (nI (if lst k v (8 * y + x) < v (8 * y + x) then 1 else fg))), (5, .int (nI (lst k v (8 * y + x)))), (0, .ref h), (1, .ref o9), (3, .int (nI x)), (4, .int (nI y))]) hx hb dX2_quarters_233 rfl hl (by decide) rfl (fun ls hl => ?_)
                                      refine lv_aload_n hx hb dX2_quarters_234 rfl (lv_at hl 3 rfl) ?_
                                      refine lv_iload_n hx hb dX2_quarters_235 rfl (lv_at hl 4 rfl) ?_
                                      refine g_ald (r := r9) (n := 8) hx hb hK hP 10 1 rfl rfl (x := x) (hx8) (by decide) dX2_quarters_236 ?_
                                      refine lv_iload hx hb dX2_quarters_237 (lv_at hl 5 rfl) ?_
                                      refine lv_iload hx hb dX2_quarters_239 (lv_at hl 1 rfl) ?_
                                      refine g_iast (pre := [(h, oS o mo co le), (o, oQ (cs 1) 8 r), ((r 0), iB (cs 0) 8 (cl8 K 0)), ((r 1), iB (cs 0) 8 (cl8 K 1)), ((r 2), iB (cs 0) 8 (cl8 K 2)), ((r 3), iB (cs 0) 8 (cl8 K 3)), ((r 4), iB (cs 0) 8 (cl8 K 4)), ((r 5), iB (cs 0) 8 (cl8 K 5)), ((r 6), iB (cs 0) 8 (cl8 K 6)), ((r 7), iB (cs 0) 8 (cl8 K 7))]) (post := []) (cO := (cs 1)) (cR := (cs 0)) (o := o9) (r := r9) (K := V) hx hb hK hP hD hS 0 rfl (x := x) (y := y) (hx8) (hy8) (v := (nI (lst k v (8 * y + x)))) dX2_quarters_241 (fun H locs hP hD hS => ?_)
                                      have hP : va_P G vwCl [(h, oS o mo co le), (o, oQ (cs 1) 8 r), ((r 0), iB (cs 0) 8 (cl8 K 0)), ((r 1), iB (cs 0) 8 (cl8 K 1)), ((r 2), iB (cs 0) 8 (cl8 K 2)), ((r 3), iB (cs 0) 8 (cl8 K 3)), ((r 4), iB (cs 0) 8 (cl8 K 4)), ((r 5), iB (cs 0) 8 (cl8 K 5)), ((r 6), iB (cs 0) 8 (cl8 K 6)), ((r 7), iB (cs 0) 8 (cl8 K 7)), (o9, oQ (cs 1) 8 r9), ((r9 0), iB (cs 0) 8 (cl8 (upd V (8 * y + x) (nI (lst k v (8 * y + x)))) 0)), ((r9 1), iB (cs 0) 8 (cl8 (upd V (8 * y + x) (nI (lst k v (8 * y + x)))) 1)), ((r9 2), iB (cs 0) 8 (cl8 (upd V (8 * y + x) (nI (lst k v (8 * y + x)))) 2)), ((r9 3), iB (cs 0) 8 (cl8 (upd V (8 * y + x) (nI (lst k v (8 * y + x)))) 3)), ((r9 4), iB (cs 0) 8 (cl8 (upd V (8 * y + x) (nI (lst k v (8 * y + x)))) 4)), ((r9 5), iB (cs 0) 8 (cl8 (upd V (8 * y + x) (nI (lst k v (8 * y + x)))) 5)), ((r9 6), iB (cs 0) 8 (cl8 (upd V (8 * y + x) (nI (lst k v (8 * y + x)))) 6)), ((r9 7), iB (cs 0) 8 (cl8 (upd V (8 * y + x) (nI (lst k v (8 * y + x)))) 7))] H := hP
                                      have hD : va_D A [(h, oS o mo co le), (o, oQ (cs 1) 8 r), ((r 0), iB (cs 0) 8 (cl8 K 0)), ((r 1), iB (cs 0) 8 (cl8 K 1)), ((r 2), iB (cs 0) 8 (cl8 K 2)), ((r 3), iB (cs 0) 8 (cl8 K 3)), ((r 4), iB (cs 0) 8 (cl8 K 4)), ((r 5), iB (cs 0) 8 (cl8 K 5)), ((r 6), iB (cs 0) 8 (cl8 K 6)), ((r 7), iB (cs 0) 8 (cl8 K 7)), (o9, oQ (cs 1) 8 r9), ((r9 0), iB (cs 0) 8 (cl8 (upd V (8 * y + x) (nI (lst k v (8 * y + x)))) 0)), ((r9 1), iB (cs 0) 8 (cl8 (upd V (8 * y + x) (nI (lst k v (8 * y + x)))) 1)), ((r9 2), iB (cs 0) 8 (cl8 (upd V (8 * y + x) (nI (lst k v (8 * y + x)))) 2)), ((r9 3), iB (cs 0) 8 (cl8 (upd V (8 * y + x) (nI (lst k v (8 * y + x)))) 3)), ((r9 4), iB (cs 0) 8 (cl8 (upd V (8 * y + x) (nI (lst k v (8 * y + x)))) 4)), ((r9 5), iB (cs 0) 8 (cl8 (upd V (8 * y + x) (nI (lst k v (8 * y + x)))) 5)), ((r9 6), iB (cs 0) 8 (cl8 (upd V (8 * y + x) (nI (lst k v (8 * y + x)))) 6)), ((r9 7), iB (cs 0) 8 (cl8 (upd V (8 * y + x) (nI (lst k v (8 * y + x)))) 7))] := hD
                                      refine lv_iinc (v := nI (y + 1)) (lv' := [(4, .int (nI (y + 1))), (2, .int (nI (if lst k v (8 * y + x) < v (8 * y + x) then 1 else fg))), (5, .int (nI (lst k v (8 * y + x)))), (0, .ref h), (1, .ref o9), (3, .int (nI x))]) hx hb dX2_quarters_242 hl (k := 5) rfl (nI_inc y) (by decide) rfl (fun ls hl => ?_)
                                      refine lv_goto (tgt := 80) hx hb dX2_quarters_245 (by decide) ?_
                                      exact ih_py (y + 1) (if lst k v (8 * y + x) < v (8 * y + x) then 1 else fg) (updN v (8 * y + x) (lst k v (8 * y + x))) (upd V (8 * y + x) (nI (lst k v (8 * y + x)))) (by omega) (SQ_step hSQ hp64) (QV_step hQV hp64 hln) (mkQ_upd hln hV) (by omega) _ _ _ hP hD hS (lv_sub hl [3, 4, 1, 5, 0] (rfl))
                                    refine lv_icmp_ge (tgt := 231) hx hb dX2_quarters_224 (by decide) (fun c9 => ?_) (fun c9 => ?_)
                                    · skip
                                      refine lv_iconst (v := 0) hx hb dX2_quarters_231 (by decide) ?_
                                      refine tpi (x' := b2i (decide (lst k v (8 * y + x) < v (8 * y + x)))) (by rw [decide_eq_false (fun e9 => absurd ((nI_ltb (by omega) (by omega)).mpr e9) (Int32.not_lt.mpr c9))]; rfl) ?_
                                      exact jk H locs hP hD hS
                                    · skip
                                      refine lv_iconst (v := 1) hx hb dX2_quarters_227 (by decide) ?_
                                      refine lv_goto (tgt := 232) hx hb dX2_quarters_228 (by decide) ?_
                                      refine tpi (x' := b2i (decide (lst k v (8 * y + x) < v (8 * y + x)))) (by rw [decide_eq_true ((nI_ltb (by omega) (by omega)).mp (Int32.not_le.mp c9))]; rfl) ?_
                                      exact jk H locs hP hD hS
                                  rcases hq9 : lnO k (nbC (8 * y + x) 3) with _ | _
                                  · skip
                                    refine tpi (x' := 0) (rfl) ?_
                                    refine lv_if_eq (tgt := 215) hx hb dX2_quarters_197 (by decide) (fun _ => ?_) (fun c => absurd (rfl) c)
                                    exact jn3 H locs ls hP hD hS (by rw [lsO_no hq9]; exact hl)
                                  · skip
                                    refine tpi (x' := 1) (rfl) ?_
                                    refine lv_if_eq (tgt := 215) hx hb dX2_quarters_197 (by decide) (fun c => absurd c (by decide)) (fun _ => ?_)
                                    obtain ⟨q, hq, hlq⟩ : ∃ q, nbC (8 * y + x) 3 = some q ∧ lnd (k q) = true := by cases e9 : nbC (8 * y + x) 3 with | none => rw [e9] at hq9; cases hq9 | some q => rw [e9] at hq9; exact ⟨q, rfl, hq9⟩
                                    have hq64 : q < 64 := nbC_lt hp64 hq
                                    obtain ⟨hq1, -⟩ := hQV q hq64 hlq
                                    have hcc : (8 * y + x) / 8 < 7 ∧ q = 8 * y + x + 8 := by have e8 := hq; simp only [nbC] at e8; split at e8 <;> simp at e8; omega
                                    refine lv_iload hx hb dX2_quarters_200 (lv_at hl 0 rfl) ?_
                                    refine lv_aload_n hx hb dX2_quarters_202 rfl (lv_at hl 2 rfl) ?_
                                    refine lv_iload_n hx hb dX2_quarters_203 rfl (lv_at hl 4 rfl) ?_
                                    refine g_ald (r := r9) (n := 8) hx hb hK hP 10 1 rfl rfl (x := x) (hx8) (by decide) dX2_quarters_204 ?_
                                    refine lv_iload hx hb dX2_quarters_205 (lv_at hl 5 rfl) ?_
                                    refine lv_iconst (v := 1) hx hb dX2_quarters_207 (by decide) ?_
                                    refine lv_iadd hx hb dX2_quarters_208 ?_
                                    refine tpi (x' := nI (y + 1)) (p1_in y) ?_
                                    refine g_iald (pre := [(h, oS o mo co le), (o, oQ (cs 1) 8 r), ((r 0), iB (cs 0) 8 (cl8 K 0)), ((r 1), iB (cs 0) 8 (cl8 K 1)), ((r 2), iB (cs 0) 8 (cl8 K 2)), ((r 3), iB (cs 0) 8 (cl8 K 3)), ((r 4), iB (cs 0) 8 (cl8 K 4)), ((r 5), iB (cs 0) 8 (cl8 K 5)), ((r 6), iB (cs 0) 8 (cl8 K 6)), ((r 7), iB (cs 0) 8 (cl8 K 7))]) (post := []) (cO := (cs 1)) (cR := (cs 0)) (o := o9) (r := r9) (K := V) hx hb hK hP 0 rfl (x := x) (y := (y + 1)) (by omega) (by omega) dX2_quarters_209 ?_
                                    refine tpi (x' := nI (v q)) (by rw [show 8 * (y + 1) + x = q by omega, hV q hq64]; exact if_pos hlq) ?_
                                    refine va_mmin hx hb (hml.trans hl.1.symm) hown (hts (.methodLink RX2 39 Lib.Math.min.name) (by decide +kernel)) (hts (.static Lib.Math.min.name) (by decide +kernel)) (hts (.initialized "java/lang/Math") (by decide +kernel)) (hts (.code Lib.Math.min.name Lib.Math.min.code 2 (some .int)) (by decide +kernel)) (Nat.le_of_ble_eq_true rfl) (Nat.le_of_ble_eq_true rfl) (Nat.le_of_ble_eq_true rfl) (Nat.le_of_ble_eq_true rfl) dX2_quarters_210 ?_
                                    refine tpi (x' := nI (lsO k v (nbC (8 * y + x) 3) (lsO k v (nbC (8 * y + x) 0) (lsO k v (nbC (8 * y + x) 2) (lsO k v (nbC (8 * y + x) 1) (v (8 * y + x))))))) ((lsO_yes (a := (lsO k v (nbC (8 * y + x) 0) (lsO k v (nbC (8 * y + x) 2) (lsO k v (nbC (8 * y + x) 1) (v (8 * y + x)))))) hlq (by omega) (by omega)).trans (by rw [hq])) ?_
                                    refine lv_istore (lv' := [(5, .int (nI (lsO k v (nbC (8 * y + x) 3) (lsO k v (nbC (8 * y + x) 0) (lsO k v (nbC (8 * y + x) 2) (lsO k v (nbC (8 * y + x) 1) (v (8 * y + x)))))))), (0, .ref h), (1, .ref o9), (2, .int (nI fg)), (3, .int (nI x)), (4, .int (nI y))]) hx hb dX2_quarters_213 hl (by decide) rfl (fun ls hl => ?_)
                                    exact jn3 H locs ls hP hD hS (lv_sub hl [0, 1, 2, 3, 4, 5] rfl)
                                rcases hq9 : lnO k (nbC (8 * y + x) 0) with _ | _
                                · skip
                                  refine tpi (x' := 0) (rfl) ?_
                                  refine lv_if_eq (tgt := 188) hx hb dX2_quarters_170 (by decide) (fun _ => ?_) (fun c => absurd (rfl) c)
                                  exact jn2 H locs ls hP hD hS (by rw [lsO_no hq9]; exact hl)
                                · skip
                                  refine tpi (x' := 1) (rfl) ?_
                                  refine lv_if_eq (tgt := 188) hx hb dX2_quarters_170 (by decide) (fun c => absurd c (by decide)) (fun _ => ?_)
                                  obtain ⟨q, hq, hlq⟩ : ∃ q, nbC (8 * y + x) 0 = some q ∧ lnd (k q) = true := by cases e9 : nbC (8 * y + x) 0 with | none => rw [e9] at hq9; cases hq9 | some q => rw [e9] at hq9; exact ⟨q, rfl, hq9⟩
                                  have hq64 : q < 64 := nbC_lt hp64 hq
                                  obtain ⟨hq1, -⟩ := hQV q hq64 hlq
                                  have hcc : 0 < (8 * y + x) / 8 ∧ q = 8 * y + x - 8 := by have e8 := hq; simp only [nbC] at e8; split at e8 <;> simp at e8; omega
                                  refine lv_iload hx hb dX2_quarters_173 (lv_at hl 0 rfl) ?_
                                  refine lv_aload_n hx hb dX2_quarters_175 rfl (lv_at hl 2 rfl) ?_
                                  refine lv_iload_n hx hb dX2_quarters_176 rfl (lv_at hl 4 rfl) ?_
                                  refine g_ald (r := r9) (n := 8) hx hb hK hP 10 1 rfl rfl (x := x) (hx8) (by decide) dX2_quarters_177 ?_
                                  refine lv_iload hx hb dX2_quarters_178 (lv_at hl 5 rfl) ?_
                                  refine lv_iconst (v := 1) hx hb dX2_quarters_180 (by decide) ?_
                                  refine lv_isub hx hb dX2_quarters_181 ?_
                                  refine tpi (x' := nI (y - 1)) (m1_in (by omega)) ?_
                                  refine g_iald (pre := [(h, oS o mo co le), (o, oQ (cs 1) 8 r), ((r 0), iB (cs 0) 8 (cl8 K 0)), ((r 1), iB (cs 0) 8 (cl8 K 1)), ((r 2), iB (cs 0) 8 (cl8 K 2)), ((r 3), iB (cs 0) 8 (cl8 K 3)), ((r 4), iB (cs 0) 8 (cl8 K 4)), ((r 5), iB (cs 0) 8 (cl8 K 5)), ((r 6), iB (cs 0) 8 (cl8 K 6)), ((r 7), iB (cs 0) 8 (cl8 K 7))]) (post := []) (cO := (cs 1)) (cR := (cs 0)) (o := o9) (r := r9) (K := V) hx hb hK hP 0 rfl (x := x) (y := (y - 1)) (by omega) (by omega) dX2_quarters_182 ?_
                                  refine tpi (x' := nI (v q)) (by rw [show 8 * (y - 1) + x = q by omega, hV q hq64]; exact if_pos hlq) ?_
                                  refine va_mmin hx hb (hml.trans hl.1.symm) hown (hts (.methodLink RX2 39 Lib.Math.min.name) (by decide +kernel)) (hts (.static Lib.Math.min.name) (by decide +kernel)) (hts (.initialized "java/lang/Math") (by decide +kernel)) (hts (.code Lib.Math.min.name Lib.Math.min.code 2 (some .int)) (by decide +kernel)) (Nat.le_of_ble_eq_true rfl) (Nat.le_of_ble_eq_true rfl) (Nat.le_of_ble_eq_true rfl) (Nat.le_of_ble_eq_true rfl) dX2_quarters_183 ?_
                                  refine tpi (x' := nI (lsO k v (nbC (8 * y + x) 0) (lsO k v (nbC (8 * y + x) 2) (lsO k v (nbC (8 * y + x) 1) (v (8 * y + x)))))) ((lsO_yes (a := (lsO k v (nbC (8 * y + x) 2) (lsO k v (nbC (8 * y + x) 1) (v (8 * y + x))))) hlq (by omega) (by omega)).trans (by rw [hq])) ?_
                                  refine lv_istore (lv' := [(5, .int (nI (lsO k v (nbC (8 * y + x) 0) (lsO k v (nbC (8 * y + x) 2) (lsO k v (nbC (8 * y + x) 1) (v (8 * y + x))))))), (0, .ref h), (1, .ref o9), (2, .int (nI fg)), (3, .int (nI x)), (4, .int (nI y))]) hx hb dX2_quarters_186 hl (by decide) rfl (fun ls hl => ?_)
                                  exact jn2 H locs ls hP hD hS (lv_sub hl [0, 1, 2, 3, 4, 5] rfl)
                              rcases hq9 : lnO k (nbC (8 * y + x) 2) with _ | _
                              · skip
                                refine tpi (x' := 0) (rfl) ?_
                                refine lv_if_eq (tgt := 161) hx hb dX2_quarters_143 (by decide) (fun _ => ?_) (fun c => absurd (rfl) c)
                                exact jn1 H locs ls hP hD hS (by rw [lsO_no hq9]; exact hl)
                              · skip
                                refine tpi (x' := 1) (rfl) ?_
                                refine lv_if_eq (tgt := 161) hx hb dX2_quarters_143 (by decide) (fun c => absurd c (by decide)) (fun _ => ?_)
                                obtain ⟨q, hq, hlq⟩ : ∃ q, nbC (8 * y + x) 2 = some q ∧ lnd (k q) = true := by cases e9 : nbC (8 * y + x) 2 with | none => rw [e9] at hq9; cases hq9 | some q => rw [e9] at hq9; exact ⟨q, rfl, hq9⟩
                                have hq64 : q < 64 := nbC_lt hp64 hq
                                obtain ⟨hq1, -⟩ := hQV q hq64 hlq
                                have hcc : (8 * y + x) % 8 < 7 ∧ q = 8 * y + x + 1 := by have e8 := hq; simp only [nbC] at e8; split at e8 <;> simp at e8; omega
                                refine lv_iload hx hb dX2_quarters_146 (lv_at hl 0 rfl) ?_
                                refine lv_aload_n hx hb dX2_quarters_148 rfl (lv_at hl 2 rfl) ?_
                                refine lv_iload_n hx hb dX2_quarters_149 rfl (lv_at hl 4 rfl) ?_
                                refine lv_iconst (v := 1) hx hb dX2_quarters_150 (by decide) ?_
                                refine lv_iadd hx hb dX2_quarters_151 ?_
                                refine tpi (x' := nI (x + 1)) (p1_in x) ?_
                                refine g_ald (r := r9) (n := 8) hx hb hK hP 10 1 rfl rfl (x := (x + 1)) (by omega) (by decide) dX2_quarters_152 ?_
                                refine lv_iload hx hb dX2_quarters_153 (lv_at hl 5 rfl) ?_
                                refine g_iald (pre := [(h, oS o mo co le), (o, oQ (cs 1) 8 r), ((r 0), iB (cs 0) 8 (cl8 K 0)), ((r 1), iB (cs 0) 8 (cl8 K 1)), ((r 2), iB (cs 0) 8 (cl8 K 2)), ((r 3), iB (cs 0) 8 (cl8 K 3)), ((r 4), iB (cs 0) 8 (cl8 K 4)), ((r 5), iB (cs 0) 8 (cl8 K 5)), ((r 6), iB (cs 0) 8 (cl8 K 6)), ((r 7), iB (cs 0) 8 (cl8 K 7))]) (post := []) (cO := (cs 1)) (cR := (cs 0)) (o := o9) (r := r9) (K := V) hx hb hK hP 0 rfl (x := (x + 1)) (y := y) (by omega) (by omega) dX2_quarters_155 ?_
                                refine tpi (x' := nI (v q)) (by rw [show 8 * y + (x + 1) = q by omega, hV q hq64]; exact if_pos hlq) ?_
                                refine va_mmin hx hb (hml.trans hl.1.symm) hown (hts (.methodLink RX2 39 Lib.Math.min.name) (by decide +kernel)) (hts (.static Lib.Math.min.name) (by decide +kernel)) (hts (.initialized "java/lang/Math") (by decide +kernel)) (hts (.code Lib.Math.min.name Lib.Math.min.code 2 (some .int)) (by decide +kernel)) (Nat.le_of_ble_eq_true rfl) (Nat.le_of_ble_eq_true rfl) (Nat.le_of_ble_eq_true rfl) (Nat.le_of_ble_eq_true rfl) dX2_quarters_156 ?_
                                refine tpi (x' := nI (lsO k v (nbC (8 * y + x) 2) (lsO k v (nbC (8 * y + x) 1) (v (8 * y + x))))) ((lsO_yes (a := (lsO k v (nbC (8 * y + x) 1) (v (8 * y + x)))) hlq (by omega) (by omega)).trans (by rw [hq])) ?_
                                refine lv_istore (lv' := [(5, .int (nI (lsO k v (nbC (8 * y + x) 2) (lsO k v (nbC (8 * y + x) 1) (v (8 * y + x)))))), (0, .ref h), (1, .ref o9), (2, .int (nI fg)), (3, .int (nI x)), (4, .int (nI y))]) hx hb dX2_quarters_159 hl (by decide) rfl (fun ls hl => ?_)
                                exact jn1 H locs ls hP hD hS (lv_sub hl [0, 1, 2, 3, 4, 5] rfl)
                            rcases hq9 : lnO k (nbC (8 * y + x) 1) with _ | _
                            · skip
                              refine tpi (x' := 0) (rfl) ?_
                              refine lv_if_eq (tgt := 134) hx hb dX2_quarters_116 (by decide) (fun _ => ?_) (fun c => absurd (rfl) c)
                              exact jn0 H locs ls hP hD hS (by rw [lsO_no hq9]; exact hl)
                            · skip
                              refine tpi (x' := 1) (rfl) ?_
                              refine lv_if_eq (tgt := 134) hx hb dX2_quarters_116 (by decide) (fun c => absurd c (by decide)) (fun _ => ?_)
                              obtain ⟨q, hq, hlq⟩ : ∃ q, nbC (8 * y + x) 1 = some q ∧ lnd (k q) = true := by cases e9 : nbC (8 * y + x) 1 with | none => rw [e9] at hq9; cases hq9 | some q => rw [e9] at hq9; exact ⟨q, rfl, hq9⟩
                              have hq64 : q < 64 := nbC_lt hp64 hq
                              obtain ⟨hq1, -⟩ := hQV q hq64 hlq
                              have hcc : 0 < (8 * y + x) % 8 ∧ q = 8 * y + x - 1 := by have e8 := hq; simp only [nbC] at e8; split at e8 <;> simp at e8; omega
                              refine lv_iload hx hb dX2_quarters_119 (lv_at hl 0 rfl) ?_
                              refine lv_aload_n hx hb dX2_quarters_121 rfl (lv_at hl 2 rfl) ?_
                              refine lv_iload_n hx hb dX2_quarters_122 rfl (lv_at hl 4 rfl) ?_
                              refine lv_iconst (v := 1) hx hb dX2_quarters_123 (by decide) ?_
                              refine lv_isub hx hb dX2_quarters_124 ?_
                              refine tpi (x' := nI (x - 1)) (m1_in (by omega)) ?_
                              refine g_ald (r := r9) (n := 8) hx hb hK hP 10 1 rfl rfl (x := (x - 1)) (by omega) (by decide) dX2_quarters_125 ?_
                              refine lv_iload hx hb dX2_quarters_126 (lv_at hl 5 rfl) ?_
                              refine g_iald (pre := [(h, oS o mo co le), (o, oQ (cs 1) 8 r), ((r 0), iB (cs 0) 8 (cl8 K 0)), ((r 1), iB (cs 0) 8 (cl8 K 1)), ((r 2), iB (cs 0) 8 (cl8 K 2)), ((r 3), iB (cs 0) 8 (cl8 K 3)), ((r 4), iB (cs 0) 8 (cl8 K 4)), ((r 5), iB (cs 0) 8 (cl8 K 5)), ((r 6), iB (cs 0) 8 (cl8 K 6)), ((r 7), iB (cs 0) 8 (cl8 K 7))]) (post := []) (cO := (cs 1)) (cR := (cs 0)) (o := o9) (r := r9) (K := V) hx hb hK hP 0 rfl (x := (x - 1)) (y := y) (by omega) (by omega) dX2_quarters_128 ?_
                              refine tpi (x' := nI (v q)) (by rw [show 8 * y + (x - 1) = q by omega, hV q hq64]; exact if_pos hlq) ?_
                              refine va_mmin hx hb (hml.trans hl.1.symm) hown (hts (.methodLink RX2 39 Lib.Math.min.name) (by decide +kernel)) (hts (.static Lib.Math.min.name) (by decide +kernel)) (hts (.initialized "java/lang/Math") (by decide +kernel)) (hts (.code Lib.Math.min.name Lib.Math.min.code 2 (some .int)) (by decide +kernel)) (Nat.le_of_ble_eq_true rfl) (Nat.le_of_ble_eq_true rfl) (Nat.le_of_ble_eq_true rfl) (Nat.le_of_ble_eq_true rfl) dX2_quarters_129 ?_
                              refine tpi (x' := nI (lsO k v (nbC (8 * y + x) 1) (v (8 * y + x)))) ((lsO_yes (a := (v (8 * y + x))) hlq (by omega) (by omega)).trans (by rw [hq])) ?_
                              refine lv_istore (lv' := [(5, .int (nI (lsO k v (nbC (8 * y + x) 1) (v (8 * y + x))))), (0, .ref h), (1, .ref o9), (2, .int (nI fg)), (3, .int (nI x)), (4, .int (nI y))]) hx hb dX2_quarters_132 hl (by decide) rfl (fun ls hl => ?_)
                              exact jn0 H locs ls hP hD hS (lv_sub hl [0, 1, 2, 3, 4, 5] rfl)
                        · skip
                          have g2 : y = 8 := by omega
                          subst g2
                          refine lv_icmp_ge (tgt := 248) hx hb dX2_quarters_84 (by decide) (fun _ => ?_) (fun c => absurd (le_n (n := 8) (i := 8) (by decide) (by decide)) c)
                          refine lv_iinc (v := nI (x + 1)) (lv' := [(3, .int (nI (x + 1))), (0, .ref h), (1, .ref o9), (2, .int (nI fg)), (4, .int (nI 8))]) hx hb dX2_quarters_248 hl (k := 3) rfl (nI_inc x) (by decide) rfl (fun ls hl => ?_)
                          refine lv_goto (tgt := 71) hx hb dX2_quarters_251 (by decide) ?_
                          exact ih_px (x + 1) fg v V (by omega) (SQ_row hSQ) (hQV) (hV) (by omega) _ _ _ hP hD hS (lv_sub hl [1, 2, 3, 0] (rfl))
                    exact py (_ + 1) 0 fg v V (by omega) (hSQ) (hQV) (hV) (Nat.lt_succ_self _) _ _ _ hP hD hS (lv_sub hl [1, 2, 3, 4, 0] rfl)
                  · skip
                    have g : x = 8 := by omega
                    subst g
                    refine lv_icmp_ge (tgt := 254) hx hb dX2_quarters_74 (by decide) (fun _ => ?_) (fun c => absurd (le_n (n := 8) (i := 8) (by decide) (by decide)) c)
                    refine lv_goto (tgt := 63) hx hb dX2_quarters_254 (by decide) ?_
                    have hmo9 : fg = 1 ∨ (fg = 0 ∧ ∀ p, p < 64 → stab k v p) := hSQ.elim (fun h => Or.inr ⟨h.1, fun p hp => h.2.2 p hp bfx_8⟩) (fun h => Or.inl h.1)
                    exact ih_lw fg v V (hmo9) (hQV) (hV) (by rcases hSQ with ⟨a1, a2, -⟩ | ⟨a1, a2⟩ <;> omega) _ _ _ hP hD hS (lv_sub hl [0, 1, 2] (rfl))
              exact px (_ + 1) 0 0 v V (by omega) (by rw [hS0]; exact SQ_0 k v) (hQV) (hV) (Nat.lt_succ_self _) _ _ _ hP hD hS (lv_sub hl [2, 3, 1, 0] rfl)
            · skip
              subst hm0
              refine lv_if_eq (tgt := 257) hx hb dX2_quarters_64 (by decide) (fun _ => ?_) (fun c => absurd (rfl) c)
              refine lv_aload_n hx hb dX2_quarters_257 rfl (lv_at hl 1 rfl) ?_
              subst hQ
              subst hAe
              exact wr_r (r9, V) (fun p hp => (hV p hp).trans (QV_end hQV hst p hp)) hx hb hr hP hD hS hlocks dX2_quarters_258
        exact lw (_ + 1) 1 (fun p => p) V (Or.inl rfl) (QV_0 k) (hV0) (Nat.lt_succ_self _) _ _ _ hP hD hS (lv_sub hl [1, 2, 0] rfl)
  exact lx (_ + 1) 0 (fun _ => 0) (by omega) (fun p _ h9 => absurd h9 bfx_0) (Nat.lt_succ_self _) _ _ _ hP hD hS (lv_sub hl [2, 1, 0] rfl)

def u0 (p : Nat) : Nat := if p = 3 then 0 else 99
theorem SV_0 (k : Nat → Int32) : SV k u0 := ⟨if_pos rfl, fun p _ => by
  by_cases e : p = 3
  · subst e
    exact Or.inr ⟨by decide, rfl⟩
  · exact Or.inl (if_neg e)⟩
theorem cl8_pick (f0 f1 f2 f3 f4 f5 f6 f7 : Nat → Int32) : ∃ V : Nat → Int32, cl8 V 0 = f0 ∧ cl8 V 1 = f1 ∧ cl8 V 2 = f2 ∧ cl8 V 3 = f3 ∧ cl8 V 4 = f4 ∧ cl8 V 5 = f5 ∧ cl8 V 6 = f6 ∧ cl8 V 7 = f7 := by
  refine ⟨fun p => if p % 8 = 0 then f0 (p / 8) else if p % 8 = 1 then f1 (p / 8) else if p % 8 = 2 then f2 (p / 8) else if p % 8 = 3 then f3 (p / 8) else if p % 8 = 4 then f4 (p / 8) else if p % 8 = 5 then f5 (p / 8) else if p % 8 = 6 then f6 (p / 8) else f7 (p / 8), ?_, ?_, ?_, ?_, ?_, ?_, ?_, ?_⟩ <;>
  · funext y
    unfold cl8
    simp only [eqX (x := 0) (y := y) (by decide), eqX (x := 1) (y := y) (by decide), eqX (x := 2) (y := y) (by decide), eqX (x := 3) (y := y) (by decide), eqX (x := 4) (y := y) (by decide), eqX (x := 5) (y := y) (by decide), eqX (x := 6) (y := y) (by decide), eqX (x := 7) (y := y) (by decide)]
    rfl
theorem cl8_all {V : Nat → Int32} {z : Int32} (h0 : ∀ i, i < 8 → cl8 V 0 i = z) (h1 : ∀ i, i < 8 → cl8 V 1 i = z) (h2 : ∀ i, i < 8 → cl8 V 2 i = z) (h3 : ∀ i, i < 8 → cl8 V 3 i = z) (h4 : ∀ i, i < 8 → cl8 V 4 i = z) (h5 : ∀ i, i < 8 → cl8 V 5 i = z) (h6 : ∀ i, i < 8 → cl8 V 6 i = z) (h7 : ∀ i, i < 8 → cl8 V 7 i = z) : ∀ p, p < 64 → V p = z := by
  intro p hp
  have h := lt8 (P := fun x => ∀ i, i < 8 → cl8 V x i = z) (show p % 8 < 8 by omega) h0 h1 h2 h3 h4 h5 h6 h7 (p / 8) (by omega)
  have e : 8 * (p / 8) + p % 8 = p := by omega
  rw [← e]
  exact h
theorem nr_u {V : Nat → Int32} {u : Nat → Nat} {p s : Nat} (hp : p < 64) (hV : ∀ i, i < 64 → V i = nI (u i)) : nrO V (nbC p s) = nI (nrN u (nbC p s)) := by
  cases e : nbC p s with
  | none => rfl
  | some q => exact hV q (nbC_lt hp e)
theorem mn2_99 {a b : Nat} (ha : a ≤ 99) : mn2 a b ≤ 99 := Nat.le_trans (mn2_l a b) ha

def rmJ7_fill_53178 : Room := { frames := 0, cells := 0, slots := 0, locals := 0 }
set_option maxHeartbeats 4000000 in
set_option maxRecDepth 100000 in
/-- a row of 8 filled -/
theorem c_J7_fill_53178 (l : Launch) (G : va_G) (cs : Nat → ClassId) (b9 : Nat) (f : Nat → Int32) (v : Int32)  (sz : Nat) : Met l yJ7_fill_53178 wsJ7_fill_53178 rmJ7_fill_53178 (va_Pc [.ref b9, .int v] (WsP G cs [(b9, iB (cs 0) 8 f)] sz)) (va_Qv (fun (u : Nat → Int32) => ∀ i, i < 8 → u i = v) (WrB G [(b9, iB (cs 0) 8 f)] sz (fun u => [(b9, iB (cs 0) 8 u)])) (va_A [(b9, iB (cs 0) 8 f)] sz)) 0 0 (va_A [(b9, iB (cs 0) 8 f)] sz) := by
  refine Met.ofW (cc := cJ7_fill_53178) (maxL := 4) (ret := none) (by decide) rfl ?_
  intro p e s m args below meth c s₁ B hml hv
  obtain ⟨rfl, hsz, hP, hK, hD0, hN⟩ := hv
  have hx := B.exec
  have hb := B.bytes
  have hr := B.returns
  have hlocks := B.notSynchronized
  have hts := atoms_spec (ws := wsJ7_fill_53178) B.pre
  have hown : s.vm.findClass RJ7 = some m.cls := findClass_of_methodNamed B.named
  subst hsz
  have hD := hD0.self (sz := s.heap.size)
  have hA : ∀ q : Nat, s.heap.size ≤ q → va_A [(b9, iB (cs 0) 8 f)] s.heap.size q := fun q h => Or.inr h
  have hS : va_S (va_A [(b9, iB (cs 0) 8 f)] s.heap.size) s.heap s.heap [] := va_S.rf
  obtain ⟨A, hAe⟩ : ∃ A, A = va_A [(b9, iB (cs 0) 8 f)] s.heap.size := ⟨_, rfl⟩
  rw [← hAe] at hD hA hS
  have FX : CallFix p m c cJ7_fill_53178 4 s ([.ref b9, .int v] : List Value).toArray wsJ7_fill_53178 RJ7 := ⟨hx, hb, hml, hown, hts⟩
  have hl := lv_entry ([.ref b9, .int v]) (n := 4) (Nat.le_of_ble_eq_true rfl)
  rw [lg_entry_eq]
  generalize (lg_sl ([.ref b9, .int v]) ++ List.replicate (4 - (lg_sl ([.ref b9, .int v])).length) Slot.unset).toArray = ls at hl ⊢
  have hl : lv_has ls 4 [(0, .ref b9), (1, .int v)] := hl
  refine wq (fun Q hQ => ?_)
  have hzc : 0 + 0 ≤ (headSpec wsJ7_fill_53178 rmJ7_fill_53178).room.cells := Nat.zero_le _
  have hzs : 0 + 0 ≤ (headSpec wsJ7_fill_53178 rmJ7_fill_53178).room.slots := Nat.zero_le _
  refine lv_iconst (v := 0) hx hb dJ7_fill_53178_0 (by decide) ?_
  refine lv_istore_n (lv' := [(2, .int 0), (0, .ref b9), (1, .int v)]) hx hb dJ7_fill_53178_1 rfl hl (by decide) rfl (fun ls hl => ?_)
  refine lv_aload_n hx hb dJ7_fill_53178_2 rfl (lv_at hl 1 rfl) ?_
  refine va_alen hx hb hK hP 0 0 rfl rfl (v := 8) rfl dJ7_fill_53178_3 ?_
  refine lv_istore_n (lv' := [(3, .int 8), (2, .int 0), (0, .ref b9), (1, .int v)]) hx hb dJ7_fill_53178_4 rfl hl (by decide) rfl (fun ls hl => ?_)
  have hl : lv_has ls 4 [(3, .int 8), (2, .int (nI 0)), (0, .ref b9), (1, .int v)] := hl
  have lp : ∀ (n : Nat) (i : Nat) (g : Nat → Int32), (hi : i ≤ 8) → (hg : ∀ j, j < i → g j = v) → (8 - i) < n → ∀ (H : Heap) (locs : List Loc) (ls : Array Slot), va_P G vwCl [(b9, iB (cs 0) 8 g)] H → va_D A [(b9, iB (cs 0) 8 g)] → va_S A s.heap H locs → lv_has ls 4 [(0, .ref b9), (1, .int v), (2, .int (nI i)), (3, .int 8)] → W p l e (headSpec wsJ7_fill_53178 rmJ7_fill_53178).room s m ([.ref b9, .int v] : List Value).toArray below meth c H locs 0 0 Q (F0 m 5 ls []) := by
    intro n
    induction n with
    | zero => intro i g hi hg hn; exact absurd hn (by omega)
    | succ n ih_lp =>
      intro i g hi hg hn H locs ls hP hD hS hl
      refine lv_iload_n hx hb dJ7_fill_53178_5 rfl (lv_at hl 2 rfl) ?_
      refine lv_iload_n hx hb dJ7_fill_53178_6 rfl (lv_at hl 3 rfl) ?_
      rcases Nat.lt_or_ge i 8 with h8 | h8
      · skip
        refine lv_icmp_ge (tgt := 20) hx hb dJ7_fill_53178_7 (by decide) (fun c => absurd c (lt_n (n := 8) h8 (by decide))) (fun _ => ?_)
        refine lv_aload_n hx hb dJ7_fill_53178_10 rfl (lv_at hl 0 rfl) ?_
        refine lv_iload_n hx hb dJ7_fill_53178_11 rfl (lv_at hl 2 rfl) ?_
        refine lv_iload_n hx hb dJ7_fill_53178_12 rfl (lv_at hl 1 rfl) ?_
        refine va_iast hx hb hK hP hD hS 0 0 rfl rfl (vp_in_nI h8 (by decide)) dJ7_fill_53178_13 (fun H locs hP hD hS => ?_)
        rw [nI_clamp (by omega)] at hP hD
        have hP : va_P G vwCl [(b9, iB (cs 0) 8 (upd g i v))] H := hP
        have hD : va_D A [(b9, iB (cs 0) 8 (upd g i v))] := hD
        refine lv_iinc (v := nI (i + 1)) (lv' := [(2, .int (nI (i + 1))), (0, .ref b9), (1, .int v), (3, .int 8)]) hx hb dJ7_fill_53178_14 hl (k := 2) rfl (nI_inc i) (by decide) rfl (fun ls hl => ?_)
        refine lv_goto (tgt := 5) hx hb dJ7_fill_53178_17 (by decide) ?_
        exact ih_lp (i + 1) (upd g i v) (by omega) (fun j hj => by rcases Nat.decEq j i with g9 | g9; rw [pk_un g9]; exact hg j (by omega); rw [g9, pk_us]) (by omega) _ _ _ hP hD hS (lv_sub hl [1, 2, 0, 3] (rfl))
      · skip
        have h8 : i = 8 := by omega
        subst h8
        refine lv_icmp_ge (tgt := 20) hx hb dJ7_fill_53178_7 (by decide) (fun _ => ?_) (fun c => absurd (le_n (n := 8) (i := 8) (by decide) (by decide)) c)
        subst hQ
        subst hAe
        exact wr_v g (hg) hx hb hr hP hD hS hlocks dJ7_fill_53178_20
  exact lp (_ + 1) 0 f (by omega) (fun j h9 => absurd h9 (Nat.not_lt_zero _)) (Nat.lt_succ_self _) _ _ _ hP hD hS (lv_sub hl [2, 3, 1, 0] rfl)

def rmX2_steps : Room := { frames := 2, cells := 9, slots := 72, locals := 44 }
set_option maxHeartbeats 4000000 in
set_option maxRecDepth 100000 in
/-- steps by boat, spread till none changes -/
theorem c_X2_steps (l : Launch) (G : va_G) (cs : Nat → ClassId) (h o : Nat) (r : Nat → Nat) (mo co le : Int32) (K k : Nat → Int32) (hk : eqK K k) (hg3 : wtr (k 3) = true) (sz : Nat) : Met l yX2_steps wsX2_steps rmX2_steps (va_Pc [.ref h, .int 3, .int 0] (WsP G cs [(h, oS o mo co le), (o, oQ (cs 1) 8 r), ((r 0), iB (cs 0) 8 (cl8 K 0)), ((r 1), iB (cs 0) 8 (cl8 K 1)), ((r 2), iB (cs 0) 8 (cl8 K 2)), ((r 3), iB (cs 0) 8 (cl8 K 3)), ((r 4), iB (cs 0) 8 (cl8 K 4)), ((r 5), iB (cs 0) 8 (cl8 K 5)), ((r 6), iB (cs 0) 8 (cl8 K 6)), ((r 7), iB (cs 0) 8 (cl8 K 7))] sz)) (va_Qr (fun (u : (Nat → Nat) × (Nat → Int32)) => hatS k u.2) (WrBr G [(h, oS o mo co le), (o, oQ (cs 1) 8 r), ((r 0), iB (cs 0) 8 (cl8 K 0)), ((r 1), iB (cs 0) 8 (cl8 K 1)), ((r 2), iB (cs 0) 8 (cl8 K 2)), ((r 3), iB (cs 0) 8 (cl8 K 3)), ((r 4), iB (cs 0) 8 (cl8 K 4)), ((r 5), iB (cs 0) 8 (cl8 K 5)), ((r 6), iB (cs 0) 8 (cl8 K 6)), ((r 7), iB (cs 0) 8 (cl8 K 7))] sz (fun u ra => [(h, oS o mo co le), (o, oQ (cs 1) 8 r), ((r 0), iB (cs 0) 8 (cl8 K 0)), ((r 1), iB (cs 0) 8 (cl8 K 1)), ((r 2), iB (cs 0) 8 (cl8 K 2)), ((r 3), iB (cs 0) 8 (cl8 K 3)), ((r 4), iB (cs 0) 8 (cl8 K 4)), ((r 5), iB (cs 0) 8 (cl8 K 5)), ((r 6), iB (cs 0) 8 (cl8 K 6)), ((r 7), iB (cs 0) 8 (cl8 K 7)), (ra, oQ (cs 1) 8 (u.1)), (((u.1) 0), iB (cs 0) 8 (cl8 (u.2) 0)), (((u.1) 1), iB (cs 0) 8 (cl8 (u.2) 1)), (((u.1) 2), iB (cs 0) 8 (cl8 (u.2) 2)), (((u.1) 3), iB (cs 0) 8 (cl8 (u.2) 3)), (((u.1) 4), iB (cs 0) 8 (cl8 (u.2) 4)), (((u.1) 5), iB (cs 0) 8 (cl8 (u.2) 5)), (((u.1) 6), iB (cs 0) 8 (cl8 (u.2) 6)), (((u.1) 7), iB (cs 0) 8 (cl8 (u.2) 7))])) (va_A [(h, oS o mo co le), (o, oQ (cs 1) 8 r), ((r 0), iB (cs 0) 8 (cl8 K 0)), ((r 1), iB (cs 0) 8 (cl8 K 1)), ((r 2), iB (cs 0) 8 (cl8 K 2)), ((r 3), iB (cs 0) 8 (cl8 K 3)), ((r 4), iB (cs 0) 8 (cl8 K 4)), ((r 5), iB (cs 0) 8 (cl8 K 5)), ((r 6), iB (cs 0) 8 (cl8 K 6)), ((r 7), iB (cs 0) 8 (cl8 K 7))] sz)) 9 72 (va_A [(h, oS o mo co le), (o, oQ (cs 1) 8 r), ((r 0), iB (cs 0) 8 (cl8 K 0)), ((r 1), iB (cs 0) 8 (cl8 K 1)), ((r 2), iB (cs 0) 8 (cl8 K 2)), ((r 3), iB (cs 0) 8 (cl8 K 3)), ((r 4), iB (cs 0) 8 (cl8 K 4)), ((r 5), iB (cs 0) 8 (cl8 K 5)), ((r 6), iB (cs 0) 8 (cl8 K 6)), ((r 7), iB (cs 0) 8 (cl8 K 7))] sz) := by
  refine Met.ofW (cc := cX2_steps) (maxL := 8) (ret := (some (.array (.array .int)))) (by decide) rfl ?_
  intro p e s m args below meth c s₁ B hml hv
  obtain ⟨rfl, hsz, hP, hK, hD0, hN⟩ := hv
  have hx := B.exec
  have hb := B.bytes
  have hr := B.returns
  have hlocks := B.notSynchronized
  have hts := atoms_spec (ws := wsX2_steps) B.pre
  have hown : s.vm.findClass RX2 = some m.cls := findClass_of_methodNamed B.named
  subst hsz
  have hD := hD0.self (sz := s.heap.size)
  have hA : ∀ q : Nat, s.heap.size ≤ q → va_A [(h, oS o mo co le), (o, oQ (cs 1) 8 r), ((r 0), iB (cs 0) 8 (cl8 K 0)), ((r 1), iB (cs 0) 8 (cl8 K 1)), ((r 2), iB (cs 0) 8 (cl8 K 2)), ((r 3), iB (cs 0) 8 (cl8 K 3)), ((r 4), iB (cs 0) 8 (cl8 K 4)), ((r 5), iB (cs 0) 8 (cl8 K 5)), ((r 6), iB (cs 0) 8 (cl8 K 6)), ((r 7), iB (cs 0) 8 (cl8 K 7))] s.heap.size q := fun q h => Or.inr h
  have hS : va_S (va_A [(h, oS o mo co le), (o, oQ (cs 1) 8 r), ((r 0), iB (cs 0) 8 (cl8 K 0)), ((r 1), iB (cs 0) 8 (cl8 K 1)), ((r 2), iB (cs 0) 8 (cl8 K 2)), ((r 3), iB (cs 0) 8 (cl8 K 3)), ((r 4), iB (cs 0) 8 (cl8 K 4)), ((r 5), iB (cs 0) 8 (cl8 K 5)), ((r 6), iB (cs 0) 8 (cl8 K 6)), ((r 7), iB (cs 0) 8 (cl8 K 7))] s.heap.size) s.heap s.heap [] := va_S.rf
  obtain ⟨A, hAe⟩ : ∃ A, A = va_A [(h, oS o mo co le), (o, oQ (cs 1) 8 r), ((r 0), iB (cs 0) 8 (cl8 K 0)), ((r 1), iB (cs 0) 8 (cl8 K 1)), ((r 2), iB (cs 0) 8 (cl8 K 2)), ((r 3), iB (cs 0) 8 (cl8 K 3)), ((r 4), iB (cs 0) 8 (cl8 K 4)), ((r 5), iB (cs 0) 8 (cl8 K 5)), ((r 6), iB (cs 0) 8 (cl8 K 6)), ((r 7), iB (cs 0) 8 (cl8 K 7))] s.heap.size := ⟨_, rfl⟩
  rw [← hAe] at hD hA hS
  have FX : CallFix p m c cX2_steps 8 s ([.ref h, .int 3, .int 0] : List Value).toArray wsX2_steps RX2 := ⟨hx, hb, hml, hown, hts⟩
  have hl := lv_entry ([.ref h, .int 3, .int 0]) (n := 8) (Nat.le_of_ble_eq_true rfl)
  rw [lg_entry_eq]
  generalize (lg_sl ([.ref h, .int 3, .int 0]) ++ List.replicate (8 - (lg_sl ([.ref h, .int 3, .int 0])).length) Slot.unset).toArray = ls at hl ⊢
  have hl : lv_has ls 8 [(0, .ref h), (1, .int 3), (2, .int 0)] := hl
  refine wq (fun Q hQ => ?_)
  have hzc : 0 + 0 ≤ (headSpec wsX2_steps rmX2_steps).room.cells := Nat.zero_le _
  have hzs : 0 + 0 ≤ (headSpec wsX2_steps rmX2_steps).room.slots := Nat.zero_le _
  refine lv_bipush (v := 8) hx hb dX2_steps_0 (by decide) ?_
  refine lv_bipush (v := 8) hx hb dX2_steps_2 (by decide) ?_
  have hP0 : va_P G vwCl ([(h, oS o mo co le), (o, oQ (cs 1) 8 r), ((r 0), iB (cs 0) 8 (cl8 K 0)), ((r 1), iB (cs 0) 8 (cl8 K 1)), ((r 2), iB (cs 0) 8 (cl8 K 2)), ((r 3), iB (cs 0) 8 (cl8 K 3)), ((r 4), iB (cs 0) 8 (cl8 K 4)), ((r 5), iB (cs 0) 8 (cl8 K 5)), ((r 6), iB (cs 0) 8 (cl8 K 6)), ((r 7), iB (cs 0) 8 (cl8 K 7))] ++ va_pl [] (fun _ => iB (cs 0) 8 (fun _ => 0))) s.heap := by rw [show va_pl [] (fun _ => iB (cs 0) 8 (fun _ => 0)) = [] from rfl, List.append_nil]; exact hP
  have hD0 : va_D A ([(h, oS o mo co le), (o, oQ (cs 1) 8 r), ((r 0), iB (cs 0) 8 (cl8 K 0)), ((r 1), iB (cs 0) 8 (cl8 K 1)), ((r 2), iB (cs 0) 8 (cl8 K 2)), ((r 3), iB (cs 0) 8 (cl8 K 3)), ((r 4), iB (cs 0) 8 (cl8 K 4)), ((r 5), iB (cs 0) 8 (cl8 K 5)), ((r 6), iB (cs 0) 8 (cl8 K 6)), ((r 7), iB (cs 0) 8 (cl8 K 7))] ++ va_pl [] (fun _ => iB (cs 0) 8 (fun _ => 0))) := by rw [show va_pl [] (fun _ => iB (cs 0) 8 (fun _ => 0)) = [] from rfl, List.append_nil]; exact hD
  refine va_mna (ty := .int) (cy := (cs 0)) (N' := 8) (K' := 8) (n := 8) (k := 8) (z := (8, .inl (fun _ => 0))) hx hb hown (hts (.classLink RX2 7 ("[" ++ (FieldType.array .int).toString)) (by decide +kernel)) (AOs_use (t := .int) hN.2.1.1) (hts (.arrayClass .int) (by decide +kernel)) ((hK.2 0 _ rfl).2) hK hP0 hD0 hS hA (by decide) (by decide) (by decide) (by decide) (by decide) (by decide) (by decide) rfl rfl (Nat.le_of_ble_eq_true rfl) (Nat.le_of_ble_eq_true rfl) (fun c9 => (arrV_new c9 8 _)) dX2_steps_4 (fun o9 r9 cA H hr9 hl9 hK9 hP hD hS => ?_)
  have hc9 : cA = (cs 1) := Option.some.inj (((hK9.2 5 (cA, .array .int) rfl).2 : s.vm.findClass _ = some cA).symm.trans ((hK.2 1 _ rfl).2 : s.vm.findClass _ = some (cs 1)))
  rw [hc9] at hP hD
  clear hP0 hD0 hK9 hc9
  rw [List.append_assoc, gW_new] at hP hD
  have hP : va_P G vwCl [(h, oS o mo co le), (o, oQ (cs 1) 8 r), ((r 0), iB (cs 0) 8 (cl8 K 0)), ((r 1), iB (cs 0) 8 (cl8 K 1)), ((r 2), iB (cs 0) 8 (cl8 K 2)), ((r 3), iB (cs 0) 8 (cl8 K 3)), ((r 4), iB (cs 0) 8 (cl8 K 4)), ((r 5), iB (cs 0) 8 (cl8 K 5)), ((r 6), iB (cs 0) 8 (cl8 K 6)), ((r 7), iB (cs 0) 8 (cl8 K 7)), (o9, oQ (cs 1) 8 r9), ((r9 0), iB (cs 0) 8 (cl8 (fun _ => 0) 0)), ((r9 1), iB (cs 0) 8 (cl8 (fun _ => 0) 1)), ((r9 2), iB (cs 0) 8 (cl8 (fun _ => 0) 2)), ((r9 3), iB (cs 0) 8 (cl8 (fun _ => 0) 3)), ((r9 4), iB (cs 0) 8 (cl8 (fun _ => 0) 4)), ((r9 5), iB (cs 0) 8 (cl8 (fun _ => 0) 5)), ((r9 6), iB (cs 0) 8 (cl8 (fun _ => 0) 6)), ((r9 7), iB (cs 0) 8 (cl8 (fun _ => 0) 7))] H := hP
  have hD : va_D A [(h, oS o mo co le), (o, oQ (cs 1) 8 r), ((r 0), iB (cs 0) 8 (cl8 K 0)), ((r 1), iB (cs 0) 8 (cl8 K 1)), ((r 2), iB (cs 0) 8 (cl8 K 2)), ((r 3), iB (cs 0) 8 (cl8 K 3)), ((r 4), iB (cs 0) 8 (cl8 K 4)), ((r 5), iB (cs 0) 8 (cl8 K 5)), ((r 6), iB (cs 0) 8 (cl8 K 6)), ((r 7), iB (cs 0) 8 (cl8 K 7)), (o9, oQ (cs 1) 8 r9), ((r9 0), iB (cs 0) 8 (cl8 (fun _ => 0) 0)), ((r9 1), iB (cs 0) 8 (cl8 (fun _ => 0) 1)), ((r9 2), iB (cs 0) 8 (cl8 (fun _ => 0) 2)), ((r9 3), iB (cs 0) 8 (cl8 (fun _ => 0) 3)), ((r9 4), iB (cs 0) 8 (cl8 (fun _ => 0) 4)), ((r9 5), iB (cs 0) 8 (cl8 (fun _ => 0) 5)), ((r9 6), iB (cs 0) 8 (cl8 (fun _ => 0) 6)), ((r9 7), iB (cs 0) 8 (cl8 (fun _ => 0) 7))] := hD
  refine W.widen (k := 9) (n := 72) (by decide) (by decide) ?_
  refine lv_astore_n (lv' := [(3, .ref o9), (0, .ref h), (1, .int 3), (2, .int 0)]) hx hb dX2_steps_8 rfl hl (by decide) rfl (fun ls hl => ?_)
  refine lv_aload_n hx hb dX2_steps_9 rfl (lv_at hl 0 rfl) ?_
  refine lv_astore (lv' := [(4, .ref o9), (3, .ref o9), (0, .ref h), (1, .int 3), (2, .int 0)]) hx hb dX2_steps_10 hl (by decide) rfl (fun ls hl => ?_)
  refine lv_aload hx hb dX2_steps_12 (lv_at hl 0 rfl) ?_
  refine va_alen hx hb hK hP 10 1 rfl rfl (v := 8) rfl dX2_steps_14 ?_
  refine lv_istore (lv' := [(5, .int 8), (4, .ref o9), (3, .ref o9), (0, .ref h), (1, .int 3), (2, .int 0)]) hx hb dX2_steps_15 hl (by decide) rfl (fun ls hl => ?_)
  refine lv_iconst (v := 0) hx hb dX2_steps_17 (by decide) ?_
  refine lv_istore (lv' := [(6, .int 0), (5, .int 8), (4, .ref o9), (3, .ref o9), (0, .ref h), (1, .int 3), (2, .int 0)]) hx hb dX2_steps_18 hl (by decide) rfl (fun ls hl => ?_)
  have hl : lv_has ls 8 [(6, .int (nI 0)), (5, .int 8), (4, .ref o9), (3, .ref o9), (0, .ref h), (1, .int 3), (2, .int 0)] := hl
  refine lv_iload hx hb dX2_steps_20 (lv_at hl 0 rfl) ?_
  refine lv_iload hx hb dX2_steps_22 (lv_at hl 1 rfl) ?_
  refine lv_icmp_ge (tgt := 47) hx hb dX2_steps_24 (by decide) (fun c => absurd c (lt_n (n := 8) (i := 0) (by decide) (by decide))) (fun _ => ?_)
  refine lv_aload hx hb dX2_steps_27 (lv_at hl 2 rfl) ?_
  refine lv_iload hx hb dX2_steps_29 (lv_at hl 0 rfl) ?_
  refine g_ald (r := r9) (n := 8) hx hb hK hP 10 1 rfl rfl (x := 0) (by decide) (by decide) dX2_steps_31 ?_
  refine lv_astore (lv' := [(7, .ref (r9 0)), (6, .int (nI 0)), (5, .int 8), (4, .ref o9), (3, .ref o9), (0, .ref h), (1, .int 3), (2, .int 0)]) hx hb dX2_steps_32 hl (by decide) rfl (fun ls hl => ?_)
  refine lv_aload hx hb dX2_steps_34 (lv_at hl 0 rfl) ?_
  refine lv_bipush (v := 99) hx hb dX2_steps_36 (by decide) ?_
  refine cw_v (wr := [(h, oS o mo co le), (o, oQ (cs 1) 8 r), ((r 0), iB (cs 0) 8 (cl8 K 0)), ((r 1), iB (cs 0) 8 (cl8 K 1)), ((r 2), iB (cs 0) 8 (cl8 K 2)), ((r 3), iB (cs 0) 8 (cl8 K 3)), ((r 4), iB (cs 0) 8 (cl8 K 4)), ((r 5), iB (cs 0) 8 (cl8 K 5)), ((r 6), iB (cs 0) 8 (cl8 K 6)), ((r 7), iB (cs 0) 8 (cl8 K 7)), (o9, oQ (cs 1) 8 r9), ((r9 1), iB (cs 0) 8 (cl8 (fun _ => 0) 1)), ((r9 2), iB (cs 0) 8 (cl8 (fun _ => 0) 2)), ((r9 3), iB (cs 0) 8 (cl8 (fun _ => 0) 3)), ((r9 4), iB (cs 0) 8 (cl8 (fun _ => 0) 4)), ((r9 5), iB (cs 0) 8 (cl8 (fun _ => 0) 5)), ((r9 6), iB (cs 0) 8 (cl8 (fun _ => 0) 6)), ((r9 7), iB (cs 0) 8 (cl8 (fun _ => 0) 7))]) (va_runS (As := [.ref (r9 0), .int 99]) (rest := []) FX (c_J7_fill_53178 l G cs (r9 0) (cl8 (fun _ => 0) 0) 99 _) (va_cwS 2 hts gX2_steps_J7_fill_53178 rfl rfl rfl (by decide +kernel) ⟨Nat.le_of_ble_eq_true rfl, Nat.le_of_ble_eq_true rfl⟩) (wsrS hK hP hD hN [11] (by decide) rfl rfl) rfl rfl hl.1 rfl (lv_room (Nat.le_of_ble_eq_true rfl)) dX2_steps_38 ⟨Nat.le_of_ble_eq_true rfl, Nat.le_of_ble_eq_true rfl⟩) hS hP hD hA [11] [0, 1, 2, 3, 4, 5, 6, 7, 8, 9, 10, 12, 13, 14, 15, 16, 17, 18] rfl rfl (by decide) (by decide) (fun u H locs hw hP hD hS => ?_)
  obtain ⟨f0, hu9⟩ : ∃ z, z = u := ⟨_, rfl⟩
  subst hu9
  have hf0 := hw
  have hP := hP.sub (ws' := [(h, oS o mo co le), (o, oQ (cs 1) 8 r), ((r 0), iB (cs 0) 8 (cl8 K 0)), ((r 1), iB (cs 0) 8 (cl8 K 1)), ((r 2), iB (cs 0) 8 (cl8 K 2)), ((r 3), iB (cs 0) 8 (cl8 K 3)), ((r 4), iB (cs 0) 8 (cl8 K 4)), ((r 5), iB (cs 0) 8 (cl8 K 5)), ((r 6), iB (cs 0) 8 (cl8 K 6)), ((r 7), iB (cs 0) 8 (cl8 K 7)), (o9, oQ (cs 1) 8 r9), ((r9 0), iB (cs 0) 8 f0), ((r9 1), iB (cs 0) 8 (cl8 (fun _ => 0) 1)), ((r9 2), iB (cs 0) 8 (cl8 (fun _ => 0) 2)), ((r9 3), iB (cs 0) 8 (cl8 (fun _ => 0) 3)), ((r9 4), iB (cs 0) 8 (cl8 (fun _ => 0) 4)), ((r9 5), iB (cs 0) 8 (cl8 (fun _ => 0) 5)), ((r9 6), iB (cs 0) 8 (cl8 (fun _ => 0) 6)), ((r9 7), iB (cs 0) 8 (cl8 (fun _ => 0) 7))]) [0, 1, 2, 3, 4, 5, 6, 7, 8, 9, 10, 18, 11, 12, 13, 14, 15, 16, 17] rfl
  have hD := hD.sub (ws' := [(h, oS o mo co le), (o, oQ (cs 1) 8 r), ((r 0), iB (cs 0) 8 (cl8 K 0)), ((r 1), iB (cs 0) 8 (cl8 K 1)), ((r 2), iB (cs 0) 8 (cl8 K 2)), ((r 3), iB (cs 0) 8 (cl8 K 3)), ((r 4), iB (cs 0) 8 (cl8 K 4)), ((r 5), iB (cs 0) 8 (cl8 K 5)), ((r 6), iB (cs 0) 8 (cl8 K 6)), ((r 7), iB (cs 0) 8 (cl8 K 7)), (o9, oQ (cs 1) 8 r9), ((r9 0), iB (cs 0) 8 f0), ((r9 1), iB (cs 0) 8 (cl8 (fun _ => 0) 1)), ((r9 2), iB (cs 0) 8 (cl8 (fun _ => 0) 2)), ((r9 3), iB (cs 0) 8 (cl8 (fun _ => 0) 3)), ((r9 4), iB (cs 0) 8 (cl8 (fun _ => 0) 4)), ((r9 5), iB (cs 0) 8 (cl8 (fun _ => 0) 5)), ((r9 6), iB (cs 0) 8 (cl8 (fun _ => 0) 6)), ((r9 7), iB (cs 0) 8 (cl8 (fun _ => 0) 7))]) [0, 1, 2, 3, 4, 5, 6, 7, 8, 9, 10, 18, 11, 12, 13, 14, 15, 16, 17] (by decide) rfl
  refine lv_iinc (v := nI (0 + 1)) (lv' := [(6, .int (nI (0 + 1))), (7, .ref (r9 0)), (5, .int 8), (4, .ref o9), (3, .ref o9), (0, .ref h), (1, .int 3), (2, .int 0)]) hx hb dX2_steps_41 hl (k := 1) rfl (nI_inc 0) (by decide) rfl (fun ls hl => ?_)
  refine lv_goto (tgt := 20) hx hb dX2_steps_44 (by decide) ?_
  have hl : lv_has ls 8 [(6, .int (nI 1)), (7, .ref (r9 0)), (5, .int 8), (4, .ref o9), (3, .ref o9), (0, .ref h), (1, .int 3), (2, .int 0)] := hl
  refine lv_iload hx hb dX2_steps_20 (lv_at hl 0 rfl) ?_
  refine lv_iload hx hb dX2_steps_22 (lv_at hl 2 rfl) ?_
  refine lv_icmp_ge (tgt := 47) hx hb dX2_steps_24 (by decide) (fun c => absurd c (lt_n (n := 8) (i := 1) (by decide) (by decide))) (fun _ => ?_)
  refine lv_aload hx hb dX2_steps_27 (lv_at hl 3 rfl) ?_
  refine lv_iload hx hb dX2_steps_29 (lv_at hl 0 rfl) ?_
  refine g_ald (r := r9) (n := 8) hx hb hK hP 10 1 rfl rfl (x := 1) (by decide) (by decide) dX2_steps_31 ?_
  refine lv_astore (lv' := [(7, .ref (r9 1)), (6, .int (nI 1)), (5, .int 8), (4, .ref o9), (3, .ref o9), (0, .ref h), (1, .int 3), (2, .int 0)]) hx hb dX2_steps_32 hl (by decide) rfl (fun ls hl => ?_)
  refine lv_aload hx hb dX2_steps_34 (lv_at hl 0 rfl) ?_
  refine lv_bipush (v := 99) hx hb dX2_steps_36 (by decide) ?_
  refine cw_v (wr := [(h, oS o mo co le), (o, oQ (cs 1) 8 r), ((r 0), iB (cs 0) 8 (cl8 K 0)), ((r 1), iB (cs 0) 8 (cl8 K 1)), ((r 2), iB (cs 0) 8 (cl8 K 2)), ((r 3), iB (cs 0) 8 (cl8 K 3)), ((r 4), iB (cs 0) 8 (cl8 K 4)), ((r 5), iB (cs 0) 8 (cl8 K 5)), ((r 6), iB (cs 0) 8 (cl8 K 6)), ((r 7), iB (cs 0) 8 (cl8 K 7)), (o9, oQ (cs 1) 8 r9), ((r9 0), iB (cs 0) 8 f0), ((r9 2), iB (cs 0) 8 (cl8 (fun _ => 0) 2)), ((r9 3), iB (cs 0) 8 (cl8 (fun _ => 0) 3)), ((r9 4), iB (cs 0) 8 (cl8 (fun _ => 0) 4)), ((r9 5), iB (cs 0) 8 (cl8 (fun _ => 0) 5)), ((r9 6), iB (cs 0) 8 (cl8 (fun _ => 0) 6)), ((r9 7), iB (cs 0) 8 (cl8 (fun _ => 0) 7))]) (va_runS (As := [.ref (r9 1), .int 99]) (rest := []) FX (c_J7_fill_53178 l G cs (r9 1) (cl8 (fun _ => 0) 1) 99 _) (va_cwS 2 hts gX2_steps_J7_fill_53178 rfl rfl rfl (by decide +kernel) ⟨Nat.le_of_ble_eq_true rfl, Nat.le_of_ble_eq_true rfl⟩) (wsrS hK hP hD hN [12] (by decide) rfl rfl) rfl rfl hl.1 rfl (lv_room (Nat.le_of_ble_eq_true rfl)) dX2_steps_38 ⟨Nat.le_of_ble_eq_true rfl, Nat.le_of_ble_eq_true rfl⟩) hS hP hD hA [12] [0, 1, 2, 3, 4, 5, 6, 7, 8, 9, 10, 11, 13, 14, 15, 16, 17, 18] rfl rfl (by decide) (by decide) (fun u H locs hw hP hD hS => ?_)
  obtain ⟨f1, hu9⟩ : ∃ z, z = u := ⟨_, rfl⟩
  subst hu9
  have hf1 := hw
  have hP := hP.sub (ws' := [(h, oS o mo co le), (o, oQ (cs 1) 8 r), ((r 0), iB (cs 0) 8 (cl8 K 0)), ((r 1), iB (cs 0) 8 (cl8 K 1)), ((r 2), iB (cs 0) 8 (cl8 K 2)), ((r 3), iB (cs 0) 8 (cl8 K 3)), ((r 4), iB (cs 0) 8 (cl8 K 4)), ((r 5), iB (cs 0) 8 (cl8 K 5)), ((r 6), iB (cs 0) 8 (cl8 K 6)), ((r 7), iB (cs 0) 8 (cl8 K 7)), (o9, oQ (cs 1) 8 r9), ((r9 0), iB (cs 0) 8 f0), ((r9 1), iB (cs 0) 8 f1), ((r9 2), iB (cs 0) 8 (cl8 (fun _ => 0) 2)), ((r9 3), iB (cs 0) 8 (cl8 (fun _ => 0) 3)), ((r9 4), iB (cs 0) 8 (cl8 (fun _ => 0) 4)), ((r9 5), iB (cs 0) 8 (cl8 (fun _ => 0) 5)), ((r9 6), iB (cs 0) 8 (cl8 (fun _ => 0) 6)), ((r9 7), iB (cs 0) 8 (cl8 (fun _ => 0) 7))]) [0, 1, 2, 3, 4, 5, 6, 7, 8, 9, 10, 11, 18, 12, 13, 14, 15, 16, 17] rfl
  have hD := hD.sub (ws' := [(h, oS o mo co le), (o, oQ (cs 1) 8 r), ((r 0), iB (cs 0) 8 (cl8 K 0)), ((r 1), iB (cs 0) 8 (cl8 K 1)), ((r 2), iB (cs 0) 8 (cl8 K 2)), ((r 3), iB (cs 0) 8 (cl8 K 3)), ((r 4), iB (cs 0) 8 (cl8 K 4)), ((r 5), iB (cs 0) 8 (cl8 K 5)), ((r 6), iB (cs 0) 8 (cl8 K 6)), ((r 7), iB (cs 0) 8 (cl8 K 7)), (o9, oQ (cs 1) 8 r9), ((r9 0), iB (cs 0) 8 f0), ((r9 1), iB (cs 0) 8 f1), ((r9 2), iB (cs 0) 8 (cl8 (fun _ => 0) 2)), ((r9 3), iB (cs 0) 8 (cl8 (fun _ => 0) 3)), ((r9 4), iB (cs 0) 8 (cl8 (fun _ => 0) 4)), ((r9 5), iB (cs 0) 8 (cl8 (fun _ => 0) 5)), ((r9 6), iB (cs 0) 8 (cl8 (fun _ => 0) 6)), ((r9 7), iB (cs 0) 8 (cl8 (fun _ => 0) 7))]) [0, 1, 2, 3, 4, 5, 6, 7, 8, 9, 10, 11, 18, 12, 13, 14, 15, 16, 17] (by decide) rfl
  refine lv_iinc (v := nI (1 + 1)) (lv' := [(6, .int (nI (1 + 1))), (7, .ref (r9 1)), (5, .int 8), (4, .ref o9), (3, .ref o9), (0, .ref h), (1, .int 3), (2, .int 0)]) hx hb dX2_steps_41 hl (k := 1) rfl (nI_inc 1) (by decide) rfl (fun ls hl => ?_)
  refine lv_goto (tgt := 20) hx hb dX2_steps_44 (by decide) ?_
  have hl : lv_has ls 8 [(6, .int (nI 2)), (7, .ref (r9 1)), (5, .int 8), (4, .ref o9), (3, .ref o9), (0, .ref h), (1, .int 3), (2, .int 0)] := hl
  refine lv_iload hx hb dX2_steps_20 (lv_at hl 0 rfl) ?_
  refine lv_iload hx hb dX2_steps_22 (lv_at hl 2 rfl) ?_
  refine lv_icmp_ge (tgt := 47) hx hb dX2_steps_24 (by decide) (fun c => absurd c (lt_n (n := 8) (i := 2) (by decide) (by decide))) (fun _ => ?_)
  refine lv_aload hx hb dX2_steps_27 (lv_at hl 3 rfl) ?_
  refine lv_iload hx hb dX2_steps_29 (lv_at hl 0 rfl) ?_
  refine g_ald (r := r9) (n := 8) hx hb hK hP 10 1 rfl rfl (x := 2) (by decide) (by decide) dX2_steps_31 ?_
  refine lv_astore (lv' := [(7, .ref (r9 2)), (6, .int (nI 2)), (5, .int 8), (4, .ref o9), (3, .ref o9), (0, .ref h), (1, .int 3), (2, .int 0)]) hx hb dX2_steps_32 hl (by decide) rfl (fun ls hl => ?_)
  refine lv_aload hx hb dX2_steps_34 (lv_at hl 0 rfl) ?_
  refine lv_bipush (v := 99) hx hb dX2_steps_36 (by decide) ?_
  refine cw_v (wr := [(h, oS o mo co le), (o, oQ (cs 1) 8 r), ((r 0), iB (cs 0) 8 (cl8 K 0)), ((r 1), iB (cs 0) 8 (cl8 K 1)), ((r 2), iB (cs 0) 8 (cl8 K 2)), ((r 3), iB (cs 0) 8 (cl8 K 3)), ((r 4), iB (cs 0) 8 (cl8 K 4)), ((r 5), iB (cs 0) 8 (cl8 K 5)), ((r 6), iB (cs 0) 8 (cl8 K 6)), ((r 7), iB (cs 0) 8 (cl8 K 7)), (o9, oQ (cs 1) 8 r9), ((r9 0), iB (cs 0) 8 f0), ((r9 1), iB (cs 0) 8 f1), ((r9 3), iB (cs 0) 8 (cl8 (fun _ => 0) 3)), ((r9 4), iB (cs 0) 8 (cl8 (fun _ => 0) 4)), ((r9 5), iB (cs 0) 8 (cl8 (fun _ => 0) 5)), ((r9 6), iB (cs 0) 8 (cl8 (fun _ => 0) 6)), ((r9 7), iB (cs 0) 8 (cl8 (fun _ => 0) 7))]) (va_runS (As := [.ref (r9 2), .int 99]) (rest := []) FX (c_J7_fill_53178 l G cs (r9 2) (cl8 (fun _ => 0) 2) 99 _) (va_cwS 2 hts gX2_steps_J7_fill_53178 rfl rfl rfl (by decide +kernel) ⟨Nat.le_of_ble_eq_true rfl, Nat.le_of_ble_eq_true rfl⟩) (wsrS hK hP hD hN [13] (by decide) rfl rfl) rfl rfl hl.1 rfl (lv_room (Nat.le_of_ble_eq_true rfl)) dX2_steps_38 ⟨Nat.le_of_ble_eq_true rfl, Nat.le_of_ble_eq_true rfl⟩) hS hP hD hA [13] [0, 1, 2, 3, 4, 5, 6, 7, 8, 9, 10, 11, 12, 14, 15, 16, 17, 18] rfl rfl (by decide) (by decide) (fun u H locs hw hP hD hS => ?_)
  obtain ⟨f2, hu9⟩ : ∃ z, z = u := ⟨_, rfl⟩
  subst hu9
  have hf2 := hw
  have hP := hP.sub (ws' := [(h, oS o mo co le), (o, oQ (cs 1) 8 r), ((r 0), iB (cs 0) 8 (cl8 K 0)), ((r 1), iB (cs 0) 8 (cl8 K 1)), ((r 2), iB (cs 0) 8 (cl8 K 2)), ((r 3), iB (cs 0) 8 (cl8 K 3)), ((r 4), iB (cs 0) 8 (cl8 K 4)), ((r 5), iB (cs 0) 8 (cl8 K 5)), ((r 6), iB (cs 0) 8 (cl8 K 6)), ((r 7), iB (cs 0) 8 (cl8 K 7)), (o9, oQ (cs 1) 8 r9), ((r9 0), iB (cs 0) 8 f0), ((r9 1), iB (cs 0) 8 f1), ((r9 2), iB (cs 0) 8 f2), ((r9 3), iB (cs 0) 8 (cl8 (fun _ => 0) 3)), ((r9 4), iB (cs 0) 8 (cl8 (fun _ => 0) 4)), ((r9 5), iB (cs 0) 8 (cl8 (fun _ => 0) 5)), ((r9 6), iB (cs 0) 8 (cl8 (fun _ => 0) 6)), ((r9 7), iB (cs 0) 8 (cl8 (fun _ => 0) 7))]) [0, 1, 2, 3, 4, 5, 6, 7, 8, 9, 10, 11, 12, 18, 13, 14, 15, 16, 17] rfl
  have hD := hD.sub (ws' := [(h, oS o mo co le), (o, oQ (cs 1) 8 r), ((r 0), iB (cs 0) 8 (cl8 K 0)), ((r 1), iB (cs 0) 8 (cl8 K 1)), ((r 2), iB (cs 0) 8 (cl8 K 2)), ((r 3), iB (cs 0) 8 (cl8 K 3)), ((r 4), iB (cs 0) 8 (cl8 K 4)), ((r 5), iB (cs 0) 8 (cl8 K 5)), ((r 6), iB (cs 0) 8 (cl8 K 6)), ((r 7), iB (cs 0) 8 (cl8 K 7)), (o9, oQ (cs 1) 8 r9), ((r9 0), iB (cs 0) 8 f0), ((r9 1), iB (cs 0) 8 f1), ((r9 2), iB (cs 0) 8 f2), ((r9 3), iB (cs 0) 8 (cl8 (fun _ => 0) 3)), ((r9 4), iB (cs 0) 8 (cl8 (fun _ => 0) 4)), ((r9 5), iB (cs 0) 8 (cl8 (fun _ => 0) 5)), ((r9 6), iB (cs 0) 8 (cl8 (fun _ => 0) 6)), ((r9 7), iB (cs 0) 8 (cl8 (fun _ => 0) 7))]) [0, 1, 2, 3, 4, 5, 6, 7, 8, 9, 10, 11, 12, 18, 13, 14, 15, 16, 17] (by decide) rfl
  refine lv_iinc (v := nI (2 + 1)) (lv' := [(6, .int (nI (2 + 1))), (7, .ref (r9 2)), (5, .int 8), (4, .ref o9), (3, .ref o9), (0, .ref h), (1, .int 3), (2, .int 0)]) hx hb dX2_steps_41 hl (k := 1) rfl (nI_inc 2) (by decide) rfl (fun ls hl => ?_)
  refine lv_goto (tgt := 20) hx hb dX2_steps_44 (by decide) ?_
  have hl : lv_has ls 8 [(6, .int (nI 3)), (7, .ref (r9 2)), (5, .int 8), (4, .ref o9), (3, .ref o9), (0, .ref h), (1, .int 3), (2, .int 0)] := hl
  refine lv_iload hx hb dX2_steps_20 (lv_at hl 0 rfl) ?_
  refine lv_iload hx hb dX2_steps_22 (lv_at hl 2 rfl) ?_
  refine lv_icmp_ge (tgt := 47) hx hb dX2_steps_24 (by decide) (fun c => absurd c (lt_n (n := 8) (i := 3) (by decide) (by decide))) (fun _ => ?_)
  refine lv_aload hx hb dX2_steps_27 (lv_at hl 3 rfl) ?_
  refine lv_iload hx hb dX2_steps_29 (lv_at hl 0 rfl) ?_
  refine g_ald (r := r9) (n := 8) hx hb hK hP 10 1 rfl rfl (x := 3) (by decide) (by decide) dX2_steps_31 ?_
  refine lv_astore (lv' := [(7, .ref (r9 3)), (6, .int (nI 3)), (5, .int 8), (4, .ref o9), (3, .ref o9), (0, .ref h), (1, .int 3), (2, .int 0)]) hx hb dX2_steps_32 hl (by decide) rfl (fun ls hl => ?_)
  refine lv_aload hx hb dX2_steps_34 (lv_at hl 0 rfl) ?_
  refine lv_bipush (v := 99) hx hb dX2_steps_36 (by decide) ?_
  refine cw_v (wr := [(h, oS o mo co le), (o, oQ (cs 1) 8 r), ((r 0), iB (cs 0) 8 (cl8 K 0)), ((r 1), iB (cs 0) 8 (cl8 K 1)), ((r 2), iB (cs 0) 8 (cl8 K 2)), ((r 3), iB (cs 0) 8 (cl8 K 3)), ((r 4), iB (cs 0) 8 (cl8 K 4)), ((r 5), iB (cs 0) 8 (cl8 K 5)), ((r 6), iB (cs 0) 8 (cl8 K 6)), ((r 7), iB (cs 0) 8 (cl8 K 7)), (o9, oQ (cs 1) 8 r9), ((r9 0), iB (cs 0) 8 f0), ((r9 1), iB (cs 0) 8 f1), ((r9 2), iB (cs 0) 8 f2), ((r9 4), iB (cs 0) 8 (cl8 (fun _ => 0) 4)), ((r9 5), iB (cs 0) 8 (cl8 (fun _ => 0) 5)), ((r9 6), iB (cs 0) 8 (cl8 (fun _ => 0) 6)), ((r9 7), iB (cs 0) 8 (cl8 (fun _ => 0) 7))]) (va_runS (As := [.ref (r9 3), .int 99]) (rest := []) FX (c_J7_fill_53178 l G cs (r9 3) (cl8 (fun _ => 0) 3) 99 _) (va_cwS 2 hts gX2_steps_J7_fill_53178 rfl rfl rfl (by decide +kernel) ⟨Nat.le_of_ble_eq_true rfl, Nat.le_of_ble_eq_true rfl⟩) (wsrS hK hP hD hN [14] (by decide) rfl rfl) rfl rfl hl.1 rfl (lv_room (Nat.le_of_ble_eq_true rfl)) dX2_steps_38 ⟨Nat.le_of_ble_eq_true rfl, Nat.le_of_ble_eq_true rfl⟩) hS hP hD hA [14] [0, 1, 2, 3, 4, 5, 6, 7, 8, 9, 10, 11, 12, 13, 15, 16, 17, 18] rfl rfl (by decide) (by decide) (fun u H locs hw hP hD hS => ?_)
  obtain ⟨f3, hu9⟩ : ∃ z, z = u := ⟨_, rfl⟩
  subst hu9
  have hf3 := hw
  have hP := hP.sub (ws' := [(h, oS o mo co le), (o, oQ (cs 1) 8 r), ((r 0), iB (cs 0) 8 (cl8 K 0)), ((r 1), iB (cs 0) 8 (cl8 K 1)), ((r 2), iB (cs 0) 8 (cl8 K 2)), ((r 3), iB (cs 0) 8 (cl8 K 3)), ((r 4), iB (cs 0) 8 (cl8 K 4)), ((r 5), iB (cs 0) 8 (cl8 K 5)), ((r 6), iB (cs 0) 8 (cl8 K 6)), ((r 7), iB (cs 0) 8 (cl8 K 7)), (o9, oQ (cs 1) 8 r9), ((r9 0), iB (cs 0) 8 f0), ((r9 1), iB (cs 0) 8 f1), ((r9 2), iB (cs 0) 8 f2), ((r9 3), iB (cs 0) 8 f3), ((r9 4), iB (cs 0) 8 (cl8 (fun _ => 0) 4)), ((r9 5), iB (cs 0) 8 (cl8 (fun _ => 0) 5)), ((r9 6), iB (cs 0) 8 (cl8 (fun _ => 0) 6)), ((r9 7), iB (cs 0) 8 (cl8 (fun _ => 0) 7))]) [0, 1, 2, 3, 4, 5, 6, 7, 8, 9, 10, 11, 12, 13, 18, 14, 15, 16, 17] rfl
  have hD := hD.sub (ws' := [(h, oS o mo co le), (o, oQ (cs 1) 8 r), ((r 0), iB (cs 0) 8 (cl8 K 0)), ((r 1), iB (cs 0) 8 (cl8 K 1)), ((r 2), iB (cs 0) 8 (cl8 K 2)), ((r 3), iB (cs 0) 8 (cl8 K 3)), ((r 4), iB (cs 0) 8 (cl8 K 4)), ((r 5), iB (cs 0) 8 (cl8 K 5)), ((r 6), iB (cs 0) 8 (cl8 K 6)), ((r 7), iB (cs 0) 8 (cl8 K 7)), (o9, oQ (cs 1) 8 r9), ((r9 0), iB (cs 0) 8 f0), ((r9 1), iB (cs 0) 8 f1), ((r9 2), iB (cs 0) 8 f2), ((r9 3), iB (cs 0) 8 f3), ((r9 4), iB (cs 0) 8 (cl8 (fun _ => 0) 4)), ((r9 5), iB (cs 0) 8 (cl8 (fun _ => 0) 5)), ((r9 6), iB (cs 0) 8 (cl8 (fun _ => 0) 6)), ((r9 7), iB (cs 0) 8 (cl8 (fun _ => 0) 7))]) [0, 1, 2, 3, 4, 5, 6, 7, 8, 9, 10, 11, 12, 13, 18, 14, 15, 16, 17] (by decide) rfl
  refine lv_iinc (v := nI (3 + 1)) (lv' := [(6, .int (nI (3 + 1))), (7, .ref (r9 3)), (5, .int 8), (4, .ref o9), (3, .ref o9), (0, .ref h), (1, .int 3), (2, .int 0)]) hx hb dX2_steps_41 hl (k := 1) rfl (nI_inc 3) (by decide) rfl (fun ls hl => ?_)
  refine lv_goto (tgt := 20) hx hb dX2_steps_44 (by decide) ?_
  have hl : lv_has ls 8 [(6, .int (nI 4)), (7, .ref (r9 3)), (5, .int 8), (4, .ref o9), (3, .ref o9), (0, .ref h), (1, .int 3), (2, .int 0)] := hl
  refine lv_iload hx hb dX2_steps_20 (lv_at hl 0 rfl) ?_
  refine lv_iload hx hb dX2_steps_22 (lv_at hl 2 rfl) ?_
  refine lv_icmp_ge (tgt := 47) hx hb dX2_steps_24 (by decide) (fun c => absurd c (lt_n (n := 8) (i := 4) (by decide) (by decide))) (fun _ => ?_)
  refine lv_aload hx hb dX2_steps_27 (lv_at hl 3 rfl) ?_
  refine lv_iload hx hb dX2_steps_29 (lv_at hl 0 rfl) ?_
  refine g_ald (r := r9) (n := 8) hx hb hK hP 10 1 rfl rfl (x := 4) (by decide) (by decide) dX2_steps_31 ?_
  refine lv_astore (lv' := [(7, .ref (r9 4)), (6, .int (nI 4)), (5, .int 8), (4, .ref o9), (3, .ref o9), (0, .ref h), (1, .int 3), (2, .int 0)]) hx hb dX2_steps_32 hl (by decide) rfl (fun ls hl => ?_)
  refine lv_aload hx hb dX2_steps_34 (lv_at hl 0 rfl) ?_
  refine lv_bipush (v := 99) hx hb dX2_steps_36 (by decide) ?_
  refine cw_v (wr := [(h, oS o mo co le), (o, oQ (cs 1) 8 r), ((r 0), iB (cs 0) 8 (cl8 K 0)), ((r 1), iB (cs 0) 8 (cl8 K 1)), ((r 2), iB (cs 0) 8 (cl8 K 2)), ((r 3), iB (cs 0) 8 (cl8 K 3)), ((r 4), iB (cs 0) 8 (cl8 K 4)), ((r 5), iB (cs 0) 8 (cl8 K 5)), ((r 6), iB (cs 0) 8 (cl8 K 6)), ((r 7), iB (cs 0) 8 (cl8 K 7)), (o9, oQ (cs 1) 8 r9), ((r9 0), iB (cs 0) 8 f0), ((r9 1), iB (cs 0) 8 f1), ((r9 2), iB (cs 0) 8 f2), ((r9 3), iB (cs 0) 8 f3), ((r9 5), iB (cs 0) 8 (cl8 (fun _ => 0) 5)), ((r9 6), iB (cs 0) 8 (cl8 (fun _ => 0) 6)), ((r9 7), iB (cs 0) 8 (cl8 (fun _ => 0) 7))]) (va_runS (As := [.ref (r9 4), .int 99]) (rest := []) FX (c_J7_fill_53178 l G cs (r9 4) (cl8 (fun _ => 0) 4) 99 _) (va_cwS 2 hts gX2_steps_J7_fill_53178 rfl rfl rfl (by decide +kernel) ⟨Nat.le_of_ble_eq_true rfl, Nat.le_of_ble_eq_true rfl⟩) (wsrS hK hP hD hN [15] (by decide) rfl rfl) rfl rfl hl.1 rfl (lv_room (Nat.le_of_ble_eq_true rfl)) dX2_steps_38 ⟨Nat.le_of_ble_eq_true rfl, Nat.le_of_ble_eq_true rfl⟩) hS hP hD hA [15] [0, 1, 2, 3, 4, 5, 6, 7, 8, 9, 10, 11, 12, 13, 14, 16, 17, 18] rfl rfl (by decide) (by decide) (fun u H locs hw hP hD hS => ?_)
  obtain ⟨f4, hu9⟩ : ∃ z, z = u := ⟨_, rfl⟩
  subst hu9
  have hf4 := hw
  have hP := hP.sub (ws' := [(h, oS o mo co le), (o, oQ (cs 1) 8 r), ((r 0), iB (cs 0) 8 (cl8 K 0)), ((r 1), iB (cs 0) 8 (cl8 K 1)), ((r 2), iB (cs 0) 8 (cl8 K 2)), ((r 3), iB (cs 0) 8 (cl8 K 3)), ((r 4), iB (cs 0) 8 (cl8 K 4)), ((r 5), iB (cs 0) 8 (cl8 K 5)), ((r 6), iB (cs 0) 8 (cl8 K 6)), ((r 7), iB (cs 0) 8 (cl8 K 7)), (o9, oQ (cs 1) 8 r9), ((r9 0), iB (cs 0) 8 f0), ((r9 1), iB (cs 0) 8 f1), ((r9 2), iB (cs 0) 8 f2), ((r9 3), iB (cs 0) 8 f3), ((r9 4), iB (cs 0) 8 f4), ((r9 5), iB (cs 0) 8 (cl8 (fun _ => 0) 5)), ((r9 6), iB (cs 0) 8 (cl8 (fun _ => 0) 6)), ((r9 7), iB (cs 0) 8 (cl8 (fun _ => 0) 7))]) [0, 1, 2, 3, 4, 5, 6, 7, 8, 9, 10, 11, 12, 13, 14, 18, 15, 16, 17] rfl
  have hD := hD.sub (ws' := [(h, oS o mo co le), (o, oQ (cs 1) 8 r), ((r 0), iB (cs 0) 8 (cl8 K 0)), ((r 1), iB (cs 0) 8 (cl8 K 1)), ((r 2), iB (cs 0) 8 (cl8 K 2)), ((r 3), iB (cs 0) 8 (cl8 K 3)), ((r 4), iB (cs 0) 8 (cl8 K 4)), ((r 5), iB (cs 0) 8 (cl8 K 5)), ((r 6), iB (cs 0) 8 (cl8 K 6)), ((r 7), iB (cs 0) 8 (cl8 K 7)), (o9, oQ (cs 1) 8 r9), ((r9 0), iB (cs 0) 8 f0), ((r9 1), iB (cs 0) 8 f1), ((r9 2), iB (cs 0) 8 f2), ((r9 3), iB (cs 0) 8 f3), ((r9 4), iB (cs 0) 8 f4), ((r9 5), iB (cs 0) 8 (cl8 (fun _ => 0) 5)), ((r9 6), iB (cs 0) 8 (cl8 (fun _ => 0) 6)), ((r9 7), iB (cs 0) 8 (cl8 (fun _ => 0) 7))]) [0, 1, 2, 3, 4, 5, 6, 7, 8, 9, 10, 11, 12, 13, 14, 18, 15, 16, 17] (by decide) rfl
  refine lv_iinc (v := nI (4 + 1)) (lv' := [(6, .int (nI (4 + 1))), (7, .ref (r9 4)), (5, .int 8), (4, .ref o9), (3, .ref o9), (0, .ref h), (1, .int 3), (2, .int 0)]) hx hb dX2_steps_41 hl (k := 1) rfl (nI_inc 4) (by decide) rfl (fun ls hl => ?_)
  refine lv_goto (tgt := 20) hx hb dX2_steps_44 (by decide) ?_
  have hl : lv_has ls 8 [(6, .int (nI 5)), (7, .ref (r9 4)), (5, .int 8), (4, .ref o9), (3, .ref o9), (0, .ref h), (1, .int 3), (2, .int 0)] := hl
  refine lv_iload hx hb dX2_steps_20 (lv_at hl 0 rfl) ?_
  refine lv_iload hx hb dX2_steps_22 (lv_at hl 2 rfl) ?_
  refine lv_icmp_ge (tgt := 47) hx hb dX2_steps_24 (by decide) (fun c => absurd c (lt_n (n := 8) (i := 5) (by decide) (by decide))) (fun _ => ?_)
  refine lv_aload hx hb dX2_steps_27 (lv_at hl 3 rfl) ?_
  refine lv_iload hx hb dX2_steps_29 (lv_at hl 0 rfl) ?_
  refine g_ald (r := r9) (n := 8) hx hb hK hP 10 1 rfl rfl (x := 5) (by decide) (by decide) dX2_steps_31 ?_
  refine lv_astore (lv' := [(7, .ref (r9 5)), (6, .int (nI 5)), (5, .int 8), (4, .ref o9), (3, .ref o9), (0, .ref h), (1, .int 3), (2, .int 0)]) hx hb dX2_steps_32 hl (by decide) rfl (fun ls hl => ?_)
  refine lv_aload hx hb dX2_steps_34 (lv_at hl 0 rfl) ?_
  refine lv_bipush (v := 99) hx hb dX2_steps_36 (by decide) ?_
  refine cw_v (wr := [(h, oS o mo co le), (o, oQ (cs 1) 8 r), ((r 0), iB (cs 0) 8 (cl8 K 0)), ((r 1), iB (cs 0) 8 (cl8 K 1)), ((r 2), iB (cs 0) 8 (cl8 K 2)), ((r 3), iB (cs 0) 8 (cl8 K 3)), ((r 4), iB (cs 0) 8 (cl8 K 4)), ((r 5), iB (cs 0) 8 (cl8 K 5)), ((r 6), iB (cs 0) 8 (cl8 K 6)), ((r 7), iB (cs 0) 8 (cl8 K 7)), (o9, oQ (cs 1) 8 r9), ((r9 0), iB (cs 0) 8 f0), ((r9 1), iB (cs 0) 8 f1), ((r9 2), iB (cs 0) 8 f2), ((r9 3), iB (cs 0) 8 f3), ((r9 4), iB (cs 0) 8 f4), ((r9 6), iB (cs 0) 8 (cl8 (fun _ => 0) 6)), ((r9 7), iB (cs 0) 8 (cl8 (fun _ => 0) 7))]) (va_runS (As := [.ref (r9 5), .int 99]) (rest := []) FX (c_J7_fill_53178 l G cs (r9 5) (cl8 (fun _ => 0) 5) 99 _) (va_cwS 2 hts gX2_steps_J7_fill_53178 rfl rfl rfl (by decide +kernel) ⟨Nat.le_of_ble_eq_true rfl, Nat.le_of_ble_eq_true rfl⟩) (wsrS hK hP hD hN [16] (by decide) rfl rfl) rfl rfl hl.1 rfl (lv_room (Nat.le_of_ble_eq_true rfl)) dX2_steps_38 ⟨Nat.le_of_ble_eq_true rfl, Nat.le_of_ble_eq_true rfl⟩) hS hP hD hA [16] [0, 1, 2, 3, 4, 5, 6, 7, 8, 9, 10, 11, 12, 13, 14, 15, 17, 18] rfl rfl (by decide) (by decide) (fun u H locs hw hP hD hS => ?_)
  obtain ⟨f5, hu9⟩ : ∃ z, z = u := ⟨_, rfl⟩
  subst hu9
  have hf5 := hw
  have hP := hP.sub (ws' := [(h, oS o mo co le), (o, oQ (cs 1) 8 r), ((r 0), iB (cs 0) 8 (cl8 K 0)), ((r 1), iB (cs 0) 8 (cl8 K 1)), ((r 2), iB (cs 0) 8 (cl8 K 2)), ((r 3), iB (cs 0) 8 (cl8 K 3)), ((r 4), iB (cs 0) 8 (cl8 K 4)), ((r 5), iB (cs 0) 8 (cl8 K 5)), ((r 6), iB (cs 0) 8 (cl8 K 6)), ((r 7), iB (cs 0) 8 (cl8 K 7)), (o9, oQ (cs 1) 8 r9), ((r9 0), iB (cs 0) 8 f0), ((r9 1), iB (cs 0) 8 f1), ((r9 2), iB (cs 0) 8 f2), ((r9 3), iB (cs 0) 8 f3), ((r9 4), iB (cs 0) 8 f4), ((r9 5), iB (cs 0) 8 f5), ((r9 6), iB (cs 0) 8 (cl8 (fun _ => 0) 6)), ((r9 7), iB (cs 0) 8 (cl8 (fun _ => 0) 7))]) [0, 1, 2, 3, 4, 5, 6, 7, 8, 9, 10, 11, 12, 13, 14, 15, 18, 16, 17] rfl
  have hD := hD.sub (ws' := [(h, oS o mo co le), (o, oQ (cs 1) 8 r), ((r 0), iB (cs 0) 8 (cl8 K 0)), ((r 1), iB (cs 0) 8 (cl8 K 1)), ((r 2), iB (cs 0) 8 (cl8 K 2)), ((r 3), iB (cs 0) 8 (cl8 K 3)), ((r 4), iB (cs 0) 8 (cl8 K 4)), ((r 5), iB (cs 0) 8 (cl8 K 5)), ((r 6), iB (cs 0) 8 (cl8 K 6)), ((r 7), iB (cs 0) 8 (cl8 K 7)), (o9, oQ (cs 1) 8 r9), ((r9 0), iB (cs 0) 8 f0), ((r9 1), iB (cs 0) 8 f1), ((r9 2), iB (cs 0) 8 f2), ((r9 3), iB (cs 0) 8 f3), ((r9 4), iB (cs 0) 8 f4), ((r9 5), iB (cs 0) 8 f5), ((r9 6), iB (cs 0) 8 (cl8 (fun _ => 0) 6)), ((r9 7), iB (cs 0) 8 (cl8 (fun _ => 0) 7))]) [0, 1, 2, 3, 4, 5, 6, 7, 8, 9, 10, 11, 12, 13, 14, 15, 18, 16, 17] (by decide) rfl
  refine lv_iinc (v := nI (5 + 1)) (lv' := [(6, .int (nI (5 + 1))), (7, .ref (r9 5)), (5, .int 8), (4, .ref o9), (3, .ref o9), (0, .ref h), (1, .int 3), (2, .int 0)]) hx hb dX2_steps_41 hl (k := 1) rfl (nI_inc 5) (by decide) rfl (fun ls hl => ?_)
  refine lv_goto (tgt := 20) hx hb dX2_steps_44 (by decide) ?_
  have hl : lv_has ls 8 [(6, .int (nI 6)), (7, .ref (r9 5)), (5, .int 8), (4, .ref o9), (3, .ref o9), (0, .ref h), (1, .int 3), (2, .int 0)] := hl
  refine lv_iload hx hb dX2_steps_20 (lv_at hl 0 rfl) ?_
  refine lv_iload hx hb dX2_steps_22 (lv_at hl 2 rfl) ?_
  refine lv_icmp_ge (tgt := 47) hx hb dX2_steps_24 (by decide) (fun c => absurd c (lt_n (n := 8) (i := 6) (by decide) (by decide))) (fun _ => ?_)
  refine lv_aload hx hb dX2_steps_27 (lv_at hl 3 rfl) ?_
  refine lv_iload hx hb dX2_steps_29 (lv_at hl 0 rfl) ?_
  refine g_ald (r := r9) (n := 8) hx hb hK hP 10 1 rfl rfl (x := 6) (by decide) (by decide) dX2_steps_31 ?_
  refine lv_astore (lv' := [(7, .ref (r9 6)), (6, .int (nI 6)), (5, .int 8), (4, .ref o9), (3, .ref o9), (0, .ref h), (1, .int 3), (2, .int 0)]) hx hb dX2_steps_32 hl (by decide) rfl (fun ls hl => ?_)
  refine lv_aload hx hb dX2_steps_34 (lv_at hl 0 rfl) ?_
  refine lv_bipush (v := 99) hx hb dX2_steps_36 (by decide) ?_
  refine cw_v (wr := [(h, oS o mo co le), (o, oQ (cs 1) 8 r), ((r 0), iB (cs 0) 8 (cl8 K 0)), ((r 1), iB (cs 0) 8 (cl8 K 1)), ((r 2), iB (cs 0) 8 (cl8 K 2)), ((r 3), iB (cs 0) 8 (cl8 K 3)), ((r 4), iB (cs 0) 8 (cl8 K 4)), ((r 5), iB (cs 0) 8 (cl8 K 5)), ((r 6), iB (cs 0) 8 (cl8 K 6)), ((r 7), iB (cs 0) 8 (cl8 K 7)), (o9, oQ (cs 1) 8 r9), ((r9 0), iB (cs 0) 8 f0), ((r9 1), iB (cs 0) 8 f1), ((r9 2), iB (cs 0) 8 f2), ((r9 3), iB (cs 0) 8 f3), ((r9 4), iB (cs 0) 8 f4), ((r9 5), iB (cs 0) 8 f5), ((r9 7), iB (cs 0) 8 (cl8 (fun _ => 0) 7))]) (va_runS (As := [.ref (r9 6), .int 99]) (rest := []) FX (c_J7_fill_53178 l G cs (r9 6) (cl8 (fun _ => 0) 6) 99 _) (va_cwS 2 hts gX2_steps_J7_fill_53178 rfl rfl rfl (by decide +kernel) ⟨Nat.le_of_ble_eq_true rfl, Nat.le_of_ble_eq_true rfl⟩) (wsrS hK hP hD hN [17] (by decide) rfl rfl) rfl rfl hl.1 rfl (lv_room (Nat.le_of_ble_eq_true rfl)) dX2_steps_38 ⟨Nat.le_of_ble_eq_true rfl, Nat.le_of_ble_eq_true rfl⟩) hS hP hD hA [17] [0, 1, 2, 3, 4, 5, 6, 7, 8, 9, 10, 11, 12, 13, 14, 15, 16, 18] rfl rfl (by decide) (by decide) (fun u H locs hw hP hD hS => ?_)
  obtain ⟨f6, hu9⟩ : ∃ z, z = u := ⟨_, rfl⟩
  subst hu9
  have hf6 := hw
  have hP := hP.sub (ws' := [(h, oS o mo co le), (o, oQ (cs 1) 8 r), ((r 0), iB (cs 0) 8 (cl8 K 0)), ((r 1), iB (cs 0) 8 (cl8 K 1)), ((r 2), iB (cs 0) 8 (cl8 K 2)), ((r 3), iB (cs 0) 8 (cl8 K 3)), ((r 4), iB (cs 0) 8 (cl8 K 4)), ((r 5), iB (cs 0) 8 (cl8 K 5)), ((r 6), iB (cs 0) 8 (cl8 K 6)), ((r 7), iB (cs 0) 8 (cl8 K 7)), (o9, oQ (cs 1) 8 r9), ((r9 0), iB (cs 0) 8 f0), ((r9 1), iB (cs 0) 8 f1), ((r9 2), iB (cs 0) 8 f2), ((r9 3), iB (cs 0) 8 f3), ((r9 4), iB (cs 0) 8 f4), ((r9 5), iB (cs 0) 8 f5), ((r9 6), iB (cs 0) 8 f6), ((r9 7), iB (cs 0) 8 (cl8 (fun _ => 0) 7))]) [0, 1, 2, 3, 4, 5, 6, 7, 8, 9, 10, 11, 12, 13, 14, 15, 16, 18, 17] rfl
  have hD := hD.sub (ws' := [(h, oS o mo co le), (o, oQ (cs 1) 8 r), ((r 0), iB (cs 0) 8 (cl8 K 0)), ((r 1), iB (cs 0) 8 (cl8 K 1)), ((r 2), iB (cs 0) 8 (cl8 K 2)), ((r 3), iB (cs 0) 8 (cl8 K 3)), ((r 4), iB (cs 0) 8 (cl8 K 4)), ((r 5), iB (cs 0) 8 (cl8 K 5)), ((r 6), iB (cs 0) 8 (cl8 K 6)), ((r 7), iB (cs 0) 8 (cl8 K 7)), (o9, oQ (cs 1) 8 r9), ((r9 0), iB (cs 0) 8 f0), ((r9 1), iB (cs 0) 8 f1), ((r9 2), iB (cs 0) 8 f2), ((r9 3), iB (cs 0) 8 f3), ((r9 4), iB (cs 0) 8 f4), ((r9 5), iB (cs 0) 8 f5), ((r9 6), iB (cs 0) 8 f6), ((r9 7), iB (cs 0) 8 (cl8 (fun _ => 0) 7))]) [0, 1, 2, 3, 4, 5, 6, 7, 8, 9, 10, 11, 12, 13, 14, 15, 16, 18, 17] (by decide) rfl
  refine lv_iinc (v := nI (6 + 1)) (lv' := [(6, .int (nI (6 + 1))), (7, .ref (r9 6)), (5, .int 8), (4, .ref o9), (3, .ref o9), (0, .ref h), (1, .int 3), (2, .int 0)]) hx hb dX2_steps_41 hl (k := 1) rfl (nI_inc 6) (by decide) rfl (fun ls hl => ?_)
  refine lv_goto (tgt := 20) hx hb dX2_steps_44 (by decide) ?_
  have hl : lv_has ls 8 [(6, .int (nI 7)), (7, .ref (r9 6)), (5, .int 8), (4, .ref o9), (3, .ref o9), (0, .ref h), (1, .int 3), (2, .int 0)] := hl
  refine lv_iload hx hb dX2_steps_20 (lv_at hl 0 rfl) ?_
  refine lv_iload hx hb dX2_steps_22 (lv_at hl 2 rfl) ?_
  refine lv_icmp_ge (tgt := 47) hx hb dX2_steps_24 (by decide) (fun c => absurd c (lt_n (n := 8) (i := 7) (by decide) (by decide))) (fun _ => ?_)
  refine lv_aload hx hb dX2_steps_27 (lv_at hl 3 rfl) ?_
  refine lv_iload hx hb dX2_steps_29 (lv_at hl 0 rfl) ?_
  refine g_ald (r := r9) (n := 8) hx hb hK hP 10 1 rfl rfl (x := 7) (by decide) (by decide) dX2_steps_31 ?_
  refine lv_astore (lv' := [(7, .ref (r9 7)), (6, .int (nI 7)), (5, .int 8), (4, .ref o9), (3, .ref o9), (0, .ref h), (1, .int 3), (2, .int 0)]) hx hb dX2_steps_32 hl (by decide) rfl (fun ls hl => ?_)
  refine lv_aload hx hb dX2_steps_34 (lv_at hl 0 rfl) ?_
  refine lv_bipush (v := 99) hx hb dX2_steps_36 (by decide) ?_
  refine cw_v (wr := [(h, oS o mo co le), (o, oQ (cs 1) 8 r), ((r 0), iB (cs 0) 8 (cl8 K 0)), ((r 1), iB (cs 0) 8 (cl8 K 1)), ((r 2), iB (cs 0) 8 (cl8 K 2)), ((r 3), iB (cs 0) 8 (cl8 K 3)), ((r 4), iB (cs 0) 8 (cl8 K 4)), ((r 5), iB (cs 0) 8 (cl8 K 5)), ((r 6), iB (cs 0) 8 (cl8 K 6)), ((r 7), iB (cs 0) 8 (cl8 K 7)), (o9, oQ (cs 1) 8 r9), ((r9 0), iB (cs 0) 8 f0), ((r9 1), iB (cs 0) 8 f1), ((r9 2), iB (cs 0) 8 f2), ((r9 3), iB (cs 0) 8 f3), ((r9 4), iB (cs 0) 8 f4), ((r9 5), iB (cs 0) 8 f5), ((r9 6), iB (cs 0) 8 f6)]) (va_runS (As := [.ref (r9 7), .int 99]) (rest := []) FX (c_J7_fill_53178 l G cs (r9 7) (cl8 (fun _ => 0) 7) 99 _) (va_cwS 2 hts gX2_steps_J7_fill_53178 rfl rfl rfl (by decide +kernel) ⟨Nat.le_of_ble_eq_true rfl, Nat.le_of_ble_eq_true rfl⟩) (wsrS hK hP hD hN [18] (by decide) rfl rfl) rfl rfl hl.1 rfl (lv_room (Nat.le_of_ble_eq_true rfl)) dX2_steps_38 ⟨Nat.le_of_ble_eq_true rfl, Nat.le_of_ble_eq_true rfl⟩) hS hP hD hA [18] [0, 1, 2, 3, 4, 5, 6, 7, 8, 9, 10, 11, 12, 13, 14, 15, 16, 17] rfl rfl (by decide) (by decide) (fun u H locs hw hP hD hS => ?_)
  obtain ⟨f7, hu9⟩ : ∃ z, z = u := ⟨_, rfl⟩
  subst hu9
  have hf7 := hw
  have hP := hP.sub (ws' := [(h, oS o mo co le), (o, oQ (cs 1) 8 r), ((r 0), iB (cs 0) 8 (cl8 K 0)), ((r 1), iB (cs 0) 8 (cl8 K 1)), ((r 2), iB (cs 0) 8 (cl8 K 2)), ((r 3), iB (cs 0) 8 (cl8 K 3)), ((r 4), iB (cs 0) 8 (cl8 K 4)), ((r 5), iB (cs 0) 8 (cl8 K 5)), ((r 6), iB (cs 0) 8 (cl8 K 6)), ((r 7), iB (cs 0) 8 (cl8 K 7)), (o9, oQ (cs 1) 8 r9), ((r9 0), iB (cs 0) 8 f0), ((r9 1), iB (cs 0) 8 f1), ((r9 2), iB (cs 0) 8 f2), ((r9 3), iB (cs 0) 8 f3), ((r9 4), iB (cs 0) 8 f4), ((r9 5), iB (cs 0) 8 f5), ((r9 6), iB (cs 0) 8 f6), ((r9 7), iB (cs 0) 8 f7)]) [0, 1, 2, 3, 4, 5, 6, 7, 8, 9, 10, 11, 12, 13, 14, 15, 16, 17, 18] rfl
  have hD := hD.sub (ws' := [(h, oS o mo co le), (o, oQ (cs 1) 8 r), ((r 0), iB (cs 0) 8 (cl8 K 0)), ((r 1), iB (cs 0) 8 (cl8 K 1)), ((r 2), iB (cs 0) 8 (cl8 K 2)), ((r 3), iB (cs 0) 8 (cl8 K 3)), ((r 4), iB (cs 0) 8 (cl8 K 4)), ((r 5), iB (cs 0) 8 (cl8 K 5)), ((r 6), iB (cs 0) 8 (cl8 K 6)), ((r 7), iB (cs 0) 8 (cl8 K 7)), (o9, oQ (cs 1) 8 r9), ((r9 0), iB (cs 0) 8 f0), ((r9 1), iB (cs 0) 8 f1), ((r9 2), iB (cs 0) 8 f2), ((r9 3), iB (cs 0) 8 f3), ((r9 4), iB (cs 0) 8 f4), ((r9 5), iB (cs 0) 8 f5), ((r9 6), iB (cs 0) 8 f6), ((r9 7), iB (cs 0) 8 f7)]) [0, 1, 2, 3, 4, 5, 6, 7, 8, 9, 10, 11, 12, 13, 14, 15, 16, 17, 18] (by decide) rfl
  refine lv_iinc (v := nI (7 + 1)) (lv' := [(6, .int (nI (7 + 1))), (7, .ref (r9 7)), (5, .int 8), (4, .ref o9), (3, .ref o9), (0, .ref h), (1, .int 3), (2, .int 0)]) hx hb dX2_steps_41 hl (k := 1) rfl (nI_inc 7) (by decide) rfl (fun ls hl => ?_)
  refine lv_goto (tgt := 20) hx hb dX2_steps_44 (by decide) ?_
  have hl : lv_has ls 8 [(6, .int (nI 8)), (7, .ref (r9 7)), (5, .int 8), (4, .ref o9), (3, .ref o9), (0, .ref h), (1, .int 3), (2, .int 0)] := hl
  refine lv_iload hx hb dX2_steps_20 (lv_at hl 0 rfl) ?_
  refine lv_iload hx hb dX2_steps_22 (lv_at hl 2 rfl) ?_
  refine lv_icmp_ge (tgt := 47) hx hb dX2_steps_24 (by decide) (fun _ => ?_) (fun c => absurd (le_n (n := 8) (i := 8) (by decide) (by decide)) c)
  obtain ⟨V, rfl, rfl, rfl, rfl, rfl, rfl, rfl, rfl⟩ := cl8_pick f0 f1 f2 f3 f4 f5 f6 f7
  have hV9 := cl8_all hf0 hf1 hf2 hf3 hf4 hf5 hf6 hf7
  have hP : va_P G vwCl [(h, oS o mo co le), (o, oQ (cs 1) 8 r), ((r 0), iB (cs 0) 8 (cl8 K 0)), ((r 1), iB (cs 0) 8 (cl8 K 1)), ((r 2), iB (cs 0) 8 (cl8 K 2)), ((r 3), iB (cs 0) 8 (cl8 K 3)), ((r 4), iB (cs 0) 8 (cl8 K 4)), ((r 5), iB (cs 0) 8 (cl8 K 5)), ((r 6), iB (cs 0) 8 (cl8 K 6)), ((r 7), iB (cs 0) 8 (cl8 K 7)), (o9, oQ (cs 1) 8 r9), ((r9 0), iB (cs 0) 8 (cl8 V 0)), ((r9 1), iB (cs 0) 8 (cl8 V 1)), ((r9 2), iB (cs 0) 8 (cl8 V 2)), ((r9 3), iB (cs 0) 8 (cl8 V 3)), ((r9 4), iB (cs 0) 8 (cl8 V 4)), ((r9 5), iB (cs 0) 8 (cl8 V 5)), ((r9 6), iB (cs 0) 8 (cl8 V 6)), ((r9 7), iB (cs 0) 8 (cl8 V 7))] H := hP
  have hD : va_D A [(h, oS o mo co le), (o, oQ (cs 1) 8 r), ((r 0), iB (cs 0) 8 (cl8 K 0)), ((r 1), iB (cs 0) 8 (cl8 K 1)), ((r 2), iB (cs 0) 8 (cl8 K 2)), ((r 3), iB (cs 0) 8 (cl8 K 3)), ((r 4), iB (cs 0) 8 (cl8 K 4)), ((r 5), iB (cs 0) 8 (cl8 K 5)), ((r 6), iB (cs 0) 8 (cl8 K 6)), ((r 7), iB (cs 0) 8 (cl8 K 7)), (o9, oQ (cs 1) 8 r9), ((r9 0), iB (cs 0) 8 (cl8 V 0)), ((r9 1), iB (cs 0) 8 (cl8 V 1)), ((r9 2), iB (cs 0) 8 (cl8 V 2)), ((r9 3), iB (cs 0) 8 (cl8 V 3)), ((r9 4), iB (cs 0) 8 (cl8 V 4)), ((r9 5), iB (cs 0) 8 (cl8 V 5)), ((r9 6), iB (cs 0) 8 (cl8 V 6)), ((r9 7), iB (cs 0) 8 (cl8 V 7))] := hD
  refine lv_aload_n hx hb dX2_steps_47 rfl (lv_at hl 4 rfl) ?_
  refine lv_iload_n hx hb dX2_steps_48 rfl (lv_at hl 6 rfl) ?_
  refine lv_bipush (v := 8) hx hb dX2_steps_49 (by decide) ?_
  refine lv_irem hx hb dX2_steps_51 (by decide) ?_
  refine tpi (x' := nI 3) (by decide) ?_
  refine g_ald (r := r9) (n := 8) hx hb hK hP 10 1 rfl rfl (x := 3) (by decide) (by decide) dX2_steps_52 ?_
  refine lv_iload_n hx hb dX2_steps_53 rfl (lv_at hl 6 rfl) ?_
  refine lv_bipush (v := 8) hx hb dX2_steps_54 (by decide) ?_
  refine lv_idiv hx hb dX2_steps_56 (by decide) ?_
  refine tpi (x' := nI 0) (by decide) ?_
  refine lv_iconst (v := 0) hx hb dX2_steps_57 (by decide) ?_
  refine g_iast (pre := [(h, oS o mo co le), (o, oQ (cs 1) 8 r), ((r 0), iB (cs 0) 8 (cl8 K 0)), ((r 1), iB (cs 0) 8 (cl8 K 1)), ((r 2), iB (cs 0) 8 (cl8 K 2)), ((r 3), iB (cs 0) 8 (cl8 K 3)), ((r 4), iB (cs 0) 8 (cl8 K 4)), ((r 5), iB (cs 0) 8 (cl8 K 5)), ((r 6), iB (cs 0) 8 (cl8 K 6)), ((r 7), iB (cs 0) 8 (cl8 K 7))]) (post := []) (cO := (cs 1)) (cR := (cs 0)) (o := o9) (r := r9) (K := V) hx hb hK hP hD hS 0 rfl (x := 3) (y := 0) (by decide) (by decide) (v := 0) dX2_steps_58 (fun H locs hP hD hS => ?_)
  have hP : va_P G vwCl [(h, oS o mo co le), (o, oQ (cs 1) 8 r), ((r 0), iB (cs 0) 8 (cl8 K 0)), ((r 1), iB (cs 0) 8 (cl8 K 1)), ((r 2), iB (cs 0) 8 (cl8 K 2)), ((r 3), iB (cs 0) 8 (cl8 K 3)), ((r 4), iB (cs 0) 8 (cl8 K 4)), ((r 5), iB (cs 0) 8 (cl8 K 5)), ((r 6), iB (cs 0) 8 (cl8 K 6)), ((r 7), iB (cs 0) 8 (cl8 K 7)), (o9, oQ (cs 1) 8 r9), ((r9 0), iB (cs 0) 8 (cl8 (upd V (8 * 0 + 3) 0) 0)), ((r9 1), iB (cs 0) 8 (cl8 (upd V (8 * 0 + 3) 0) 1)), ((r9 2), iB (cs 0) 8 (cl8 (upd V (8 * 0 + 3) 0) 2)), ((r9 3), iB (cs 0) 8 (cl8 (upd V (8 * 0 + 3) 0) 3)), ((r9 4), iB (cs 0) 8 (cl8 (upd V (8 * 0 + 3) 0) 4)), ((r9 5), iB (cs 0) 8 (cl8 (upd V (8 * 0 + 3) 0) 5)), ((r9 6), iB (cs 0) 8 (cl8 (upd V (8 * 0 + 3) 0) 6)), ((r9 7), iB (cs 0) 8 (cl8 (upd V (8 * 0 + 3) 0) 7))] H := hP
  have hD : va_D A [(h, oS o mo co le), (o, oQ (cs 1) 8 r), ((r 0), iB (cs 0) 8 (cl8 K 0)), ((r 1), iB (cs 0) 8 (cl8 K 1)), ((r 2), iB (cs 0) 8 (cl8 K 2)), ((r 3), iB (cs 0) 8 (cl8 K 3)), ((r 4), iB (cs 0) 8 (cl8 K 4)), ((r 5), iB (cs 0) 8 (cl8 K 5)), ((r 6), iB (cs 0) 8 (cl8 K 6)), ((r 7), iB (cs 0) 8 (cl8 K 7)), (o9, oQ (cs 1) 8 r9), ((r9 0), iB (cs 0) 8 (cl8 (upd V (8 * 0 + 3) 0) 0)), ((r9 1), iB (cs 0) 8 (cl8 (upd V (8 * 0 + 3) 0) 1)), ((r9 2), iB (cs 0) 8 (cl8 (upd V (8 * 0 + 3) 0) 2)), ((r9 3), iB (cs 0) 8 (cl8 (upd V (8 * 0 + 3) 0) 3)), ((r9 4), iB (cs 0) 8 (cl8 (upd V (8 * 0 + 3) 0) 4)), ((r9 5), iB (cs 0) 8 (cl8 (upd V (8 * 0 + 3) 0) 5)), ((r9 6), iB (cs 0) 8 (cl8 (upd V (8 * 0 + 3) 0) 6)), ((r9 7), iB (cs 0) 8 (cl8 (upd V (8 * 0 + 3) 0) 7))] := hD
  have hP : va_P G vwCl [(h, oS o mo co le), (o, oQ (cs 1) 8 r), ((r 0), iB (cs 0) 8 (cl8 K 0)), ((r 1), iB (cs 0) 8 (cl8 K 1)), ((r 2), iB (cs 0) 8 (cl8 K 2)), ((r 3), iB (cs 0) 8 (cl8 K 3)), ((r 4), iB (cs 0) 8 (cl8 K 4)), ((r 5), iB (cs 0) 8 (cl8 K 5)), ((r 6), iB (cs 0) 8 (cl8 K 6)), ((r 7), iB (cs 0) 8 (cl8 K 7)), (o9, oQ (cs 1) 8 r9), ((r9 0), iB (cs 0) 8 (cl8 (upd V 3 0) 0)), ((r9 1), iB (cs 0) 8 (cl8 (upd V 3 0) 1)), ((r9 2), iB (cs 0) 8 (cl8 (upd V 3 0) 2)), ((r9 3), iB (cs 0) 8 (cl8 (upd V 3 0) 3)), ((r9 4), iB (cs 0) 8 (cl8 (upd V 3 0) 4)), ((r9 5), iB (cs 0) 8 (cl8 (upd V 3 0) 5)), ((r9 6), iB (cs 0) 8 (cl8 (upd V 3 0) 6)), ((r9 7), iB (cs 0) 8 (cl8 (upd V 3 0) 7))] H := hP
  have hD : va_D A [(h, oS o mo co le), (o, oQ (cs 1) 8 r), ((r 0), iB (cs 0) 8 (cl8 K 0)), ((r 1), iB (cs 0) 8 (cl8 K 1)), ((r 2), iB (cs 0) 8 (cl8 K 2)), ((r 3), iB (cs 0) 8 (cl8 K 3)), ((r 4), iB (cs 0) 8 (cl8 K 4)), ((r 5), iB (cs 0) 8 (cl8 K 5)), ((r 6), iB (cs 0) 8 (cl8 K 6)), ((r 7), iB (cs 0) 8 (cl8 K 7)), (o9, oQ (cs 1) 8 r9), ((r9 0), iB (cs 0) 8 (cl8 (upd V 3 0) 0)), ((r9 1), iB (cs 0) 8 (cl8 (upd V 3 0) 1)), ((r9 2), iB (cs 0) 8 (cl8 (upd V 3 0) 2)), ((r9 3), iB (cs 0) 8 (cl8 (upd V 3 0) 3)), ((r9 4), iB (cs 0) 8 (cl8 (upd V 3 0) 4)), ((r9 5), iB (cs 0) 8 (cl8 (upd V 3 0) 5)), ((r9 6), iB (cs 0) 8 (cl8 (upd V 3 0) 6)), ((r9 7), iB (cs 0) 8 (cl8 (upd V 3 0) 7))] := hD
  have hV0 : ∀ p, p < 64 → upd V 3 0 p = nI (u0 p) := fun p hp => by unfold u0; rcases Nat.decEq p 3 with g9 | g9; rw [pk_un g9, if_neg g9, hV9 p hp]; rfl; rw [g9, pk_us, if_pos rfl]; rfl
  refine lv_iconst (v := 1) hx hb dX2_steps_59 (by decide) ?_
  refine lv_istore (lv' := [(4, .int 1), (6, .int (nI 8)), (7, .ref (r9 7)), (5, .int 8), (3, .ref o9), (0, .ref h), (1, .int 3), (2, .int 0)]) hx hb dX2_steps_60 hl (by decide) rfl (fun ls hl => ?_)
  have hl : lv_has ls 8 [(4, .int (nI 1)), (6, .int (nI 8)), (7, .ref (r9 7)), (5, .int 8), (3, .ref o9), (0, .ref h), (1, .int 3), (2, .int 0)] := hl
  have lw : ∀ (n : Nat) (fg : Nat) (u : Nat → Nat) (V : Nat → Int32), (hfg : fg = 1 ∨ (fg = 0 ∧ ∀ p, p < 64 → stW k u p)) → (hSV : SV k u) → (hV : ∀ p, p < 64 → V p = nI (u p)) → (2 * nsum u 64 + fg) < n → ∀ (H : Heap) (locs : List Loc) (ls : Array Slot), va_P G vwCl [(h, oS o mo co le), (o, oQ (cs 1) 8 r), ((r 0), iB (cs 0) 8 (cl8 K 0)), ((r 1), iB (cs 0) 8 (cl8 K 1)), ((r 2), iB (cs 0) 8 (cl8 K 2)), ((r 3), iB (cs 0) 8 (cl8 K 3)), ((r 4), iB (cs 0) 8 (cl8 K 4)), ((r 5), iB (cs 0) 8 (cl8 K 5)), ((r 6), iB (cs 0) 8 (cl8 K 6)), ((r 7), iB (cs 0) 8 (cl8 K 7)), (o9, oQ (cs 1) 8 r9), ((r9 0), iB (cs 0) 8 (cl8 V 0)), ((r9 1), iB (cs 0) 8 (cl8 V 1)), ((r9 2), iB (cs 0) 8 (cl8 V 2)), ((r9 3), iB (cs 0) 8 (cl8 V 3)), ((r9 4), iB (cs 0) 8 (cl8 V 4)), ((r9 5), iB (cs 0) 8 (cl8 V 5)), ((r9 6), iB (cs 0) 8 (cl8 V 6)), ((r9 7), iB (cs 0) 8 (cl8 V 7))] H → va_D A [(h, oS o mo co le), (o, oQ (cs 1) 8 r), ((r 0), iB (cs 0) 8 (cl8 K 0)), ((r 1), iB (cs 0) 8 (cl8 K 1)), ((r 2), iB (cs 0) 8 (cl8 K 2)), ((r 3), iB (cs 0) 8 (cl8 K 3)), ((r 4), iB (cs 0) 8 (cl8 K 4)), ((r 5), iB (cs 0) 8 (cl8 K 5)), ((r 6), iB (cs 0) 8 (cl8 K 6)), ((r 7), iB (cs 0) 8 (cl8 K 7)), (o9, oQ (cs 1) 8 r9), ((r9 0), iB (cs 0) 8 (cl8 V 0)), ((r9 1), iB (cs 0) 8 (cl8 V 1)), ((r9 2), iB (cs 0) 8 (cl8 V 2)), ((r9 3), iB (cs 0) 8 (cl8 V 3)), ((r9 4), iB (cs 0) 8 (cl8 V 4)), ((r9 5), iB (cs 0) 8 (cl8 V 5)), ((r9 6), iB (cs 0) 8 (cl8 V 6)), ((r9 7), iB (cs 0) 8 (cl8 V 7))] → va_S A s.heap H locs → lv_has ls 8 [(0, .ref h), (1, .int 3), (2, .int 0), (3, .ref o9), (4, .int (nI fg))] → W p l e (headSpec wsX2_steps rmX2_steps).room s m ([.ref h, .int 3, .int 0] : List Value).toArray below meth c H locs 9 72 Q (F0 m 62 ls []) := by
    intro n
    induction n with
    | zero => intro fg u V hfg hSV hV hn; exact absurd hn (by omega)
    | succ n ih_lw =>
      intro fg u V hfg hSV hV hn H locs ls hP hD hS hl
      refine lv_iload hx hb dX2_steps_62 (lv_at hl 4 rfl) ?_
      rcases hfg with hm1 | ⟨hm0, hst⟩
      · skip
        subst hm1
        refine lv_if_eq (tgt := 217) hx hb dX2_steps_64 (by decide) (fun c => absurd c (by decide)) (fun _ => ?_)
        refine lv_iconst (v := 0) hx hb dX2_steps_67 (by decide) ?_
        refine lv_istore (lv' := [(4, .int 0), (0, .ref h), (1, .int 3), (2, .int 0), (3, .ref o9)]) hx hb dX2_steps_68 hl (by decide) rfl (fun ls hl => ?_)
        refine lv_iconst (v := 0) hx hb dX2_steps_70 (by decide) ?_
        refine lv_istore (lv' := [(5, .int 0), (4, .int 0), (0, .ref h), (1, .int 3), (2, .int 0), (3, .ref o9)]) hx hb dX2_steps_71 hl (by decide) rfl (fun ls hl => ?_)
        have hl : lv_has ls 8 [(5, .int (nI 0)), (4, .int (nI 0)), (0, .ref h), (1, .int 3), (2, .int 0), (3, .ref o9)] := hl
        obtain ⟨S0, hS0⟩ : ∃ S0, S0 = nsum u 64 := ⟨_, rfl⟩
        have py : ∀ (n : Nat) (y fg : Nat) (u : Nat → Nat) (V : Nat → Int32), (hy9 : y ≤ 8) → (hSU : SU k u S0 (8 * y + 0) fg) → (hSV : SV k u) → (hV : ∀ p, p < 64 → V p = nI (u p)) → (8 - y) < n → ∀ (H : Heap) (locs : List Loc) (ls : Array Slot), va_P G vwCl [(h, oS o mo co le), (o, oQ (cs 1) 8 r), ((r 0), iB (cs 0) 8 (cl8 K 0)), ((r 1), iB (cs 0) 8 (cl8 K 1)), ((r 2), iB (cs 0) 8 (cl8 K 2)), ((r 3), iB (cs 0) 8 (cl8 K 3)), ((r 4), iB (cs 0) 8 (cl8 K 4)), ((r 5), iB (cs 0) 8 (cl8 K 5)), ((r 6), iB (cs 0) 8 (cl8 K 6)), ((r 7), iB (cs 0) 8 (cl8 K 7)), (o9, oQ (cs 1) 8 r9), ((r9 0), iB (cs 0) 8 (cl8 V 0)), ((r9 1), iB (cs 0) 8 (cl8 V 1)), ((r9 2), iB (cs 0) 8 (cl8 V 2)), ((r9 3), iB (cs 0) 8 (cl8 V 3)), ((r9 4), iB (cs 0) 8 (cl8 V 4)), ((r9 5), iB (cs 0) 8 (cl8 V 5)), ((r9 6), iB (cs 0) 8 (cl8 V 6)), ((r9 7), iB (cs 0) 8 (cl8 V 7))] H → va_D A [(h, oS o mo co le), (o, oQ (cs 1) 8 r), ((r 0), iB (cs 0) 8 (cl8 K 0)), ((r 1), iB (cs 0) 8 (cl8 K 1)), ((r 2), iB (cs 0) 8 (cl8 K 2)), ((r 3), iB (cs 0) 8 (cl8 K 3)), ((r 4), iB (cs 0) 8 (cl8 K 4)), ((r 5), iB (cs 0) 8 (cl8 K 5)), ((r 6), iB (cs 0) 8 (cl8 K 6)), ((r 7), iB (cs 0) 8 (cl8 K 7)), (o9, oQ (cs 1) 8 r9), ((r9 0), iB (cs 0) 8 (cl8 V 0)), ((r9 1), iB (cs 0) 8 (cl8 V 1)), ((r9 2), iB (cs 0) 8 (cl8 V 2)), ((r9 3), iB (cs 0) 8 (cl8 V 3)), ((r9 4), iB (cs 0) 8 (cl8 V 4)), ((r9 5), iB (cs 0) 8 (cl8 V 5)), ((r9 6), iB (cs 0) 8 (cl8 V 6)), ((r9 7), iB (cs 0) 8 (cl8 V 7))] → va_S A s.heap H locs → lv_has ls 8 [(0, .ref h), (1, .int 3), (2, .int 0), (3, .ref o9), (4, .int (nI fg)), (5, .int (nI y))] → W p l e (headSpec wsX2_steps rmX2_steps).room s m ([.ref h, .int 3, .int 0] : List Value).toArray below meth c H locs 9 72 Q (F0 m 73 ls []) := by
          intro n
          induction n with
          | zero => intro y fg u V hy9 hSU hSV hV hn; exact absurd hn (by omega)
          | succ n ih_py =>
            intro y fg u V hy9 hSU hSV hV hn H locs ls hP hD hS hl
            refine lv_iload hx hb dX2_steps_73 (lv_at hl 5 rfl) ?_
            refine lv_bipush (v := 8) hx hb dX2_steps_75 (by decide) ?_
            rcases Nat.lt_or_ge y 8 with hy8 | g
            · skip
              refine lv_icmp_ge (tgt := 214) hx hb dX2_steps_77 (by decide) (fun c => absurd c (lt_n (n := 8) hy8 (by decide))) (fun _ => ?_)
              refine lv_iconst (v := 0) hx hb dX2_steps_80 (by decide) ?_
              refine lv_istore (lv' := [(6, .int 0), (0, .ref h), (1, .int 3), (2, .int 0), (3, .ref o9), (4, .int (nI fg)), (5, .int (nI y))]) hx hb dX2_steps_81 hl (by decide) rfl (fun ls hl => ?_)
              have hl : lv_has ls 8 [(6, .int (nI 0)), (0, .ref h), (1, .int 3), (2, .int 0), (3, .ref o9), (4, .int (nI fg)), (5, .int (nI y))] := hl
              have px : ∀ (n : Nat) (x fg : Nat) (u : Nat → Nat) (V : Nat → Int32), (hx9 : x ≤ 8) → (hSU : SU k u S0 (8 * y + x) fg) → (hSV : SV k u) → (hV : ∀ p, p < 64 → V p = nI (u p)) → (8 - x) < n → ∀ (H : Heap) (locs : List Loc) (ls : Array Slot), va_P G vwCl [(h, oS o mo co le), (o, oQ (cs 1) 8 r), ((r 0), iB (cs 0) 8 (cl8 K 0)), ((r 1), iB (cs 0) 8 (cl8 K 1)), ((r 2), iB (cs 0) 8 (cl8 K 2)), ((r 3), iB (cs 0) 8 (cl8 K 3)), ((r 4), iB (cs 0) 8 (cl8 K 4)), ((r 5), iB (cs 0) 8 (cl8 K 5)), ((r 6), iB (cs 0) 8 (cl8 K 6)), ((r 7), iB (cs 0) 8 (cl8 K 7)), (o9, oQ (cs 1) 8 r9), ((r9 0), iB (cs 0) 8 (cl8 V 0)), ((r9 1), iB (cs 0) 8 (cl8 V 1)), ((r9 2), iB (cs 0) 8 (cl8 V 2)), ((r9 3), iB (cs 0) 8 (cl8 V 3)), ((r9 4), iB (cs 0) 8 (cl8 V 4)), ((r9 5), iB (cs 0) 8 (cl8 V 5)), ((r9 6), iB (cs 0) 8 (cl8 V 6)), ((r9 7), iB (cs 0) 8 (cl8 V 7))] H → va_D A [(h, oS o mo co le), (o, oQ (cs 1) 8 r), ((r 0), iB (cs 0) 8 (cl8 K 0)), ((r 1), iB (cs 0) 8 (cl8 K 1)), ((r 2), iB (cs 0) 8 (cl8 K 2)), ((r 3), iB (cs 0) 8 (cl8 K 3)), ((r 4), iB (cs 0) 8 (cl8 K 4)), ((r 5), iB (cs 0) 8 (cl8 K 5)), ((r 6), iB (cs 0) 8 (cl8 K 6)), ((r 7), iB (cs 0) 8 (cl8 K 7)), (o9, oQ (cs 1) 8 r9), ((r9 0), iB (cs 0) 8 (cl8 V 0)), ((r9 1), iB (cs 0) 8 (cl8 V 1)), ((r9 2), iB (cs 0) 8 (cl8 V 2)), ((r9 3), iB (cs 0) 8 (cl8 V 3)), ((r9 4), iB (cs 0) 8 (cl8 V 4)), ((r9 5), iB (cs 0) 8 (cl8 V 5)), ((r9 6), iB (cs 0) 8 (cl8 V 6)), ((r9 7), iB (cs 0) 8 (cl8 V 7))] → va_S A s.heap H locs → lv_has ls 8 [(0, .ref h), (1, .int 3), (2, .int 0), (3, .ref o9), (4, .int (nI fg)), (5, .int (nI y)), (6, .int (nI x))] → W p l e (headSpec wsX2_steps rmX2_steps).room s m ([.ref h, .int 3, .int 0] : List Value).toArray below meth c H locs 9 72 Q (F0 m 83 ls []) := by
                intro n
                induction n with
                | zero => intro x fg u V hx9 hSU hSV hV hn; exact absurd hn (by omega)
                | succ n ih_px =>
                  intro x fg u V hx9 hSU hSV hV hn H locs ls hP hD hS hl
                  refine lv_iload hx hb dX2_steps_83 (lv_at hl 6 rfl) ?_
                  refine lv_bipush (v := 8) hx hb dX2_steps_85 (by decide) ?_
                  rcases Nat.lt_or_ge x 8 with hx8 | g2
                  · skip
                    have hp64 : 8 * y + x < 64 := by omega
                    refine lv_icmp_ge (tgt := 208) hx hb dX2_steps_87 (by decide) (fun c => absurd c (lt_n (n := 8) hx8 (by decide))) (fun _ => ?_)
                    refine lv_iload_n hx hb dX2_steps_90 rfl (lv_at hl 2 rfl) ?_
                    refine lv_if_eq (tgt := 108) hx hb dX2_steps_91 (by decide) (fun _ => ?_) (fun c => absurd (rfl) c)
                    refine lv_aload_n hx hb dX2_steps_108 rfl (lv_at hl 0 rfl) ?_
                    refine lv_iload hx hb dX2_steps_109 (lv_at hl 6 rfl) ?_
                    refine lv_iload hx hb dX2_steps_111 (lv_at hl 5 rfl) ?_
                    refine cr_i (va_runV (As := [.int (nI x), .int (nI y)]) (rest := []) FX (c_X2_isWater l G cs h o r mo co le K k (nI x) (nI y) hk) (cwV 2 hts gX2_steps_X2_isWater rfl rfl rfl (by decide +kernel) ⟨Nat.le_of_ble_eq_true rfl, Nat.le_of_ble_eq_true rfl⟩) (rsV hK hP hN [0, 1, 2, 3, 4, 5, 6, 7, 8, 9] rfl (ci := 2) (q0 := 0) rfl rfl) rfl rfl hl.1 rfl (lv_room (Nat.le_of_ble_eq_true rfl)) dX2_steps_113 ⟨Nat.le_of_ble_eq_true rfl, Nat.le_of_ble_eq_true rfl⟩) hS hP (fun H locs hP hS => ?_)
                    refine tpi (x' := b2i (wtr (k (8 * y + x)))) (by rw [lotO_in hx8 hy8]; rfl) ?_
                    rcases hwt : wtr (k (8 * y + x)) with _ | _
                    · skip
                      refine tpi (x' := 0) (rfl) ?_
                      refine lv_if_ne (tgt := 122) hx hb dX2_steps_116 (by decide) (fun c => absurd (rfl) c) (fun _ => ?_)
                      refine lv_goto (tgt := 202) hx hb dX2_steps_119 (by decide) ?_
                      refine lv_iinc (v := nI (x + 1)) (lv' := [(6, .int (nI (x + 1))), (0, .ref h), (1, .int 3), (2, .int 0), (3, .ref o9), (4, .int (nI fg)), (5, .int (nI y))]) hx hb dX2_steps_202 hl (k := 6) rfl (nI_inc x) (by decide) rfl (fun ls hl => ?_)
                      refine lv_goto (tgt := 83) hx hb dX2_steps_205 (by decide) ?_
                      exact ih_px (x + 1) fg u V (by omega) (SU_skip hSU hwt) (hSV) (hV) (by omega) _ _ _ hP hD hS (lv_sub hl [1, 2, 3, 4, 5, 6, 0] (rfl))
                    · skip
                      refine tpi (x' := 1) (rfl) ?_
                      refine lv_if_ne (tgt := 122) hx hb dX2_steps_116 (by decide) (fun _ => ?_) (fun c => absurd c (by decide))
                      refine lv_iconst (v := 1) hx hb dX2_steps_122 (by decide) ?_
                      refine lv_aload_n hx hb dX2_steps_123 rfl (lv_at hl 3 rfl) ?_
                      refine lv_iload hx hb dX2_steps_124 (lv_at hl 6 rfl) ?_
                      refine lv_iconst (v := 1) hx hb dX2_steps_126 (by decide) ?_
                      refine lv_isub hx hb dX2_steps_127 ?_
                      refine lv_iload hx hb dX2_steps_128 (lv_at hl 5 rfl) ?_
                      refine cr_i (va_runS (As := [.ref o9, .int ((nI x) - 1), .int (nI y)]) (rest := [.int 1]) FX (c_X2_near l G cs o9 r9 V (nI x - 1) (nI y)) (va_cwS 3 hts gX2_steps_X2_near rfl rfl rfl (by decide +kernel) ⟨Nat.le_of_ble_eq_true rfl, Nat.le_of_ble_eq_true rfl⟩) (rsS hK hP hN [10, 11, 12, 13, 14, 15, 16, 17, 18] rfl) rfl rfl hl.1 rfl (lv_room (Nat.le_of_ble_eq_true rfl)) dX2_steps_130 ⟨Nat.le_of_ble_eq_true rfl, Nat.le_of_ble_eq_true rfl⟩) hS hP (fun H locs hP hS => ?_)
                      refine tpi (x' := nI (nrN u (nbC (8 * y + x) 1))) (by rw [lotO_l hx8 hy8]; exact nr_u hp64 hV) ?_
                      have hn1 : nrN u (nbC (8 * y + x) 1) ≤ 99 := nrN_99 hSV hp64
                      refine lv_aload_n hx hb dX2_steps_133 rfl (lv_at hl 3 rfl) ?_
                      refine lv_iload hx hb dX2_steps_134 (lv_at hl 6 rfl) ?_
                      refine lv_iconst (v := 1) hx hb dX2_steps_136 (by decide) ?_
                      refine lv_iadd hx hb dX2_steps_137 ?_
                      refine lv_iload hx hb dX2_steps_138 (lv_at hl 5 rfl) ?_
                      refine cr_i (va_runS (As := [.ref o9, .int ((nI x) + 1), .int (nI y)]) (rest := [.int (nI (nrN u (nbC (8 * y + x) 1))), .int 1]) FX (c_X2_near l G cs o9 r9 V (nI x + 1) (nI y)) (va_cwS 3 hts gX2_steps_X2_near rfl rfl rfl (by decide +kernel) ⟨Nat.le_of_ble_eq_true rfl, Nat.le_of_ble_eq_true rfl⟩) (rsS hK hP hN [10, 11, 12, 13, 14, 15, 16, 17, 18] rfl) rfl rfl hl.1 rfl (lv_room (Nat.le_of_ble_eq_true rfl)) dX2_steps_140 ⟨Nat.le_of_ble_eq_true rfl, Nat.le_of_ble_eq_true rfl⟩) hS hP (fun H locs hP hS => ?_)
                      refine tpi (x' := nI (nrN u (nbC (8 * y + x) 2))) (by rw [lotO_r hx8 hy8]; exact nr_u hp64 hV) ?_
                      have hn2 : nrN u (nbC (8 * y + x) 2) ≤ 99 := nrN_99 hSV hp64
                      refine va_mmin hx hb (hml.trans hl.1.symm) hown (hts (.methodLink RX2 39 Lib.Math.min.name) (by decide +kernel)) (hts (.static Lib.Math.min.name) (by decide +kernel)) (hts (.initialized "java/lang/Math") (by decide +kernel)) (hts (.code Lib.Math.min.name Lib.Math.min.code 2 (some .int)) (by decide +kernel)) (Nat.le_of_ble_eq_true rfl) (Nat.le_of_ble_eq_true rfl) (Nat.le_of_ble_eq_true rfl) (Nat.le_of_ble_eq_true rfl) dX2_steps_143 ?_
                      refine tpi (x' := nI (mn2 (nrN u (nbC (8 * y + x) 1)) (nrN u (nbC (8 * y + x) 2)))) (mn2_nI (by omega) (by omega)) ?_
                      refine lv_aload_n hx hb dX2_steps_146 rfl (lv_at hl 3 rfl) ?_
                      refine lv_iload hx hb dX2_steps_147 (lv_at hl 6 rfl) ?_
                      refine lv_iload hx hb dX2_steps_149 (lv_at hl 5 rfl) ?_
                      refine lv_iconst (v := 1) hx hb dX2_steps_151 (by decide) ?_
                      refine lv_isub hx hb dX2_steps_152 ?_
                      refine cr_i (va_runS (As := [.ref o9, .int (nI x), .int ((nI y) - 1)]) (rest := [.int (nI (mn2 (nrN u (nbC (8 * y + x) 1)) (nrN u (nbC (8 * y + x) 2)))), .int 1]) FX (c_X2_near l G cs o9 r9 V (nI x) (nI y - 1)) (va_cwS 3 hts gX2_steps_X2_near rfl rfl rfl (by decide +kernel) ⟨Nat.le_of_ble_eq_true rfl, Nat.le_of_ble_eq_true rfl⟩) (rsS hK hP hN [10, 11, 12, 13, 14, 15, 16, 17, 18] rfl) rfl rfl hl.1 rfl (lv_room (Nat.le_of_ble_eq_true rfl)) dX2_steps_153 ⟨Nat.le_of_ble_eq_true rfl, Nat.le_of_ble_eq_true rfl⟩) hS hP (fun H locs hP hS => ?_)
                      refine tpi (x' := nI (nrN u (nbC (8 * y + x) 0))) (by rw [lotO_u hx8 hy8]; exact nr_u hp64 hV) ?_
                      have hn0 : nrN u (nbC (8 * y + x) 0) ≤ 99 := nrN_99 hSV hp64
                      refine lv_aload_n hx hb dX2_steps_156 rfl (lv_at hl 3 rfl) ?_
                      refine lv_iload hx hb dX2_steps_157 (lv_at hl 6 rfl) ?_
                      refine lv_iload hx hb dX2_steps_159 (lv_at hl 5 rfl) ?_
                      refine lv_iconst (v := 1) hx hb dX2_steps_161 (by decide) ?_
                      refine lv_iadd hx hb dX2_steps_162 ?_
                      refine cr_i (va_runS (As := [.ref o9, .int (nI x), .int ((nI y) + 1)]) (rest := [.int (nI (nrN u (nbC (8 * y + x) 0))), .int (nI (mn2 (nrN u (nbC (8 * y + x) 1)) (nrN u (nbC (8 * y + x) 2)))), .int 1]) FX (c_X2_near l G cs o9 r9 V (nI x) (nI y + 1)) (va_cwS 3 hts gX2_steps_X2_near rfl rfl rfl (by decide +kernel) ⟨Nat.le_of_ble_eq_true rfl, Nat.le_of_ble_eq_true rfl⟩) (rsS hK hP hN [10, 11, 12, 13, 14, 15, 16, 17, 18] rfl) rfl rfl hl.1 rfl (lv_room (Nat.le_of_ble_eq_true rfl)) dX2_steps_163 ⟨Nat.le_of_ble_eq_true rfl, Nat.le_of_ble_eq_true rfl⟩) hS hP (fun H locs hP hS => ?_)
                      refine tpi (x' := nI (nrN u (nbC (8 * y + x) 3))) (by rw [lotO_d hx8 hy8]; exact nr_u hp64 hV) ?_
                      have hn3 : nrN u (nbC (8 * y + x) 3) ≤ 99 := nrN_99 hSV hp64
                      refine va_mmin hx hb (hml.trans hl.1.symm) hown (hts (.methodLink RX2 39 Lib.Math.min.name) (by decide +kernel)) (hts (.static Lib.Math.min.name) (by decide +kernel)) (hts (.initialized "java/lang/Math") (by decide +kernel)) (hts (.code Lib.Math.min.name Lib.Math.min.code 2 (some .int)) (by decide +kernel)) (Nat.le_of_ble_eq_true rfl) (Nat.le_of_ble_eq_true rfl) (Nat.le_of_ble_eq_true rfl) (Nat.le_of_ble_eq_true rfl) dX2_steps_166 ?_
                      refine tpi (x' := nI (mn2 (nrN u (nbC (8 * y + x) 0)) (nrN u (nbC (8 * y + x) 3)))) (mn2_nI (by omega) (by omega)) ?_
                      have ha9 := mn2_99 (b := nrN u (nbC (8 * y + x) 2)) hn1
                      have hb9 := mn2_99 (b := nrN u (nbC (8 * y + x) 3)) hn0
                      refine va_mmin hx hb (hml.trans hl.1.symm) hown (hts (.methodLink RX2 39 Lib.Math.min.name) (by decide +kernel)) (hts (.static Lib.Math.min.name) (by decide +kernel)) (hts (.initialized "java/lang/Math") (by decide +kernel)) (hts (.code Lib.Math.min.name Lib.Math.min.code 2 (some .int)) (by decide +kernel)) (Nat.le_of_ble_eq_true rfl) (Nat.le_of_ble_eq_true rfl) (Nat.le_of_ble_eq_true rfl) (Nat.le_of_ble_eq_true rfl) dX2_steps_169 ?_
                      refine tpi (x' := nI (mn2 (mn2 (nrN u (nbC (8 * y + x) 1)) (nrN u (nbC (8 * y + x) 2))) (mn2 (nrN u (nbC (8 * y + x) 0)) (nrN u (nbC (8 * y + x) 3))))) (mn2_nI (by omega) (by omega)) ?_
                      refine lv_iadd hx hb dX2_steps_172 ?_
                      refine tpi (x' := nI (byN u (8 * y + x))) (nI_add 1 _) ?_
                      have hby : byN u (8 * y + x) ≤ 100 := by have := mn2_99 (b := mn2 (nrN u (nbC (8 * y + x) 0)) (nrN u (nbC (8 * y + x) 3))) ha9; unfold byN; omega
                      have hup := SV_99 hSV hp64
                      refine lv_istore (lv' := [(7, .int (nI (byN u (8 * y + x)))), (0, .ref h), (1, .int 3), (2, .int 0), (3, .ref o9), (4, .int (nI fg)), (5, .int (nI y)), (6, .int (nI x))]) hx hb dX2_steps_173 hl (by decide) rfl (fun ls hl => ?_)
                      refine lv_iload hx hb dX2_steps_175 (lv_at hl 0 rfl) ?_
                      refine lv_aload_n hx hb dX2_steps_177 rfl (lv_at hl 4 rfl) ?_
                      refine lv_iload hx hb dX2_steps_178 (lv_at hl 7 rfl) ?_
                      refine g_ald (r := r9) (n := 8) hx hb hK hP 10 1 rfl rfl (x := x) (hx8) (by decide) dX2_steps_180 ?_
                      refine lv_iload hx hb dX2_steps_181 (lv_at hl 6 rfl) ?_
                      refine g_iald (pre := [(h, oS o mo co le), (o, oQ (cs 1) 8 r), ((r 0), iB (cs 0) 8 (cl8 K 0)), ((r 1), iB (cs 0) 8 (cl8 K 1)), ((r 2), iB (cs 0) 8 (cl8 K 2)), ((r 3), iB (cs 0) 8 (cl8 K 3)), ((r 4), iB (cs 0) 8 (cl8 K 4)), ((r 5), iB (cs 0) 8 (cl8 K 5)), ((r 6), iB (cs 0) 8 (cl8 K 6)), ((r 7), iB (cs 0) 8 (cl8 K 7))]) (post := []) (cO := (cs 1)) (cR := (cs 0)) (o := o9) (r := r9) (K := V) hx hb hK hP 0 rfl (x := x) (y := y) (hx8) (hy8) dX2_steps_183 ?_
                      refine tpi (x' := nI (u (8 * y + x))) (hV _ hp64) ?_
                      refine lv_icmp_lt (tgt := 190) hx hb dX2_steps_184 (by decide) (fun c9 => ?_) (fun c9 => ?_)
                      · skip
                        have hlt : byN u (8 * y + x) < u (8 * y + x) := (nI_ltb (by omega) (by omega)).mp c9
                        refine lv_aload_n hx hb dX2_steps_190 rfl (lv_at hl 4 rfl) ?_
                        refine lv_iload hx hb dX2_steps_191 (lv_at hl 7 rfl) ?_
                        refine g_ald (r := r9) (n := 8) hx hb hK hP 10 1 rfl rfl (x := x) (hx8) (by decide) dX2_steps_193 ?_
                        refine lv_iload hx hb dX2_steps_194 (lv_at hl 6 rfl) ?_
                        refine lv_iload hx hb dX2_steps_196 (lv_at hl 0 rfl) ?_
                        refine g_iast (pre := [(h, oS o mo co le), (o, oQ (cs 1) 8 r), ((r 0), iB (cs 0) 8 (cl8 K 0)), ((r 1), iB (cs 0) 8 (cl8 K 1)), ((r 2), iB (cs 0) 8 (cl8 K 2)), ((r 3), iB (cs 0) 8 (cl8 K 3)), ((r 4), iB (cs 0) 8 (cl8 K 4)), ((r 5), iB (cs 0) 8 (cl8 K 5)), ((r 6), iB (cs 0) 8 (cl8 K 6)), ((r 7), iB (cs 0) 8 (cl8 K 7))]) (post := []) (cO := (cs 1)) (cR := (cs 0)) (o := o9) (r := r9) (K := V) hx hb hK hP hD hS 0 rfl (x := x) (y := y) (hx8) (hy8) (v := (nI (byN u (8 * y + x)))) dX2_steps_198 (fun H locs hP hD hS => ?_)
                        have hP : va_P G vwCl [(h, oS o mo co le), (o, oQ (cs 1) 8 r), ((r 0), iB (cs 0) 8 (cl8 K 0)), ((r 1), iB (cs 0) 8 (cl8 K 1)), ((r 2), iB (cs 0) 8 (cl8 K 2)), ((r 3), iB (cs 0) 8 (cl8 K 3)), ((r 4), iB (cs 0) 8 (cl8 K 4)), ((r 5), iB (cs 0) 8 (cl8 K 5)), ((r 6), iB (cs 0) 8 (cl8 K 6)), ((r 7), iB (cs 0) 8 (cl8 K 7)), (o9, oQ (cs 1) 8 r9), ((r9 0), iB (cs 0) 8 (cl8 (upd V (8 * y + x) (nI (byN u (8 * y + x)))) 0)), ((r9 1), iB (cs 0) 8 (cl8 (upd V (8 * y + x) (nI (byN u (8 * y + x)))) 1)), ((r9 2), iB (cs 0) 8 (cl8 (upd V (8 * y + x) (nI (byN u (8 * y + x)))) 2)), ((r9 3), iB (cs 0) 8 (cl8 (upd V (8 * y + x) (nI (byN u (8 * y + x)))) 3)), ((r9 4), iB (cs 0) 8 (cl8 (upd V (8 * y + x) (nI (byN u (8 * y + x)))) 4)), ((r9 5), iB (cs 0) 8 (cl8 (upd V (8 * y + x) (nI (byN u (8 * y + x)))) 5)), ((r9 6), iB (cs 0) 8 (cl8 (upd V (8 * y + x) (nI (byN u (8 * y + x)))) 6)), ((r9 7), iB (cs 0) 8 (cl8 (upd V (8 * y + x) (nI (byN u (8 * y + x)))) 7))] H := hP
                        have hD : va_D A [(h, oS o mo co le), (o, oQ (cs 1) 8 r), ((r 0), iB (cs 0) 8 (cl8 K 0)), ((r 1), iB (cs 0) 8 (cl8 K 1)), ((r 2), iB (cs 0) 8 (cl8 K 2)), ((r 3), iB (cs 0) 8 (cl8 K 3)), ((r 4), iB (cs 0) 8 (cl8 K 4)), ((r 5), iB (cs 0) 8 (cl8 K 5)), ((r 6), iB (cs 0) 8 (cl8 K 6)), ((r 7), iB (cs 0) 8 (cl8 K 7)), (o9, oQ (cs 1) 8 r9), ((r9 0), iB (cs 0) 8 (cl8 (upd V (8 * y + x) (nI (byN u (8 * y + x)))) 0)), ((r9 1), iB (cs 0) 8 (cl8 (upd V (8 * y + x) (nI (byN u (8 * y + x)))) 1)), ((r9 2), iB (cs 0) 8 (cl8 (upd V (8 * y + x) (nI (byN u (8 * y + x)))) 2)), ((r9 3), iB (cs 0) 8 (cl8 (upd V (8 * y + x) (nI (byN u (8 * y + x)))) 3)), ((r9 4), iB (cs 0) 8 (cl8 (upd V (8 * y + x) (nI (byN u (8 * y + x)))) 4)), ((r9 5), iB (cs 0) 8 (cl8 (upd V (8 * y + x) (nI (byN u (8 * y + x)))) 5)), ((r9 6), iB (cs 0) 8 (cl8 (upd V (8 * y + x) (nI (byN u (8 * y + x)))) 6)), ((r9 7), iB (cs 0) 8 (cl8 (upd V (8 * y + x) (nI (byN u (8 * y + x)))) 7))] := hD
                        refine lv_iconst (v := 1) hx hb dX2_steps_199 (by decide) ?_
                        refine lv_istore (lv' := [(4, .int 1), (7, .int (nI (byN u (8 * y + x)))), (0, .ref h), (1, .int 3), (2, .int 0), (3, .ref o9), (5, .int (nI y)), (6, .int (nI x))]) hx hb dX2_steps_200 hl (by decide) rfl (fun ls hl => ?_)
                        refine lv_iinc (v := nI (x + 1)) (lv' := [(6, .int (nI (x + 1))), (4, .int 1), (7, .int (nI (byN u (8 * y + x)))), (0, .ref h), (1, .int 3), (2, .int 0), (3, .ref o9), (5, .int (nI y))]) hx hb dX2_steps_202 hl (k := 7) rfl (nI_inc x) (by decide) rfl (fun ls hl => ?_)
                        refine lv_goto (tgt := 83) hx hb dX2_steps_205 (by decide) ?_
                        have hl : lv_has ls 8 [(6, .int (nI (x + 1))), (4, .int (nI 1)), (7, .int (nI (byN u (8 * y + x)))), (0, .ref h), (1, .int 3), (2, .int 0), (3, .ref o9), (5, .int (nI y))] := hl
                        exact ih_px (x + 1) 1 (updN u (8 * y + x) (byN u (8 * y + x))) (upd V (8 * y + x) (nI (byN u (8 * y + x)))) (by omega) (SU_less hSU hp64 hlt) (SV_step hSV hp64 hwt hlt) (fun p hp => by rcases Nat.decEq p (8 * y + x) with g9 | g9; rw [pk_un g9, updN_n g9]; exact hV p hp; rw [g9, pk_us, updN_s]) (by omega) _ _ _ hP hD hS (lv_sub hl [3, 4, 5, 6, 1, 7, 0] (rfl))
                      · skip
                        refine lv_goto (tgt := 202) hx hb dX2_steps_187 (by decide) ?_
                        refine lv_iinc (v := nI (x + 1)) (lv' := [(6, .int (nI (x + 1))), (7, .int (nI (byN u (8 * y + x)))), (0, .ref h), (1, .int 3), (2, .int 0), (3, .ref o9), (4, .int (nI fg)), (5, .int (nI y))]) hx hb dX2_steps_202 hl (k := 7) rfl (nI_inc x) (by decide) rfl (fun ls hl => ?_)
                        refine lv_goto (tgt := 83) hx hb dX2_steps_205 (by decide) ?_
                        exact ih_px (x + 1) fg u V (by omega) (SU_keep hSU (fun e9 => c9 ((nI_ltb (by omega) (by omega)).mpr e9))) (hSV) (hV) (by omega) _ _ _ hP hD hS (lv_sub hl [2, 3, 4, 5, 6, 7, 0] (rfl))
                  · skip
                    have g2 : x = 8 := by omega
                    subst g2
                    refine lv_icmp_ge (tgt := 208) hx hb dX2_steps_87 (by decide) (fun _ => ?_) (fun c => absurd (le_n (n := 8) (i := 8) (by decide) (by decide)) c)
                    refine lv_iinc (v := nI (y + 1)) (lv' := [(5, .int (nI (y + 1))), (0, .ref h), (1, .int 3), (2, .int 0), (3, .ref o9), (4, .int (nI fg)), (6, .int (nI 8))]) hx hb dX2_steps_208 hl (k := 5) rfl (nI_inc y) (by decide) rfl (fun ls hl => ?_)
                    refine lv_goto (tgt := 73) hx hb dX2_steps_211 (by decide) ?_
                    exact ih_py (y + 1) fg u V (by omega) (by rw [show 8 * (y + 1) + 0 = 8 * y + 8 by omega]; exact hSU) (hSV) (hV) (by omega) _ _ _ hP hD hS (lv_sub hl [1, 2, 3, 4, 5, 0] (rfl))
              exact px (_ + 1) 0 fg u V (by omega) (hSU) (hSV) (hV) (Nat.lt_succ_self _) _ _ _ hP hD hS (lv_sub hl [1, 2, 3, 4, 5, 6, 0] rfl)
            · skip
              have g : y = 8 := by omega
              subst g
              refine lv_icmp_ge (tgt := 214) hx hb dX2_steps_77 (by decide) (fun _ => ?_) (fun c => absurd (le_n (n := 8) (i := 8) (by decide) (by decide)) c)
              refine lv_goto (tgt := 62) hx hb dX2_steps_214 (by decide) ?_
              have hfg9 : fg = 1 ∨ (fg = 0 ∧ ∀ p, p < 64 → stW k u p) := hSU.elim (fun h => Or.inr ⟨h.1, fun p hp => h.2.2 p hp (by omega)⟩) (fun h => Or.inl h.1)
              exact ih_lw fg u V (hfg9) (hSV) (hV) (by rcases hSU with ⟨a1, a2, -⟩ | ⟨a1, a2⟩ <;> omega) _ _ _ hP hD hS (lv_sub hl [0, 1, 2, 3, 4] (rfl))
        exact py (_ + 1) 0 0 u V (by omega) (by rw [hS0]; exact SU_0 k u) (hSV) (hV) (Nat.lt_succ_self _) _ _ _ hP hD hS (lv_sub hl [2, 3, 4, 5, 1, 0] rfl)
      · skip
        subst hm0
        refine lv_if_eq (tgt := 217) hx hb dX2_steps_64 (by decide) (fun _ => ?_) (fun c => absurd (rfl) c)
        refine lv_aload_n hx hb dX2_steps_217 rfl (lv_at hl 3 rfl) ?_
        subst hQ
        subst hAe
        exact wr_r (r9, V) (fun p hp => (hV p hp).trans (congrArg nI (SV_end hSV hst p hp))) hx hb hr hP hD hS hlocks dX2_steps_218
  exact lw (_ + 1) 1 u0 (upd V 3 0) (Or.inl rfl) (SV_0 k) (hV0) (Nat.lt_succ_self _) _ _ _ hP hD hS (lv_sub hl [5, 6, 7, 4, 0] rfl)

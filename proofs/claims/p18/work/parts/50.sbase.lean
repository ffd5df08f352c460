/-! the city by hand: what its world looks like -/
abbrev TYX (cs : Nat → ClassId) : List (ClassId × FieldType) := [(cs 0, .int), (cs 1, .array .int), (cs 2, .array (.array .int)), (cs 3, .boolean), (cs 4, .array .boolean)]
abbrev oS (o : Nat) (mo co le : Int32) : va_E := .inr (2, [.ref o, .int mo, .int co, .int le])
abbrev oQ (c : ClassId) (n : Nat) (r : Nat → Nat) : va_E := .inl (c, n, .inr (.inr (.inr (.inr (fun i => if i < n then some (r i) else none)))))
abbrev iB (c : ClassId) (n : Nat) (f : Nat → Int32) : va_E := .inl (c, n, .inl f)
def cl8 (K : Nat → Int32) (x : Nat) : Nat → Int32 := fun y => K (8 * y + x)
abbrev gW (cO cR : ClassId) (o : Nat) (r : Nat → Nat) (K : Nat → Int32) : va_W := [(o, oQ cO 8 r), (r 0, iB cR 8 (cl8 K 0)), (r 1, iB cR 8 (cl8 K 1)), (r 2, iB cR 8 (cl8 K 2)), (r 3, iB cR 8 (cl8 K 3)), (r 4, iB cR 8 (cl8 K 4)), (r 5, iB cR 8 (cl8 K 5)), (r 6, iB cR 8 (cl8 K 6)), (r 7, iB cR 8 (cl8 K 7))]
theorem cl8_eq {K : Nat → Int32} {x y : Nat} {v : Int32} : cl8 (upd K (8 * y + x) v) x = upd (cl8 K x) y v := by
  funext j
  show upd K (8 * y + x) v (8 * j + x) = upd (cl8 K x) y v j
  by_cases h : j = y
  · subst h
    rw [pk_us, pk_us]
  · rw [pk_un (by omega), pk_un h]
    rfl
theorem cl8_ne {K : Nat → Int32} {x z y : Nat} {v : Int32} (hx : x < 8) (hz : z < 8) (h : z ≠ x) : cl8 (upd K (8 * y + x) v) z = cl8 K z := by
  funext j
  show upd K (8 * y + x) v (8 * j + z) = K (8 * j + z)
  rw [pk_un (by omega)]
theorem lt8 {P : Nat → Prop} {x : Nat} (hx : x < 8) (h0 : P 0) (h1 : P 1) (h2 : P 2) (h3 : P 3) (h4 : P 4) (h5 : P 5) (h6 : P 6) (h7 : P 7) : P x := by
  rcases (show x = 0 ∨ x = 1 ∨ x = 2 ∨ x = 3 ∨ x = 4 ∨ x = 5 ∨ x = 6 ∨ x = 7 by omega) with rfl | rfl | rfl | rfl | rfl | rfl | rfl | rfl
  · exact h0
  · exact h1
  · exact h2
  · exact h3
  · exact h4
  · exact h5
  · exact h6
  · exact h7
theorem gW_at {cO cR : ClassId} {o : Nat} {r : Nat → Nat} {K : Nat → Int32} {x : Nat} (hx : x < 8) : (gW cO cR o r K)[1 + x]? = some (r x, iB cR 8 (cl8 K x)) :=
  lt8 (P := fun x => (gW cO cR o r K)[1 + x]? = some (r x, iB cR 8 (cl8 K x))) hx rfl rfl rfl rfl rfl rfl rfl rfl
theorem gP_at {pre post : va_W} {cO cR : ClassId} {o : Nat} {r : Nat → Nat} {K : Nat → Int32} {x : Nat} (hx : x < 8) : (pre ++ (gW cO cR o r K ++ post))[pre.length + (1 + x)]? = some (r x, iB cR 8 (cl8 K x)) := by
  rw [List.getElem?_append_right (Nat.le_add_right _ _), Nat.add_sub_cancel_left, List.getElem?_append_left (show 1 + x < 9 by omega)]
  exact gW_at hx
theorem gW_set {cO cR : ClassId} {o : Nat} {r : Nat → Nat} {K : Nat → Int32} {x y : Nat} {v : Int32} (hx : x < 8) : (gW cO cR o r K).set (1 + x) (r x, iB cR 8 (upd (cl8 K x) y v)) = gW cO cR o r (upd K (8 * y + x) v) :=
  lt8 (P := fun x => (gW cO cR o r K).set (1 + x) (r x, iB cR 8 (upd (cl8 K x) y v)) = gW cO cR o r (upd K (8 * y + x) v)) hx (by
    have e := cl8_eq (K := K) (x := 0) (y := y) (v := v)
    have e1 := cl8_ne (K := K) (x := 0) (z := 1) (y := y) (v := v) (by decide) (by decide) (by decide)
    have e2 := cl8_ne (K := K) (x := 0) (z := 2) (y := y) (v := v) (by decide) (by decide) (by decide)
    have e3 := cl8_ne (K := K) (x := 0) (z := 3) (y := y) (v := v) (by decide) (by decide) (by decide)
    have e4 := cl8_ne (K := K) (x := 0) (z := 4) (y := y) (v := v) (by decide) (by decide) (by decide)
    have e5 := cl8_ne (K := K) (x := 0) (z := 5) (y := y) (v := v) (by decide) (by decide) (by decide)
    have e6 := cl8_ne (K := K) (x := 0) (z := 6) (y := y) (v := v) (by decide) (by decide) (by decide)
    have e7 := cl8_ne (K := K) (x := 0) (z := 7) (y := y) (v := v) (by decide) (by decide) (by decide)
    show _ = [(o, oQ cO 8 r), (r 0, iB cR 8 (cl8 (upd K (8 * y + 0) v) 0)), (r 1, iB cR 8 (cl8 (upd K (8 * y + 0) v) 1)), (r 2, iB cR 8 (cl8 (upd K (8 * y + 0) v) 2)), (r 3, iB cR 8 (cl8 (upd K (8 * y + 0) v) 3)), (r 4, iB cR 8 (cl8 (upd K (8 * y + 0) v) 4)), (r 5, iB cR 8 (cl8 (upd K (8 * y + 0) v) 5)), (r 6, iB cR 8 (cl8 (upd K (8 * y + 0) v) 6)), (r 7, iB cR 8 (cl8 (upd K (8 * y + 0) v) 7))]
    rw [e, e1, e2, e3, e4, e5, e6, e7]
    rfl) (by
    have e := cl8_eq (K := K) (x := 1) (y := y) (v := v)
    have e0 := cl8_ne (K := K) (x := 1) (z := 0) (y := y) (v := v) (by decide) (by decide) (by decide)
    have e2 := cl8_ne (K := K) (x := 1) (z := 2) (y := y) (v := v) (by decide) (by decide) (by decide)
    have e3 := cl8_ne (K := K) (x := 1) (z := 3) (y := y) (v := v) (by decide) (by decide) (by decide)
    have e4 := cl8_ne (K := K) (x := 1) (z := 4) (y := y) (v := v) (by decide) (by decide) (by decide)
    have e5 := cl8_ne (K := K) (x := 1) (z := 5) (y := y) (v := v) (by decide) (by decide) (by decide)
    have e6 := cl8_ne (K := K) (x := 1) (z := 6) (y := y) (v := v) (by decide) (by decide) (by decide)
    have e7 := cl8_ne (K := K) (x := 1) (z := 7) (y := y) (v := v) (by decide) (by decide) (by decide)
    show _ = [(o, oQ cO 8 r), (r 0, iB cR 8 (cl8 (upd K (8 * y + 1) v) 0)), (r 1, iB cR 8 (cl8 (upd K (8 * y + 1) v) 1)), (r 2, iB cR 8 (cl8 (upd K (8 * y + 1) v) 2)), (r 3, iB cR 8 (cl8 (upd K (8 * y + 1) v) 3)), (r 4, iB cR 8 (cl8 (upd K (8 * y + 1) v) 4)), (r 5, iB cR 8 (cl8 (upd K (8 * y + 1) v) 5)), (r 6, iB cR 8 (cl8 (upd K (8 * y + 1) v) 6)), (r 7, iB cR 8 (cl8 (upd K (8 * y + 1) v) 7))]
    rw [e, e0, e2, e3, e4, e5, e6, e7]
    rfl) (by
    have e := cl8_eq (K := K) (x := 2) (y := y) (v := v)
    have e0 := cl8_ne (K := K) (x := 2) (z := 0) (y := y) (v := v) (by decide) (by decide) (by decide)
    have e1 := cl8_ne (K := K) (x := 2) (z := 1) (y := y) (v := v) (by decide) (by decide) (by decide)
    have e3 := cl8_ne (K := K) (x := 2) (z := 3) (y := y) (v := v) (by decide) (by decide) (by decide)
    have e4 := cl8_ne (K := K) (x := 2) (z := 4) (y := y) (v := v) (by decide) (by decide) (by decide)
    have e5 := cl8_ne (K := K) (x := 2) (z := 5) (y := y) (v := v) (by decide) (by decide) (by decide)
    have e6 := cl8_ne (K := K) (x := 2) (z := 6) (y := y) (v := v) (by decide) (by decide) (by decide)
    have e7 := cl8_ne (K := K) (x := 2) (z := 7) (y := y) (v := v) (by decide) (by decide) (by decide)
    show _ = [(o, oQ cO 8 r), (r 0, iB cR 8 (cl8 (upd K (8 * y + 2) v) 0)), (r 1, iB cR 8 (cl8 (upd K (8 * y + 2) v) 1)), (r 2, iB cR 8 (cl8 (upd K (8 * y + 2) v) 2)), (r 3, iB cR 8 (cl8 (upd K (8 * y + 2) v) 3)), (r 4, iB cR 8 (cl8 (upd K (8 * y + 2) v) 4)), (r 5, iB cR 8 (cl8 (upd K (8 * y + 2) v) 5)), (r 6, iB cR 8 (cl8 (upd K (8 * y + 2) v) 6)), (r 7, iB cR 8 (cl8 (upd K (8 * y + 2) v) 7))]
    rw [e, e0, e1, e3, e4, e5, e6, e7]
    rfl) (by
    have e := cl8_eq (K := K) (x := 3) (y := y) (v := v)
    have e0 := cl8_ne (K := K) (x := 3) (z := 0) (y := y) (v := v) (by decide) (by decide) (by decide)
    have e1 := cl8_ne (K := K) (x := 3) (z := 1) (y := y) (v := v) (by decide) (by decide) (by decide)
    have e2 := cl8_ne (K := K) (x := 3) (z := 2) (y := y) (v := v) (by decide) (by decide) (by decide)
    have e4 := cl8_ne (K := K) (x := 3) (z := 4) (y := y) (v := v) (by decide) (by decide) (by decide)
    have e5 := cl8_ne (K := K) (x := 3) (z := 5) (y := y) (v := v) (by decide) (by decide) (by decide)
    have e6 := cl8_ne (K := K) (x := 3) (z := 6) (y := y) (v := v) (by decide) (by decide) (by decide)
    have e7 := cl8_ne (K := K) (x := 3) (z := 7) (y := y) (v := v) (by decide) (by decide) (by decide)
    show _ = [(o, oQ cO 8 r), (r 0, iB cR 8 (cl8 (upd K (8 * y + 3) v) 0)), (r 1, iB cR 8 (cl8 (upd K (8 * y + 3) v) 1)), (r 2, iB cR 8 (cl8 (upd K (8 * y + 3) v) 2)), (r 3, iB cR 8 (cl8 (upd K (8 * y + 3) v) 3)), (r 4, iB cR 8 (cl8 (upd K (8 * y + 3) v) 4)), (r 5, iB cR 8 (cl8 (upd K (8 * y + 3) v) 5)), (r 6, iB cR 8 (cl8 (upd K (8 * y + 3) v) 6)), (r 7, iB cR 8 (cl8 (upd K (8 * y + 3) v) 7))]
    rw [e, e0, e1, e2, e4, e5, e6, e7]
    rfl) (by
    have e := cl8_eq (K := K) (x := 4) (y := y) (v := v)
    have e0 := cl8_ne (K := K) (x := 4) (z := 0) (y := y) (v := v) (by decide) (by decide) (by decide)
    have e1 := cl8_ne (K := K) (x := 4) (z := 1) (y := y) (v := v) (by decide) (by decide) (by decide)
    have e2 := cl8_ne (K := K) (x := 4) (z := 2) (y := y) (v := v) (by decide) (by decide) (by decide)
    have e3 := cl8_ne (K := K) (x := 4) (z := 3) (y := y) (v := v) (by decide) (by decide) (by decide)
    have e5 := cl8_ne (K := K) (x := 4) (z := 5) (y := y) (v := v) (by decide) (by decide) (by decide)
    have e6 := cl8_ne (K := K) (x := 4) (z := 6) (y := y) (v := v) (by decide) (by decide) (by decide)
    have e7 := cl8_ne (K := K) (x := 4) (z := 7) (y := y) (v := v) (by decide) (by decide) (by decide)
    show _ = [(o, oQ cO 8 r), (r 0, iB cR 8 (cl8 (upd K (8 * y + 4) v) 0)), (r 1, iB cR 8 (cl8 (upd K (8 * y + 4) v) 1)), (r 2, iB cR 8 (cl8 (upd K (8 * y + 4) v) 2)), (r 3, iB cR 8 (cl8 (upd K (8 * y + 4) v) 3)), (r 4, iB cR 8 (cl8 (upd K (8 * y + 4) v) 4)), (r 5, iB cR 8 (cl8 (upd K (8 * y + 4) v) 5)), (r 6, iB cR 8 (cl8 (upd K (8 * y + 4) v) 6)), (r 7, iB cR 8 (cl8 (upd K (8 * y + 4) v) 7))]
    rw [e, e0, e1, e2, e3, e5, e6, e7]
    rfl) (by
    have e := cl8_eq (K := K) (x := 5) (y := y) (v := v)
    have e0 := cl8_ne (K := K) (x := 5) (z := 0) (y := y) (v := v) (by decide) (by decide) (by decide)
    have e1 := cl8_ne (K := K) (x := 5) (z := 1) (y := y) (v := v) (by decide) (by decide) (by decide)
    have e2 := cl8_ne (K := K) (x := 5) (z := 2) (y := y) (v := v) (by decide) (by decide) (by decide)
    have e3 := cl8_ne (K := K) (x := 5) (z := 3) (y := y) (v := v) (by decide) (by decide) (by decide)
    have e4 := cl8_ne (K := K) (x := 5) (z := 4) (y := y) (v := v) (by decide) (by decide) (by decide)
    have e6 := cl8_ne (K := K) (x := 5) (z := 6) (y := y) (v := v) (by decide) (by decide) (by decide)
    have e7 := cl8_ne (K := K) (x := 5) (z := 7) (y := y) (v := v) (by decide) (by decide) (by decide)
    show _ = [(o, oQ cO 8 r), (r 0, iB cR 8 (cl8 (upd K (8 * y + 5) v) 0)), (r 1, iB cR 8 (cl8 (upd K (8 * y + 5) v) 1)), (r 2, iB cR 8 (cl8 (upd K (8 * y + 5) v) 2)), (r 3, iB cR 8 (cl8 (upd K (8 * y + 5) v) 3)), (r 4, iB cR 8 (cl8 (upd K (8 * y + 5) v) 4)), (r 5, iB cR 8 (cl8 (upd K (8 * y + 5) v) 5)), (r 6, iB cR 8 (cl8 (upd K (8 * y + 5) v) 6)), (r 7, iB cR 8 (cl8 (upd K (8 * y + 5) v) 7))]
    rw [e, e0, e1, e2, e3, e4, e6, e7]
    rfl) (by
    have e := cl8_eq (K := K) (x := 6) (y := y) (v := v)
    have e0 := cl8_ne (K := K) (x := 6) (z := 0) (y := y) (v := v) (by decide) (by decide) (by decide)
    have e1 := cl8_ne (K := K) (x := 6) (z := 1) (y := y) (v := v) (by decide) (by decide) (by decide)
    have e2 := cl8_ne (K := K) (x := 6) (z := 2) (y := y) (v := v) (by decide) (by decide) (by decide)
    have e3 := cl8_ne (K := K) (x := 6) (z := 3) (y := y) (v := v) (by decide) (by decide) (by decide)
    have e4 := cl8_ne (K := K) (x := 6) (z := 4) (y := y) (v := v) (by decide) (by decide) (by decide)
    have e5 := cl8_ne (K := K) (x := 6) (z := 5) (y := y) (v := v) (by decide) (by decide) (by decide)
    have e7 := cl8_ne (K := K) (x := 6) (z := 7) (y := y) (v := v) (by decide) (by decide) (by decide)
    show _ = [(o, oQ cO 8 r), (r 0, iB cR 8 (cl8 (upd K (8 * y + 6) v) 0)), (r 1, iB cR 8 (cl8 (upd K (8 * y + 6) v) 1)), (r 2, iB cR 8 (cl8 (upd K (8 * y + 6) v) 2)), (r 3, iB cR 8 (cl8 (upd K (8 * y + 6) v) 3)), (r 4, iB cR 8 (cl8 (upd K (8 * y + 6) v) 4)), (r 5, iB cR 8 (cl8 (upd K (8 * y + 6) v) 5)), (r 6, iB cR 8 (cl8 (upd K (8 * y + 6) v) 6)), (r 7, iB cR 8 (cl8 (upd K (8 * y + 6) v) 7))]
    rw [e, e0, e1, e2, e3, e4, e5, e7]
    rfl) (by
    have e := cl8_eq (K := K) (x := 7) (y := y) (v := v)
    have e0 := cl8_ne (K := K) (x := 7) (z := 0) (y := y) (v := v) (by decide) (by decide) (by decide)
    have e1 := cl8_ne (K := K) (x := 7) (z := 1) (y := y) (v := v) (by decide) (by decide) (by decide)
    have e2 := cl8_ne (K := K) (x := 7) (z := 2) (y := y) (v := v) (by decide) (by decide) (by decide)
    have e3 := cl8_ne (K := K) (x := 7) (z := 3) (y := y) (v := v) (by decide) (by decide) (by decide)
    have e4 := cl8_ne (K := K) (x := 7) (z := 4) (y := y) (v := v) (by decide) (by decide) (by decide)
    have e5 := cl8_ne (K := K) (x := 7) (z := 5) (y := y) (v := v) (by decide) (by decide) (by decide)
    have e6 := cl8_ne (K := K) (x := 7) (z := 6) (y := y) (v := v) (by decide) (by decide) (by decide)
    show _ = [(o, oQ cO 8 r), (r 0, iB cR 8 (cl8 (upd K (8 * y + 7) v) 0)), (r 1, iB cR 8 (cl8 (upd K (8 * y + 7) v) 1)), (r 2, iB cR 8 (cl8 (upd K (8 * y + 7) v) 2)), (r 3, iB cR 8 (cl8 (upd K (8 * y + 7) v) 3)), (r 4, iB cR 8 (cl8 (upd K (8 * y + 7) v) 4)), (r 5, iB cR 8 (cl8 (upd K (8 * y + 7) v) 5)), (r 6, iB cR 8 (cl8 (upd K (8 * y + 7) v) 6)), (r 7, iB cR 8 (cl8 (upd K (8 * y + 7) v) 7))]
    rw [e, e0, e1, e2, e3, e4, e5, e6]
    rfl)
theorem gP_set {pre post : va_W} {cO cR : ClassId} {o : Nat} {r : Nat → Nat} {K : Nat → Int32} {x y : Nat} {v : Int32} (hx : x < 8) : (pre ++ (gW cO cR o r K ++ post)).set (pre.length + (1 + x)) (r x, iB cR 8 (upd (cl8 K x) y v)) = pre ++ (gW cO cR o r (upd K (8 * y + x) v) ++ post) := by
  rw [List.set_append_right _ _ (Nat.le_add_right _ _), Nat.add_sub_cancel_left, List.set_append_left _ _ (show 1 + x < 9 by omega), gW_set hx]
theorem gW_new {cO cR : ClassId} {o : Nat} {r : Nat → Nat} {f : Nat → va_E} : ([(o, oQ cO 8 r)] ++ va_pl ([] ++ (List.range 8).map r) (vr_up f ((List.range 8).map r) (iB cR 8 (fun _ => 0)))) = gW cO cR o r (fun _ => 0) := by
  have h : ∀ a, a ∈ (List.range 8).map r → vr_up f ((List.range 8).map r) (iB cR 8 (fun _ => 0)) a = iB cR 8 (fun _ => 0) := fun a ha => vr_up_in ha
  have e : va_pl ([] ++ (List.range 8).map r) (vr_up f ((List.range 8).map r) (iB cR 8 (fun _ => 0))) = ((List.range 8).map r).map (fun a => (a, iB cR 8 (fun _ => 0))) := by
    unfold va_pl
    rw [List.nil_append]
    exact List.map_congr_left (fun a ha => by rw [h a ha])
  rw [e]
  rfl
theorem cl8_0 (x : Nat) : cl8 (fun _ => 0) x = fun _ => 0 := rfl
section Gr
variable {p : Program} {l : Launch} {e : Env} {R : Room} {s : State} {m : MethodId} {args : Array Value} {below : List Frame} {meth : Method} {c : Code} {H : Heap} {locs : List Loc} {cells slots mc ms : Nat} {Q : State → Prop}
variable {cc : ByteArray} {pc : Nat} {ls : Array Slot} {rest st0 : List Value} {D : va_G} {cl : List vw_C} {A A0 : Nat → Prop} {a : Nat} {tys : List (ClassId × FieldType)} {ws : va_W} {H0 : Heap}
theorem g_ald (hexec : p.tables.exec = Jvm.exec) (hb : c.code = cc) (hK : va_K D cl tys s) (hP : va_P D cl ws H) (q0 t0 : Nat) {cA : ClassId} {ty : FieldType} {n : Nat} {r : Nat → Nat} (ha : ws[q0]? = some (a, oQ cA n r)) (ht : tys[t0]? = some (cA, .array ty)) {x : Nat} (hx : x < n) (hn : n ≤ 64) (hdg : decode cc pc = .ok (.aaload, 1))
    (kk : W p l e R s m args below meth c H locs cells slots Q (F0 m (pc + 1) ls (.ref (r x) :: rest))) : W p l e R s m args below meth c H locs cells slots Q (F0 m pc ls (.int (nI x) :: .ref a :: rest)) := by
  have hin : vp_in (nI x) n := vp_in_nI hx (by omega)
  have hlt : (nI x).toNatClampNeg < n := Nat.not_le.mp fun q => hin (Or.inr q)
  have e1 : va_rf ((fun i => if i < n then some (r i) else none) (nI x).toNatClampNeg) = .ref (r x) := by
    rw [nI_clamp (by omega)]
    show va_rf (if x < n then some (r x) else none) = _
    rw [if_pos hx]
    rfl
  have k2 : W p l e R s m args below meth c H locs cells slots Q (F0 m (pc + 1) ls (va_rf ((fun i => if i < n then some (r i) else none) (nI x).toNatClampNeg) :: rest)) := by rw [e1]; exact kk
  exact W.aald (v := va_rf ((fun i => if i < n then some (r i) else none) (nI x).toNatClampNeg)) (ty := .array ty) hexec hb (hP q0 _ ha) ((hK.2 t0 _ ht).1 n (fun j => va_rf ((fun i => if i < n then some (r i) else none) j))) rfl (fun q => by cases q) (by show ¬ (nI x < 0 ∨ (arrV _ _ _).slots.size ≤ _); rw [arrV_size]; exact hin) (by show (arrV _ _ _).slots[_]? = _; rw [arrV_read _ _ hlt]) rfl rfl hdg k2
theorem g_iald (hexec : p.tables.exec = Jvm.exec) (hb : c.code = cc) (hK : va_K D cl tys s) {pre post : va_W} {cO cR : ClassId} {o : Nat} {r : Nat → Nat} {K : Nat → Int32} (hP : va_P D cl (pre ++ (gW cO cR o r K ++ post)) H) (t0 : Nat) (ht : tys[t0]? = some (cR, .int)) {x y : Nat} (hx : x < 8) (hy : y < 8) (hdg : decode cc pc = .ok (.iaload, 1))
    (kk : W p l e R s m args below meth c H locs cells slots Q (F0 m (pc + 1) ls (.int (K (8 * y + x)) :: rest))) : W p l e R s m args below meth c H locs cells slots Q (F0 m pc ls (.int (nI y) :: .ref (r x) :: rest)) := by
  refine va_iald hexec hb hK hP (pre.length + (1 + x)) t0 (gP_at hx) ht (vp_in_nI hy (by decide)) hdg ?_
  rw [nI_clamp (by omega)]
  exact kk
theorem g_zald (hexec : p.tables.exec = Jvm.exec) (hb : c.code = cc) (hK : va_K D cl tys s) {pre post : va_W} {cO cR : ClassId} {o : Nat} {r : Nat → Nat} {K : Nat → Int32} (hP : va_P D cl (pre ++ (gW cO cR o r K ++ post)) H) (t0 : Nat) (ht : tys[t0]? = some (cR, .boolean)) {x y : Nat} (hx : x < 8) (hy : y < 8) (hdg : decode cc pc = .ok (.baload, 1))
    (kk : W p l e R s m args below meth c H locs cells slots Q (F0 m (pc + 1) ls (.int (K (8 * y + x)) :: rest))) : W p l e R s m args below meth c H locs cells slots Q (F0 m pc ls (.int (nI y) :: .ref (r x) :: rest)) := by
  refine va_zald hexec hb hK hP (pre.length + (1 + x)) t0 (gP_at hx) ht (vp_in_nI hy (by decide)) hdg ?_
  rw [nI_clamp (by omega)]
  exact kk
theorem g_iast (hexec : p.tables.exec = Jvm.exec) (hb : c.code = cc) (hK : va_K D cl tys s) {pre post : va_W} {cO cR : ClassId} {o : Nat} {r : Nat → Nat} {K : Nat → Int32} (hP : va_P D cl (pre ++ (gW cO cR o r K ++ post)) H) (hD : va_D A (pre ++ (gW cO cR o r K ++ post))) (hS : va_S A H0 H locs) (t0 : Nat) (ht : tys[t0]? = some (cR, .int)) {x y : Nat} (hx : x < 8) (hy : y < 8) {v : Int32} (hdg : decode cc pc = .ok (.iastore, 1))
    (kk : ∀ (H1 : Heap) (locs1 : List Loc), va_P D cl (pre ++ (gW cO cR o r (upd K (8 * y + x) v) ++ post)) H1 → va_D A (pre ++ (gW cO cR o r (upd K (8 * y + x) v) ++ post)) → va_S A H0 H1 locs1 → W p l e R s m args below meth c H1 locs1 cells slots Q (F0 m (pc + 1) ls rest)) : W p l e R s m args below meth c H locs cells slots Q (F0 m pc ls (.int v :: .int (nI y) :: .ref (r x) :: rest)) := by
  refine va_iast hexec hb hK hP hD hS (pre.length + (1 + x)) t0 (gP_at hx) ht (vp_in_nI hy (by decide)) hdg (fun H1 locs1 hP1 hD1 hS1 => ?_)
  rw [nI_clamp (by omega)] at hP1 hD1
  refine kk H1 locs1 ?_ ?_ hS1
  · rw [← gP_set hx]
    exact hP1
  · rw [← gP_set hx]
    exact hD1
theorem g_zast (hexec : p.tables.exec = Jvm.exec) (hb : c.code = cc) (hK : va_K D cl tys s) {pre post : va_W} {cO cR : ClassId} {o : Nat} {r : Nat → Nat} {K : Nat → Int32} (hP : va_P D cl (pre ++ (gW cO cR o r K ++ post)) H) (hD : va_D A (pre ++ (gW cO cR o r K ++ post))) (hS : va_S A H0 H locs) (t0 : Nat) (ht : tys[t0]? = some (cR, .boolean)) {x y : Nat} (hx : x < 8) (hy : y < 8) {v : Int32} (hv : vp_nar .boolean v = v) (hdg : decode cc pc = .ok (.bastore, 1))
    (kk : ∀ (H1 : Heap) (locs1 : List Loc), va_P D cl (pre ++ (gW cO cR o r (upd K (8 * y + x) v) ++ post)) H1 → va_D A (pre ++ (gW cO cR o r (upd K (8 * y + x) v) ++ post)) → va_S A H0 H1 locs1 → W p l e R s m args below meth c H1 locs1 cells slots Q (F0 m (pc + 1) ls rest)) : W p l e R s m args below meth c H locs cells slots Q (F0 m pc ls (.int v :: .int (nI y) :: .ref (r x) :: rest)) := by
  refine va_zast hexec hb hK hP hD hS (pre.length + (1 + x)) t0 (gP_at hx) ht (vp_in_nI hy (by decide)) hdg (fun H1 locs1 hP1 hD1 hS1 => ?_)
  rw [nI_clamp (by omega), hv] at hP1 hD1
  refine kk H1 locs1 ?_ ?_ hS1
  · rw [← gP_set hx]
    exact hP1
  · rw [← gP_set hx]
    exact hD1
end Gr
/-! what only reads, what writes: over all array classes -/
def AOs (U : State) : Prop := (Cond.arrayOver (.array .int)).before #[] U = true ∧ (Cond.arrayOver (.array (.array .int))).before #[] U = true ∧ (Cond.arrayOver (.array .boolean)).before #[] U = true
theorem AOs_moved {u U : State} (hvm : u.vm.Alike U.vm) (h : AOs u) : AOs U := ⟨over_moved hvm h.1, over_moved hvm h.2.1, over_moved hvm h.2.2⟩
theorem AOs_use {t : FieldType} {a : Array Value} {U : State} (h : (Cond.arrayOver (.array t)).before #[] U = true) : (Cond.arrayOver (.array t)).before a U = true := over_moved (Vm.Alike.refl U.vm) h
def CL3 (U : State) : Prop := va_Nw (.classLink RX2 57 ("[" ++ (FieldType.array (.array .int)).toString)) U ∧ va_Nw (.arrayClass .int) U
theorem arrC_same {u U : State} {a a' : Array Value} (hv : u.vm = U.vm) (h : (Cond.arrayClass .int).before a u = true) : (Cond.arrayClass .int).before a' U = true := by
  simp only [Cond.before, Cond.holds, Cond.value] at h ⊢
  rw [← hv]
  exact h
theorem CL3_same {u U : State} (hv : u.vm = U.vm) (h : CL3 u) : CL3 U := ⟨va_Nw.same rfl hv h.1, arrC_same hv h.2⟩
theorem CL3_warm {s U : State} (hW : s.WarmedH U.vm) (h : CL3 s) : CL3 U := ⟨word_at hW (good_of_word rfl) h.1, word_at hW (good_of_word rfl) h.2⟩
def NA (U : State) : Prop := NW U ∧ AOs U ∧ CL3 U
theorem NA_same {u U : State} (hv : u.vm = U.vm) (h : NA u) : NA U := ⟨NW_same hv h.1, AOs_moved (hv ▸ Vm.Alike.refl u.vm) h.2.1, CL3_same hv h.2.2⟩
theorem NA_warm {s U : State} (hW : s.WarmedH U.vm) (h : NA s) : NA U := ⟨NW_warm hW h.1, AOs_moved hW.alike h.2.1, CL3_warm hW h.2.2⟩
def RsP (G : va_G) (cs : Nat → ClassId) (ws : va_W) : State → Prop := fun U => va_P G vwCl ws U.heap ∧ va_K G vwCl (TYX cs) U ∧ NA U
theorem RsP_calling {G : va_G} {cs : Nat → ClassId} {ws : va_W} {U : State} {g : JFrame} {mk : MethodId} {a : Array Value} (h : RsP G cs ws U) : RsP G cs ws (U.calling g mk a) :=
  ⟨h.1, va_K.moved (u := U) (U := U.calling g mk a) (Vm.Alike.refl U.vm) h.2.1, NA_same (u := U) (U := U.calling g mk a) rfl h.2.2⟩
theorem RsP_blind {G : va_G} {cs : Nat → ClassId} {ws : va_W} {av : List Value} : FrameBlind (va_Pc av (RsP G cs ws)) := fun _ _ _ _ q => ⟨q.1, RsP_calling q.2⟩
theorem rsV {s : State} {H : Heap} {G : va_G} {cs : Nat → ClassId} {ws ws' : va_W} {C : String} {T : u_T} {N ci q0 b : Nat} {fs As : List Value} (hK : va_K G vwCl (TYX cs) s) (hP : va_P G vwCl ws H) (hN : NA s) (is : List Nat) (hs : is.filterMap (fun i => ws[i]?) = ws') (hc : vwCl[ci]? = some (C, T, N)) (he : ws[q0]? = some (b, .inr (ci, fs))) : PreV s H C b (va_Pc (.ref b :: As) (RsP G cs ws')) As :=
  ⟨RsP_blind, va_recv hK hP hc he, fun U hU hW => ⟨rfl, by rw [hU]; exact hP.sub is hs, va_K.moved hW.alike hK, NA_warm hW hN⟩⟩
theorem rsS {s : State} {H : Heap} {G : va_G} {cs : Nat → ClassId} {ws ws' : va_W} {As : List Value} (hK : va_K G vwCl (TYX cs) s) (hP : va_P G vwCl ws H) (hN : NA s) (is : List Nat) (hs : is.filterMap (fun i => ws[i]?) = ws') : PreS s H (va_Pc As (RsP G cs ws')) As :=
  ⟨RsP_blind, fun U hU hW => ⟨rfl, by rw [hU]; exact hP.sub is hs, va_K.moved hW.alike hK, NA_warm hW hN⟩⟩
def WsP (G : va_G) (cs : Nat → ClassId) (ws : va_W) (sz : Nat) : State → Prop := fun U => U.heap.size = sz ∧ va_P G vwCl ws U.heap ∧ va_K G vwCl (TYX cs) U ∧ va_D (fun _ => True) ws ∧ NA U
def WrBr {S : Type} (G : va_G) (ws : va_W) (sz : Nat) (W' : S → Nat → va_W) : S → Nat → State → Prop := fun u a t => va_P G vwCl (W' u a) t.heap ∧ va_D (va_A ws sz) (W' u a)
theorem WsP_blind {G : va_G} {cs : Nat → ClassId} {ws : va_W} {sz : Nat} {av : List Value} : FrameBlind (va_Pc av (WsP G cs ws sz)) := fun _ U g mk q => ⟨q.1, q.2.1, q.2.2.1, va_K.moved (u := U) (U := U.calling g mk _) (Vm.Alike.refl U.vm) q.2.2.2.1, q.2.2.2.2.1, NA_same (u := U) (U := U.calling g mk _) rfl q.2.2.2.2.2⟩
theorem wsrV {s : State} {H : Heap} {G : va_G} {cs : Nat → ClassId} {ws ws' : va_W} {C : String} {T : u_T} {N ci q0 b : Nat} {fs As : List Value} {A : Nat → Prop} (hK : va_K G vwCl (TYX cs) s) (hP : va_P G vwCl ws H) (hD : va_D A ws) (hN : NA s) (is : List Nat) (hn : va_nd is = true) (hs : is.map (fun i => ws[i]?) = ws'.map some) (hf : is.filterMap (fun i => ws[i]?) = ws') (hc : vwCl[ci]? = some (C, T, N)) (he : ws[q0]? = some (b, .inr (ci, fs))) : PreV s H C b (va_Pc (.ref b :: As) (WsP G cs ws' H.size)) As :=
  ⟨WsP_blind, va_recv hK hP hc he, fun U hU hW => ⟨rfl, by rw [hU], by rw [hU]; exact hP.sub is hf, va_K.moved hW.alike hK, (hD.sub is hn hs).weaken (fun _ _ _ _ => trivial), NA_warm hW hN⟩⟩
theorem wsrS {s : State} {H : Heap} {G : va_G} {cs : Nat → ClassId} {ws ws' : va_W} {As : List Value} {A : Nat → Prop} (hK : va_K G vwCl (TYX cs) s) (hP : va_P G vwCl ws H) (hD : va_D A ws) (hN : NA s) (is : List Nat) (hn : va_nd is = true) (hs : is.map (fun i => ws[i]?) = ws'.map some) (hf : is.filterMap (fun i => ws[i]?) = ws') : PreS s H (va_Pc As (WsP G cs ws' H.size)) As :=
  ⟨WsP_blind, fun U hU hW => ⟨rfl, by rw [hU], by rw [hU]; exact hP.sub is hf, va_K.moved hW.alike hK, (hD.sub is hn hs).weaken (fun _ _ _ _ => trivial), NA_warm hW hN⟩⟩
section Wr
variable {p : Program} {l : Launch} {e : Env} {R : Room} {s : State} {m : MethodId} {args : Array Value} {below : List Frame} {meth : Method} {c : Code} {H : Heap} {locs : List Loc} {cells slots mc ms : Nat} {Q : State → Prop}
variable {cc : ByteArray} {pc : Nat} {ls : Array Slot} {rest st0 : List Value} {A0 : Nat → Prop} {H0 : Heap} {a : Array Value} {G : va_G} {ws wc wr : va_W} {S : Type}
theorem cw_r {W' : S → Nat → va_W} {post : S → Prop} (hr : va_Run p l e R s m args below meth c H locs cells slots mc ms (F0 m pc ls st0) rest (va_Qr post (WrBr G wc H.size W') (va_A wc H.size) a) (va_A wc H.size)) (hS : va_S A0 H0 H locs) (hP : va_P G vwCl ws H) (hD : va_D A0 ws) (hA : ∀ q, H0.size ≤ q → A0 q)
    (isC isR : List Nat) (hC : isC.map (fun i => ws[i]?) = wc.map some) (hR : isR.map (fun i => ws[i]?) = wr.map some) (hn : va_nd isR = true) (hdis : ∀ i ∈ isR, i ∉ isC)
    (kk : ∀ (u : S) (ra : Nat) (H1 : Heap) (locs1 : List Loc), post u → va_P G vwCl (wr ++ W' u ra) H1 → va_D A0 (wr ++ W' u ra) → va_S A0 H0 H1 locs1 → W p l e R s m args below meth c H1 locs1 (cells + mc) (slots + ms) Q (F0 m (pc + 3) ls (.ref ra :: rest))) : W p l e R s m args below meth c H locs cells slots Q (F0 m pc ls st0) := by
  have hF := va_free (wc := wc) hD hS hA isC hC
  refine va_callr hr hS (fun q _ h => hF q h) hF (fun u ra t H1 locs1 ht hvm hw hB hz1 hk1 hS1 => ?_)
  obtain ⟨hP1, hD1⟩ := hB
  rw [ht] at hP1
  obtain ⟨hP2, hD2⟩ := va_join hP hD isC isR hC hR hn hdis hk1 hF hP1 hD1
  exact kk u ra H1 locs1 hw hP2 hD2 hS1
theorem wr_r {W' : S → Nat → va_W} {post : S → Prop} {v : Nat} {t0 : FieldType} (u : S) (hu : post u) {sz : Nat} (hexec : p.tables.exec = Jvm.exec) (hb : c.code = cc) (hr : meth.sig.returnType = some (.array t0)) (hP : va_P G vwCl (W' u v) H) (hD : va_D (va_A wc sz) (W' u v)) (hS : va_S (va_A wc sz) s.heap H locs) (hlocks : meth.locks = false) (hdg : decode cc pc = .ok (.areturn, 1)) : W p l e R s m args below meth c H locs cells slots (MQ below (va_Qr post (WrBr G wc sz W') (va_A wc sz)) args s cells slots (va_A wc sz)) (F0 m pc ls [.ref v]) :=
  W.aret hexec hb hr (Or.inr ⟨_, rfl⟩) (Or.inr ⟨_, rfl⟩) (fun t ht hW => ⟨⟨u, v, rfl, hu, by rw [ht]; exact hP, hD⟩, hS.F ht⟩) hS.2.2 hdg hlocks
theorem wr_z {W' : S → va_W} {post : Int32 → S → Prop} {v : Int32} (u : S) (hu : post v u) (hn : narrow .boolean (.int v) = .int v) {sz : Nat} (hexec : p.tables.exec = Jvm.exec) (hb : c.code = cc) (hr : meth.sig.returnType = some .boolean) (hP : va_P G vwCl (W' u) H) (hD : va_D (va_A wc sz) (W' u)) (hS : va_S (va_A wc sz) s.heap H locs) (hlocks : meth.locks = false) (hdg : decode cc pc = .ok (.ireturn, 1)) : W p l e R s m args below meth c H locs cells slots (MQ below (va_Qi post (WrB G wc sz W') (va_A wc sz)) args s cells slots (va_A wc sz)) (F0 m pc ls [.int v]) :=
  W.zret (v := v) hexec hb hr hn (fun t ht hW => ⟨⟨v, u, rfl, hu, by rw [ht]; exact hP, hD⟩, hS.F ht⟩) hS.2.2 hdg hlocks
end Wr

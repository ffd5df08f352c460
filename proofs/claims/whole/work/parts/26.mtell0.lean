theorem tbl_totM {p : Program} {l : Launch} {e : Env} {R : Room} {s : State} {m : MethodId} {args : Array Value} {below : List Frame} {meth : Method} {c : Code} {H : Heap} {locs : List Loc} {cells slots : Nat} {Q : State → Prop} {cc : ByteArray} {pc : Nat} {ls : Array Slot} {rest : List Value} {x : Int32} {len : Nat} (hexec : p.tables.exec = Jvm.exec) (hb : c.code = cc)
    (hdg : decode cc pc = .ok (.tableswitch 104 0 12 #[67, 69, 104, 104, 104, 104, 104, 104, 104, 72, 78, 78, 101], len)) (hp : pc = 1) (w0 : ¬ x = 0) (w1 : ¬ x = 1) (w9 : ¬ x = 9) (w10 : ¬ x = 10) (w11 : ¬ x = 11) (w12 : ¬ x = 12)
    (k : W p l e R s m args below meth c H locs cells slots Q (F0 m 105 ls rest)) : W p l e R s m args below meth c H locs cells slots Q (F0 m pc ls (.int x :: rest)) := by
  subst hp
  have a0 := ne_int (z := 0) w0 (by decide)
  have a1 := ne_int (z := 1) w1 (by decide)
  have a2 := ne_int (z := 9) w9 (by decide)
  have a3 := ne_int (z := 10) w10 (by decide)
  have a4 := ne_int (z := 11) w11 (by decide)
  have a5 := ne_int (z := 12) w12 (by decide)
  by_cases h : x.toInt < 0 ∨ 12 < x.toInt
  · exact lv_tableOut (tgt := 105) hexec hb hdg h (by decide) k
  · refine lv_tableIn (off := 104) (tgt := 105) hexec hb hdg (by omega) (by omega) ?_ (by decide) k
    have e9 : x.toInt = 2 ∨ x.toInt = 3 ∨ x.toInt = 4 ∨ x.toInt = 5 ∨ x.toInt = 6 ∨ x.toInt = 7 ∨ x.toInt = 8 := by omega
    rcases e9 with q | q | q | q | q | q | q <;> (rw [q]; rfl)
theorem wr_z {p : Program} {l : Launch} {e : Env} {R : Room} {s : State} {m : MethodId} {args : Array Value} {below : List Frame} {meth : Method} {c : Code} {H : Heap} {locs : List Loc} {cells slots : Nat} {cc : ByteArray} {pc : Nat} {ls : Array Slot} {G : va_G} {wc : va_W} {S : Type} {W' : S → va_W} {post : Int32 → S → Prop} {v : Int32} (u : S) (hu : post v u) (hn : narrow .boolean (.int v) = .int v) {sz : Nat} (hexec : p.tables.exec = Jvm.exec) (hb : c.code = cc) (hr : meth.sig.returnType = some .boolean) (hP : va_P G vwCl (W' u) H) (hD : va_D (va_A wc sz) (W' u)) (hS : va_S (va_A wc sz) s.heap H locs) (hlocks : meth.locks = false) (hdg : decode cc pc = .ok (.ireturn, 1)) : W p l e R s m args below meth c H locs cells slots (MQ below (va_Qi post (WrB G wc sz W') (va_A wc sz)) args s cells slots (va_A wc sz)) (F0 m pc ls [.int v]) :=
  W.zret hexec hb hr hn (fun t ht hW => ⟨⟨v, u, rfl, hu, by rw [ht]; exact hP, hD⟩, hS.F ht⟩) hS.2.2 hdg hlocks

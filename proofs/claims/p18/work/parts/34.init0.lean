theorem va_newI {p : Program} {l : Launch} {e : Env} {R : Room} {s : State} {m : MethodId} {args : Array Value} {below : List Frame} {meth : Method} {c : Code} {H : Heap} {locs : List Loc} {cells slots : Nat} {Q : State → Prop} {cc : ByteArray} {pc : Nat} {ls : Array Slot} {rest : List Value} {A : Nat → Prop} {H0 : Heap} {G : va_G} {cI : ClassId} {ws : va_W} (hexec : p.tables.exec = Jvm.exec) (hb : c.code = cc) (harr : (Cond.arrayClass .int).before args s = true) (hK : va_K G vwCl (TY cI) s) (hP : va_P G vwCl ws H) (hD : va_D A ws) (hS : va_S A H0 H locs) (hA : ∀ q, H0.size ≤ q → A q)
    (hcells : cells + 1 ≤ R.cells) (hslots : slots + 64 ≤ R.slots) (hdg : decode cc pc = .ok (.newarray .int, 2))
    (kk : ∀ (q : Nat) (H1 : Heap), va_P G vwCl (ws ++ [(q, iA cI (fun _ => 0))]) H1 → va_D A (ws ++ [(q, iA cI (fun _ => 0))]) → va_S A H0 H1 locs → W p l e R s m args below meth c H1 locs (cells + 1) (slots + 64) Q (F0 m (pc + 2) ls (.ref q :: rest))) : W p l e R s m args below meth c H locs cells slots Q (F0 m pc ls (.int 64 :: rest)) := by
  refine va_newa (atype := .int) (ty := .int) (N' := 64) (a0 := (64, .inl (fun _ => 0))) hexec hb harr rfl hK hP hD hS hA (fun _ => rfl) (by decide) (by decide) (by decide) hcells hslots hdg (fun q cA H1 hK1 hP1 hD1 hS1 => ?_)
  have h1 : s.vm.findClass ("[" ++ (FieldType.int).toString) = some cA := (hK1.2 1 (cA, .int) rfl).2
  have h2 : s.vm.findClass ("[" ++ (FieldType.int).toString) = some cI := (hK.2 0 (cI, .int) rfl).2
  have h3 : cA = cI := Option.some.inj (h1.symm.trans h2)
  subst h3
  exact kk q H1 hP1 hD1 hS1
def mkA (h q3 q4 q5 q6 q7 q8 q9 q10 q11 q12 q13 : Nat) : Nat → Nat := fun i => match i with
  | 0 => h
  | 3 => q3
  | 4 => q4
  | 5 => q5
  | 6 => q6
  | 7 => q7
  | 8 => q8
  | 9 => q9
  | 10 => q10
  | 11 => q11
  | 12 => q12
  | _ => q13
/-- at first: canals where x is 3 -/
def k0 : Nat → Int32 := fun x => if x % 8 = 3 then 1 else 0
def k0p (i x : Nat) : Int32 := if x % 8 = 3 ∧ x / 8 < i then 1 else 0
theorem k0p_64 {x : Nat} (hx : x < 64) : k0p 8 x = k0 x := by
  unfold k0p k0
  by_cases h : x % 8 = 3
  · rw [if_pos h, if_pos ⟨h, by omega⟩]
  · rw [if_neg h, if_neg (fun e => h e.1)]
theorem k0p_0 (x : Nat) : k0p 0 x = 0 := if_neg (fun e => absurd e.2 (Nat.not_lt_zero _))
theorem k0p_in (i : Nat) : k0p (i + 1) (8 * i + 3) = 1 := if_pos ⟨by omega, by omega⟩
theorem k0p_out {i x : Nat} (h : x ≠ 8 * i + 3) : k0p (i + 1) x = k0p i x := by
  unfold k0p
  by_cases g : x % 8 = 3 ∧ x / 8 < i
  · rw [if_pos g, if_pos ⟨g.1, by omega⟩]
  · rw [if_neg g, if_neg (fun e => g ⟨e.1, by omega⟩)]
theorem k0_kd : ∀ x, x < 64 → kd (k0 x) := fun x _ => by
  unfold k0
  by_cases h : x % 8 = 3
  · rw [if_pos h]; exact ⟨by decide, by decide⟩
  · rw [if_neg h]; exact ⟨by decide, by decide⟩
theorem tpr {p : Program} {l : Launch} {e : Env} {R : Room} {s : State} {m : MethodId} {args : Array Value} {below : List Frame} {meth : Method} {c : Code} {H : Heap} {locs : List Loc} {cells slots : Nat} {Q : State → Prop} {pc : Nat} {ls : Array Slot} {rest : List Value} {x x' : Nat} (h : x = x') (k : W p l e R s m args below meth c H locs cells slots Q (F0 m pc ls (.ref x' :: rest))) : W p l e R s m args below meth c H locs cells slots Q (F0 m pc ls (.ref x :: rest)) := h ▸ k

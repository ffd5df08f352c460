/-! the quarters, found one after the other -/
noncomputable def qpt (k : Nat → Int32) (i x : Nat) : Int32 := match qrt k x with
  | some j => if j < i then nI j else -1
  | none => -1
theorem qpt_0 {k : Nat → Int32} {x : Nat} : qpt k 0 x = -1 := by
  unfold qpt
  cases qrt k x with
  | none => rfl
  | some j => exact if_neg (Nat.not_lt_zero _)
theorem qpt_64 {k : Nat → Int32} {x : Nat} (hx : x < 64) : qpt k 64 x = toI (qrt k x) := by
  unfold qpt
  cases h : qrt k x with
  | none => rfl
  | some j => exact if_pos (Nat.lt_of_le_of_lt (qrt_le h) hx)
theorem qpt_in {k : Nat → Int32} {i x j : Nat} (h : qrt k x = some j) (hji : j < i) : qpt k i x = nI j := by
  unfold qpt
  rw [h]
  exact if_pos hji
theorem qpt_out {k : Nat → Int32} {i x j : Nat} (h : qrt k x = some j) (hji : i ≤ j) : qpt k i x = -1 := by
  unfold qpt
  rw [h]
  exact if_neg (Nat.not_lt.mpr hji)
theorem qpt_skip {k : Nat → Int32} {i x : Nat} (h : ¬ qrt k x = some i) : qpt k (i + 1) x = qpt k i x := by
  unfold qpt
  cases hq : qrt k x with
  | none => rfl
  | some j =>
    have hne : j ≠ i := fun e => h (by rw [hq, e])
    show (if j < i + 1 then nI j else -1) = (if j < i then nI j else -1)
    by_cases g : j < i
    · rw [if_pos g, if_pos (by omega)]
    · rw [if_neg g, if_neg (by omega)]
theorem qpt_mark {k : Nat → Int32} {i x : Nat} (hi : i < 64) (hj : qrt k i = some i) : mkd i 0 (dst (PB true k) i x) (qpt k i x) = qpt k (i + 1) x := by
  cases hd : dst (PB true k) i x with
  | none =>
    have hq : ¬ qrt k x = some i := fun e => by
      have := (qrt_root hi hj).mp e
      rw [hd] at this; cases this
    exact (qpt_skip hq).symm
  | some d =>
    have hq : qrt k x = some i := (qrt_root hi hj).mpr (by rw [hd]; rfl)
    rw [qpt_in hq (Nat.lt_succ_self _)]
    show nI (i + d * 0) = nI i
    rw [Nat.mul_zero, Nat.add_zero]
theorem lots_step {k L1 : Nat → Int32} {i j x : Nat} (hj : qrt k i = some j) (h1 : L1 x = lotsN k x i) (h2 : L1 j = lotsN k j i) : upd L1 j (L1 j + 1) x = lotsN k x (i + 1) := by
  unfold lotsN
  rw [csum]
  by_cases e : x = j
  · rw [e, pk_us, h2, if_pos hj]; rfl
  · rw [pk_un e, h1, if_neg (fun e9 => e (Option.some.inj (e9.symm.trans hj))), Int32.add_zero]; rfl
theorem kind_step {k H1 : Nat → Int32} {v : Int32} {i j x : Nat} (hj : qrt k i = some j) (h1 : H1 x = kindN k v x i) (h2 : H1 j = kindN k v j i) : (if k i = v then upd H1 j (H1 j + 1) else H1) x = kindN k v x (i + 1) := by
  unfold kindN
  rw [csum]
  by_cases e : x = j
  · subst e
    by_cases hv : k i = v
    · rw [if_pos hv, if_pos hj, if_pos hv, pk_us, h2]; rfl
    · rw [if_neg hv, if_pos hj, if_neg hv, h1, Int32.add_zero]; rfl
  · rw [if_neg (show ¬ qrt k i = some x from fun e9 => e (Option.some.inj (e9.symm.trans hj))), Int32.add_zero]
    by_cases hv : k i = v
    · rw [if_pos hv, pk_un e, h1]; rfl
    · rw [if_neg hv, h1]; rfl
theorem mkd_toI (o : Option Nat) : mkd 0 1 o (-1) = toI o := by
  cases o with
  | none => rfl
  | some d =>
    show nI (0 + d * 1) = nI d
    rw [Nat.zero_add, Nat.mul_one]

theorem cpy_all (K Ah : Nat → Int32) : eqK (va_cpy K Ah (0 : Int32).toNatClampNeg (0 : Int32).toNatClampNeg (64 : Int32).toNatClampNeg) K := fun x hx => by
  rw [show (0 : Int32).toNatClampNeg = 0 by decide, show (64 : Int32).toNatClampNeg = 64 by decide, pk_cpy_in (Nat.zero_le _) (by omega)]
  rw [Nat.zero_add, Nat.sub_zero]
theorem reach_same {k : Nat → Int32} {p x : Nat} (hp : p < 64) (hl : lnd (k p) = true) : (dst (PB true k) p x).isSome = true ↔ qrt k x = qrt k p := by
  rw [dst_reach]
  constructor
  · rintro ⟨n, hn⟩
    exact qrt_same hp hl hn
  · intro h
    obtain ⟨j, hj⟩ := qrt_land hl
    rw [hj] at h
    obtain ⟨-, ⟨h1, n1, w1⟩, -⟩ := qrt_some.mp hj
    obtain ⟨-, ⟨-, n2, w2⟩, -⟩ := qrt_some.mp h
    have hj64 : j < 64 := Nat.lt_of_le_of_lt (qrt_le hj) hp
    exact ⟨_, Wk_trans (Wk_symm hj64 h1 w1) w2⟩
theorem upd_same {k : Nat → Int32} {p : Nat} {v : Int32} (h : k p = v) : upd k p v = k := by
  funext x
  by_cases e : x = p
  · rw [e, pk_us, h]
  · rw [pk_un e]
theorem bst_ge (k : Nat → Int32) (v : Int32) : ∀ n, ¬ (bst k v n).2 < -1
  | 0 => by show ¬ (-1 : Int32) < -1; decide
  | n + 1 => by
    have ih := bst_ge k v n
    unfold bst
    by_cases h : k n = 2
    · rw [if_pos h]
      by_cases g : dall (upd k n v) ≤ (bst k v n).2
      · rw [if_pos g]; exact ih
      · rw [if_neg g]
        exact fun e => g (Int32.le_of_lt (Int32.lt_of_lt_of_le e (Int32.not_lt.mp ih)))
    · rw [if_neg h]; exact ih
theorem bst_skip {k : Nat → Int32} {v : Int32} {n : Nat} (h : ¬ k n = 2) : bst k v (n + 1) = bst k v n := by
  rw [bst]; rw [if_neg h]
theorem bst_keep {k : Nat → Int32} {v : Int32} {n : Nat} (h : k n = 2) (g : ¬ (bst k v n).2 < dall (upd k n v)) : bst k v (n + 1) = bst k v n := by
  rw [bst]; rw [if_pos h, if_pos (Int32.not_lt.mp g)]
theorem bst_take {k : Nat → Int32} {v : Int32} {n : Nat} (h : k n = 2) (g : (bst k v n).2 < dall (upd k n v)) : bst k v (n + 1) = (nI n, dall (upd k n v)) := by
  rw [bst]; rw [if_pos h, if_neg (Int32.not_le.mpr g)]
/-- the mean, or any NaN where it is one -/
noncomputable def mnR (k : Nat → Int32) (r : UInt64) : Prop := if many k 3 = 0 then r = FP.dconst0 else alike64 r (FP.ddiv (FP.i2d (call k)) (FP.i2d (many k 3))) = true
theorem nm_0 {k : Nat → Int32} {n : Nat} : nmK 0 k n = itK k n := if_pos rfl
theorem nmC_0 {k : Nat → Int32} {co : Int32} {n : Nat} : nmC 0 k co n = co + incS k n := if_pos rfl
theorem nmL_0 {k : Nat → Int32} {le : Int32} {n : Nat} : nmL 0 k le n = le + lftS k n := if_pos rfl
theorem nmM_0 {mo : Int32} {n : Nat} : nmM 0 mo n = mo + nI n := if_pos rfl
theorem nm_n {cd : Int32} {k : Nat → Int32} {n : Nat} (h : ¬ cd = 0) : nmK cd k n = k := if_neg h
theorem nmC_n {cd : Int32} {k : Nat → Int32} {co : Int32} {n : Nat} (h : ¬ cd = 0) : nmC cd k co n = co := if_neg h
theorem nmL_n {cd : Int32} {k : Nat → Int32} {le : Int32} {n : Nat} (h : ¬ cd = 0) : nmL cd k le n = le := if_neg h
theorem nmM_n {cd mo : Int32} {n : Nat} (h : ¬ cd = 0) : nmM cd mo n = mo := if_neg h

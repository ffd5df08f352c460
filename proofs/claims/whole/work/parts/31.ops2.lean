def blt : Nat → Value := fun j => match j with
  | 0 => .int 0
  | 1 => .int 0
  | 2 => .int 0
  | 3 => .int 4
  | 4 => .int 6
  | 5 => .int 5
  | _ => .int 7
/-- the costs, a row of the class's own -/
def BLT (A : Nat → Prop) (U : State) (H : Heap) : Prop := ∃ bt : Nat, va_Z "CanalCityModel" "BUILT" "[I" (.ref bt) A U H ∧ va_T .int bt 7 blt A U H
theorem BLT_moved {A : Nat → Prop} {u U : State} {H : Heap} (hvm : u.vm.Alike U.vm) (h : BLT A u H) : BLT A U H := by
  obtain ⟨bt, h1, h2⟩ := h
  exact ⟨bt, va_Z.moved hvm h1, va_T.moved hvm h2⟩
theorem BLT_kept {A : Nat → Prop} {U : State} {H H1 : Heap} (h : BLT A U H) (hq : ∀ a : Nat, a < H.size → ¬ A a → H1[a]? = H[a]?) : BLT A U H1 := by
  obtain ⟨bt, h1, h2⟩ := h
  exact ⟨bt, va_Z.kept h1 hq, va_T.kept h2 hq⟩
theorem BLT_narrow {A B : Nat → Prop} {U : State} {H : Heap} (h : BLT A U H) (hAB : ∀ q, B q → A q) : BLT B U H := by
  obtain ⟨bt, h1, h2⟩ := h
  exact ⟨bt, va_Z.narrow h1 hAB, va_T.narrow h2 hAB⟩
def WrPB (G : va_G) (cI : ClassId) (ws : va_W) (sz : Nat) : State → Prop := fun U => WrP G cI ws sz U ∧ BLT (va_A ws sz) U U.heap
theorem WrPB_blind {G : va_G} {cI : ClassId} {ws : va_W} {sz : Nat} {av : List Value} : FrameBlind (va_Pc av (WrPB G cI ws sz)) := fun a U g mk q => ⟨q.1, (WrP_blind a U g mk ⟨q.1, q.2.1⟩).2, BLT_moved (u := U) (U := U.calling g mk a) (Vm.Alike.refl U.vm) q.2.2⟩
theorem bl_at {v : Int32} (h : inB 3 5 v = true) : vp_in v 7 ∧ blt v.toNatClampNeg = .int (cst v) := by
  unfold inB at h
  rw [Bool.and_eq_true, decide_eq_true_eq, decide_eq_true_eq] at h
  obtain ⟨j, hj, rfl⟩ := nI_of2 (M := 5) (n := 5) (by decide) (fun e => absurd (Int32.lt_of_lt_of_le e (by decide : (0 : Int32) ≤ 3)) (Int32.not_lt.mpr h.1)) h.2
  have h3 : 3 ≤ j := Nat.le_of_not_lt fun q => absurd h.1 (nI_ge (b := 3) q (by decide))
  rcases (show j = 3 ∨ j = 4 ∨ j = 5 by omega) with rfl | rfl | rfl
  · exact ⟨vp_in_nI (by decide) (by decide), by rw [nI_clamp (by decide)]; rfl⟩
  · exact ⟨vp_in_nI (by decide) (by decide), by rw [nI_clamp (by decide)]; rfl⟩
  · exact ⟨vp_in_nI (by decide) (by decide), by rw [nI_clamp (by decide)]; rfl⟩
theorem cpy_all (K Ah : Nat → Int32) : eqK (va_cpy K Ah (0 : Int32).toNatClampNeg (0 : Int32).toNatClampNeg (64 : Int32).toNatClampNeg) K := fun x hx => by
  rw [show (0 : Int32).toNatClampNeg = 0 by decide, show (64 : Int32).toNatClampNeg = 64 by decide, pk_cpy_in (Nat.zero_le _) (by omega)]
  rw [Nat.zero_add, Nat.sub_zero]
theorem reach_same {k : Nat → Int32} {p x : Nat} (hp : p < 64) (hl : lnd (k p) = true) : (dst (PB true k) p x).isSome = true ↔ qrt k x = qrt k p := by
  rw [dst_reach]
  constructor
  · rintro ⟨n, hn⟩
    exact qrt_same hp hl hn
  · intro h
    obtain ⟨j, hj⟩ := qrt_land hl
    rw [hj] at h
    obtain ⟨-, ⟨h1, n1, w1⟩, -⟩ := qrt_some.mp hj
    obtain ⟨-, ⟨-, n2, w2⟩, -⟩ := qrt_some.mp h
    have hj64 : j < 64 := Nat.lt_of_le_of_lt (qrt_le hj) hp
    exact ⟨_, Wk_trans (Wk_symm hj64 h1 w1) w2⟩
theorem fill_lots {k : Nat → Int32} {p en : Nat} {row : Nat → Nat} {Rw St : Nat → Int32} (hp : p < 64) (hl : lnd (k p) = true) (h : FL k true p en row Rw St) : nI en = lotsQ k p := by
  obtain ⟨f1, f2, f3, f4, -⟩ := h
  obtain ⟨j, hj⟩ := qrt_land hl
  rw [← csum_ones, csum_row (fun _ => 1) row en f1 f3 (fun x => (dst (PB true k) p x).isSome) f4]
  unfold lotsQ
  rw [hj]
  show _ = lotsN k j 64
  unfold lotsN
  refine csum_cong fun x _ => ?_
  by_cases hx : (dst (PB true k) p x).isSome = true
  · rw [if_pos hx, if_pos (((reach_same hp hl).mp hx).trans hj)]
  · rw [if_neg hx, if_neg (fun e => hx ((reach_same hp hl).mpr (e.trans hj.symm)))]
theorem upd_same {k : Nat → Int32} {p : Nat} {v : Int32} (h : k p = v) : upd k p v = k := by
  funext x
  by_cases e : x = p
  · rw [e, pk_us, h]
  · rw [pk_un e]
theorem bst_ge (k : Nat → Int32) (v : Int32) : ∀ n, ¬ (bst k v n).2 < -1
  | 0 => by show ¬ (-1 : Int32) < -1; decide
  | n + 1 => by
    have ih := bst_ge k v n
    unfold bst
    by_cases h : k n = 2
    · rw [if_pos h]
      by_cases g : dall (upd k n v) ≤ (bst k v n).2
      · rw [if_pos g]; exact ih
      · rw [if_neg g]
        exact fun e => g (Int32.le_of_lt (Int32.lt_of_lt_of_le e (Int32.not_lt.mp ih)))
    · rw [if_neg h]; exact ih
theorem bst_skip {k : Nat → Int32} {v : Int32} {n : Nat} (h : ¬ k n = 2) : bst k v (n + 1) = bst k v n := by
  rw [bst]; rw [if_neg h]
theorem bst_keep {k : Nat → Int32} {v : Int32} {n : Nat} (h : k n = 2) (g : ¬ (bst k v n).2 < dall (upd k n v)) : bst k v (n + 1) = bst k v n := by
  rw [bst]; rw [if_pos h, if_pos (Int32.not_lt.mp g)]
theorem bst_take {k : Nat → Int32} {v : Int32} {n : Nat} (h : k n = 2) (g : (bst k v n).2 < dall (upd k n v)) : bst k v (n + 1) = (nI n, dall (upd k n v)) := by
  rw [bst]; rw [if_pos h, if_neg (Int32.not_le.mpr g)]
/-- the mean, or any NaN where it is one -/
noncomputable def mnR (k : Nat → Int32) (r : UInt64) : Prop := if many k 3 = 0 then r = FP.dconst0 else alike64 r (FP.ddiv (FP.i2d (call k)) (FP.i2d (many k 3))) = true
theorem nm_0 {k : Nat → Int32} {n : Nat} : nmK 0 k n = itK k n := if_pos rfl
theorem nmC_0 {k : Nat → Int32} {co : Int32} {n : Nat} : nmC 0 k co n = co + incS k n := if_pos rfl
theorem nmL_0 {k : Nat → Int32} {le : Int32} {n : Nat} : nmL 0 k le n = le + lftS k n := if_pos rfl
theorem nmM_0 {mo : Int32} {n : Nat} : nmM 0 mo n = mo + nI n := if_pos rfl
theorem nm_n {cd : Int32} {k : Nat → Int32} {n : Nat} (h : ¬ cd = 0) : nmK cd k n = k := if_neg h
theorem nmC_n {cd : Int32} {k : Nat → Int32} {co : Int32} {n : Nat} (h : ¬ cd = 0) : nmC cd k co n = co := if_neg h
theorem nmL_n {cd : Int32} {k : Nat → Int32} {le : Int32} {n : Nat} (h : ¬ cd = 0) : nmL cd k le n = le := if_neg h
theorem nmM_n {cd mo : Int32} {n : Nat} (h : ¬ cd = 0) : nmM cd mo n = mo := if_neg h

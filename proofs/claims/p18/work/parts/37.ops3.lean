theorem inB_f {lo hi x : Int32} (h : ¬ lo ≤ x ∨ ¬ x ≤ hi) : inB lo hi x = false := by
  unfold inB
  rcases h with h | h
  · rw [decide_eq_false h]; rfl
  · rw [decide_eq_false h, Bool.and_false]
theorem inB_t {lo hi x : Int32} (h : inB lo hi x = true) : lo ≤ x ∧ x ≤ hi := by
  unfold inB at h
  rw [Bool.and_eq_true, decide_eq_true_eq, decide_eq_true_eq] at h
  exact h
theorem inB_n {lo hi x : Int32} (h : inB lo hi x = false) (h1 : lo ≤ x) : ¬ x ≤ hi := fun h2 => by
  unfold inB at h
  rw [decide_eq_true h1, decide_eq_true h2] at h
  cases h
theorem plc_t {x y : Int32} (h : (inB 0 7 x && inB 0 7 y) = true) : (0 ≤ x ∧ x ≤ 7) ∧ 0 ≤ y ∧ y ≤ 7 := by
  rw [Bool.and_eq_true] at h
  exact ⟨inB_t h.1, inB_t h.2⟩
theorem le7 {x : Int32} : x ≤ 7 ↔ x < 8 := by
  rw [Int32.le_iff_toInt_le, Int32.lt_iff_toInt_lt, show (7 : Int32).toInt = 7 by decide, show (8 : Int32).toInt = 8 by decide]
  omega
theorem isLot_b {x : Int32} : (decide (0 ≤ x) && decide (x < 64)) = inB 0 63 x := by
  unfold inB
  have : (x < 64) ↔ (x ≤ 63) := by
    rw [Int32.le_iff_toInt_le, Int32.lt_iff_toInt_lt, show (63 : Int32).toInt = 63 by decide, show (64 : Int32).toInt = 64 by decide]
    omega
  rw [decide_eq_decide.mpr this]
theorem gate_upd {k : Nat → Int32} {p : Nat} {v : Int32} (hg : wtr (k 3) = true) (h : wtr (k p) = false ∨ wtr v = true) : wtr (upd k p v 3) = true := by
  by_cases e : 3 = p
  · subst e
    rw [pk_us]
    rcases h with h | h
    · rw [hg] at h; cases h
    · exact h
  · rw [pk_un e]; exact hg
theorem fct0 {k : Nat → Int32} {p : Nat} : fct k p 0 = k p := if_pos rfl
theorem drain_0 {k : Nat → Int32} {co x y : Int32} (h : cdDrain k co x y = 0) : (inB 0 7 x && inB 0 7 y) = true ∧ k (pAt x y) = 0 ∧ 2 ≤ co := by
  unfold cdDrain at h
  split at h
  · rename_i h1
    split at h
    · rename_i h2; exact ⟨h1, h2⟩
    · exact absurd h (by decide)
  · exact absurd h (by decide)
theorem dig_0 {k : Nat → Int32} {co x y : Int32} (h : cdDig k co x y = 0) : (inB 0 7 x && inB 0 7 y) = true ∧ (k (pAt x y) = 0 ∨ k (pAt x y) = 2) ∧ 3 ≤ co := by
  unfold cdDig at h
  split at h
  · rename_i h1
    split at h
    · rename_i h2; exact ⟨h1, h2⟩
    · exact absurd h (by decide)
  · exact absurd h (by decide)
theorem bridge_0 {k : Nat → Int32} {co x y : Int32} (h : cdBridge k co x y = 0) : (inB 0 7 x && inB 0 7 y) = true ∧ k (pAt x y) = 1 ∧ 7 ≤ co := by
  unfold cdBridge at h
  split at h
  · rename_i h1
    split at h
    · rename_i h2; exact ⟨h1, h2⟩
    · exact absurd h (by decide)
  · exact absurd h (by decide)
theorem build_0 {k : Nat → Int32} {co x y v : Int32} (h : cdBuild k co x y v = 0) : (inB 0 7 x && inB 0 7 y) = true ∧ inB 3 5 v = true ∧ k (pAt x y) = 2 ∧ cst v ≤ co := by
  unfold cdBuild at h
  split at h
  · rename_i h1
    split at h
    · rename_i h2
      split at h
      · rename_i h3; exact ⟨h1, h2, h3⟩
      · exact absurd h (by decide)
    · exact absurd h (by decide)
  · exact absurd h (by decide)
theorem raze_0 {k : Nat → Int32} {x y : Int32} (h : cdRaze k x y = 0) : (inB 0 7 x && inB 0 7 y) = true ∧ inB 3 6 (k (pAt x y)) = true := by
  unfold cdRaze at h
  split at h
  · rename_i h1
    split at h
    · rename_i h2; exact ⟨h1, h2⟩
    · exact absurd h (by decide)
  · exact absurd h (by decide)
theorem rz_gate {k : Nat → Int32} {x y : Int32} (hg : wtr (k 3) = true) (h : inB 3 6 (k (pAt x y)) = true) : wtr (upd k (pAt x y) (rzV k x y) 3) = true := by
  refine gate_upd hg ?_
  unfold rzV
  by_cases e : k (pAt x y) = 6
  · rw [if_pos e]; exact Or.inr (by decide)
  · refine Or.inl ?_
    have h1 := (inB_t h).1
    unfold wtr
    rw [decide_eq_false e, decide_eq_false (fun e9 => by rw [e9] at h1; exact absurd h1 (by decide))]; rfl
theorem rz_kd {k : Nat → Int32} {x y : Int32} : kd (rzV k x y) := by
  unfold rzV
  by_cases e : k (pAt x y) = 6
  · rw [if_pos e]; exact ⟨by decide, by decide⟩
  · rw [if_neg e]; exact ⟨by decide, by decide⟩
/-- where building makes the dues of all the greatest, as the class keeps it -/
noncomputable def bsc (k : Nat → Int32) (v : Int32) : Nat → Int32 × Int32
  | 0 => (-1, 0)
  | n + 1 => if k n = 2 then (if (bsc k v n).1 < 0 ∨ (bsc k v n).2 < dall (upd k n v) then (nI n, dall (upd k n v)) else bsc k v n) else bsc k v n
theorem bsc_skip {k : Nat → Int32} {v : Int32} {n : Nat} (h : ¬ k n = 2) : bsc k v (n + 1) = bsc k v n := by
  rw [bsc]; rw [if_neg h]
theorem bsc_take {k : Nat → Int32} {v : Int32} {n : Nat} (h : k n = 2) (g : (bsc k v n).1 < 0 ∨ (bsc k v n).2 < dall (upd k n v)) : bsc k v (n + 1) = (nI n, dall (upd k n v)) := by
  rw [bsc]; rw [if_pos h, if_pos g]
theorem bsc_keep {k : Nat → Int32} {v : Int32} {n : Nat} (h : k n = 2) (g1 : ¬ (bsc k v n).1 < 0) (g2 : ¬ (bsc k v n).2 < dall (upd k n v)) : bsc k v (n + 1) = bsc k v n := by
  rw [bsc]; rw [if_pos h, if_neg (fun e => e.elim g1 g2)]
/-! dues are never less than 0 -/
def isN (x : Int32) (b : Nat) : Prop := ∃ n : Nat, n ≤ b ∧ x = nI n
theorem isN_0 (b : Nat) : isN 0 b := ⟨0, Nat.zero_le _, rfl⟩
theorem isN_le {x : Int32} {a b : Nat} (h : isN x a) (hab : a ≤ b) : isN x b := by
  obtain ⟨n, hn, e⟩ := h
  exact ⟨n, Nat.le_trans hn hab, e⟩
theorem isN_add {x y : Int32} {a b : Nat} (h : isN x a) (h2 : isN y b) : isN (x + y) (a + b) := by
  obtain ⟨n, hn, e⟩ := h
  obtain ⟨m, hm, e2⟩ := h2
  exact ⟨n + m, by omega, by rw [e, e2, nI_add]⟩
theorem isN_csum {f : Nat → Int32} {b : Nat} (h : ∀ i, isN (f i) b) : ∀ n, isN (csum f n) (b * n)
  | 0 => isN_0 _
  | n + 1 => by
    rw [csum, Nat.mul_succ]
    exact isN_add (isN_csum h n) (h n)
theorem isN_tel (K : Nat → Int32) (v : Int32) (o : Option Nat) : isN (tel K v o) 1 := by
  unfold tel
  cases o with
  | none => exact isN_0 _
  | some q =>
    show isN (if K q = v then 1 else 0) 1
    by_cases h : K q = v
    · rw [if_pos h]; exact ⟨1, Nat.le_refl _, rfl⟩
    · rw [if_neg h]; exact isN_0 _
theorem isN_nbk (K : Nat → Int32) (v : Int32) (p : Nat) : isN (nbk K v p) 4 :=
  isN_add (isN_add (isN_add (isN_add (isN_0 0) (isN_tel K v _)) (isN_tel K v _)) (isN_tel K v _)) (isN_tel K v _)
theorem isN_ite {c : Prop} {hd : Decidable c} {x y : Int32} {b : Nat} (hx : isN x b) (hy : isN y b) : isN (if c then x else y) b := by
  by_cases h : c
  · rw [if_pos h]; exact hx
  · rw [if_neg h]; exact hy
theorem isN_cpl (k : Nat → Int32) (p : Nat) : isN (cpl k p) 7 := by
  unfold cpl
  refine isN_ite ?_ (isN_0 _)
  exact isN_add (a := 6) (b := 1) (isN_add (a := 2) (b := 4) (isN_ite ⟨2, Nat.le_refl _, rfl⟩ (isN_0 _)) (isN_nbk k 4 p)) (isN_ite (isN_0 _) ⟨1, Nat.le_refl _, rfl⟩)
theorem isN_kindQ (k : Nat → Int32) (v : Int32) (p : Nat) : isN (kindQ k v p) 64 := by
  unfold kindQ
  cases qrt k p with
  | none => exact isN_0 _
  | some j =>
    show isN (kindN k v j 64) 64
    unfold kindN
    exact isN_le (isN_csum (b := 1) (fun i => isN_ite (isN_ite ⟨1, by omega, rfl⟩ (isN_0 _)) (isN_0 _)) 64) (by omega)
theorem isN_due (k : Nat → Int32) (p : Nat) : isN (due k p) 32 := by
  unfold due
  refine isN_ite ?_ (isN_ite ?_ (isN_ite ?_ (isN_0 _)))
  · obtain ⟨c, hc, e⟩ := isN_cpl k p
    rw [e]
    rcases (show c = 0 ∨ c = 1 ∨ c = 2 ∨ c = 3 ∨ c = 4 ∨ c = 5 ∨ c = 6 ∨ c = 7 by omega) with rfl | rfl | rfl | rfl | rfl | rfl | rfl | rfl
    · exact ⟨4, by omega, by decide⟩
    · exact ⟨3, by omega, by decide⟩
    · exact ⟨2, by omega, by decide⟩
    · exact ⟨1, by omega, by decide⟩
    · exact ⟨0, by omega, by decide⟩
    · exact ⟨0, by omega, by decide⟩
    · exact ⟨0, by omega, by decide⟩
    · exact ⟨0, by omega, by decide⟩
  · exact isN_ite ⟨5, by omega, rfl⟩ ⟨2, by omega, rfl⟩
  · obtain ⟨c, hc, e⟩ := isN_kindQ k 3 p
    rw [e]
    exact ⟨c / 2, by omega, pk_div (d := 2) (by omega) (by omega) (by omega)⟩
theorem isN_dall (k : Nat → Int32) : isN (dall k) 2048 := isN_csum (b := 32) (fun i => isN_due k i) 64
theorem bst_bsc (k : Nat → Int32) (v : Int32) : ∀ n, n ≤ 64 → (bsc k v n = (-1, 0) ∧ bst k v n = (-1, -1)) ∨ ∃ j m : Nat, j < 64 ∧ m ≤ 2048 ∧ bsc k v n = (nI j, nI m) ∧ bst k v n = (nI j, nI m)
  | 0, _ => Or.inl ⟨rfl, rfl⟩
  | n + 1, hn => by
    have ih := bst_bsc k v n (by omega)
    by_cases h : k n = 2
    · obtain ⟨d, hd, e⟩ := isN_dall (upd k n v)
      rcases ih with ⟨h1, h2⟩ | ⟨j, m, hj, hm, h1, h2⟩
      · refine Or.inr ⟨n, d, by omega, hd, ?_, ?_⟩
        · rw [bsc_take h (Or.inl (by rw [h1]; decide)), e]
        · rw [bst_take h (by
            rw [h2, e]
            show (-1 : Int32) < nI d
            exact Int32.lt_of_lt_of_le (by decide) (nI_pos' (n := d) (by omega))), e]
      · by_cases g : nI m < nI d
        · refine Or.inr ⟨n, d, by omega, hd, ?_, ?_⟩
          · rw [bsc_take h (Or.inr (by rw [h1, e]; exact g)), e]
          · rw [bst_take h (by rw [h2, e]; exact g), e]
        · refine Or.inr ⟨j, m, hj, hm, ?_, ?_⟩
          · rw [bsc_keep h (by rw [h1]; exact nI_pos (n := j) (by omega)) (by rw [h1, e]; exact g), h1]
          · rw [bst_keep h (by rw [h2, e]; exact g), h2]
    · rw [bsc_skip h, bst_skip h]
      exact ih
theorem bst_1 (k : Nat → Int32) (v : Int32) : (bst k v 64).1 = (bsc k v 64).1 := by
  rcases bst_bsc k v 64 (by omega) with ⟨h1, h2⟩ | ⟨j, m, -, -, h1, h2⟩
  · rw [h1, h2]
  · rw [h1, h2]

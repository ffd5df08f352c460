/-! what the calls answer, and what they leave -/
def pAt (x y : Int32) : Nat := (8 * y + x).toNatClampNeg
theorem inB_nat {n : Nat} {M x : Int32} (hM : M.toInt = n) (h : inB 0 M x = true) : ∃ j : Nat, j ≤ n ∧ x = nI j := by
  unfold inB at h
  rw [Bool.and_eq_true, decide_eq_true_eq, decide_eq_true_eq] at h
  exact nI_of2 hM (Int32.not_lt.mpr h.1) h.2
theorem plc_at {x y : Int32} (h : (inB 0 7 x && inB 0 7 y) = true) : pAt x y < 64 ∧ 8 * y + x = nI (pAt x y) := by
  rw [Bool.and_eq_true] at h
  obtain ⟨a, ha, rfl⟩ := inB_nat (n := 7) (by decide) h.1
  obtain ⟨b, hb, rfl⟩ := inB_nat (n := 7) (by decide) h.2
  have e : (8 : Int32) * nI b + nI a = nI (8 * b + a) := by rw [show (8 : Int32) * nI b = nI (8 * b) from pk_mul 8 b, nI_add]
  have e2 : pAt (nI a) (nI b) = 8 * b + a := by unfold pAt; rw [e]; exact nI_clamp (by omega)
  rw [e2]
  exact ⟨by omega, e⟩
theorem num_at {x : Int32} (h : inB 0 63 x = true) : x.toNatClampNeg < 64 ∧ x = nI x.toNatClampNeg := by
  obtain ⟨a, ha, rfl⟩ := inB_nat (n := 63) (by decide) h
  rw [nI_clamp (by omega)]
  exact ⟨by omega, rfl⟩
theorem mon_at {x : Int32} (h : inB 1 60 x = true) : x.toNatClampNeg ≤ 60 ∧ x = nI x.toNatClampNeg := by
  unfold inB at h
  rw [Bool.and_eq_true, decide_eq_true_eq, decide_eq_true_eq] at h
  obtain ⟨j, hj, rfl⟩ := nI_of2 (M := 60) (n := 60) (by decide) (fun e => absurd (Int32.lt_of_lt_of_le e (by decide : (0 : Int32) ≤ 1)) (Int32.not_lt.mpr h.1)) h.2
  rw [nI_clamp (by omega)]
  exact ⟨hj, rfl⟩
def nkO (cd : Int32) (k : Nat → Int32) (p : Nat) (v : Int32) : Nat → Int32 := if cd = 0 then upd k p v else k
def ncO (cd co cs : Int32) : Int32 := if cd = 0 then co - cs else co
theorem nkO_0 {k : Nat → Int32} {p : Nat} {v : Int32} : nkO 0 k p v = upd k p v := if_pos rfl
theorem nkO_n {cd : Int32} {k : Nat → Int32} {p : Nat} {v : Int32} (h : ¬ cd = 0) : nkO cd k p v = k := if_neg h
theorem ncO_0 {co cs : Int32} : ncO 0 co cs = co - cs := if_pos rfl
theorem ncO_n {cd co cs : Int32} (h : ¬ cd = 0) : ncO cd co cs = co := if_neg h
def cdDrain (k : Nat → Int32) (co x y : Int32) : Int32 := if (inB 0 7 x && inB 0 7 y) = true then (if k (pAt x y) = 0 ∧ 2 ≤ co then 0 else 2) else 1
def cdDig (k : Nat → Int32) (co x y : Int32) : Int32 := if (inB 0 7 x && inB 0 7 y) = true then (if (k (pAt x y) = 0 ∨ k (pAt x y) = 2) ∧ 3 ≤ co then 0 else 2) else 1
def cdBuild (k : Nat → Int32) (co x y v : Int32) : Int32 := if (inB 0 7 x && inB 0 7 y) = true then (if inB 3 5 v = true then (if k (pAt x y) = 2 ∧ cst v ≤ co then 0 else 3) else 2) else 1
def cdBridge (k : Nat → Int32) (co x y : Int32) : Int32 := if (inB 0 7 x && inB 0 7 y) = true then (if k (pAt x y) = 1 ∧ 7 ≤ co then 0 else 2) else 1
def cdRaze (k : Nat → Int32) (x y : Int32) : Int32 := if (inB 0 7 x && inB 0 7 y) = true then (if inB 3 6 (k (pAt x y)) = true then 0 else 2) else 1
def rzV (k : Nat → Int32) (x y : Int32) : Int32 := if k (pAt x y) = 6 then 1 else 2
def cdLot (x y w : Int32) : Int32 := if (inB 0 7 x && inB 0 7 y) = true then (if inB 0 5 w = true then 0 else 1) else 1
def cdCount (w : Int32) : Int32 := if inB 0 12 w = true then 0 else 1
def cdWalk (k : Nat → Int32) (x y : Int32) : Int32 := if inB 0 63 x = true ∧ inB 0 63 y = true then (if lnd (k x.toNatClampNeg) = true ∧ lnd (k y.toNatClampNeg) = true then 0 else 2) else 1
def cdSail (k : Nat → Int32) (x : Int32) : Int32 := if inB 0 63 x = true then (if wtr (k x.toNatClampNeg) = true then 0 else 2) else 1
def cdPass (n : Int32) : Int32 := if inB 1 60 n = true then 0 else 1
def cdFore (n w : Int32) : Int32 := if inB 1 60 n = true then (if inB 1 12 w = true then 0 else 2) else 1
def cdWould (k : Nat → Int32) (x y v : Int32) : Int32 := if (inB 0 7 x && inB 0 7 y) = true then (if inB 3 5 v = true then (if k (pAt x y) = 2 then 0 else 3) else 2) else 1
def cdBest (v : Int32) : Int32 := if inB 3 5 v = true then 0 else 1
/-- where building makes the dues of all the greatest, of the places ahead of n; and how great -/
noncomputable def bst (k : Nat → Int32) (v : Int32) : Nat → Int32 × Int32
  | 0 => (-1, -1)
  | n + 1 => if k n = 2 then (if dall (upd k n v) ≤ (bst k v n).2 then bst k v n else (nI n, dall (upd k n v))) else bst k v n
/-- months gone by, or not -/
noncomputable def nmK (cd : Int32) (k : Nat → Int32) (n : Nat) : Nat → Int32 := if cd = 0 then itK k n else k
noncomputable def nmC (cd : Int32) (k : Nat → Int32) (co : Int32) (n : Nat) : Int32 := if cd = 0 then co + incS k n else co
noncomputable def nmL (cd : Int32) (k : Nat → Int32) (le : Int32) (n : Nat) : Int32 := if cd = 0 then le + lftS k n else le
def nmM (cd mo : Int32) (n : Nat) : Int32 := if cd = 0 then mo + nI n else mo
theorem i32_back (a b : Int32) : a + b - a = b := by
  rw [Int32.sub_eq_add_neg, i32_sw, ← Int32.sub_eq_add_neg, Int32.sub_self, Int32.zero_add]
/-- the checksum's two loops -/
noncomputable def dg1 (k : Nat → Int32) (mo co le : Int32) : Nat → Int64
  | 0 => 1409
  | n + 1 => dg1 k mo co le n * 31 + (tot k mo co le (nI n)).toInt64
noncomputable def dg2 (k : Nat → Int32) (p : Nat) (d : Int64) : Nat → Int64
  | 0 => d
  | n + 1 => dg2 k p d n * 31 + (fct k p (nI n)).toInt64
noncomputable def dg3 (k : Nat → Int32) (d : Int64) : Nat → Int64
  | 0 => d
  | n + 1 => dg2 k n (dg3 k d n) 6
theorem kd_upd {k : Nat → Int32} {p : Nat} {v : Int32} (h : ∀ x, x < 64 → kd (k x)) (hv : kd v) : ∀ x, x < 64 → kd (upd k p v x) := fun x hx => by
  by_cases e : x = p
  · rw [e, pk_us]; exact hv
  · rw [pk_un e]; exact h x hx
theorem eqK_upd {K k : Nat → Int32} {p : Nat} {v : Int32} (h : eqK K k) : eqK (upd K p v) (upd k p v) := fun x hx => by
  by_cases e : x = p
  · rw [e, pk_us, pk_us]
  · rw [pk_un e, pk_un e]; exact h x hx
theorem inB_kd {v : Int32} (h : inB 3 5 v = true) : kd v := by
  unfold inB at h
  rw [Bool.and_eq_true, decide_eq_true_eq, decide_eq_true_eq] at h
  exact ⟨Int32.le_trans (by decide) h.1, Int32.le_trans h.2 (by decide)⟩
theorem kd_lv1 {k : Nat → Int32} (h : ∀ x, x < 64 → kd (k x)) : ∀ x, x < 64 → kd (lv1 k x) := fun x hx => by
  unfold lv1
  by_cases e : lft k x = true
  · rw [if_pos e]; exact ⟨by decide, by decide⟩
  · rw [if_neg e]; exact h x hx
theorem kd_sk1 {k : Nat → Int32} (h : ∀ x, x < 64 → kd (k x)) : ∀ x, x < 64 → kd (sk1 k x) := fun x hx => by
  unfold sk1
  by_cases e : k x = 2 ∧ 3 ≤ nbk k 0 x
  · rw [if_pos e]; exact ⟨by decide, by decide⟩
  · rw [if_neg e]; exact h x hx
theorem kd_itK {k : Nat → Int32} (h : ∀ x, x < 64 → kd (k x)) : ∀ n, ∀ x, x < 64 → kd (itK k n x)
  | 0 => h
  | n + 1 => kd_sk1 (kd_lv1 (kd_itK h n))
theorem eqK_trans {A B C : Nat → Int32} (h : eqK A B) (h2 : eqK B C) : eqK A C := fun x hx => (h x hx).trans (h2 x hx)

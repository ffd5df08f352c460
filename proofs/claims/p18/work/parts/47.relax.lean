/-! lots by x and y -/
def lotO (X Y : Int32) : Option Nat := if (inB 0 7 X && inB 0 7 Y) = true then some (8 * Y.toNatClampNeg + X.toNatClampNeg) else none
theorem lotO_in {x y : Nat} (hx : x < 8) (hy : y < 8) : lotO (nI x) (nI y) = some (8 * y + x) := by
  unfold lotO
  rw [inB_nI hx, inB_nI hy, if_pos (show (true && true) = true from rfl), nI_clamp (by omega), nI_clamp (by omega)]
theorem lotO_some {X Y : Int32} {q : Nat} (h : lotO X Y = some q) : ∃ x y : Nat, x < 8 ∧ y < 8 ∧ X = nI x ∧ Y = nI y ∧ q = 8 * y + x := by
  unfold lotO at h
  by_cases g : (inB 0 7 X && inB 0 7 Y) = true
  · rw [if_pos g] at h
    have g2 := g
    rw [Bool.and_eq_true] at g2
    obtain ⟨a, ha, rfl⟩ := inB_nat (n := 7) (by decide) g2.1
    obtain ⟨b, hb, rfl⟩ := inB_nat (n := 7) (by decide) g2.2
    rw [nI_clamp (by omega), nI_clamp (by omega)] at h
    exact ⟨a, b, by omega, by omega, rfl, rfl, (Option.some.inj h).symm⟩
  · rw [if_neg g] at h
    cases h
theorem lotO_lt {X Y : Int32} {q : Nat} (h : lotO X Y = some q) : q < 64 := by
  obtain ⟨x, y, hx, hy, -, -, e⟩ := lotO_some h
  omega
theorem lotO_x0 {Y : Int32} {X : Int32} (h : inB 0 7 X = false) : lotO X Y = none := by
  unfold lotO
  rw [h, Bool.false_and]
  rfl
theorem lotO_y0 {Y : Int32} {X : Int32} (h : inB 0 7 Y = false) : lotO X Y = none := by
  unfold lotO
  rw [h, Bool.and_false]
  rfl
theorem m1_in {x : Nat} (h : 0 < x) : nI x - 1 = nI (x - 1) := pk_sub (b := 1) h
theorem p1_in (x : Nat) : nI x + 1 = nI (x + 1) := nI_add x 1
theorem lotO_l {x y : Nat} (hx : x < 8) (hy : y < 8) : lotO (nI x - 1) (nI y) = nbC (8 * y + x) 1 := by
  show _ = if 0 < (8 * y + x) % 8 then some (8 * y + x - 1) else none
  rcases Nat.eq_zero_or_pos x with h | h
  · subst h
    rw [if_neg (by omega)]
    exact lotO_x0 (by decide)
  · rw [if_pos (by omega), m1_in h, lotO_in (by omega) hy]
    congr 1
    omega
theorem lotO_r {x y : Nat} (hx : x < 8) (hy : y < 8) : lotO (nI x + 1) (nI y) = nbC (8 * y + x) 2 := by
  show _ = if (8 * y + x) % 8 < 7 then some (8 * y + x + 1) else none
  rw [p1_in]
  rcases Nat.lt_or_ge x 7 with h | h
  · rw [if_pos (by omega), lotO_in (by omega) hy]
    congr 1
  · rw [if_neg (by omega)]
    exact lotO_x0 (inB_big (by omega) (by omega))
theorem lotO_u {x y : Nat} (hx : x < 8) (hy : y < 8) : lotO (nI x) (nI y - 1) = nbC (8 * y + x) 0 := by
  show _ = if 0 < (8 * y + x) / 8 then some (8 * y + x - 8) else none
  rcases Nat.eq_zero_or_pos y with h | h
  · subst h
    rw [if_neg (by omega)]
    exact lotO_y0 (by decide)
  · rw [if_pos (by omega), m1_in h, lotO_in hx (by omega)]
    congr 1
    omega
theorem lotO_d {x y : Nat} (hx : x < 8) (hy : y < 8) : lotO (nI x) (nI y + 1) = nbC (8 * y + x) 3 := by
  show _ = if (8 * y + x) / 8 < 7 then some (8 * y + x + 8) else none
  rw [p1_in]
  rcases Nat.lt_or_ge y 7 with h | h
  · rw [if_pos (by omega), lotO_in hx (by omega)]
    congr 1
    omega
  · rw [if_neg (by omega)]
    exact lotO_y0 (inB_big (by omega) (by omega))
def lnO (k : Nat → Int32) (o : Option Nat) : Bool := match o with
  | some q => lnd (k q)
  | none => false
def wtO (k : Nat → Int32) (o : Option Nat) : Bool := match o with
  | some q => wtr (k q)
  | none => false
def atO (k : Nat → Int32) (o : Option Nat) : Int32 := match o with
  | some q => k q
  | none => -1
def nrO (V : Nat → Int32) (o : Option Nat) : Int32 := match o with
  | some q => V q
  | none => 99
theorem lnO_at {k : Nat → Int32} {o : Option Nat} (h : ∀ q, o = some q → kd (k q)) : decide (1 < atO k o) = lnO k o := by
  cases o with
  | none => rfl
  | some q =>
    show decide (1 < k q) = lnd (k q)
    rw [← lnd_ge (h q rfl)]
    refine decide_eq_decide.mpr ?_
    rw [Int32.lt_iff_toInt_lt, Int32.le_iff_toInt_le]
    show (1 : Int) < _ ↔ (2 : Int) ≤ _
    omega
theorem wtO_at (k : Nat → Int32) (o : Option Nat) : (decide (atO k o = 1) || decide (atO k o = 6)) = wtO k o := by
  cases o with
  | none => rfl
  | some q => rfl
/-! sums along x, then y -/
def xs (g : Nat → Int32) (x y : Nat) : Int32 := csum (fun i => csum (fun j => g (8 * j + i)) 8) x + csum (fun j => g (8 * j + x)) y
theorem xs_0 (g : Nat → Int32) : xs g 0 0 = 0 := rfl
theorem xs_y (g : Nat → Int32) (x y : Nat) : xs g x (y + 1) = xs g x y + g (8 * y + x) := by
  unfold xs
  rw [csum, Int32.add_assoc]
theorem xs_x (g : Nat → Int32) (x : Nat) : xs g x 8 = xs g (x + 1) 0 := by
  unfold xs
  rw [csum]
  exact (Int32.add_zero _).symm
theorem csum_split (g : Nat → Int32) (a : Nat) : ∀ b, csum g (a + b) = csum g a + csum (fun i => g (a + i)) b
  | 0 => (Int32.add_zero _).symm
  | b + 1 => by
    show csum g (a + b) + g (a + b) = _
    rw [csum_split g a b, csum, Int32.add_assoc]
theorem csum_block (g : Nat → Int32) : ∀ n, csum g (8 * n) = csum (fun y => csum (fun x => g (8 * y + x)) 8) n
  | 0 => rfl
  | n + 1 => by
    rw [show 8 * (n + 1) = 8 * n + 8 by omega, csum_split, csum_block g n]
    rfl
theorem csum_swap (f : Nat → Nat → Int32) (n : Nat) : ∀ m, csum (fun i => csum (f i) n) m = csum (fun j => csum (fun i => f i j) m) n
  | 0 => (csum_zero n).symm
  | m + 1 => by
    rw [csum, csum_swap f n m, ← csum_add]
    rfl
theorem xs_end (g : Nat → Int32) : xs g 8 0 = csum g 64 := by
  show csum (fun i => csum (fun j => g (8 * j + i)) 8) 8 + 0 = _
  rw [Int32.add_zero, csum_swap (fun i j => g (8 * j + i)) 8 8]
  exact (csum_block g 8).symm
/-! what lies ahead of x, y -/
def bfx (x y p : Nat) : Prop := p % 8 < x ∨ (p % 8 = x ∧ p / 8 < y)
theorem bfx_0 {p : Nat} : ¬ bfx 0 0 p := fun h => by unfold bfx at h; omega
theorem bfx_y {x y p : Nat} (h : bfx x (y + 1) p) : bfx x y p ∨ p = 8 * y + x := by unfold bfx at h ⊢; omega
theorem bfx_x {x p : Nat} (hp : p < 64) (h : bfx (x + 1) 0 p) : bfx x 8 p := by unfold bfx at h ⊢; omega
theorem bfx_8 {p : Nat} : bfx 8 0 p := by unfold bfx; omega
theorem bfx_no {x y : Nat} (hx : x < 8) : ¬ bfx x y (8 * y + x) := fun h => by unfold bfx at h; omega
theorem eqX {x y : Nat} (hx : x < 8) : (8 * y + x) % 8 = x ∧ (8 * y + x) / 8 = y := ⟨by omega, by omega⟩
/-! quarters, spread till none changes -/
def updN (v : Nat → Nat) (p a : Nat) : Nat → Nat := fun i => if i = p then a else v i
theorem updN_s {v : Nat → Nat} {p a : Nat} : updN v p a p = a := if_pos rfl
theorem updN_n {v : Nat → Nat} {p a i : Nat} (h : i ≠ p) : updN v p a i = v i := if_neg h
theorem updN_id {v : Nat → Nat} {p : Nat} : updN v p (v p) = v := by
  funext i
  by_cases h : i = p
  · subst h; exact updN_s
  · exact updN_n h
def nsum (v : Nat → Nat) : Nat → Nat
  | 0 => 0
  | n + 1 => nsum v n + v n
theorem nsum_out {v : Nat → Nat} {p a : Nat} : ∀ {n : Nat}, n ≤ p → nsum (updN v p a) n = nsum v n
  | 0, _ => rfl
  | n + 1, h => by rw [nsum, nsum, nsum_out (by omega), updN_n (by omega)]
theorem nsum_in {v : Nat → Nat} {p a : Nat} : ∀ {n : Nat}, p < n → nsum (updN v p a) n + v p = nsum v n + a
  | 0, h => absurd h (Nat.not_lt_zero _)
  | n + 1, h => by
    rw [nsum, nsum]
    rcases Nat.lt_or_ge p n with g | g
    · have := nsum_in (v := v) (a := a) g
      rw [updN_n (by omega)]
      omega
    · have e : p = n := by omega
      subst e
      rw [nsum_out (Nat.le_refl _), updN_s]
      omega
def QV (k : Nat → Int32) (v : Nat → Nat) : Prop := ∀ p, p < 64 → lnd (k p) = true → v p ≤ p ∧ lnd (k (v p)) = true ∧ ∃ n, Wk (PB true k) (v p) n p
def mkQ (k : Nat → Int32) (v : Nat → Nat) (p : Nat) : Int32 := if lnd (k p) = true then nI (v p) else -1
def lsO (k : Nat → Int32) (v : Nat → Nat) (o : Option Nat) (a : Nat) : Nat := match o with
  | some q => if lnd (k q) = true then (if v q < a then v q else a) else a
  | none => a
theorem lsO_le (k : Nat → Int32) (v : Nat → Nat) (o : Option Nat) (a : Nat) : lsO k v o a ≤ a := by
  unfold lsO
  cases o with
  | none => exact Nat.le_refl _
  | some q =>
    show (if lnd (k q) = true then (if v q < a then v q else a) else a) ≤ a
    split
    · split <;> omega
    · exact Nat.le_refl _
theorem lsO_at {k : Nat → Int32} {v : Nat → Nat} {q a : Nat} (h : lnd (k q) = true) : lsO k v (some q) a ≤ v q := by
  show (if lnd (k q) = true then (if v q < a then v q else a) else a) ≤ v q
  rw [if_pos h]
  split <;> omega
theorem lsO_or (k : Nat → Int32) (v : Nat → Nat) (o : Option Nat) (a : Nat) : lsO k v o a = a ∨ ∃ q, o = some q ∧ lnd (k q) = true ∧ lsO k v o a = v q := by
  cases o with
  | none => exact Or.inl rfl
  | some q =>
    show (if lnd (k q) = true then (if v q < a then v q else a) else a) = a ∨ ∃ q', some q = some q' ∧ lnd (k q') = true ∧ (if lnd (k q) = true then (if v q < a then v q else a) else a) = v q'
    by_cases h : lnd (k q) = true
    · rw [if_pos h]
      by_cases g : v q < a
      · rw [if_pos g]; exact Or.inr ⟨q, rfl, h, rfl⟩
      · rw [if_neg g]; exact Or.inl rfl
    · rw [if_neg h]; exact Or.inl rfl
theorem lsO_no {k : Nat → Int32} {v : Nat → Nat} {o : Option Nat} {a : Nat} (h : lnO k o = false) : lsO k v o a = a := by
  cases o with
  | none => rfl
  | some q =>
    have h : lnd (k q) = false := h
    show (if lnd (k q) = true then (if v q < a then v q else a) else a) = a
    rw [h]; rfl
theorem lsO_yes {k : Nat → Int32} {v : Nat → Nat} {q a : Nat} (h : lnd (k q) = true) (hq : v q < 2 ^ 31) (ha : a < 2 ^ 31) : (if nI (v q) < nI a then nI (v q) else nI a) = nI (lsO k v (some q) a) := by
  show _ = nI (if lnd (k q) = true then (if v q < a then v q else a) else a)
  rw [if_pos h]
  by_cases g : v q < a
  · rw [if_pos g, if_pos (nI_lt g ha)]
  · rw [if_neg g, if_neg (fun e => by rw [Int32.lt_iff_toInt_lt, nI_toInt hq, nI_toInt ha] at e; omega)]
def lst (k : Nat → Int32) (v : Nat → Nat) (p : Nat) : Nat := lsO k v (nbC p 3) (lsO k v (nbC p 0) (lsO k v (nbC p 2) (lsO k v (nbC p 1) (v p))))
theorem lst_le (k : Nat → Int32) (v : Nat → Nat) (p : Nat) : lst k v p ≤ v p := by
  unfold lst
  have h1 := lsO_le k v (nbC p 1) (v p)
  have h2 := lsO_le k v (nbC p 2) (lsO k v (nbC p 1) (v p))
  have h3 := lsO_le k v (nbC p 0) (lsO k v (nbC p 2) (lsO k v (nbC p 1) (v p)))
  have h4 := lsO_le k v (nbC p 3) (lsO k v (nbC p 0) (lsO k v (nbC p 2) (lsO k v (nbC p 1) (v p))))
  omega
theorem lst_nb {k : Nat → Int32} {v : Nat → Nat} {p q : Nat} (h : Adj p q) (hl : lnd (k q) = true) : lst k v p ≤ v q := by
  obtain ⟨s, hs, hq⟩ := h
  unfold lst
  have h2 := lsO_le k v (nbC p 2) (lsO k v (nbC p 1) (v p))
  have h3 := lsO_le k v (nbC p 0) (lsO k v (nbC p 2) (lsO k v (nbC p 1) (v p)))
  have h4 := lsO_le k v (nbC p 3) (lsO k v (nbC p 0) (lsO k v (nbC p 2) (lsO k v (nbC p 1) (v p))))
  revert hq
  refine four (P := fun s => nbC p s = some q → lsO k v (nbC p 3) (lsO k v (nbC p 0) (lsO k v (nbC p 2) (lsO k v (nbC p 1) (v p)))) ≤ v q) hs ?_ ?_ ?_ ?_
  · intro e
    have := lsO_at (k := k) (v := v) (q := q) (a := lsO k v (nbC p 2) (lsO k v (nbC p 1) (v p))) hl
    rw [← e] at this
    omega
  · intro e
    have := lsO_at (k := k) (v := v) (q := q) (a := v p) hl
    rw [← e] at this
    omega
  · intro e
    have := lsO_at (k := k) (v := v) (q := q) (a := lsO k v (nbC p 1) (v p)) hl
    rw [← e] at this
    omega
  · intro e
    have := lsO_at (k := k) (v := v) (q := q) (a := lsO k v (nbC p 0) (lsO k v (nbC p 2) (lsO k v (nbC p 1) (v p)))) hl
    rw [← e] at this
    exact this
theorem lst_or (k : Nat → Int32) (v : Nat → Nat) (p : Nat) : lst k v p = v p ∨ ∃ q, Adj p q ∧ lnd (k q) = true ∧ lst k v p = v q := by
  unfold lst
  rcases lsO_or k v (nbC p 3) (lsO k v (nbC p 0) (lsO k v (nbC p 2) (lsO k v (nbC p 1) (v p)))) with e4 | ⟨q, h1, h2, h3⟩
  · rcases lsO_or k v (nbC p 0) (lsO k v (nbC p 2) (lsO k v (nbC p 1) (v p))) with e3 | ⟨q, h1, h2, h3⟩
    · rcases lsO_or k v (nbC p 2) (lsO k v (nbC p 1) (v p)) with e2 | ⟨q, h1, h2, h3⟩
      · rcases lsO_or k v (nbC p 1) (v p) with e1 | ⟨q, h1, h2, h3⟩
        · exact Or.inl (by rw [e4, e3, e2, e1])
        · exact Or.inr ⟨q, ⟨1, by omega, h1⟩, h2, by rw [e4, e3, e2, h3]⟩
      · exact Or.inr ⟨q, ⟨2, by omega, h1⟩, h2, by rw [e4, e3, h3]⟩
    · exact Or.inr ⟨q, ⟨0, by omega, h1⟩, h2, by rw [e4, h3]⟩
  · exact Or.inr ⟨q, ⟨3, by omega, h1⟩, h2, h3⟩
theorem QV_step {k : Nat → Int32} {v : Nat → Nat} {p : Nat} (h : QV k v) (hp : p < 64) (hl : lnd (k p) = true) : QV k (updN v p (lst k v p)) := by
  intro i hi hli
  by_cases e : i = p
  · subst e
    rw [updN_s]
    have h0 := h i hi hl
    have hle := lst_le k v i
    rcases lst_or k v i with g | ⟨q, hq, hlq, g⟩
    · rw [g]; exact h0
    · obtain ⟨-, a2, n, a3⟩ := h q (Adj_lt hi hq) hlq
      rw [g] at hle ⊢
      exact ⟨by omega, a2, n + 1, hl, q, a3, Adj_symm hi hq⟩
  · rw [updN_n e]
    exact h i hi hli
theorem mkQ_upd {k V : Nat → Int32} {v : Nat → Nat} {p a : Nat} (hl : lnd (k p) = true) (hV : ∀ i, i < 64 → V i = mkQ k v i) : ∀ i, i < 64 → upd V p (nI a) i = mkQ k (updN v p a) i := by
  intro i hi
  by_cases e : i = p
  · subst e
    rw [pk_us]
    unfold mkQ
    rw [if_pos hl, updN_s]
  · rw [pk_un e, hV i hi]
    unfold mkQ
    rw [updN_n e]
def stab (k : Nat → Int32) (v : Nat → Nat) (p : Nat) : Prop := lnd (k p) = true → ∀ q, Adj p q → lnd (k q) = true → v p ≤ v q
def SQ (k : Nat → Int32) (v : Nat → Nat) (S0 : Nat) (P : Nat → Prop) (mo : Nat) : Prop := (mo = 0 ∧ nsum v 64 ≤ S0 ∧ ∀ p, p < 64 → P p → stab k v p) ∨ (mo = 1 ∧ nsum v 64 < S0)
theorem SQ_0 (k : Nat → Int32) (v : Nat → Nat) : SQ k v (nsum v 64) (bfx 0 0) 0 := Or.inl ⟨rfl, Nat.le_refl _, fun _ _ h => absurd h bfx_0⟩
theorem SQ_skip {k : Nat → Int32} {v : Nat → Nat} {S0 x y mo : Nat} (h : SQ k v S0 (bfx x y) mo) (hl : lnd (k (8 * y + x)) = false) : SQ k v S0 (bfx x (y + 1)) mo := by
  rcases h with ⟨a, b, c⟩ | h
  · refine Or.inl ⟨a, b, fun p hp hb => ?_⟩
    rcases bfx_y hb with g | g
    · exact c p hp g
    · subst g
      intro h9
      rw [hl] at h9
      cases h9
  · exact Or.inr h
theorem SQ_step {k : Nat → Int32} {v : Nat → Nat} {S0 x y mo : Nat} (h : SQ k v S0 (bfx x y) mo) (hp : 8 * y + x < 64) : SQ k (updN v (8 * y + x) (lst k v (8 * y + x))) S0 (bfx x (y + 1)) (if lst k v (8 * y + x) < v (8 * y + x) then 1 else mo) := by
  have hle := lst_le k v (8 * y + x)
  have hs := nsum_in (v := v) (p := 8 * y + x) (a := lst k v (8 * y + x)) hp
  by_cases g : lst k v (8 * y + x) < v (8 * y + x)
  · rw [if_pos g]
    refine Or.inr ⟨rfl, ?_⟩
    rcases h with ⟨-, b, -⟩ | ⟨-, b⟩ <;> omega
  · rw [if_neg g]
    have e : lst k v (8 * y + x) = v (8 * y + x) := by omega
    rw [e, updN_id]
    rcases h with ⟨a, b, c⟩ | h
    · refine Or.inl ⟨a, b, fun p hp hb => ?_⟩
      rcases bfx_y hb with g | g
      · exact c p hp g
      · subst g
        intro _ q hq hlq
        rw [← e]
        exact lst_nb hq hlq
    · exact Or.inr h
theorem SQ_row {k : Nat → Int32} {v : Nat → Nat} {S0 x mo : Nat} (h : SQ k v S0 (bfx x 8) mo) : SQ k v S0 (bfx (x + 1) 0) mo := by
  rcases h with ⟨a, b, c⟩ | h
  · exact Or.inl ⟨a, b, fun p hp hb => c p hp (bfx_x hp hb)⟩
  · exact Or.inr h
theorem QV_end {k : Nat → Int32} {v : Nat → Nat} (h : QV k v) (hs : ∀ p, p < 64 → stab k v p) : ∀ p, p < 64 → mkQ k v p = toI (qrt k p) := by
  intro p hp
  unfold mkQ
  by_cases hl : lnd (k p) = true
  · rw [if_pos hl]
    obtain ⟨h1, h2, n, h3⟩ := h p hp hl
    rw [qrt_some.mpr ⟨hl, ⟨h2, n, h3⟩, fun i hi => ?_⟩]
    · rfl
    rintro ⟨hli, n2, hw⟩
    have hi64 : i < 64 := by omega
    have key : ∀ n z, Wk (PB true k) i n z → v z ≤ v i := by
      intro n
      induction n with
      | zero =>
        intro z hz
        have hz : z = i := hz
        rw [hz]
        exact Nat.le_refl _
      | succ n ih =>
        rintro z ⟨hz, q, hq, hqz⟩
        have hq64 := Wk_lt hi64 hq
        have hz64 := Adj_lt hq64 hqz
        have a1 := ih q hq
        have a2 := hs z hz64 hz q (Adj_symm hq64 hqz) (Wk_P (P := PB true k) hli hq)
        omega
    have b1 := key n2 p hw
    have b2 := (h i hi64 hli).1
    omega
  · rw [if_neg hl]
    rw [qrt_none.mpr (Bool.eq_false_iff.mpr hl)]
    rfl
/-! steps by boat, spread till none changes -/
noncomputable def seaN (k : Nat → Int32) (p : Nat) : Nat := match dst (PB false k) 3 p with
  | some d => d
  | none => 99
def SV (k : Nat → Int32) (u : Nat → Nat) : Prop := u 3 = 0 ∧ ∀ p, p < 64 → u p = 99 ∨ (u p < 99 ∧ Wk (PB false k) 3 (u p) p)
def nrN (u : Nat → Nat) (o : Option Nat) : Nat := match o with
  | some q => u q
  | none => 99
def mn2 (a b : Nat) : Nat := if b < a then b else a
theorem mn2_l (a b : Nat) : mn2 a b ≤ a := by unfold mn2; split <;> omega
theorem mn2_r (a b : Nat) : mn2 a b ≤ b := by unfold mn2; split <;> omega
theorem mn2_or (a b : Nat) : mn2 a b = a ∨ mn2 a b = b := by unfold mn2; split <;> simp
theorem mn2_nI {a b : Nat} (ha : a < 2 ^ 31) (hb : b < 2 ^ 31) : (if nI b < nI a then nI b else nI a) = nI (mn2 a b) := by
  unfold mn2
  by_cases g : b < a
  · rw [if_pos g, if_pos (nI_lt g ha)]
  · rw [if_neg g, if_neg (fun e => by rw [Int32.lt_iff_toInt_lt, nI_toInt hb, nI_toInt ha] at e; omega)]
def byN (u : Nat → Nat) (p : Nat) : Nat := 1 + mn2 (mn2 (nrN u (nbC p 1)) (nrN u (nbC p 2))) (mn2 (nrN u (nbC p 0)) (nrN u (nbC p 3)))
theorem byN_le {u : Nat → Nat} {p q : Nat} (h : Adj p q) : byN u p ≤ u q + 1 := by
  obtain ⟨s, hs, hq⟩ := h
  unfold byN
  have a1 := mn2_l (mn2 (nrN u (nbC p 1)) (nrN u (nbC p 2))) (mn2 (nrN u (nbC p 0)) (nrN u (nbC p 3)))
  have a2 := mn2_r (mn2 (nrN u (nbC p 1)) (nrN u (nbC p 2))) (mn2 (nrN u (nbC p 0)) (nrN u (nbC p 3)))
  have a3 := mn2_l (nrN u (nbC p 1)) (nrN u (nbC p 2))
  have a4 := mn2_r (nrN u (nbC p 1)) (nrN u (nbC p 2))
  have a5 := mn2_l (nrN u (nbC p 0)) (nrN u (nbC p 3))
  have a6 := mn2_r (nrN u (nbC p 0)) (nrN u (nbC p 3))
  revert hq
  refine four (P := fun s => nbC p s = some q → 1 + mn2 (mn2 (nrN u (nbC p 1)) (nrN u (nbC p 2))) (mn2 (nrN u (nbC p 0)) (nrN u (nbC p 3))) ≤ u q + 1) hs ?_ ?_ ?_ ?_
  · intro e
    have : nrN u (nbC p 0) = u q := by rw [e]; rfl
    omega
  · intro e
    have : nrN u (nbC p 1) = u q := by rw [e]; rfl
    omega
  · intro e
    have : nrN u (nbC p 2) = u q := by rw [e]; rfl
    omega
  · intro e
    have : nrN u (nbC p 3) = u q := by rw [e]; rfl
    omega
theorem nrN_or (u : Nat → Nat) {p s : Nat} (hs : s < 4) : nrN u (nbC p s) = 99 ∨ ∃ q, Adj p q ∧ nrN u (nbC p s) = u q := by
  cases h : nbC p s with
  | none => exact Or.inl rfl
  | some q => exact Or.inr ⟨q, ⟨s, hs, h⟩, rfl⟩
theorem byN_or (u : Nat → Nat) (p : Nat) : byN u p = 100 ∨ ∃ q, Adj p q ∧ byN u p = u q + 1 := by
  have key : ∀ z, (z = 99 ∨ ∃ q, Adj p q ∧ z = u q) → (1 + z = 100 ∨ ∃ q, Adj p q ∧ 1 + z = u q + 1) := by
    rintro z (e | ⟨q, h, e⟩)
    · exact Or.inl (by omega)
    · exact Or.inr ⟨q, h, by omega⟩
  refine key _ ?_
  have two : ∀ a b, (a = 99 ∨ ∃ q, Adj p q ∧ a = u q) → (b = 99 ∨ ∃ q, Adj p q ∧ b = u q) → (mn2 a b = 99 ∨ ∃ q, Adj p q ∧ mn2 a b = u q) := by
    intro a b ha hb
    rcases mn2_or a b with e | e
    · rw [e]; exact ha
    · rw [e]; exact hb
  exact two _ _ (two _ _ (nrN_or u (by decide)) (nrN_or u (by decide))) (two _ _ (nrN_or u (by decide)) (nrN_or u (by decide)))
theorem SV_99 {k : Nat → Int32} {u : Nat → Nat} (h : SV k u) {p : Nat} (hp : p < 64) : u p ≤ 99 := by
  rcases h.2 p hp with e | ⟨e, -⟩ <;> omega
theorem nrN_99 {k : Nat → Int32} {u : Nat → Nat} (h : SV k u) {p s : Nat} (hp : p < 64) : nrN u (nbC p s) ≤ 99 := by
  cases e : nbC p s with
  | none => exact Nat.le_refl _
  | some q => exact SV_99 h (nbC_lt hp e)
theorem SV_step {k : Nat → Int32} {u : Nat → Nat} {p : Nat} (h : SV k u) (hp : p < 64) (hw : wtr (k p) = true) (hb : byN u p < u p) : SV k (updN u p (byN u p)) := by
  have h99 := SV_99 h hp
  refine ⟨?_, fun i hi => ?_⟩
  · rw [updN_n (fun e => by rw [← e, h.1] at hb; exact absurd hb (Nat.not_lt_zero _))]
    exact h.1
  · by_cases e : i = p
    · subst e
      rw [updN_s]
      rcases byN_or u i with g | ⟨q, hq, g⟩
      · omega
      · refine Or.inr ⟨by omega, ?_⟩
        rw [g]
        have hq64 := Adj_lt hi hq
        rcases h.2 q hq64 with g2 | ⟨g2, g3⟩
        · omega
        · exact ⟨hw, q, g3, Adj_symm hi hq⟩
    · rw [updN_n e]
      exact h.2 i hi
def stW (k : Nat → Int32) (u : Nat → Nat) (p : Nat) : Prop := wtr (k p) = true → ∀ q, Adj p q → u p ≤ u q + 1
def SU (k : Nat → Int32) (u : Nat → Nat) (S0 n mo : Nat) : Prop := (mo = 0 ∧ nsum u 64 ≤ S0 ∧ ∀ p, p < 64 → p < n → stW k u p) ∨ (mo = 1 ∧ nsum u 64 < S0)
theorem SU_0 (k : Nat → Int32) (u : Nat → Nat) : SU k u (nsum u 64) 0 0 := Or.inl ⟨rfl, Nat.le_refl _, fun _ _ h => absurd h (Nat.not_lt_zero _)⟩
theorem SU_skip {k : Nat → Int32} {u : Nat → Nat} {S0 n mo : Nat} (h : SU k u S0 n mo) (hl : wtr (k n) = false) : SU k u S0 (n + 1) mo := by
  rcases h with ⟨a, b, c⟩ | h
  · refine Or.inl ⟨a, b, fun p hp hb => ?_⟩
    rcases Nat.lt_or_ge p n with g | g
    · exact c p hp g
    · rw [show p = n by omega]
      intro h9
      rw [hl] at h9
      cases h9
  · exact Or.inr h
theorem SU_keep {k : Nat → Int32} {u : Nat → Nat} {S0 n mo : Nat} (h : SU k u S0 n mo) (hb : ¬ byN u n < u n) : SU k u S0 (n + 1) mo := by
  rcases h with ⟨a, b, c⟩ | h
  · refine Or.inl ⟨a, b, fun p hp hq => ?_⟩
    rcases Nat.lt_or_ge p n with g | g
    · exact c p hp g
    · rw [show p = n by omega]
      intro _ q hq
      have := byN_le (u := u) hq
      omega
  · exact Or.inr h
theorem SU_less {k : Nat → Int32} {u : Nat → Nat} {S0 n mo : Nat} (h : SU k u S0 n mo) (hn : n < 64) (hb : byN u n < u n) : SU k (updN u n (byN u n)) S0 (n + 1) 1 := by
  have hs := nsum_in (v := u) (p := n) (a := byN u n) hn
  refine Or.inr ⟨rfl, ?_⟩
  rcases h with ⟨-, b, -⟩ | ⟨-, b⟩ <;> omega
theorem SV_end {k : Nat → Int32} {u : Nat → Nat} (h : SV k u) (hs : ∀ p, p < 64 → stW k u p) : ∀ p, p < 64 → u p = seaN k p := by
  have key : ∀ n p, Wk (PB false k) 3 n p → u p ≤ n := by
    intro n
    induction n with
    | zero =>
      intro p hp
      have hp : p = 3 := hp
      rw [hp, h.1]
      exact Nat.le_refl _
    | succ n ih =>
      rintro p ⟨hp, q, hq, hqp⟩
      have hq64 := Wk_lt (by decide) hq
      have hp64 := Adj_lt hq64 hqp
      have a1 := ih q hq
      have a2 := hs p hp64 hp q (Adj_symm hq64 hqp)
      omega
  intro p hp
  unfold seaN
  cases hd : dst (PB false k) 3 p with
  | none =>
    show u p = 99
    rcases h.2 p hp with e | ⟨-, e⟩
    · exact e
    · exact absurd e (dst_none.mp hd _)
  | some d =>
    show u p = d
    have hd2 := dst_some.mp hd
    have hlt := dst_lt (by decide) hd
    have a1 := key d p hd2.1
    rcases h.2 p hp with e | ⟨-, e⟩
    · omega
    · rcases Nat.lt_or_ge (u p) d with g | g
      · exact absurd e (hd2.2 _ g)
      · omega
theorem seaN_open {k : Nat → Int32} {p : Nat} : seaN k p < 99 ↔ opn k p = true := by
  unfold seaN opn
  cases hd : dst (PB false k) 3 p with
  | none => exact ⟨fun h => absurd h (by decide), fun h => by cases h⟩
  | some d => exact ⟨fun _ => rfl, fun _ => Nat.lt_of_lt_of_le (dst_lt (by decide) hd) (by decide)⟩
theorem seaN_99 {k : Nat → Int32} {p : Nat} : seaN k p ≤ 99 := by
  unfold seaN
  cases hd : dst (PB false k) 3 p with
  | none => exact Nat.le_refl _
  | some d => exact Nat.le_trans (Nat.le_of_lt (dst_lt (by decide) hd)) (by decide)
def hatS (k Se : Nat → Int32) : Prop := ∀ p, p < 64 → Se p = nI (seaN k p)

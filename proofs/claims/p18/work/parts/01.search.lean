/-! numbers -/
def b2i (b : Bool) : Int32 := if b then 1 else 0
theorem b2i_nar (b : Bool) : narrow .boolean (.int (b2i b)) = .int (b2i b) := by cases b <;> rfl
theorem b2i_0 {b : Bool} : b2i b = 0 ↔ b = false := by cases b <;> decide
theorem b2i_n0 {b : Bool} : ¬ b2i b = 0 ↔ b = true := by cases b <;> decide
def cst (x : Int32) : Int32 := if x = 3 then 4 else if x = 4 then 6 else 5
theorem i1 : Int32.ofInt 1 = 1 := by decide
theorem inc1 (x : Int32) : x + Int32.ofInt 1 = x + 1 := by rw [i1]
theorem isLot_1 {q : Nat} (h : q < 64) : b2i (decide (0 ≤ nI q) && decide (nI q < 64)) = 1 := by
  rw [decide_eq_true (nI_pos' (n := q) (by omega)), decide_eq_true (show nI q < 64 from nI_lt (b := 64) h (by decide))]; rfl
theorem nI_inc (i : Nat) : nI i + Int32.ofInt 1 = nI (i + 1) := nI_1 i
theorem lt_n {i n : Nat} (h : i < n) (hn : n < 2 ^ 31) : ¬ nI n ≤ nI i := nI_ge h hn
theorem le_n {i n : Nat} (h : n ≤ i) (hi : i < 2 ^ 31) : nI n ≤ nI i := nI_le h hi
theorem fb_holes : ∀ (m n : Nat) (f : Nat → Nat), (∀ i, i < n → f i < m) → (∀ i j, i < j → j < n → f i ≠ f j) → n ≤ m := by
  intro m
  induction m with
  | zero =>
    intro n f h1 _
    rcases Nat.eq_zero_or_pos n with h | h
    · omega
    · exact absurd (h1 0 h) (Nat.not_lt_zero _)
  | succ m ih =>
    intro n f h1 h2
    by_cases hx : ∃ i, i < n ∧ f i = m
    · obtain ⟨a, ha, hfa⟩ := hx
      have hg := ih (n - 1) (fun i => if i < a then f i else f (i + 1)) (by
        intro i hi
        by_cases q : i < a
        · simp only [if_pos q]
          have b1 := h1 i (by omega)
          have b2 := h2 i a q ha
          omega
        · simp only [if_neg q]
          have b1 := h1 (i + 1) (by omega)
          have b2 := h2 a (i + 1) (by omega) (by omega)
          omega) (by
        intro i j hij hj
        by_cases q : i < a
        · by_cases r : j < a
          · simp only [if_pos q, if_pos r]
            exact h2 i j hij (by omega)
          · simp only [if_pos q, if_neg r]
            exact h2 i (j + 1) (by omega) (by omega)
        · have r : ¬ j < a := by omega
          simp only [if_neg q, if_neg r]
          exact h2 (i + 1) (j + 1) (by omega) (by omega))
      omega
    · have hg := ih n f (fun i hi => by
        have b1 := h1 i hi
        have b2 : f i ≠ m := fun e => hx ⟨i, hi, e⟩
        omega) h2
      omega
/-! the document's city, as mathematics: lots, neighbours, steps -/
def lnd (x : Int32) : Bool := decide (2 ≤ x) && decide (x ≤ 6)
def wtr (x : Int32) : Bool := decide (x = 1) || decide (x = 6)
def PB (b : Bool) (k : Nat → Int32) : Nat → Bool := fun p => if b then lnd (k p) else wtr (k p)
def nbC (p : Nat) : Nat → Option Nat
  | 0 => if 0 < p / 8 then some (p - 8) else none
  | 1 => if 0 < p % 8 then some (p - 1) else none
  | 2 => if p % 8 < 7 then some (p + 1) else none
  | _ => if p / 8 < 7 then some (p + 8) else none
def nbR (p : Nat) : Nat → Option Nat
  | 0 => nbC p 2
  | 1 => nbC p 1
  | 2 => nbC p 3
  | _ => nbC p 0
def toI : Option Nat → Int32
  | none => -1
  | some q => nI q
theorem nbC_lt {p s q : Nat} (hp : p < 64) (h : nbC p s = some q) : q < 64 := by
  match s with
  | 0 => simp only [nbC] at h; split at h <;> simp at h; omega
  | 1 => simp only [nbC] at h; split at h <;> simp at h; omega
  | 2 => simp only [nbC] at h; split at h <;> simp at h; omega
  | s + 3 => simp only [nbC] at h; split at h <;> simp at h; omega
def Adj (p q : Nat) : Prop := ∃ s, s < 4 ∧ nbC p s = some q
theorem Adj_lt {p q : Nat} (hp : p < 64) (h : Adj p q) : q < 64 := by
  obtain ⟨s, -, h⟩ := h
  exact nbC_lt hp h
theorem Adj_symm {p q : Nat} (hp : p < 64) (h : Adj p q) : Adj q p := by
  obtain ⟨s, hs, h⟩ := h
  match s, hs with
  | 0, _ =>
    simp only [nbC] at h; split at h <;> simp at h
    refine ⟨3, by omega, ?_⟩
    simp only [nbC]; rw [if_pos (by omega)]; congr 1; omega
  | 1, _ =>
    simp only [nbC] at h; split at h <;> simp at h
    refine ⟨2, by omega, ?_⟩
    simp only [nbC]; rw [if_pos (by omega)]; congr 1; omega
  | 2, _ =>
    simp only [nbC] at h; split at h <;> simp at h
    refine ⟨1, by omega, ?_⟩
    simp only [nbC]; rw [if_pos (by omega)]; congr 1; omega
  | 3, _ =>
    simp only [nbC] at h; split at h <;> simp at h
    refine ⟨0, by omega, ?_⟩
    simp only [nbC]; rw [if_pos (by omega)]; congr 1; omega
  | s + 4, hs => exact absurd hs (by omega)
theorem four {P : Nat → Prop} {s : Nat} (hs : s < 4) (h0 : P 0) (h1 : P 1) (h2 : P 2) (h3 : P 3) : P s := by
  match s, hs with
  | 0, _ => exact h0
  | 1, _ => exact h1
  | 2, _ => exact h2
  | 3, _ => exact h3
  | s + 4, hs => exact absurd hs (by omega)
def NbOk (nb : Nat → Nat → Option Nat) : Prop := ∀ p q, Adj p q ↔ ∃ s, s < 4 ∧ nb p s = some q
theorem nbC_ok : NbOk nbC := fun _ _ => Iff.rfl
theorem nbR_ok : NbOk nbR := by
  intro p q
  constructor
  · rintro ⟨s, hs, h⟩
    revert h
    refine four (P := fun s => nbC p s = some q → ∃ s, s < 4 ∧ nbR p s = some q) hs ?_ ?_ ?_ ?_
    · exact fun h => ⟨3, by omega, h⟩
    · exact fun h => ⟨1, by omega, h⟩
    · exact fun h => ⟨0, by omega, h⟩
    · exact fun h => ⟨2, by omega, h⟩
  · rintro ⟨s, hs, h⟩
    revert h
    refine four (P := fun s => nbR p s = some q → ∃ s, s < 4 ∧ nbC p s = some q) hs ?_ ?_ ?_ ?_
    · exact fun h => ⟨2, by omega, h⟩
    · exact fun h => ⟨1, by omega, h⟩
    · exact fun h => ⟨3, by omega, h⟩
    · exact fun h => ⟨0, by omega, h⟩
/-- a way of n steps from a to p, all but a over P -/
def Wk (P : Nat → Bool) (a : Nat) : Nat → Nat → Prop
  | 0, p => p = a
  | n + 1, p => P p = true ∧ ∃ q, Wk P a n q ∧ Adj q p
def IsD (P : Nat → Bool) (a p d : Nat) : Prop := Wk P a d p ∧ ∀ n, n < d → ¬ Wk P a n p
theorem IsD_one {P : Nat → Bool} {a p d d' : Nat} (h : IsD P a p d) (h' : IsD P a p d') : d = d' := by
  rcases Nat.lt_trichotomy d d' with q | q | q
  · exact absurd h.1 (h'.2 d q)
  · exact q
  · exact absurd h'.1 (h.2 d' q)
/-- the fewest steps -/
noncomputable def dst (P : Nat → Bool) (a p : Nat) : Option Nat :=
  @dite _ (∃ n, Wk P a n p) (Classical.propDecidable _) (fun h => some (Classical.choose (pk_least _ h))) (fun _ => none)
theorem dst_some {P : Nat → Bool} {a p d : Nat} : dst P a p = some d ↔ IsD P a p d := by
  unfold dst
  by_cases h : ∃ n, Wk P a n p
  · rw [dif_pos h]
    have hs := Classical.choose_spec (pk_least _ h)
    constructor
    · intro e
      cases e
      exact hs
    · intro e
      rw [IsD_one e hs]
  · rw [dif_neg h]
    constructor
    · intro e; cases e
    · intro e; exact absurd ⟨_, e.1⟩ h
theorem dst_none {P : Nat → Bool} {a p : Nat} : dst P a p = none ↔ ∀ n, ¬ Wk P a n p := by
  unfold dst
  by_cases h : ∃ n, Wk P a n p
  · rw [dif_pos h]
    constructor
    · intro e; cases e
    · intro e; obtain ⟨n, hn⟩ := h; exact absurd hn (e n)
  · rw [dif_neg h]
    exact ⟨fun _ n hn => h ⟨n, hn⟩, fun _ => rfl⟩
theorem dst_reach {P : Nat → Bool} {a p : Nat} : (dst P a p).isSome = true ↔ ∃ n, Wk P a n p := by
  cases hd : dst P a p with
  | none => exact ⟨fun h => (by cases h), fun ⟨n, hn⟩ => absurd hn (dst_none.mp hd n)⟩
  | some d => exact ⟨fun _ => ⟨d, (dst_some.mp hd).1⟩, fun _ => rfl⟩
theorem Wk_lt {P : Nat → Bool} {a : Nat} (ha : a < 64) : ∀ {n p : Nat}, Wk P a n p → p < 64
  | 0, p, h => by have h : p = a := h; omega
  | n + 1, p, h => by
    obtain ⟨-, q, hq, hqp⟩ := h
    exact Adj_lt (Wk_lt ha hq) hqp
theorem Wk_P {P : Nat → Bool} {a : Nat} (hPa : P a = true) : ∀ {n p : Nat}, Wk P a n p → P p = true
  | 0, p, h => by have h : p = a := h; rw [h]; exact hPa
  | n + 1, p, h => h.1
theorem Wk_trans {P : Nat → Bool} {a b : Nat} {n : Nat} (h : Wk P a n b) : ∀ {m p : Nat}, Wk P b m p → Wk P a (n + m) p
  | 0, p, h2 => by have h2 : p = b := h2; rw [h2]; exact h
  | m + 1, p, h2 => by
    obtain ⟨hp, q, hq, hqp⟩ := h2
    exact ⟨hp, q, Wk_trans h hq, hqp⟩
theorem Wk_symm {P : Nat → Bool} {a : Nat} (ha : a < 64) (hPa : P a = true) : ∀ {n p : Nat}, Wk P a n p → Wk P p n a
  | 0, p, h => by have h : p = a := h; exact h.symm
  | n + 1, p, h => by
    obtain ⟨hp, q, hq, hqp⟩ := h
    have h1 : Wk P p 1 q := ⟨Wk_P hPa hq, p, rfl, Adj_symm (Wk_lt ha hq) hqp⟩
    have h2 := Wk_trans h1 (Wk_symm ha hPa hq)
    rw [Nat.add_comm] at h2
    exact h2
/-! a search in breadth: row, how far each is, how many, the one looked at -/
def BI (P : Nat → Bool) (a : Nat) (row : Nat → Nat) (D : Nat → Option Nat) (en at' : Nat) : Prop :=
  (∀ i, i < en → row i < 64) ∧ (∀ i j, i < en → j < en → row i = row j → i = j) ∧ (∀ p, (D p).isSome = true ↔ ∃ i, i < en ∧ row i = p) ∧
  (∀ i, i < en → ∃ d, D (row i) = some d ∧ d ≤ i ∧ Wk P a d (row i)) ∧
  (∀ i j di dj, i ≤ j → j < en → D (row i) = some di → D (row j) = some dj → di ≤ dj) ∧
  (∀ j di dj, at' < en → j < en → D (row at') = some di → D (row j) = some dj → dj ≤ di + 1) ∧
  (∀ i, i < at' → ∀ q, Adj (row i) q → P q = true → ∃ di dq, D (row i) = some di ∧ D q = some dq ∧ dq ≤ di + 1) ∧
  D a = some 0 ∧ at' ≤ en ∧ 0 < en ∧ row 0 = a
def BJ (P : Nat → Bool) (a : Nat) (nb : Nat → Nat → Option Nat) (row : Nat → Nat) (D : Nat → Option Nat) (en at' s : Nat) : Prop :=
  BI P a row D en at' ∧ at' < en ∧ ∀ s', s' < s → ∀ q, nb (row at') s' = some q → P q = true → ∃ di dq, D (row at') = some di ∧ D q = some dq ∧ dq ≤ di + 1
theorem BI_init {P : Nat → Bool} {a : Nat} {row : Nat → Nat} {D : Nat → Option Nat} (ha : a < 64) (hr : row 0 = a) (hD : ∀ p, D p = if p = a then some 0 else none) : BI P a row D 1 0 := by
  have e0 : ∀ i, i < 1 → i = 0 := fun i h => by omega
  have hDa : D a = some 0 := by rw [hD, if_pos rfl]
  refine ⟨fun i hi => by rw [e0 i hi, hr]; exact ha, fun i j hi hj _ => by omega, fun p => ?_, fun i hi => ?_, fun i j di dj hij hj h1 h2 => ?_, fun j di dj h1 hj h2 h3 => ?_, fun i hi => absurd hi (by omega), hDa, by omega, by omega, hr⟩
  · rw [hD]
    by_cases hp : p = a
    · rw [if_pos hp]; exact ⟨fun _ => ⟨0, by omega, by rw [hr, hp]⟩, fun _ => rfl⟩
    · rw [if_neg hp]; exact ⟨fun h => (by cases h), fun ⟨i, hi, h⟩ => by rw [e0 i hi, hr] at h; exact absurd h.symm hp⟩
  · rw [e0 i hi, hr]; exact ⟨0, hDa, by omega, rfl⟩
  · have hi0 : i = 0 := by omega
    have hj0 : j = 0 := by omega
    subst hi0; subst hj0
    rw [h1] at h2; cases h2; omega
  · have hj0 : j = 0 := by omega
    subst hj0
    rw [h2] at h3; cases h3; omega
theorem BJ_0 {P : Nat → Bool} {a : Nat} {nb : Nat → Nat → Option Nat} {row : Nat → Nat} {D : Nat → Option Nat} {en at' : Nat} (h : BI P a row D en at') (hat : at' < en) : BJ P a nb row D en at' 0 :=
  ⟨h, hat, fun _ h => absurd h (Nat.not_lt_zero _)⟩
theorem BJ_skip {P : Nat → Bool} {a : Nat} {nb : Nat → Nat → Option Nat} {row : Nat → Nat} {D : Nat → Option Nat} {en at' s : Nat} (h : BJ P a nb row D en at' s) (hk : ∀ q, nb (row at') s = some q → P q = true → (D q).isSome = true) : BJ P a nb row D en at' (s + 1) := by
  obtain ⟨hB, hat, hs⟩ := h
  refine ⟨hB, hat, fun s' hs' q hq hP => ?_⟩
  rcases Nat.lt_or_ge s' s with g | g
  · exact hs s' g q hq hP
  · have e : s' = s := by omega
    subst e
    obtain ⟨g1, g2, g3, g4, g5, g6, g7, g8, g9, g10, g11⟩ := hB
    have hsome := hk q hq hP
    obtain ⟨j, hj, hjq⟩ := (g3 q).mp hsome
    obtain ⟨dj, hdj, -, -⟩ := g4 j hj
    obtain ⟨di, hdi, -, -⟩ := g4 at' hat
    rw [← hjq]
    exact ⟨di, dj, hdi, hdj, g6 j di dj hat hj hdi hdj⟩
theorem BJ_fit {P : Nat → Bool} {a : Nat} {nb : Nat → Nat → Option Nat} {row : Nat → Nat} {D : Nat → Option Nat} {en at' s q : Nat} (h : BJ P a nb row D en at' s) (hq : q < 64) (hD : D q = none) : en < 64 := by
  obtain ⟨⟨g1, g2, g3, -⟩, -, -⟩ := h
  have hne : ∀ i, i < en → row i ≠ q := fun i hi e => by
    have := (g3 q).mpr ⟨i, hi, e⟩
    rw [hD] at this; cases this
  have := fb_holes 64 (en + 1) (fun i => if i < en then row i else q) (by
    intro i hi
    by_cases g : i < en
    · simp only [if_pos g]; exact g1 i g
    · simp only [if_neg g]; exact hq) (by
    intro i j hij hj
    by_cases g : j < en
    · have g' : i < en := by omega
      simp only [if_pos g, if_pos g']
      exact fun e => absurd (g2 i j g' g e) (by omega)
    · have g' : i < en := by omega
      simp only [if_neg g, if_pos g']
      exact hne i g')
  omega
theorem BJ_add {P : Nat → Bool} {a : Nat} {nb : Nat → Nat → Option Nat} (hnb : NbOk nb) {row row' : Nat → Nat} {D D' : Nat → Option Nat} {en at' s q di : Nat} (h : BJ P a nb row D en at' s) (hs : s < 4) (hq : nb (row at') s = some q) (hP : P q = true) (hD : D q = none) (hdi : D (row at') = some di)
    (hr' : ∀ i, row' i = if i = en then q else row i) (hD' : ∀ p, D' p = if p = q then some (di + 1) else D p) : BJ P a nb row' D' (en + 1) at' (s + 1) := by
  obtain ⟨⟨g1, g2, g3, g4, g5, g6, g7, g8, g9, g10, g11⟩, hat, hss⟩ := h
  have hadj : Adj (row at') q := (hnb _ _).mpr ⟨s, hs, hq⟩
  have hq64 : q < 64 := Adj_lt (g1 at' hat) hadj
  have hne : ∀ i, i < en → row i ≠ q := fun i hi e => by
    have := (g3 q).mpr ⟨i, hi, e⟩
    rw [hD] at this; cases this
  have r1 : ∀ i, i < en → row' i = row i := fun i hi => by rw [hr', if_neg (by omega)]
  have r2 : row' en = q := by rw [hr', if_pos rfl]
  have d1 : ∀ i, i < en → D' (row i) = D (row i) := fun i hi => by rw [hD', if_neg (hne i hi)]
  have d2 : D' q = some (di + 1) := by rw [hD', if_pos rfl]
  have dK : ∀ p d, D p = some d → D' p = some d := fun p d hp => by
    rw [hD', if_neg (fun e => by rw [e, hD] at hp; cases hp)]; exact hp
  have hdi' : D' (row' at') = some di := by rw [r1 at' hat, d1 at' hat]; exact hdi
  obtain ⟨di0, hdi0, hle0, hw0⟩ := g4 at' hat
  rw [hdi] at hdi0; cases hdi0
  refine ⟨⟨fun i hi => ?_, fun i j hi hj e => ?_, fun p => ?_, fun i hi => ?_, fun i j x y hij hj hx hy => ?_, fun j x y h1 hj hx hy => ?_, fun i hi p hp hPp => ?_, ?_, by omega, by omega, ?_⟩, by omega, fun s' hs' p hp hPp => ?_⟩
  · rcases Nat.lt_or_ge i en with g | g
    · rw [r1 i g]; exact g1 i g
    · rw [show i = en by omega, r2]; exact hq64
  · rcases Nat.lt_or_ge i en with g | g
    · rcases Nat.lt_or_ge j en with g' | g'
      · rw [r1 i g, r1 j g'] at e; exact g2 i j g g' e
      · rw [r1 i g, show j = en by omega, r2] at e; exact absurd e (hne i g)
    · rcases Nat.lt_or_ge j en with g' | g'
      · rw [r1 j g', show i = en by omega, r2] at e; exact absurd e.symm (hne j g')
      · omega
  · rw [hD']
    by_cases hp : p = q
    · rw [if_pos hp]; exact ⟨fun _ => ⟨en, by omega, by rw [r2, hp]⟩, fun _ => rfl⟩
    · rw [if_neg hp, g3]
      constructor
      · rintro ⟨i, hi, e⟩; exact ⟨i, by omega, by rw [r1 i hi]; exact e⟩
      · rintro ⟨i, hi, e⟩
        rcases Nat.lt_or_ge i en with g | g
        · exact ⟨i, g, by rw [r1 i g] at e; exact e⟩
        · rw [show i = en by omega, r2] at e; exact absurd e.symm hp
  · rcases Nat.lt_or_ge i en with g | g
    · rw [r1 i g, d1 i g]; exact g4 i g
    · rw [show i = en by omega, r2]
      exact ⟨di + 1, d2, by omega, hP, row at', hw0, hadj⟩
  · rcases Nat.lt_or_ge j en with g | g
    · have g' : i < en := by omega
      rw [r1 j g, d1 j g] at hy
      rw [r1 i g', d1 i g'] at hx
      exact g5 i j x y hij g hx hy
    · rw [show j = en by omega, r2, d2] at hy
      cases hy
      rcases Nat.lt_or_ge i en with g' | g'
      · rw [r1 i g', d1 i g'] at hx
        exact g6 i di x hat g' hdi hx
      · rw [show i = en by omega, r2, d2] at hx
        cases hx; omega
  · rw [hdi'] at hx
    cases hx
    rcases Nat.lt_or_ge j en with g | g
    · rw [r1 j g, d1 j g] at hy
      exact g6 j di y hat g hdi hy
    · rw [show j = en by omega, r2, d2] at hy
      cases hy; omega
  · have g : i < en := by omega
    rw [r1 i g] at hp
    obtain ⟨x, y, h1, h2, h3⟩ := g7 i hi p hp hPp
    exact ⟨x, y, by rw [r1 i g]; exact dK _ _ h1, dK _ _ h2, h3⟩
  · exact dK _ _ g8
  · rw [r1 0 g10]; exact g11
  · rcases Nat.lt_or_ge s' s with g | g
    · rw [r1 at' hat] at hp
      obtain ⟨x, y, h1, h2, h3⟩ := hss s' g p hp hPp
      exact ⟨x, y, by rw [r1 at' hat]; exact dK _ _ h1, dK _ _ h2, h3⟩
    · rw [show s' = s by omega, r1 at' hat, hq] at hp
      cases hp
      exact ⟨di, di + 1, hdi', d2, by omega⟩
theorem BJ_done {P : Nat → Bool} {a : Nat} {nb : Nat → Nat → Option Nat} (hnb : NbOk nb) {row : Nat → Nat} {D : Nat → Option Nat} {en at' : Nat} (h : BJ P a nb row D en at' 4) : BI P a row D en (at' + 1) := by
  obtain ⟨⟨g1, g2, g3, g4, g5, g6, g7, g8, g9, g10, g11⟩, hat, hs⟩ := h
  refine ⟨g1, g2, g3, g4, g5, fun j x y h1 hj hx hy => ?_, fun i hi q hq hP => ?_, g8, by omega, g10, g11⟩
  · obtain ⟨d0, hd0, -, -⟩ := g4 at' hat
    have := g6 j d0 y hat hj hd0 hy
    have := g5 at' (at' + 1) d0 x (by omega) h1 hd0 hx
    omega
  · rcases Nat.lt_or_ge i at' with g | g
    · exact g7 i g q hq hP
    · have e : i = at' := by omega
      subst e
      obtain ⟨s, hs4, hq⟩ := (hnb _ _).mp hq
      exact hs s hs4 q hq hP
theorem BI_end {P : Nat → Bool} {a : Nat} {row : Nat → Nat} {D : Nat → Option Nat} {en at' : Nat} (h : BI P a row D en at') (hat : en ≤ at') : ∀ p, D p = dst P a p := by
  obtain ⟨g1, g2, g3, g4, g5, g6, g7, g8, g9, g10, g11⟩ := h
  have key : ∀ n p, Wk P a n p → ∃ d, D p = some d ∧ d ≤ n := by
    intro n
    induction n with
    | zero => intro p hp; have hp : p = a := hp; rw [hp]; exact ⟨0, g8, Nat.le_refl _⟩
    | succ n ih =>
      intro p hp
      obtain ⟨hPp, q, hq, hqp⟩ := hp
      obtain ⟨dq, hdq, hle⟩ := ih q hq
      obtain ⟨i, hi, hiq⟩ := (g3 q).mp (by rw [hdq]; rfl)
      rw [← hiq] at hqp hdq
      obtain ⟨x, y, h1, h2, h3⟩ := g7 i (by omega) p hqp hPp
      rw [hdq] at h1; cases h1
      exact ⟨y, h2, by omega⟩
  intro p
  cases hp : D p with
  | none =>
    refine (dst_none.mpr fun n hn => ?_).symm
    obtain ⟨d, hd, -⟩ := key n p hn
    rw [hp] at hd; cases hd
  | some d =>
    refine (dst_some.mpr ⟨?_, fun n hn hw => ?_⟩).symm
    · obtain ⟨i, hi, hip⟩ := (g3 p).mp (by rw [hp]; rfl)
      obtain ⟨d', hd', -, hw⟩ := g4 i hi
      rw [hip] at hd' hw
      rw [hp] at hd'; cases hd'
      exact hw
    · obtain ⟨d', hd', hle⟩ := key n p hw
      rw [hp] at hd'; cases hd'
      omega
theorem BI_le {P : Nat → Bool} {a : Nat} {row : Nat → Nat} {D : Nat → Option Nat} {en at' : Nat} (h : BI P a row D en at') : en ≤ 64 := by
  obtain ⟨g1, g2, -⟩ := h
  exact fb_holes 64 en row g1 (fun i j hij hj e => absurd (g2 i j (by omega) hj e) (by omega))
theorem BI_d {P : Nat → Bool} {a : Nat} {row : Nat → Nat} {D : Nat → Option Nat} {en at' p d : Nat} (h : BI P a row D en at') (hd : D p = some d) : d < 64 := by
  have hle := BI_le h
  obtain ⟨g1, g2, g3, g4, -⟩ := h
  obtain ⟨i, hi, hip⟩ := (g3 p).mp (by rw [hd]; rfl)
  obtain ⟨d', hd', h1, -⟩ := g4 i hi
  rw [hip, hd] at hd'; cases hd'
  omega
/-- marks: first and more for each step, where the search came; else what was there -/
def mkd (f mr : Nat) (d : Option Nat) (x : Int32) : Int32 := match d with
  | some d => nI (f + d * mr)
  | none => x

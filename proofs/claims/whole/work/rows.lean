section
/-! numbers -/
def b2i (b : Bool) : Int32 := if b then 1 else 0
theorem b2i_nar (b : Bool) : narrow .boolean (.int (b2i b)) = .int (b2i b) := by cases b <;> rfl
theorem b2i_0 {b : Bool} : b2i b = 0 ↔ b = false := by cases b <;> decide
theorem b2i_n0 {b : Bool} : ¬ b2i b = 0 ↔ b = true := by cases b <;> decide
def cst (x : Int32) : Int32 := if x = 3 then 4 else if x = 4 then 6 else 5
theorem i1 : Int32.ofInt 1 = 1 := by decide
theorem inc1 (x : Int32) : x + Int32.ofInt 1 = x + 1 := by rw [i1]
theorem isLot_1 {q : Nat} (h : q < 64) : b2i (decide (0 ≤ nI q) && decide (nI q < 64)) = 1 := by
  rw [decide_eq_true (nI_pos' (n := q) (by omega)), decide_eq_true (show nI q < 64 from nI_lt (b := 64) h (by decide))]; rfl
theorem nI_inc (i : Nat) : nI i + Int32.ofInt 1 = nI (i + 1) := nI_1 i
theorem lt_n {i n : Nat} (h : i < n) (hn : n < 2 ^ 31) : ¬ nI n ≤ nI i := nI_ge h hn
theorem le_n {i n : Nat} (h : n ≤ i) (hi : i < 2 ^ 31) : nI n ≤ nI i := nI_le h hi
theorem fb_holes : ∀ (m n : Nat) (f : Nat → Nat), (∀ i, i < n → f i < m) → (∀ i j, i < j → j < n → f i ≠ f j) → n ≤ m := by
  intro m
  induction m with
  | zero =>
    intro n f h1 _
    rcases Nat.eq_zero_or_pos n with h | h
    · omega
    · exact absurd (h1 0 h) (Nat.not_lt_zero _)
  | succ m ih =>
    intro n f h1 h2
    by_cases hx : ∃ i, i < n ∧ f i = m
    · obtain ⟨a, ha, hfa⟩ := hx
      have hg := ih (n - 1) (fun i => if i < a then f i else f (i + 1)) (by
        intro i hi
        by_cases q : i < a
        · simp only [if_pos q]
          have b1 := h1 i (by omega)
          have b2 := h2 i a q ha
          omega
        · simp only [if_neg q]
          have b1 := h1 (i + 1) (by omega)
          have b2 := h2 a (i + 1) (by omega) (by omega)
          omega) (by
        intro i j hij hj
        by_cases q : i < a
        · by_cases r : j < a
          · simp only [if_pos q, if_pos r]
            exact h2 i j hij (by omega)
          · simp only [if_pos q, if_neg r]
            exact h2 i (j + 1) (by omega) (by omega)
        · have r : ¬ j < a := by omega
          simp only [if_neg q, if_neg r]
          exact h2 (i + 1) (j + 1) (by omega) (by omega))
      omega
    · have hg := ih n f (fun i hi => by
        have b1 := h1 i hi
        have b2 : f i ≠ m := fun e => hx ⟨i, hi, e⟩
        omega) h2
      omega
/-! the document's city, as mathematics: lots, neighbours, steps -/
def lnd (x : Int32) : Bool := decide (2 ≤ x) && decide (x ≤ 6)
def wtr (x : Int32) : Bool := decide (x = 1) || decide (x = 6)
def PB (b : Bool) (k : Nat → Int32) : Nat → Bool := fun p => if b then lnd (k p) else wtr (k p)
def nbC (p : Nat) : Nat → Option Nat
  | 0 => if 0 < p / 8 then some (p - 8) else none
  | 1 => if 0 < p % 8 then some (p - 1) else none
  | 2 => if p % 8 < 7 then some (p + 1) else none
  | _ => if p / 8 < 7 then some (p + 8) else none
def nbR (p : Nat) : Nat → Option Nat
  | 0 => nbC p 2
  | 1 => nbC p 1
  | 2 => nbC p 3
  | _ => nbC p 0
def toI : Option Nat → Int32
  | none => -1
  | some q => nI q
theorem nbC_lt {p s q : Nat} (hp : p < 64) (h : nbC p s = some q) : q < 64 := by
  match s with
  | 0 => simp only [nbC] at h; split at h <;> simp at h; omega
  | 1 => simp only [nbC] at h; split at h <;> simp at h; omega
  | 2 => simp only [nbC] at h; split at h <;> simp at h; omega
  | s + 3 => simp only [nbC] at h; split at h <;> simp at h; omega
def Adj (p q : Nat) : Prop := ∃ s, s < 4 ∧ nbC p s = some q
theorem Adj_lt {p q : Nat} (hp : p < 64) (h : Adj p q) : q < 64 := by
  obtain ⟨s, -, h⟩ := h
  exact nbC_lt hp h
theorem Adj_symm {p q : Nat} (hp : p < 64) (h : Adj p q) : Adj q p := by
  obtain ⟨s, hs, h⟩ := h
  match s, hs with
  | 0, _ =>
    simp only [nbC] at h; split at h <;> simp at h
    refine ⟨3, by omega, ?_⟩
    simp only [nbC]; rw [if_pos (by omega)]; congr 1; omega
  | 1, _ =>
    simp only [nbC] at h; split at h <;> simp at h
    refine ⟨2, by omega, ?_⟩
    simp only [nbC]; rw [if_pos (by omega)]; congr 1; omega
  | 2, _ =>
    simp only [nbC] at h; split at h <;> simp at h
    refine ⟨1, by omega, ?_⟩
    simp only [nbC]; rw [if_pos (by omega)]; congr 1; omega
  | 3, _ =>
    simp only [nbC] at h; split at h <;> simp at h
    refine ⟨0, by omega, ?_⟩
    simp only [nbC]; rw [if_pos (by omega)]; congr 1; omega
  | s + 4, hs => exact absurd hs (by omega)
theorem four {P : Nat → Prop} {s : Nat} (hs : s < 4) (h0 : P 0) (h1 : P 1) (h2 : P 2) (h3 : P 3) : P s := by
  match s, hs with
  | 0, _ => exact h0
  | 1, _ => exact h1
  | 2, _ => exact h2
  | 3, _ => exact h3
  | s + 4, hs => exact absurd hs (by omega)
def NbOk (nb : Nat → Nat → Option Nat) : Prop := ∀ p q, Adj p q ↔ ∃ s, s < 4 ∧ nb p s = some q
theorem nbC_ok : NbOk nbC := fun _ _ => Iff.rfl
theorem nbR_ok : NbOk nbR := by
  intro p q
  constructor
  · rintro ⟨s, hs, h⟩
    revert h
    refine four (P := fun s => nbC p s = some q → ∃ s, s < 4 ∧ nbR p s = some q) hs ?_ ?_ ?_ ?_
    · exact fun h => ⟨3, by omega, h⟩
    · exact fun h => ⟨1, by omega, h⟩
    · exact fun h => ⟨0, by omega, h⟩
    · exact fun h => ⟨2, by omega, h⟩
  · rintro ⟨s, hs, h⟩
    revert h
    refine four (P := fun s => nbR p s = some q → ∃ s, s < 4 ∧ nbC p s = some q) hs ?_ ?_ ?_ ?_
    · exact fun h => ⟨2, by omega, h⟩
    · exact fun h => ⟨1, by omega, h⟩
    · exact fun h => ⟨3, by omega, h⟩
    · exact fun h => ⟨0, by omega, h⟩
/-- a way of n steps from a to p, all but a over P -/
def Wk (P : Nat → Bool) (a : Nat) : Nat → Nat → Prop
  | 0, p => p = a
  | n + 1, p => P p = true ∧ ∃ q, Wk P a n q ∧ Adj q p
def IsD (P : Nat → Bool) (a p d : Nat) : Prop := Wk P a d p ∧ ∀ n, n < d → ¬ Wk P a n p
theorem IsD_one {P : Nat → Bool} {a p d d' : Nat} (h : IsD P a p d) (h' : IsD P a p d') : d = d' := by
  rcases Nat.lt_trichotomy d d' with q | q | q
  · exact absurd h.1 (h'.2 d q)
  · exact q
  · exact absurd h'.1 (h.2 d' q)
/-- the fewest steps -/
noncomputable def dst (P : Nat → Bool) (a p : Nat) : Option Nat :=
  @dite _ (∃ n, Wk P a n p) (Classical.propDecidable _) (fun h => some (Classical.choose (pk_least _ h))) (fun _ => none)
theorem dst_some {P : Nat → Bool} {a p d : Nat} : dst P a p = some d ↔ IsD P a p d := by
  unfold dst
  by_cases h : ∃ n, Wk P a n p
  · rw [dif_pos h]
    have hs := Classical.choose_spec (pk_least _ h)
    constructor
    · intro e
      cases e
      exact hs
    · intro e
      rw [IsD_one e hs]
  · rw [dif_neg h]
    constructor
    · intro e; cases e
    · intro e; exact absurd ⟨_, e.1⟩ h
theorem dst_none {P : Nat → Bool} {a p : Nat} : dst P a p = none ↔ ∀ n, ¬ Wk P a n p := by
  unfold dst
  by_cases h : ∃ n, Wk P a n p
  · rw [dif_pos h]
    constructor
    · intro e; cases e
    · intro e; obtain ⟨n, hn⟩ := h; exact absurd hn (e n)
  · rw [dif_neg h]
    exact ⟨fun _ n hn => h ⟨n, hn⟩, fun _ => rfl⟩
theorem dst_reach {P : Nat → Bool} {a p : Nat} : (dst P a p).isSome = true ↔ ∃ n, Wk P a n p := by
  cases hd : dst P a p with
  | none => exact ⟨fun h => (by cases h), fun ⟨n, hn⟩ => absurd hn (dst_none.mp hd n)⟩
  | some d => exact ⟨fun _ => ⟨d, (dst_some.mp hd).1⟩, fun _ => rfl⟩
theorem Wk_lt {P : Nat → Bool} {a : Nat} (ha : a < 64) : ∀ {n p : Nat}, Wk P a n p → p < 64
  | 0, p, h => by have h : p = a := h; omega
  | n + 1, p, h => by
    obtain ⟨-, q, hq, hqp⟩ := h
    exact Adj_lt (Wk_lt ha hq) hqp
theorem Wk_P {P : Nat → Bool} {a : Nat} (hPa : P a = true) : ∀ {n p : Nat}, Wk P a n p → P p = true
  | 0, p, h => by have h : p = a := h; rw [h]; exact hPa
  | n + 1, p, h => h.1
theorem Wk_trans {P : Nat → Bool} {a b : Nat} {n : Nat} (h : Wk P a n b) : ∀ {m p : Nat}, Wk P b m p → Wk P a (n + m) p
  | 0, p, h2 => by have h2 : p = b := h2; rw [h2]; exact h
  | m + 1, p, h2 => by
    obtain ⟨hp, q, hq, hqp⟩ := h2
    exact ⟨hp, q, Wk_trans h hq, hqp⟩
theorem Wk_symm {P : Nat → Bool} {a : Nat} (ha : a < 64) (hPa : P a = true) : ∀ {n p : Nat}, Wk P a n p → Wk P p n a
  | 0, p, h => by have h : p = a := h; exact h.symm
  | n + 1, p, h => by
    obtain ⟨hp, q, hq, hqp⟩ := h
    have h1 : Wk P p 1 q := ⟨Wk_P hPa hq, p, rfl, Adj_symm (Wk_lt ha hq) hqp⟩
    have h2 := Wk_trans h1 (Wk_symm ha hPa hq)
    rw [Nat.add_comm] at h2
    exact h2
/-! a search in breadth: row, how far each is, how many, the one looked at -/
def BI (P : Nat → Bool) (a : Nat) (row : Nat → Nat) (D : Nat → Option Nat) (en at' : Nat) : Prop :=
  (∀ i, i < en → row i < 64) ∧ (∀ i j, i < en → j < en → row i = row j → i = j) ∧ (∀ p, (D p).isSome = true ↔ ∃ i, i < en ∧ row i = p) ∧
  (∀ i, i < en → ∃ d, D (row i) = some d ∧ d ≤ i ∧ Wk P a d (row i)) ∧
  (∀ i j di dj, i ≤ j → j < en → D (row i) = some di → D (row j) = some dj → di ≤ dj) ∧
  (∀ j di dj, at' < en → j < en → D (row at') = some di → D (row j) = some dj → dj ≤ di + 1) ∧
  (∀ i, i < at' → ∀ q, Adj (row i) q → P q = true → ∃ di dq, D (row i) = some di ∧ D q = some dq ∧ dq ≤ di + 1) ∧
  D a = some 0 ∧ at' ≤ en ∧ 0 < en ∧ row 0 = a
def BJ (P : Nat → Bool) (a : Nat) (nb : Nat → Nat → Option Nat) (row : Nat → Nat) (D : Nat → Option Nat) (en at' s : Nat) : Prop :=
  BI P a row D en at' ∧ at' < en ∧ ∀ s', s' < s → ∀ q, nb (row at') s' = some q → P q = true → ∃ di dq, D (row at') = some di ∧ D q = some dq ∧ dq ≤ di + 1
theorem BI_init {P : Nat → Bool} {a : Nat} {row : Nat → Nat} {D : Nat → Option Nat} (ha : a < 64) (hr : row 0 = a) (hD : ∀ p, D p = if p = a then some 0 else none) : BI P a row D 1 0 := by
  have e0 : ∀ i, i < 1 → i = 0 := fun i h => by omega
  have hDa : D a = some 0 := by rw [hD, if_pos rfl]
  refine ⟨fun i hi => by rw [e0 i hi, hr]; exact ha, fun i j hi hj _ => by omega, fun p => ?_, fun i hi => ?_, fun i j di dj hij hj h1 h2 => ?_, fun j di dj h1 hj h2 h3 => ?_, fun i hi => absurd hi (by omega), hDa, by omega, by omega, hr⟩
  · rw [hD]
    by_cases hp : p = a
    · rw [if_pos hp]; exact ⟨fun _ => ⟨0, by omega, by rw [hr, hp]⟩, fun _ => rfl⟩
    · rw [if_neg hp]; exact ⟨fun h => (by cases h), fun ⟨i, hi, h⟩ => by rw [e0 i hi, hr] at h; exact absurd h.symm hp⟩
  · rw [e0 i hi, hr]; exact ⟨0, hDa, by omega, rfl⟩
  · have hi0 : i = 0 := by omega
    have hj0 : j = 0 := by omega
    subst hi0; subst hj0
    rw [h1] at h2; cases h2; omega
  · have hj0 : j = 0 := by omega
    subst hj0
    rw [h2] at h3; cases h3; omega
theorem BJ_0 {P : Nat → Bool} {a : Nat} {nb : Nat → Nat → Option Nat} {row : Nat → Nat} {D : Nat → Option Nat} {en at' : Nat} (h : BI P a row D en at') (hat : at' < en) : BJ P a nb row D en at' 0 :=
  ⟨h, hat, fun _ h => absurd h (Nat.not_lt_zero _)⟩
theorem BJ_skip {P : Nat → Bool} {a : Nat} {nb : Nat → Nat → Option Nat} {row : Nat → Nat} {D : Nat → Option Nat} {en at' s : Nat} (h : BJ P a nb row D en at' s) (hk : ∀ q, nb (row at') s = some q → P q = true → (D q).isSome = true) : BJ P a nb row D en at' (s + 1) := by
  obtain ⟨hB, hat, hs⟩ := h
  refine ⟨hB, hat, fun s' hs' q hq hP => ?_⟩
  rcases Nat.lt_or_ge s' s with g | g
  · exact hs s' g q hq hP
  · have e : s' = s := by omega
    subst e
    obtain ⟨g1, g2, g3, g4, g5, g6, g7, g8, g9, g10, g11⟩ := hB
    have hsome := hk q hq hP
    obtain ⟨j, hj, hjq⟩ := (g3 q).mp hsome
    obtain ⟨dj, hdj, -, -⟩ := g4 j hj
    obtain ⟨di, hdi, -, -⟩ := g4 at' hat
    rw [← hjq]
    exact ⟨di, dj, hdi, hdj, g6 j di dj hat hj hdi hdj⟩
theorem BJ_fit {P : Nat → Bool} {a : Nat} {nb : Nat → Nat → Option Nat} {row : Nat → Nat} {D : Nat → Option Nat} {en at' s q : Nat} (h : BJ P a nb row D en at' s) (hq : q < 64) (hD : D q = none) : en < 64 := by
  obtain ⟨⟨g1, g2, g3, -⟩, -, -⟩ := h
  have hne : ∀ i, i < en → row i ≠ q := fun i hi e => by
    have := (g3 q).mpr ⟨i, hi, e⟩
    rw [hD] at this; cases this
  have := fb_holes 64 (en + 1) (fun i => if i < en then row i else q) (by
    intro i hi
    by_cases g : i < en
    · simp only [if_pos g]; exact g1 i g
    · simp only [if_neg g]; exact hq) (by
    intro i j hij hj
    by_cases g : j < en
    · have g' : i < en := by omega
      simp only [if_pos g, if_pos g']
      exact fun e => absurd (g2 i j g' g e) (by omega)
    · have g' : i < en := by omega
      simp only [if_neg g, if_pos g']
      exact hne i g')
  omega
theorem BJ_add {P : Nat → Bool} {a : Nat} {nb : Nat → Nat → Option Nat} (hnb : NbOk nb) {row row' : Nat → Nat} {D D' : Nat → Option Nat} {en at' s q di : Nat} (h : BJ P a nb row D en at' s) (hs : s < 4) (hq : nb (row at') s = some q) (hP : P q = true) (hD : D q = none) (hdi : D (row at') = some di)
    (hr' : ∀ i, row' i = if i = en then q else row i) (hD' : ∀ p, D' p = if p = q then some (di + 1) else D p) : BJ P a nb row' D' (en + 1) at' (s + 1) := by
  obtain ⟨⟨g1, g2, g3, g4, g5, g6, g7, g8, g9, g10, g11⟩, hat, hss⟩ := h
  have hadj : Adj (row at') q := (hnb _ _).mpr ⟨s, hs, hq⟩
  have hq64 : q < 64 := Adj_lt (g1 at' hat) hadj
  have hne : ∀ i, i < en → row i ≠ q := fun i hi e => by
    have := (g3 q).mpr ⟨i, hi, e⟩
    rw [hD] at this; cases this
  have r1 : ∀ i, i < en → row' i = row i := fun i hi => by rw [hr', if_neg (by omega)]
  have r2 : row' en = q := by rw [hr', if_pos rfl]
  have d1 : ∀ i, i < en → D' (row i) = D (row i) := fun i hi => by rw [hD', if_neg (hne i hi)]
  have d2 : D' q = some (di + 1) := by rw [hD', if_pos rfl]
  have dK : ∀ p d, D p = some d → D' p = some d := fun p d hp => by
    rw [hD', if_neg (fun e => by rw [e, hD] at hp; cases hp)]; exact hp
  have hdi' : D' (row' at') = some di := by rw [r1 at' hat, d1 at' hat]; exact hdi
  obtain ⟨di0, hdi0, hle0, hw0⟩ := g4 at' hat
  rw [hdi] at hdi0; cases hdi0
  refine ⟨⟨fun i hi => ?_, fun i j hi hj e => ?_, fun p => ?_, fun i hi => ?_, fun i j x y hij hj hx hy => ?_, fun j x y h1 hj hx hy => ?_, fun i hi p hp hPp => ?_, ?_, by omega, by omega, ?_⟩, by omega, fun s' hs' p hp hPp => ?_⟩
  · rcases Nat.lt_or_ge i en with g | g
    · rw [r1 i g]; exact g1 i g
    · rw [show i = en by omega, r2]; exact hq64
  · rcases Nat.lt_or_ge i en with g | g
    · rcases Nat.lt_or_ge j en with g' | g'
      · rw [r1 i g, r1 j g'] at e; exact g2 i j g g' e
      · rw [r1 i g, show j = en by omega, r2] at e; exact absurd e (hne i g)
    · rcases Nat.lt_or_ge j en with g' | g'
      · rw [r1 j g', show i = en by omega, r2] at e; exact absurd e.symm (hne j g')
      · omega
  · rw [hD']
    by_cases hp : p = q
    · rw [if_pos hp]; exact ⟨fun _ => ⟨en, by omega, by rw [r2, hp]⟩, fun _ => rfl⟩
    · rw [if_neg hp, g3]
      constructor
      · rintro ⟨i, hi, e⟩; exact ⟨i, by omega, by rw [r1 i hi]; exact e⟩
      · rintro ⟨i, hi, e⟩
        rcases Nat.lt_or_ge i en with g | g
        · exact ⟨i, g, by rw [r1 i g] at e; exact e⟩
        · rw [show i = en by omega, r2] at e; exact absurd e.symm hp
  · rcases Nat.lt_or_ge i en with g | g
    · rw [r1 i g, d1 i g]; exact g4 i g
    · rw [show i = en by omega, r2]
      exact ⟨di + 1, d2, by omega, hP, row at', hw0, hadj⟩
  · rcases Nat.lt_or_ge j en with g | g
    · have g' : i < en := by omega
      rw [r1 j g, d1 j g] at hy
      rw [r1 i g', d1 i g'] at hx
      exact g5 i j x y hij g hx hy
    · rw [show j = en by omega, r2, d2] at hy
      cases hy
      rcases Nat.lt_or_ge i en with g' | g'
      · rw [r1 i g', d1 i g'] at hx
        exact g6 i di x hat g' hdi hx
      · rw [show i = en by omega, r2, d2] at hx
        cases hx; omega
  · rw [hdi'] at hx
    cases hx
    rcases Nat.lt_or_ge j en with g | g
    · rw [r1 j g, d1 j g] at hy
      exact g6 j di y hat g hdi hy
    · rw [show j = en by omega, r2, d2] at hy
      cases hy; omega
  · have g : i < en := by omega
    rw [r1 i g] at hp
    obtain ⟨x, y, h1, h2, h3⟩ := g7 i hi p hp hPp
    exact ⟨x, y, by rw [r1 i g]; exact dK _ _ h1, dK _ _ h2, h3⟩
  · exact dK _ _ g8
  · rw [r1 0 g10]; exact g11
  · rcases Nat.lt_or_ge s' s with g | g
    · rw [r1 at' hat] at hp
      obtain ⟨x, y, h1, h2, h3⟩ := hss s' g p hp hPp
      exact ⟨x, y, by rw [r1 at' hat]; exact dK _ _ h1, dK _ _ h2, h3⟩
    · rw [show s' = s by omega, r1 at' hat, hq] at hp
      cases hp
      exact ⟨di, di + 1, hdi', d2, by omega⟩
theorem BJ_done {P : Nat → Bool} {a : Nat} {nb : Nat → Nat → Option Nat} (hnb : NbOk nb) {row : Nat → Nat} {D : Nat → Option Nat} {en at' : Nat} (h : BJ P a nb row D en at' 4) : BI P a row D en (at' + 1) := by
  obtain ⟨⟨g1, g2, g3, g4, g5, g6, g7, g8, g9, g10, g11⟩, hat, hs⟩ := h
  refine ⟨g1, g2, g3, g4, g5, fun j x y h1 hj hx hy => ?_, fun i hi q hq hP => ?_, g8, by omega, g10, g11⟩
  · obtain ⟨d0, hd0, -, -⟩ := g4 at' hat
    have := g6 j d0 y hat hj hd0 hy
    have := g5 at' (at' + 1) d0 x (by omega) h1 hd0 hx
    omega
  · rcases Nat.lt_or_ge i at' with g | g
    · exact g7 i g q hq hP
    · have e : i = at' := by omega
      subst e
      obtain ⟨s, hs4, hq⟩ := (hnb _ _).mp hq
      exact hs s hs4 q hq hP
theorem BI_end {P : Nat → Bool} {a : Nat} {row : Nat → Nat} {D : Nat → Option Nat} {en at' : Nat} (h : BI P a row D en at') (hat : en ≤ at') : ∀ p, D p = dst P a p := by
  obtain ⟨g1, g2, g3, g4, g5, g6, g7, g8, g9, g10, g11⟩ := h
  have key : ∀ n p, Wk P a n p → ∃ d, D p = some d ∧ d ≤ n := by
    intro n
    induction n with
    | zero => intro p hp; have hp : p = a := hp; rw [hp]; exact ⟨0, g8, Nat.le_refl _⟩
    | succ n ih =>
      intro p hp
      obtain ⟨hPp, q, hq, hqp⟩ := hp
      obtain ⟨dq, hdq, hle⟩ := ih q hq
      obtain ⟨i, hi, hiq⟩ := (g3 q).mp (by rw [hdq]; rfl)
      rw [← hiq] at hqp hdq
      obtain ⟨x, y, h1, h2, h3⟩ := g7 i (by omega) p hqp hPp
      rw [hdq] at h1; cases h1
      exact ⟨y, h2, by omega⟩
  intro p
  cases hp : D p with
  | none =>
    refine (dst_none.mpr fun n hn => ?_).symm
    obtain ⟨d, hd, -⟩ := key n p hn
    rw [hp] at hd; cases hd
  | some d =>
    refine (dst_some.mpr ⟨?_, fun n hn hw => ?_⟩).symm
    · obtain ⟨i, hi, hip⟩ := (g3 p).mp (by rw [hp]; rfl)
      obtain ⟨d', hd', -, hw⟩ := g4 i hi
      rw [hip] at hd' hw
      rw [hp] at hd'; cases hd'
      exact hw
    · obtain ⟨d', hd', hle⟩ := key n p hw
      rw [hp] at hd'; cases hd'
      omega
theorem BI_le {P : Nat → Bool} {a : Nat} {row : Nat → Nat} {D : Nat → Option Nat} {en at' : Nat} (h : BI P a row D en at') : en ≤ 64 := by
  obtain ⟨g1, g2, -⟩ := h
  exact fb_holes 64 en row g1 (fun i j hij hj e => absurd (g2 i j (by omega) hj e) (by omega))
theorem BI_d {P : Nat → Bool} {a : Nat} {row : Nat → Nat} {D : Nat → Option Nat} {en at' p d : Nat} (h : BI P a row D en at') (hd : D p = some d) : d < 64 := by
  have hle := BI_le h
  obtain ⟨g1, g2, g3, g4, -⟩ := h
  obtain ⟨i, hi, hip⟩ := (g3 p).mp (by rw [hd]; rfl)
  obtain ⟨d', hd', h1, -⟩ := g4 i hi
  rw [hip, hd] at hd'; cases hd'
  omega
/-- marks: first and more for each step, where the search came; else what was there -/
def mkd (f mr : Nat) (d : Option Nat) (x : Int32) : Int32 := match d with
  | some d => nI (f + d * mr)
  | none => x
end
section
/-! sums over places -/
def csum (f : Nat → Int32) : Nat → Int32
  | 0 => 0
  | n + 1 => csum f n + f n
theorem csum_cong {f g : Nat → Int32} : ∀ {n : Nat}, (∀ i, i < n → f i = g i) → csum f n = csum g n
  | 0, _ => rfl
  | n + 1, h => by rw [csum, csum, csum_cong (fun i hi => h i (by omega)), h n (by omega)]
theorem i32_sw (a b c : Int32) : a + b + c = a + c + b := by rw [Int32.add_assoc, Int32.add_comm b c, ← Int32.add_assoc]
theorem csum_add (f g : Nat → Int32) : ∀ n, csum (fun i => f i + g i) n = csum f n + csum g n
  | 0 => (Int32.add_zero 0).symm
  | n + 1 => by
    rw [csum, csum, csum, csum_add f g n]
    rw [Int32.add_assoc, Int32.add_assoc, ← Int32.add_assoc (csum g n), Int32.add_comm (csum g n) (f n), Int32.add_assoc]
theorem csum_zero : ∀ n, csum (fun _ => 0) n = 0
  | 0 => rfl
  | n + 1 => by rw [csum, csum_zero n]; decide
theorem csum_one {x : Int32} {q : Nat} : ∀ {n : Nat}, q < n → csum (fun i => if i = q then x else 0) n = x
  | 0, h => absurd h (Nat.not_lt_zero _)
  | n + 1, h => by
    rw [csum]
    rcases Nat.lt_or_ge q n with g | g
    · rw [csum_one g, if_neg (by omega), Int32.add_zero]
    · have e : q = n := by omega
      subst e
      rw [if_pos rfl, csum_cong (g := fun _ => 0) (fun i hi => if_neg (by omega)), csum_zero, Int32.zero_add]
/-- a row's sum is the sum over the places that it holds -/
theorem csum_row (g : Nat → Int32) (row : Nat → Nat) : ∀ (en : Nat), (∀ i, i < en → row i < 64) → (∀ i j, i < en → j < en → row i = row j → i = j) → ∀ (S : Nat → Bool), (∀ p, S p = true ↔ ∃ i, i < en ∧ row i = p) →
    csum (fun i => g (row i)) en = csum (fun p => if S p then g p else 0) 64
  | 0, _, _, S, hS => by
    have h0 : ∀ p, p < 64 → (if S p then g p else 0) = 0 := fun p _ => by
      cases h : S p with
      | false => rfl
      | true => obtain ⟨i, hi, -⟩ := (hS p).mp h; exact absurd hi (Nat.not_lt_zero _)
    rw [csum_cong (g := fun _ => 0) h0, csum_zero]; rfl
  | en + 1, h1, h2, S, hS => by
    have ih := csum_row g row en (fun i hi => h1 i (by omega)) (fun i j hi hj e => h2 i j (by omega) (by omega) e) (fun p => S p && !decide (p = row en)) (fun p => by
      rw [Bool.and_eq_true, Bool.not_eq_true', decide_eq_false_iff_not, hS]
      constructor
      · rintro ⟨⟨i, hi, e⟩, hne⟩
        rcases Nat.lt_or_ge i en with q | q
        · exact ⟨i, q, e⟩
        · exact absurd (by rw [← e, show i = en by omega]) hne
      · rintro ⟨i, hi, e⟩
        exact ⟨⟨i, by omega, e⟩, fun e2 => absurd (h2 i en (by omega) (by omega) (by rw [e, e2])) (by omega)⟩)
    rw [csum, ih, ← csum_one (x := g (row en)) (h1 en (by omega)), ← csum_add]
    refine csum_cong fun p hp => ?_
    by_cases e : p = row en
    · have hSp : S p = true := (hS p).mpr ⟨en, by omega, e.symm⟩
      subst e
      simp [hSp]
    · cases h : S p <;> simp [e]
/-! quarters -/
theorem qx (K : Nat → Int32) (p : Nat) (h : lnd (K p) = true) : ∃ j, lnd (K j) = true ∧ ∃ n, Wk (PB true K) j n p := ⟨p, h, 0, rfl⟩
noncomputable def qrt (K : Nat → Int32) (p : Nat) : Option Nat :=
  @dite _ (lnd (K p) = true) (instDecidableEqBool _ _) (fun h => some (Classical.choose (pk_least _ (qx K p h)))) (fun _ => none)
theorem qrt_some {K : Nat → Int32} {p j : Nat} : qrt K p = some j ↔ lnd (K p) = true ∧ (lnd (K j) = true ∧ ∃ n, Wk (PB true K) j n p) ∧ ∀ i, i < j → ¬ (lnd (K i) = true ∧ ∃ n, Wk (PB true K) i n p) := by
  unfold qrt
  by_cases h : lnd (K p) = true
  · rw [dif_pos h]
    have hs := Classical.choose_spec (pk_least _ (qx K p h))
    constructor
    · intro e
      cases e
      exact ⟨h, hs⟩
    · rintro ⟨-, h1, h2⟩
      congr 1
      rcases Nat.lt_trichotomy (Classical.choose (pk_least _ (qx K p h))) j with q | q | q
      · exact absurd hs.1 (h2 _ q)
      · exact q
      · exact absurd h1 (hs.2 _ q)
  · rw [dif_neg h]
    exact ⟨fun e => (by cases e), fun e => absurd e.1 h⟩
theorem qrt_none {K : Nat → Int32} {p : Nat} : qrt K p = none ↔ lnd (K p) = false := by
  unfold qrt
  by_cases h : lnd (K p) = true
  · rw [dif_pos h]; rw [h]; exact ⟨fun e => (by cases e), fun e => (by cases e)⟩
  · rw [dif_neg h]; exact ⟨fun _ => Bool.eq_false_iff.mpr h, fun _ => rfl⟩
theorem qrt_le {K : Nat → Int32} {p j : Nat} (h : qrt K p = some j) : j ≤ p := by
  obtain ⟨hp, -, h2⟩ := qrt_some.mp h
  rcases Nat.lt_or_ge p j with q | q
  · exact absurd ⟨hp, 0, rfl⟩ (h2 p q)
  · exact q
/-- two lots of one quarter tell the same -/
theorem qrt_same {K : Nat → Int32} {a p n : Nat} (ha : a < 64) (hl : lnd (K a) = true) (hw : Wk (PB true K) a n p) : qrt K p = qrt K a := by
  have hPa : PB true K a = true := hl
  have hp64 := Wk_lt ha hw
  have hPp : lnd (K p) = true := Wk_P hPa hw
  have hb := Wk_symm ha hPa hw
  cases hq : qrt K a with
  | none => rw [qrt_none, hl] at hq; cases hq
  | some j =>
    obtain ⟨-, ⟨h1, m, h2⟩, h3⟩ := qrt_some.mp hq
    refine qrt_some.mpr ⟨hPp, ⟨h1, m + n, Wk_trans h2 hw⟩, fun i hi => ?_⟩
    rintro ⟨g1, n2, g2⟩
    exact h3 i hi ⟨g1, _, Wk_trans g2 hb⟩
/-- the lots of the quarter whose least lot is a -/
theorem qrt_root {K : Nat → Int32} {a p : Nat} (ha : a < 64) (hq : qrt K a = some a) : qrt K p = some a ↔ (dst (PB true K) a p).isSome = true := by
  have hl : lnd (K a) = true := (qrt_some.mp hq).1
  rw [dst_reach]
  constructor
  · intro h
    exact (qrt_some.mp h).2.1.2
  · rintro ⟨n, hn⟩
    rw [qrt_same ha hl hn]; exact hq
theorem qrt_idem {K : Nat → Int32} {p j : Nat} (hp : p < 64) (h : qrt K p = some j) : qrt K j = some j := by
  obtain ⟨-, ⟨h1, n, h2⟩, -⟩ := qrt_some.mp h
  rw [← qrt_same (by have := qrt_le h; omega) h1 h2]; exact h
/-! what is told -/
def tel (K : Nat → Int32) (v : Int32) (o : Option Nat) : Int32 := match o with
  | some q => if K q = v then 1 else 0
  | none => 0
def nbS (nb : Nat → Nat → Option Nat) (K : Nat → Int32) (v : Int32) (p : Nat) : Nat → Int32
  | 0 => 0
  | s + 1 => nbS nb K v p s + tel K v (nb p s)
def nbk (K : Nat → Int32) (v : Int32) (p : Nat) : Int32 := nbS nbC K v p 4
theorem nbk_R (K : Nat → Int32) (v : Int32) (p : Nat) : nbS nbR K v p 4 = nbk K v p := by
  show 0 + tel K v (nbC p 2) + tel K v (nbC p 1) + tel K v (nbC p 3) + tel K v (nbC p 0) = 0 + tel K v (nbC p 0) + tel K v (nbC p 1) + tel K v (nbC p 2) + tel K v (nbC p 3)
  generalize tel K v (nbC p 0) = a
  generalize tel K v (nbC p 1) = b
  generalize tel K v (nbC p 2) = c
  generalize tel K v (nbC p 3) = d
  rw [Int32.zero_add, Int32.zero_add, i32_sw (c + b) d a, i32_sw c b a, Int32.add_comm c a, i32_sw a c b]
noncomputable def opn (K : Nat → Int32) (p : Nat) : Bool := (dst (PB false K) 3 p).isSome
noncomputable def opo (K : Nat → Int32) (o : Option Nat) : Bool := match o with
  | some q => opn K q
  | none => false
noncomputable def byB (K : Nat → Int32) (p : Nat) : Bool := lnd (K p) && !decide (K p = 6) && (opo K (nbC p 0) || opo K (nbC p 1) || opo K (nbC p 2) || opo K (nbC p 3))
noncomputable def lotsN (K : Nat → Int32) (j : Nat) (n : Nat) : Int32 := csum (fun p => if qrt K p = some j then 1 else 0) n
noncomputable def kindN (K : Nat → Int32) (v : Int32) (j : Nat) (n : Nat) : Int32 := csum (fun p => if qrt K p = some j then (if K p = v then 1 else 0) else 0) n
noncomputable def lotsQ (K : Nat → Int32) (p : Nat) : Int32 := match qrt K p with
  | some j => lotsN K j 64
  | none => 0
noncomputable def kindQ (K : Nat → Int32) (v : Int32) (p : Nat) : Int32 := match qrt K p with
  | some j => kindN K v j 64
  | none => 0
noncomputable def cpl (K : Nat → Int32) (p : Nat) : Int32 := if K p = 3 then (if kindQ K 5 p = 0 then 2 else 0) + nbk K 4 p + (if byB K p then 0 else 1) else 0
noncomputable def due (K : Nat → Int32) (p : Nat) : Int32 := if K p = 3 then (if 0 < 4 - cpl K p then 4 - cpl K p else 0) else if K p = 4 then (if byB K p then 5 else 2) else if K p = 5 then kindQ K 3 p / 2 else 0
def many (K : Nat → Int32) (v : Int32) : Int32 := csum (fun p => if K p = v then 1 else 0) 64
noncomputable def qall (K : Nat → Int32) : Int32 := csum (fun p => if qrt K p = some p then 1 else 0) 64
noncomputable def call (K : Nat → Int32) : Int32 := csum (cpl K) 64
noncomputable def dall (K : Nat → Int32) : Int32 := csum (due K) 64
noncomputable def lft (K : Nat → Int32) (p : Nat) : Bool := decide (K p = 3) && decide (4 ≤ cpl K p)
noncomputable def lv1 (K : Nat → Int32) (p : Nat) : Int32 := if lft K p then 2 else K p
noncomputable def lvN (K : Nat → Int32) : Int32 := csum (fun p => if lft K p then 1 else 0) 64
noncomputable def sk1 (K : Nat → Int32) (p : Nat) : Int32 := if K p = 2 ∧ 3 ≤ nbk K 0 p then 0 else K p
noncomputable def mon (K : Nat → Int32) : Nat → Int32 := sk1 (lv1 K)
noncomputable def itK (K : Nat → Int32) : Nat → (Nat → Int32)
  | 0 => K
  | n + 1 => mon (itK K n)
noncomputable def incS (K : Nat → Int32) (n : Nat) : Int32 := csum (fun i => dall (itK K i)) n
noncomputable def lftS (K : Nat → Int32) (n : Nat) : Int32 := csum (fun i => lvN (itK K i)) n
/-- the numbers that count tells -/
noncomputable def tot (K : Nat → Int32) (mo co le : Int32) (w : Int32) : Int32 := if w = 0 then mo else if w = 1 then co else if w = 9 then qall K else if w = 10 then call K else if w = 11 then dall K else if w = 12 then le else many K (w - 2)
noncomputable def fct (K : Nat → Int32) (p : Nat) (w : Int32) : Int32 := if w = 0 then K p else if w = 1 then toI (qrt K p) else if w = 2 then lotsQ K p else if w = 3 then b2i (byB K p || opn K p) else if w = 4 then cpl K p else due K p
/-- kinds are 0 to 6, and the sea gate is water -/
def kd (x : Int32) : Prop := 0 ≤ x ∧ x ≤ 6
def KOK (K : Nat → Int32) : Prop := (∀ p, p < 64 → kd (K p)) ∧ wtr (K 3) = true
/-- all that a survey finds -/
def hatQ (k Q : Nat → Int32) : Prop := ∀ p, p < 64 → Q p = toI (qrt k p)
def hatL (k L : Nat → Int32) : Prop := ∀ p, p < 64 → L p = lotsN k p 64
def hatV (k : Nat → Int32) (v : Int32) (F : Nat → Int32) : Prop := ∀ p, p < 64 → F p = kindN k v p 64
def hatB (k B : Nat → Int32) : Prop := ∀ p, p < 64 → B p = toI (dst (PB false k) 3 p)
def hatC (k C : Nat → Int32) : Prop := ∀ p, p < 64 → C p = cpl k p
def hatD (k D : Nat → Int32) : Prop := ∀ p, p < 64 → D p = due k p
def eqK (K k : Nat → Int32) : Prop := ∀ p, p < 64 → K p = k p
def SVd (k Q L Ho Ma B C D : Nat → Int32) : Prop := hatQ k Q ∧ hatL k L ∧ hatV k 3 Ho ∧ hatV k 5 Ma ∧ hatB k B ∧ hatC k C ∧ hatD k D
theorem toI_neg {o : Option Nat} (h : ∀ q, o = some q → q < 2 ^ 31) : toI o < 0 ↔ o = none := by
  cases o with
  | none => exact ⟨fun _ => rfl, fun _ => by decide⟩
  | some q => exact ⟨fun g => absurd g (nI_pos (h q rfl)), fun g => by cases g⟩
theorem dst_lt {P : Nat → Bool} {a p d : Nat} (ha : a < 64) (h : dst P a p = some d) : d < 64 := by
  have hw := dst_some.mp h
  -- every shorter way ends at a lot of its own
  refine Classical.byContradiction fun hge => ?_
  have key : ∀ n q, Wk P a n q → ∀ m, m ≤ n → ∃ r, Wk P a m r ∧ ∀ j, Wk P a j r → Wk P a (j + (n - m)) q := by
    intro n
    induction n with
    | zero => intro q hq m hm; exact ⟨q, by rw [show m = 0 by omega]; exact hq, fun j hj => by rw [show j + (0 - m) = j by omega]; exact hj⟩
    | succ n ih =>
      intro q hq m hm
      rcases Nat.lt_or_ge n m with g | g
      · exact ⟨q, by rw [show m = n + 1 by omega]; exact hq, fun j hj => by rw [show j + (n + 1 - m) = j by omega]; exact hj⟩
      · obtain ⟨hP, r, hr, hrq⟩ := hq
        obtain ⟨x, hx, hx2⟩ := ih r hr m g
        exact ⟨x, hx, fun j hj => by rw [show j + (n + 1 - m) = j + (n - m) + 1 by omega]; exact ⟨hP, r, hx2 j hj, hrq⟩⟩
  have hch : ∀ m, ∃ r, m ≤ d → Wk P a m r ∧ ∀ j, Wk P a j r → Wk P a (j + (d - m)) p := fun m => by
    by_cases hm : m ≤ d
    · obtain ⟨r, h1, h2⟩ := key d p hw.1 m hm
      exact ⟨r, fun _ => ⟨h1, h2⟩⟩
    · exact ⟨0, fun h => absurd h hm⟩
  have hf : ∀ m, m ≤ d → Wk P a m (Classical.choose (hch m)) ∧ ∀ j, Wk P a j (Classical.choose (hch m)) → Wk P a (j + (d - m)) p := fun m => Classical.choose_spec (hch m)
  have := fb_holes 64 (d + 1) (fun m => Classical.choose (hch m)) (fun i hi => Wk_lt ha (hf i (by omega)).1) (fun i j hij hj e => by
    have h1 := (hf j (by omega)).2 i (by
      have e : Classical.choose (hch i) = Classical.choose (hch j) := e
      rw [← e]; exact (hf i (by omega)).1)
    exact hw.2 (i + (d - j)) (by omega) h1)
  omega
end
section
-- ===== PART A: goes FIRST, ahead of the names: the tables' words, and 'selects' of the private methods out of them =====
/-- a private method of a class that the tables say can be made, by its rows of tables_1 -/
def lw_okq (q : MethodName × Nat) : Prop := (q.1.cls ≠ "java/lang/invoke/MethodHandle" ∧ q.1.cls ≠ "java/lang/invoke/VarHandle") ∧ Cond.instantiable q.1.cls q.2 ∈ tables_1 ∧ Cond.privateMethod q.1 ∈ tables_1 ∧ Cond.instanceMethod q.1 ∈ tables_1
theorem lw_p0 : lw_okq (⟨"CanalCity$City", "surveyQuarters", "()V"⟩, 13) := ⟨⟨by decide +kernel, by decide +kernel⟩, List.mem_of_getElem? (i := 21) (by decide +kernel), List.mem_of_getElem? (i := 31) (by decide +kernel), List.mem_of_getElem? (i := 32) (by decide +kernel)⟩
theorem lw_p1 : lw_okq (⟨"CanalCity$City", "spread", "([IIZII)V"⟩, 13) := ⟨⟨by decide +kernel, by decide +kernel⟩, List.mem_of_getElem? (i := 21) (by decide +kernel), List.mem_of_getElem? (i := 41) (by decide +kernel), List.mem_of_getElem? (i := 42) (by decide +kernel)⟩
theorem lw_p2 : lw_okq (⟨"CanalCity$City", "enter", "(II)V"⟩, 13) := ⟨⟨by decide +kernel, by decide +kernel⟩, List.mem_of_getElem? (i := 21) (by decide +kernel), List.mem_of_getElem? (i := 54) (by decide +kernel), List.mem_of_getElem? (i := 55) (by decide +kernel)⟩
theorem lw_p3 : lw_okq (⟨"CanalCity$City", "complaintsAt", "(I)I"⟩, 13) := ⟨⟨by decide +kernel, by decide +kernel⟩, List.mem_of_getElem? (i := 21) (by decide +kernel), List.mem_of_getElem? (i := 58) (by decide +kernel), List.mem_of_getElem? (i := 59) (by decide +kernel)⟩
theorem lw_p4 : lw_okq (⟨"CanalCity$City", "marketsInQuarter", "(I)I"⟩, 13) := ⟨⟨by decide +kernel, by decide +kernel⟩, List.mem_of_getElem? (i := 21) (by decide +kernel), List.mem_of_getElem? (i := 62) (by decide +kernel), List.mem_of_getElem? (i := 63) (by decide +kernel)⟩
theorem lw_p5 : lw_okq (⟨"CanalCity$City", "isByBoat", "(I)Z"⟩, 13) := ⟨⟨by decide +kernel, by decide +kernel⟩, List.mem_of_getElem? (i := 21) (by decide +kernel), List.mem_of_getElem? (i := 66) (by decide +kernel), List.mem_of_getElem? (i := 67) (by decide +kernel)⟩
theorem lw_p6 : lw_okq (⟨"CanalCity$City", "isOpenWater", "(I)Z"⟩, 13) := ⟨⟨by decide +kernel, by decide +kernel⟩, List.mem_of_getElem? (i := 21) (by decide +kernel), List.mem_of_getElem? (i := 70) (by decide +kernel), List.mem_of_getElem? (i := 71) (by decide +kernel)⟩
theorem lw_p7 : lw_okq (⟨"CanalCity$City", "neighboursOfKind", "(II)I"⟩, 13) := ⟨⟨by decide +kernel, by decide +kernel⟩, List.mem_of_getElem? (i := 21) (by decide +kernel), List.mem_of_getElem? (i := 74) (by decide +kernel), List.mem_of_getElem? (i := 75) (by decide +kernel)⟩
theorem lw_p8 : lw_okq (⟨"CanalCity$City", "duesAt", "(I)I"⟩, 13) := ⟨⟨by decide +kernel, by decide +kernel⟩, List.mem_of_getElem? (i := 21) (by decide +kernel), List.mem_of_getElem? (i := 78) (by decide +kernel), List.mem_of_getElem? (i := 79) (by decide +kernel)⟩
theorem lw_p9 : lw_okq (⟨"CanalCity$City", "housesInQuarter", "(I)I"⟩, 13) := ⟨⟨by decide +kernel, by decide +kernel⟩, List.mem_of_getElem? (i := 21) (by decide +kernel), List.mem_of_getElem? (i := 85) (by decide +kernel), List.mem_of_getElem? (i := 86) (by decide +kernel)⟩
theorem lw_p10 : lw_okq (⟨"CanalCity$City", "quartersOfAll", "()I"⟩, 13) := ⟨⟨by decide +kernel, by decide +kernel⟩, List.mem_of_getElem? (i := 21) (by decide +kernel), List.mem_of_getElem? (i := 165) (by decide +kernel), List.mem_of_getElem? (i := 166) (by decide +kernel)⟩
theorem lw_p11 : lw_okq (⟨"java/lang/Throwable", "fillInStackTrace", "(I)Ljava/lang/Throwable;"⟩, 6) := ⟨⟨by decide +kernel, by decide +kernel⟩, List.mem_of_getElem? (i := 233) (by decide +kernel), List.mem_of_getElem? (i := 231) (by decide +kernel), List.mem_of_getElem? (i := 232) (by decide +kernel)⟩
theorem lw_p12 : lw_okq (⟨"CanalCity", "checkCoins", "(I)V"⟩, 2) := ⟨⟨by decide +kernel, by decide +kernel⟩, List.mem_of_getElem? (i := 13) (by decide +kernel), List.mem_of_getElem? (i := 279) (by decide +kernel), List.mem_of_getElem? (i := 280) (by decide +kernel)⟩
theorem lw_p13 : lw_okq (⟨"CanalCity", "checkDrained", "(I)V"⟩, 2) := ⟨⟨by decide +kernel, by decide +kernel⟩, List.mem_of_getElem? (i := 13) (by decide +kernel), List.mem_of_getElem? (i := 327) (by decide +kernel), List.mem_of_getElem? (i := 328) (by decide +kernel)⟩
theorem lw_p14 : lw_okq (⟨"CanalCity$City", "leaveHouses", "()V"⟩, 13) := ⟨⟨by decide +kernel, by decide +kernel⟩, List.mem_of_getElem? (i := 21) (by decide +kernel), List.mem_of_getElem? (i := 411) (by decide +kernel), List.mem_of_getElem? (i := 412) (by decide +kernel)⟩
theorem lw_p15 : lw_okq (⟨"CanalCity$City", "sinkLots", "()V"⟩, 13) := ⟨⟨by decide +kernel, by decide +kernel⟩, List.mem_of_getElem? (i := 21) (by decide +kernel), List.mem_of_getElem? (i := 415) (by decide +kernel), List.mem_of_getElem? (i := 416) (by decide +kernel)⟩
def lw_privs_1 : List (MethodName × Nat) := [(⟨"CanalCity$City", "surveyQuarters", "()V"⟩, 13), (⟨"CanalCity$City", "spread", "([IIZII)V"⟩, 13), (⟨"CanalCity$City", "enter", "(II)V"⟩, 13), (⟨"CanalCity$City", "complaintsAt", "(I)I"⟩, 13), (⟨"CanalCity$City", "marketsInQuarter", "(I)I"⟩, 13), (⟨"CanalCity$City", "isByBoat", "(I)Z"⟩, 13), (⟨"CanalCity$City", "isOpenWater", "(I)Z"⟩, 13), (⟨"CanalCity$City", "neighboursOfKind", "(II)I"⟩, 13), (⟨"CanalCity$City", "duesAt", "(I)I"⟩, 13), (⟨"CanalCity$City", "housesInQuarter", "(I)I"⟩, 13), (⟨"CanalCity$City", "quartersOfAll", "()I"⟩, 13), (⟨"java/lang/Throwable", "fillInStackTrace", "(I)Ljava/lang/Throwable;"⟩, 6), (⟨"CanalCity", "checkCoins", "(I)V"⟩, 2), (⟨"CanalCity", "checkDrained", "(I)V"⟩, 2), (⟨"CanalCity$City", "leaveHouses", "()V"⟩, 13), (⟨"CanalCity$City", "sinkLots", "()V"⟩, 13)]
theorem lw_r1 : ∀ q ∈ lw_privs_1, lw_okq q := List.forall_mem_cons.mpr ⟨lw_p0, List.forall_mem_cons.mpr ⟨lw_p1, List.forall_mem_cons.mpr ⟨lw_p2, List.forall_mem_cons.mpr ⟨lw_p3, List.forall_mem_cons.mpr ⟨lw_p4, List.forall_mem_cons.mpr ⟨lw_p5, List.forall_mem_cons.mpr ⟨lw_p6, List.forall_mem_cons.mpr ⟨lw_p7, List.forall_mem_cons.mpr ⟨lw_p8, List.forall_mem_cons.mpr ⟨lw_p9, List.forall_mem_cons.mpr ⟨lw_p10, List.forall_mem_cons.mpr ⟨lw_p11, List.forall_mem_cons.mpr ⟨lw_p12, List.forall_mem_cons.mpr ⟨lw_p13, List.forall_mem_cons.mpr ⟨lw_p14, List.forall_mem_cons.mpr ⟨lw_p15, fun _ h => absurd h List.not_mem_nil⟩⟩⟩⟩⟩⟩⟩⟩⟩⟩⟩⟩⟩⟩⟩⟩
theorem lw_p16 : lw_okq (⟨"CanalCity", "duesWith", "(II)I"⟩, 2) := ⟨⟨by decide +kernel, by decide +kernel⟩, List.mem_of_getElem? (i := 13) (by decide +kernel), List.mem_of_getElem? (i := 439) (by decide +kernel), List.mem_of_getElem? (i := 440) (by decide +kernel)⟩
theorem lw_p17 : lw_okq (⟨"CanalCityModel", "no", "(I)I"⟩, 14) := ⟨⟨by decide +kernel, by decide +kernel⟩, List.mem_of_getElem? (i := 451) (by decide +kernel), List.mem_of_getElem? (i := 514) (by decide +kernel), List.mem_of_getElem? (i := 515) (by decide +kernel)⟩
theorem lw_p18 : lw_okq (⟨"CanalCityModel", "isBuilt", "(III)Z"⟩, 14) := ⟨⟨by decide +kernel, by decide +kernel⟩, List.mem_of_getElem? (i := 451) (by decide +kernel), List.mem_of_getElem? (i := 518) (by decide +kernel), List.mem_of_getElem? (i := 519) (by decide +kernel)⟩
theorem lw_p19 : lw_okq (⟨"CanalCityModel", "fill", "([IIZ)I"⟩, 14) := ⟨⟨by decide +kernel, by decide +kernel⟩, List.mem_of_getElem? (i := 451) (by decide +kernel), List.mem_of_getElem? (i := 536) (by decide +kernel), List.mem_of_getElem? (i := 537) (by decide +kernel)⟩
theorem lw_p20 : lw_okq (⟨"CanalCityModel", "look", "([I)I"⟩, 14) := ⟨⟨by decide +kernel, by decide +kernel⟩, List.mem_of_getElem? (i := 451) (by decide +kernel), List.mem_of_getElem? (i := 557) (by decide +kernel), List.mem_of_getElem? (i := 558) (by decide +kernel)⟩
theorem lw_p21 : lw_okq (⟨"CanalCityModel", "lotTold", "(II)I"⟩, 14) := ⟨⟨by decide +kernel, by decide +kernel⟩, List.mem_of_getElem? (i := 451) (by decide +kernel), List.mem_of_getElem? (i := 561) (by decide +kernel), List.mem_of_getElem? (i := 562) (by decide +kernel)⟩
theorem lw_p22 : lw_okq (⟨"CanalCityModel", "isByBoat", "([II)Z"⟩, 14) := ⟨⟨by decide +kernel, by decide +kernel⟩, List.mem_of_getElem? (i := 451) (by decide +kernel), List.mem_of_getElem? (i := 565) (by decide +kernel), List.mem_of_getElem? (i := 566) (by decide +kernel)⟩
theorem lw_p23 : lw_okq (⟨"CanalCityModel", "complaints", "([II)I"⟩, 14) := ⟨⟨by decide +kernel, by decide +kernel⟩, List.mem_of_getElem? (i := 451) (by decide +kernel), List.mem_of_getElem? (i := 569) (by decide +kernel), List.mem_of_getElem? (i := 570) (by decide +kernel)⟩
theorem lw_p24 : lw_okq (⟨"CanalCityModel", "dues", "([II)I"⟩, 14) := ⟨⟨by decide +kernel, by decide +kernel⟩, List.mem_of_getElem? (i := 451) (by decide +kernel), List.mem_of_getElem? (i := 576) (by decide +kernel), List.mem_of_getElem? (i := 577) (by decide +kernel)⟩
theorem lw_p25 : lw_okq (⟨"CanalCityModel", "counted", "(I)I"⟩, 14) := ⟨⟨by decide +kernel, by decide +kernel⟩, List.mem_of_getElem? (i := 451) (by decide +kernel), List.mem_of_getElem? (i := 585) (by decide +kernel), List.mem_of_getElem? (i := 586) (by decide +kernel)⟩
theorem lw_p26 : lw_okq (⟨"CanalCityModel", "counted", "([IIIII)I"⟩, 14) := ⟨⟨by decide +kernel, by decide +kernel⟩, List.mem_of_getElem? (i := 451) (by decide +kernel), List.mem_of_getElem? (i := 589) (by decide +kernel), List.mem_of_getElem? (i := 590) (by decide +kernel)⟩
theorem lw_p27 : lw_okq (⟨"CanalCityModel", "sum", "([IZ)I"⟩, 14) := ⟨⟨by decide +kernel, by decide +kernel⟩, List.mem_of_getElem? (i := 451) (by decide +kernel), List.mem_of_getElem? (i := 593) (by decide +kernel), List.mem_of_getElem? (i := 594) (by decide +kernel)⟩
theorem lw_p28 : lw_okq (⟨"CanalCityModel", "leave", "([I)I"⟩, 14) := ⟨⟨by decide +kernel, by decide +kernel⟩, List.mem_of_getElem? (i := 451) (by decide +kernel), List.mem_of_getElem? (i := 612) (by decide +kernel), List.mem_of_getElem? (i := 613) (by decide +kernel)⟩
theorem lw_p29 : lw_okq (⟨"CanalCityModel", "sink", "([I)V"⟩, 14) := ⟨⟨by decide +kernel, by decide +kernel⟩, List.mem_of_getElem? (i := 451) (by decide +kernel), List.mem_of_getElem? (i := 616) (by decide +kernel), List.mem_of_getElem? (i := 617) (by decide +kernel)⟩
theorem lw_p30 : lw_okq (⟨"CanalCityModel", "duesWith", "(II)I"⟩, 14) := ⟨⟨by decide +kernel, by decide +kernel⟩, List.mem_of_getElem? (i := 451) (by decide +kernel), List.mem_of_getElem? (i := 631) (by decide +kernel), List.mem_of_getElem? (i := 632) (by decide +kernel)⟩
def lw_privs_2 : List (MethodName × Nat) := [(⟨"CanalCity", "duesWith", "(II)I"⟩, 2), (⟨"CanalCityModel", "no", "(I)I"⟩, 14), (⟨"CanalCityModel", "isBuilt", "(III)Z"⟩, 14), (⟨"CanalCityModel", "fill", "([IIZ)I"⟩, 14), (⟨"CanalCityModel", "look", "([I)I"⟩, 14), (⟨"CanalCityModel", "lotTold", "(II)I"⟩, 14), (⟨"CanalCityModel", "isByBoat", "([II)Z"⟩, 14), (⟨"CanalCityModel", "complaints", "([II)I"⟩, 14), (⟨"CanalCityModel", "dues", "([II)I"⟩, 14), (⟨"CanalCityModel", "counted", "(I)I"⟩, 14), (⟨"CanalCityModel", "counted", "([IIIII)I"⟩, 14), (⟨"CanalCityModel", "sum", "([IZ)I"⟩, 14), (⟨"CanalCityModel", "leave", "([I)I"⟩, 14), (⟨"CanalCityModel", "sink", "([I)V"⟩, 14), (⟨"CanalCityModel", "duesWith", "(II)I"⟩, 14)]
theorem lw_r2 : ∀ q ∈ lw_privs_2, lw_okq q := List.forall_mem_cons.mpr ⟨lw_p16, List.forall_mem_cons.mpr ⟨lw_p17, List.forall_mem_cons.mpr ⟨lw_p18, List.forall_mem_cons.mpr ⟨lw_p19, List.forall_mem_cons.mpr ⟨lw_p20, List.forall_mem_cons.mpr ⟨lw_p21, List.forall_mem_cons.mpr ⟨lw_p22, List.forall_mem_cons.mpr ⟨lw_p23, List.forall_mem_cons.mpr ⟨lw_p24, List.forall_mem_cons.mpr ⟨lw_p25, List.forall_mem_cons.mpr ⟨lw_p26, List.forall_mem_cons.mpr ⟨lw_p27, List.forall_mem_cons.mpr ⟨lw_p28, List.forall_mem_cons.mpr ⟨lw_p29, List.forall_mem_cons.mpr ⟨lw_p30, fun _ h => absurd h List.not_mem_nil⟩⟩⟩⟩⟩⟩⟩⟩⟩⟩⟩⟩⟩⟩⟩
def lw_privs : List (MethodName × Nat) := lw_privs_1 ++ (lw_privs_2)
def lw_tbl : List Cond := k2_sels lw_privs ++ tables_1
theorem lw_privs_ok : ∀ q ∈ lw_privs, lw_okq q := by
  show ∀ q ∈ lw_privs_1 ++ (lw_privs_2), lw_okq q
  exact List.forall_mem_append.mpr ⟨lw_r1, lw_r2⟩
/-- the streams that the claim lets the run draw from -/
abbrev lw_cs : List Choice := [Jvm.Choice.named "NaN.bits"]
theorem lw_bits : nanBits ∈ lw_cs := by first | decide | exact List.mem_cons_self | simp [lw_cs, nanBits]
end
section
/-! ===== BEGIN words of one list among another's, by their places ===== -/
theorem goodIn_r {big : List Cond} (ws : List Cond) (ps : List Nat) (hp : ws = ps.filterMap (fun i => big[i]?)) (h : ws.all goodWord = true) : GoodIn big ws := by
  intro w hw
  have h1 := List.all_eq_true.mp h w hw
  rw [hp] at hw
  obtain ⟨i, -, hi⟩ := List.mem_filterMap.mp hw
  have hm : w ∈ big := by first | exact List.mem_of_getElem? hi | exact List.getElem?_mem hi
  exact ⟨hm, good_of_word h1⟩
theorem goodIn_app {big a b : List Cond} (ha : GoodIn big a) (hb : GoodIn big b) : GoodIn big (a ++ b) := fun w h => (List.mem_append.mp h).elim (ha w) (hb w)
theorem goodIn_ca {big a b : List Cond} {c : Cond} (ha : GoodIn big (c :: a)) (hb : GoodIn big b) : GoodIn big (c :: (a ++ b)) := fun w h => (List.mem_cons.mp h).elim (fun e => ha w (List.mem_cons.mpr (Or.inl e))) (fun h => (List.mem_append.mp h).elim (fun h => ha w (List.mem_cons.mpr (Or.inr h))) (hb w))
theorem goodIn_sub {big ws : List Cond} (hm : ∀ w ∈ ws, w ∈ big) (h : ws.all goodWord = true) : GoodIn big ws := fun w hw => ⟨hm w hw, good_of_word (List.all_eq_true.mp h w hw)⟩
/-! ===== END ===== -/

/-! ===== BEGIN exceptions that leave a method, and their catching by the caller (launches without stack traces) ===== -/
section VXA
/-! The laws vx_back, vx_callV, vx_callS, vx_callSW, vx_throw0, vx_throwS follow proofs of the library, with one case more: JvmDerived/Free/Laws.lean (Back.of_free), Shelf42/LK1.lean (callV, callS), Shelf/KitTraced.lean (throwNew0V, throwNewS). -/
/-- where a method has thrown q: the class by its name, the cell, what was written, the world -/
def vx_T (XC : String → State → State → Prop) (st : State) (q : Addr) (t : State) (mc ms : Nat) (free : Addr → Prop) : Prop :=
  ∃ (E : String) (ce : Cell) (L : List Loc), XC E st t ∧ t.heap[q]? = some ce ∧ ce.vm = .none ∧ st.vm.findClass E = some ce.cls ∧ st.WarmedH t.vm ∧ st.sameButNew ({ t with vm := st.vm } : State) L mc ms ∧ ∀ z ∈ L, free z.base
def vx_Q (Qc : Array Value → State → Outcome → State → Prop) (XC : String → State → State → Prop) (mc ms : Nat) (free : Addr → Prop) : Array Value → State → Outcome → State → Prop := fun a st o t =>
  (Qc a st o t ∧ ∃ L, FrameEnd st o t L mc ms ∧ ∀ q ∈ L, free q.base) ∨ ∃ q, o = .threw q ∧ vx_T XC st q t mc ms free
/-- a callee that returns or throws -/
def vx_Met (l : Launch) (y : MethodName) (ws : List Cond) (rm : Room) (Pc : Array Value → State → Prop) (Qc : Array Value → State → Outcome → State → Prop) (XC : String → State → State → Prop) (mc ms : Nat) (free : Addr → Prop) : Prop :=
  MetFree l y (headSpec ws rm) Pc (fun _ _ _ _ _ => True) (vx_Q Qc XC mc ms free)
def vx_Post (XC : String → State → State → Prop) (mc ms : Nat) (free : Addr → Prop) : Pt → Array Value → Addr → Pt → Prop := fun A a q B =>
  ∃ (g : JFrame) (mk : MethodId) (t : State) (L : List Loc) (E : String) (ce : Cell), B.U.heap = t.heap ∧ B.U.vm = t.vm ∧ XC E (A.U.calling g mk a) t ∧ t.heap[q]? = some ce ∧ ce.vm = .none ∧ A.U.vm.findClass E = some ce.cls ∧ B.locs = A.locs ++ L ∧ (∀ z ∈ L, free z.base) ∧ B.cells = A.cells + mc ∧ B.slots = A.slots + ms
def vx_Back (l : Launch) (R : Room) (p : Program) (e : Env) (below : List Frame) (s : State) (sargs : Array Value) (y : MethodName) (len W9 : Nat)
    (Pre : Pt → Array Value → Prop) (Post : Pt → Array Value → Option Value → Pt → Prop) (PostX : Pt → Array Value → Addr → Pt → Prop) : Prop :=
  ∀ (m : MethodId) (meth : Method) (c : Code) (A : Pt) (g : JFrame) (ig : Instr) (mk : MethodId) (a : Array Value),
    Stand p l e R s m sargs below meth c A.U A.locs A.cells A.slots → g.method = m → g.locals.size = c.maxLocals → decode c.code g.pc = .ok (ig, len) →
    2 * g.monitorRoom + (g.stack.map fun v => v.category).sum ≤ W9 → A.U.methodNamed? y = some mk → Pre A a →
    (∃ (v : Option Value) (B : Pt), Stand p l e R s m sargs below meth c B.U B.locs B.cells B.slots ∧ Post A a v B ∧
      Steps p.tables e below (doInvoke e (A.U.setTop g) [] mk a).1 (B.U.setTop { g with pc := g.pc + len, stack := v.toList ++ g.stack })) ∨
    (∃ (q : Addr) (B : Pt), Stand p l e R s m sargs below meth c B.U B.locs B.cells B.slots ∧ PostX A a q B ∧
      Steps p.tables e below (doInvoke e (A.U.setTop g) [] mk a).1 ((B.U.setTop g).pushFrame (.throwing q)))
section Payer
variable {l : Launch} {R : Room} {p : Program} {e : Env} {below : List Frame} {s : State} {sargs : Array Value} {y : MethodName} {len W9 : Nat}
theorem vx_back {ws : List Cond} {rm : Room} {Pc : Array Value → State → Prop} {Qc : Array Value → State → Outcome → State → Prop} {XC : String → State → State → Prop} {mc ms : Nat} {free : Addr → Prop} {bytes : ByteArray} {maxL : Nat} {ret : Option FieldType}
    (hM : vx_Met l y ws rm Pc Qc XC mc ms free) (hblind : FrameBlind Pc) (hrc : rm.cells = mc) (hrs : rm.slots = ms)
    (hframes : rm.frames + 1 ≤ R.frames) (hlocals : W9 + (maxL + 11) + rm.locals ≤ R.locals)
    (hws : ∀ w ∈ ws, ∀ a' U, s.WarmedH U.vm → w.before a' U = true) (hcode : Cond.code y bytes maxL ret ∈ ws) (hinit : ∀ a' U, s.WarmedH U.vm → (Cond.initialized y.cls).before a' U = true) :
    vx_Back l R p e below s sargs y len W9 (PreOf R mc ms Pc) (PostOf Qc mc ms free) (vx_Post XC mc ms free) := by
  intro m meth c A g ig mk a X hg hsize hdg hW hn hp
  have h1 : (headSpec ws rm).pre.before a A.U = true := atoms_intro fun w hw => hws w hw _ _ X.warmed
  have h2 : (Cond.code y bytes maxL ret).before a A.U = true := hws _ hcode _ _ X.warmed
  have h3 : (Cond.initialized y.cls).before a A.U = true := hinit _ _ X.warmed
  have h4 : A.cells + (headSpec ws rm).room.cells ≤ R.cells := by rw [show (headSpec ws rm).room.cells = mc from hrc]; exact hp.1
  have h5 : A.slots + (headSpec ws rm).room.slots ≤ R.slots := by rw [show (headSpec ws rm).room.slots = ms from hrs]; exact hp.2.1
  have hPc : Pc a (A.U.calling g mk a) := hblind _ _ _ _ hp.2.2
  obtain ⟨U, Ls, c0, s0⟩ := A
  dsimp only [Pt.U, Pt.locs, Pt.cells, Pt.slots] at h1 h2 h3 h4 h5 X hn hPc ⊢
  obtain ⟨methY, cY, hmY, hcY, -, hlY, -, -, -, -⟩ := Cond.code_spec hn h2
  obtain ⟨kY, hkY, -⟩ := className_of_methodNamed hn
  have hinitY : kY.init = .initialized := Cond.initialized_spec (findClass_of_methodNamed hn) hkY h3
  have h : At U g.method c below := by rw [hg]; exact X.here
  have hlocals9 : W9 + (maxL + 11) + (headSpec ws rm).room.locals ≤ R.locals := hlocals
  have happ : (headSpec ws rm).appliesLoose y e.platform (U.calling g mk a) = true :=
    Spec.appliesLoose_calling (g := g) h hdg hn hkY hinitY
      (X.room_calling (g := g) (R' := (headSpec ws rm).room) hsize hmY hcY hframes (by rw [hlY]; omega) h4 h5) h1
  obtain ⟨mid, hmid⟩ := h.above
  have hfr : (U.setTop g).frames = (.java g :: mid) ++ below := by rw [State.frames_setTop' g h.top, hmid]; rfl
  obtain ⟨o, s₂, hsteps, -, hend, hq⟩ := Steps.callFree hM p X.admits X.cas X.clock (acts := []) hfr happ hPc trivial
  have hq' : vx_Q Qc XC mc ms free a (U.calling g mk a) o s₂ := hq
  rw [State.frames_setTop' g h.top] at hend
  obtain ⟨g₀, hg0⟩ := Option.isSome_iff_exists.mp h.top
  obtain ⟨r, hr⟩ := State.topJava?_eq_some.mp hg0
  have hr' : (({ U with heap := s₂.heap, slotsUsed := s₂.slotsUsed } : State).setVm s₂.vm).frames = .java g₀ :: r := hr
  rcases hq' with ⟨hqc, L, hfe, hL⟩ | ⟨q, rfl, E, ce, L, hx, hce, hcv, hcl, hW₂, hsm, hL⟩
  · obtain ⟨⟨v, rfl⟩, hW₂, e2, q2, q3, q4, q5, q6⟩ := id hfe
    have e3 : s₂ = ({ (U.calling g mk a).setFrames s₂.frames with heap := s₂.heap, slotsUsed := s₂.slotsUsed } : State).setVm s₂.vm := by
      have : s₂ = ({ s₂ with vm := (U.calling g mk a).vm } : State).setVm s₂.vm := rfl
      rw [e2] at this
      exact this
    obtain ⟨c₂, i₂, len₂, hc₂, hd₂, hf₂⟩ := hend
    have hW' : U.WarmedH s₂.vm := hW₂
    have hcc : c₂ = c := by
      have h1 : s₂.code? g.method = U.code? g.method := by
        rw [State.code?_eq, State.code?_eq, hW'.alike.method?]
      exact Option.some.inj (hc₂.symm.trans (h1.trans h.code))
    subst hcc
    have hlen : len₂ = len := by rw [hdg] at hd₂; cases hd₂; rfl
    subst hlen
    have hs₂ : s₂ = (({ U with heap := s₂.heap, slotsUsed := s₂.slotsUsed } : State).setVm s₂.vm).setTop { g with pc := g.pc + len₂, stack := v.toList ++ g.stack } := by
      refine e3.trans ?_
      rw [hf₂, State.calling_eq h.top, State.setFrames_setFrames, State.setTop_of_frames _ hr', hr]
      rfl
    have hsame : U.sameButNew ({ U with heap := s₂.heap, slotsUsed := s₂.slotsUsed } : State) L mc ms := by
      refine ⟨?_, q2, q3, q4, q5, q6⟩
      obtain ⟨t, ht, -⟩ := State.frames_cons hr
      show ({ U with heap := s₂.heap, slotsUsed := s₂.slotsUsed } : State) = { U.setFrames U.frames with heap := s₂.heap, slotsUsed := s₂.slotsUsed }
      rw [State.setFrames_self ht]
    subst hg
    refine Or.inl ⟨v, ⟨(({ U with heap := s₂.heap, slotsUsed := s₂.slotsUsed } : State).setVm s₂.vm), Ls ++ L, c0 + mc, s0 + ms⟩,
      ⟨X.admits, X.cas, X.clock, X.frames, X.room, X.hears, X.method, X.code, (X.here.setHeapUsed s₂.heap s₂.slotsUsed).setVm hW'.alike, X.tail, State.WarmedH.trans X.warmed hW', X.limits, X.bytes, X.same.trans (hsame.setVm s.vm)⟩,
      ⟨g, mk, s₂, L, rfl, rfl, hqc, rfl, hL, rfl, rfl⟩, ?_⟩
    show Steps p.tables e below _ ((({ U with heap := s₂.heap, slotsUsed := s₂.slotsUsed } : State).setVm s₂.vm).setTop { g with pc := g.pc + len₂, stack := v.toList ++ g.stack })
    rw [← hs₂]
    exact hsteps
  · obtain ⟨e2, q2, q3, q4, q5, q6⟩ := id hsm
    have e3 : s₂ = ({ (U.calling g mk a).setFrames s₂.frames with heap := s₂.heap, slotsUsed := s₂.slotsUsed } : State).setVm s₂.vm := by
      have : s₂ = ({ s₂ with vm := (U.calling g mk a).vm } : State).setVm s₂.vm := rfl
      rw [e2] at this
      exact this
    have hf₂ : s₂.frames = .throwing q :: .java g :: U.frames.tail := hend
    have hW' : U.WarmedH s₂.vm := hW₂
    have hs₂ : s₂ = ((({ U with heap := s₂.heap, slotsUsed := s₂.slotsUsed } : State).setVm s₂.vm).setTop g).pushFrame (.throwing q) := by
      refine e3.trans ?_
      rw [hf₂, State.calling_eq h.top, State.setFrames_setFrames, State.pushFrame, State.frames_setTop _ hr', State.setTop_of_frames _ hr', State.setFrames_setFrames, hr]
      rfl
    have hsame : U.sameButNew ({ U with heap := s₂.heap, slotsUsed := s₂.slotsUsed } : State) L mc ms := by
      refine ⟨?_, q2, q3, q4, q5, q6⟩
      obtain ⟨t, ht, -⟩ := State.frames_cons hr
      show ({ U with heap := s₂.heap, slotsUsed := s₂.slotsUsed } : State) = { U.setFrames U.frames with heap := s₂.heap, slotsUsed := s₂.slotsUsed }
      rw [State.setFrames_self ht]
    subst hg
    refine Or.inr ⟨q, ⟨(({ U with heap := s₂.heap, slotsUsed := s₂.slotsUsed } : State).setVm s₂.vm), Ls ++ L, c0 + mc, s0 + ms⟩,
      ⟨X.admits, X.cas, X.clock, X.frames, X.room, X.hears, X.method, X.code, (X.here.setHeapUsed s₂.heap s₂.slotsUsed).setVm hW'.alike, X.tail, State.WarmedH.trans X.warmed hW', X.limits, X.bytes, X.same.trans (hsame.setVm s.vm)⟩,
      ⟨g, mk, s₂, L, E, ce, rfl, rfl, hx, hce, hcv, hcl, rfl, hL, rfl, rfl⟩, ?_⟩
    show Steps p.tables e below _ (((({ U with heap := s₂.heap, slotsUsed := s₂.slotsUsed } : State).setVm s₂.vm).setTop g).pushFrame (.throwing q))
    rw [← hs₂]
    exact hsteps
end Payer
section Calls
variable {p : Program} {l : Launch} {e : Env} {R : Room} {s : State} {m : MethodId} {args : Array Value} {below : List Frame} {meth : Method} {c : Code} {T : State} {locs : List Loc} {cells slots : Nat}
theorem vx_callV (X : Stand p l e R s m args below meth c T locs cells slots) (hexec : p.tables.exec = Jvm.exec) {own C : String} {index : Nat} {y : MethodName} {bytes : ByteArray} {maxL : Nat} {ret : Option FieldType}
    (hown : s.vm.findClass own = some m.cls) (hlink : (Cond.methodLink own index y).before args s = true) (hinst : (Cond.instanceMethod y).before args s = true) (hsel : (Cond.selects C y y).before args s = true)
    (hcode : (Cond.code y bytes maxL ret).before args s = true) (hy : y.cls ≠ "java/lang/invoke/MethodHandle" ∧ y.cls ≠ "java/lang/invoke/VarHandle")
    {W9 : Nat} {Pre : Pt → Array Value → Prop} {Post : Pt → Array Value → Option Value → Pt → Prop} {PostX : Pt → Array Value → Addr → Pt → Prop} (hK : vx_Back l R p e below s args y 3 W9 Pre Post PostX)
    {b : Addr} {cellB : Cell} (hcell : T.heap[b]? = some cellB) (hobj : cellB.vm.isStatics = false) (hcls : s.vm.findClass C = some cellB.cls)
    {g : JFrame} (hg : g.method = m) (hsize : g.locals.size = c.maxLocals) {argsL rest : List Value} (hlen : ∀ sig, parseMethodDescriptor y.desc = some sig → argsL.length = sig.parameters.length)
    (hstack : g.stack = argsL.reverse ++ .ref b :: rest) (hW : 2 * g.monitorRoom + (rest.map fun v => v.category).sum ≤ W9) (hdg : decode c.code g.pc = .ok (.invokevirtual index, 3))
    (hpre : ∀ vm₁, s.WarmedH vm₁ → Pre ⟨T.setVm vm₁, locs, cells, slots⟩ (Value.ref b :: argsL).toArray) :
    (∃ (v : Option Value) (vm₁ : Vm) (B : Pt), s.WarmedH vm₁ ∧ Stand p l e R s m args below meth c B.U B.locs B.cells B.slots ∧ Post ⟨T.setVm vm₁, locs, cells, slots⟩ (Value.ref b :: argsL).toArray v B ∧
      ∀ target, Steps p.tables e below (B.U.setTop { g with pc := g.pc + 3, stack := v.toList ++ rest }) target → Steps p.tables e below (T.setTop g) target) ∨
    (∃ (q : Addr) (vm₁ : Vm) (B : Pt), s.WarmedH vm₁ ∧ Stand p l e R s m args below meth c B.U B.locs B.cells B.slots ∧ PostX ⟨T.setVm vm₁, locs, cells, slots⟩ (Value.ref b :: argsL).toArray q B ∧
      Steps p.tables e below (T.setTop g) ((B.U.setTop { g with stack := rest }).pushFrame (.throwing q))) := by
  obtain ⟨mk, methM, hnamed, hmethM, hstM, habM⟩ := Cond.instanceMethod_spec hinst
  obtain ⟨methM', cM, hmethM', -, -, -, -, -, -, hsigM⟩ := Cond.code_spec hnamed hcode
  cases hmethM.symm.trans hmethM'
  obtain ⟨c2, r2, m2, q1, q2, q3, q4, kP, hkP, hkPi⟩ := Cond.selects_spec hsel
  cases hcls.symm.trans q1
  cases (State.methodFound?_of_named hnamed hy).symm.trans q2
  cases hnamed.symm.trans q3
  have hselP : selectMethod e.platform s.vm cellB.cls mk = .method mk := by rw [Launch.admits_selectMethod X.admits]; exact q4
  obtain ⟨vm₁, X₁, hstep₁⟩ := X.invokevirtual hexec hown hlink hnamed hmethM hstM hkP hkPi hy (a := b) (cell := cellB) hcell
    (fun z h => by rw [h] at hobj; cases hobj) hselP hmethM habM hkP hkPi (g := g) hg (argsL := argsL) (rest := rest) (hlen _ hsigM) hstack hdg
  rcases hK m meth c ⟨T.setVm vm₁, locs, cells, slots⟩ { g with stack := rest } (.invokevirtual index) mk (Value.ref b :: argsL).toArray X₁ hg hsize hdg hW (X₁.named hnamed) (hpre vm₁ X₁.warmed) with ⟨v, B, X', hpost, hsteps⟩ | ⟨q, B, X', hpost, hsteps⟩
  · exact Or.inl ⟨v, vm₁, B, X₁.warmed, X', hpost, fun target h => hstep₁ _ fun acts => by rw [doInvoke_state]; exact hsteps.trans h⟩
  · exact Or.inr ⟨q, vm₁, B, X₁.warmed, X', hpost, hstep₁ _ fun acts => by rw [doInvoke_state]; exact hsteps⟩
theorem vx_callS (X : Stand p l e R s m args below meth c T locs cells slots) (hexec : p.tables.exec = Jvm.exec) {own : String} {index : Nat} {y : MethodName} {bytes : ByteArray} {maxL : Nat} {ret : Option FieldType}
    (hown : s.vm.findClass own = some m.cls) (hlink : (Cond.methodLink own index y).before args s = true) (hstat : (Cond.static y).before args s = true) (hinit : (Cond.initialized y.cls).before args s = true)
    (hcode : (Cond.code y bytes maxL ret).before args s = true) (hy : y.cls ≠ "java/lang/invoke/MethodHandle" ∧ y.cls ≠ "java/lang/invoke/VarHandle")
    {W9 : Nat} {Pre : Pt → Array Value → Prop} {Post : Pt → Array Value → Option Value → Pt → Prop} {PostX : Pt → Array Value → Addr → Pt → Prop} (hK : vx_Back l R p e below s args y 3 W9 Pre Post PostX)
    {g : JFrame} (hg : g.method = m) (hsize : g.locals.size = c.maxLocals) {argsL rest : List Value} (hlen : ∀ sig, parseMethodDescriptor y.desc = some sig → argsL.length = sig.parameters.length)
    (hstack : g.stack = argsL.reverse ++ rest) (hW : 2 * g.monitorRoom + (rest.map fun v => v.category).sum ≤ W9) (hdg : decode c.code g.pc = .ok (.invokestatic index, 3))
    (hpre : ∀ vm₁, s.WarmedH vm₁ → Pre ⟨T.setVm vm₁, locs, cells, slots⟩ argsL.toArray) :
    (∃ (v : Option Value) (vm₁ : Vm) (B : Pt), s.WarmedH vm₁ ∧ Stand p l e R s m args below meth c B.U B.locs B.cells B.slots ∧ Post ⟨T.setVm vm₁, locs, cells, slots⟩ argsL.toArray v B ∧
      ∀ target, Steps p.tables e below (B.U.setTop { g with pc := g.pc + 3, stack := v.toList ++ rest }) target → Steps p.tables e below (T.setTop g) target) ∨
    (∃ (q : Addr) (vm₁ : Vm) (B : Pt), s.WarmedH vm₁ ∧ Stand p l e R s m args below meth c B.U B.locs B.cells B.slots ∧ PostX ⟨T.setVm vm₁, locs, cells, slots⟩ argsL.toArray q B ∧
      Steps p.tables e below (T.setTop g) ((B.U.setTop { g with stack := rest }).pushFrame (.throwing q))) := by
  obtain ⟨mk, hnamed⟩ := Cond.code_named hcode
  obtain ⟨methM, cM, hmethM, -, -, -, -, -, -, hsigM⟩ := Cond.code_spec hnamed hcode
  have hstatic : methM.isStatic = true := Cond.static_spec hnamed hmethM hstat
  obtain ⟨kP, hkP, -⟩ := className_of_methodNamed hnamed
  have hinitP : kP.init = .initialized := Cond.initialized_spec (findClass_of_methodNamed hnamed) hkP hinit
  obtain ⟨vm₁, X₁, hstep₁⟩ := X.invokestatic hexec hown hlink hnamed hmethM hstatic hkP hinitP hy (g := g) hg (argsL := argsL) (rest := rest) (hlen _ hsigM) hstack hdg
  rcases hK m meth c ⟨T.setVm vm₁, locs, cells, slots⟩ { g with stack := rest } (.invokestatic index) mk argsL.toArray X₁ hg hsize hdg hW (X₁.named hnamed) (hpre vm₁ X₁.warmed) with ⟨v, B, X', hpost, hsteps⟩ | ⟨q, B, X', hpost, hsteps⟩
  · exact Or.inl ⟨v, vm₁, B, X₁.warmed, X', hpost, fun target h => hstep₁ _ fun acts => by rw [doInvoke_state]; exact hsteps.trans h⟩
  · exact Or.inr ⟨q, vm₁, B, X₁.warmed, X', hpost, hstep₁ _ fun acts => by rw [doInvoke_state]; exact hsteps⟩
end Calls
theorem vx_cls {s : State} {T : State} {vm₁ : Vm} {E : String} {k : ClassId} (hW : s.WarmedH vm₁) (h : (T.setVm vm₁).vm.findClass E = some k) : s.vm.findClass E = some k := by
  have h1 : vm₁.findClass E = some k := h
  rw [hW.alike.findClass] at h1
  exact h1
/-- the method's frame g, with q thrown over it -/
def vx_W (p : Program) (l : Launch) (e : Env) (R : Room) (s : State) (m : MethodId) (args : Array Value) (below : List Frame) (meth : Method) (c : Code) (H : Heap) (locs : List Loc) (cells slots : Nat) (Q : State → Prop) (g : JFrame) (q : Addr) : Prop :=
  ∀ T : State, T.heap = H → Stand p l e R s m args below meth c T locs cells slots → ∃ t, Steps p.tables e below ((T.setTop g).pushFrame (.throwing q)) t ∧ Q t
def vx_Run (p : Program) (l : Launch) (e : Env) (R : Room) (s : State) (m : MethodId) (args : Array Value) (below : List Frame) (meth : Method) (c : Code) (H : Heap) (locs : List Loc) (cells slots mc ms : Nat) (g : JFrame) (rest : List Value) (Qa : State → Outcome → State → Prop) (XC : String → State → State → Prop) (free : Addr → Prop) : Prop :=
  ∀ T : State, T.heap = H → Stand p l e R s m args below meth c T locs cells slots →
    (∃ (v : Option Value) (st₀ t T' : State) (L : List Loc), st₀.heap = H ∧ Stand p l e R s m args below meth c T' (locs ++ L) (cells + mc) (slots + ms) ∧ (∀ q ∈ L, free q.base) ∧ T'.heap = t.heap ∧ T'.vm = t.vm ∧ Qa st₀ (.returned v) t ∧
      Goes p e below T g T' { g with pc := g.pc + 3, stack := v.toList ++ rest }) ∨
    (∃ (q : Addr) (st₀ t T' : State) (L : List Loc) (E : String) (ce : Cell), st₀.heap = H ∧ Stand p l e R s m args below meth c T' (locs ++ L) (cells + mc) (slots + ms) ∧ (∀ z ∈ L, free z.base) ∧ T'.heap = t.heap ∧ T'.vm = t.vm ∧ XC E st₀ t ∧ t.heap[q]? = some ce ∧ ce.vm = .none ∧ s.vm.findClass E = some ce.cls ∧
      Steps p.tables e below (T.setTop g) ((T'.setTop { g with stack := rest }).pushFrame (.throwing q)))
def vx_X {S : Type} (px : S → Prop) (B : String → S → State → Prop) (A : Nat → Prop) : String → State → State → Prop := fun E st t => ∃ u : S, px u ∧ B E u t ∧ va_F A st t
section Runs
variable {p : Program} {l : Launch} {e : Env} {R : Room} {s : State} {m : MethodId} {args : Array Value} {below : List Frame} {meth : Method} {c : Code} {H : Heap} {locs : List Loc} {cells slots : Nat}
variable {y : MethodName} {bytes cc : ByteArray} {maxL nL mc ms n index : Nat} {ret : Option FieldType} {ws : List Cond} {rm : Room} {Pc : Array Value → State → Prop} {Qc : Array Value → State → Outcome → State → Prop} {XC : String → State → State → Prop} {free : Addr → Prop} {Ts : List Cond} {own C : String} {b : Addr} {As rest : List Value} {g : JFrame}
theorem vx_callBack (cb : CallB R s args own index y bytes maxL ret ws rm mc ms n) (hM : vx_Met l y ws rm Pc Qc XC mc ms free) (hbl : FrameBlind Pc) : vx_Back l R p e below s args y 3 8 (PreOf R mc ms Pc) (PostOf Qc mc ms free) (vx_Post XC mc ms free) := by
  obtain ⟨hrc, hrs, hfr, hlo, hws, hcw, -, hini, -⟩ := cb
  exact vx_back (bytes := bytes) (maxL := maxL) (ret := ret) hM hbl hrc hrs hfr hlo hws hcw (fun a' U hW => word_at hW (Or.inl (by first | rfl | simp [Cond.onTables, Cond.keeps, Cond.steady])) hini)
theorem vx_runV (S : CallFix p m c cc nL s args Ts own) (hM : vx_Met l y ws rm Pc Qc XC mc ms free) (cw : CallW R s args own C index y bytes maxL ret ws rm mc ms n) (hp : PreV s H C b Pc As)
    (hg : g.method = m) (hn : As.length = n) (hsize : g.locals.size = nL) (hstack : g.stack = As.reverse ++ .ref b :: rest) (hW : 2 * g.monitorRoom + (rest.map fun v => v.category).sum ≤ 8) (hdg : decode cc g.pc = .ok (.invokevirtual index, 3)) (hf : cells + mc ≤ R.cells ∧ slots + ms ≤ R.slots) :
    vx_Run p l e R s m args below meth c H locs cells slots mc ms g rest (Qc (Value.ref b :: As).toArray) XC free := by
  have hK : vx_Back l R p e below s args y 3 8 (PreOf R mc ms Pc) (PostOf Qc mc ms free) (vx_Post XC mc ms free) := vx_callBack cw.1 hM hp.1
  obtain ⟨⟨-, -, -, -, -, -, hcode, -, hy, hlen, hl⟩, hin, hse⟩ := cw
  obtain ⟨hx, hb, hml, ho, -⟩ := S
  obtain ⟨-, ⟨cellB, hcB, hoB, hclB⟩, hPc⟩ := hp
  intro T hT X
  rcases vx_callV X hx (C := C) (bytes := bytes) (maxL := maxL) (ret := ret) ho hl hin hse hcode hy hK (by rw [hT]; exact hcB) hoB hclB hg (hsize.trans hml.symm) (argsL := As) (rest := rest) (fun sig h => hn.trans (hlen sig h)) hstack hW (by rw [hb]; exact hdg)
    (fun vm₁ hW₁ => ⟨hf.1, hf.2, hPc (T.setVm vm₁) hT hW₁⟩) with ⟨v, vm₁, ⟨U', l2, c2, s2⟩, hW₁, X', ⟨g', mk, t, L, e1, e2, hq, h1, hL, h2, h3⟩, st⟩ | ⟨q, vm₁, ⟨U', l2, c2, s2⟩, hW₁, X', ⟨g', mk, t, L, E, ce, e1, e2, hq, hce, hcv, hcl, h1, hL, h2, h3⟩, st⟩
  · dsimp only [Pt.U, Pt.locs, Pt.cells, Pt.slots] at X' e1 e2 h1 h2 h3 st
    subst h1; subst h2; subst h3
    exact Or.inl ⟨v, (T.setVm vm₁).calling g' mk (Value.ref b :: As).toArray, t, U', L, hT, X', hL, e1, e2, hq, st⟩
  · dsimp only [Pt.U, Pt.locs, Pt.cells, Pt.slots] at X' e1 e2 h1 h2 h3 st hcl
    subst h1; subst h2; subst h3
    exact Or.inr ⟨q, (T.setVm vm₁).calling g' mk (Value.ref b :: As).toArray, t, U', L, E, ce, hT, X', hL, e1, e2, hq, hce, hcv, vx_cls hW₁ hcl, st⟩
theorem vx_runS (S : CallFix p m c cc nL s args Ts own) (hM : vx_Met l y ws rm Pc Qc XC mc ms free) (cw : CallB R s args own index y bytes maxL ret ws rm mc ms n ∧ (Cond.static y).before args s = true) (hp : PreS s H Pc As)
    (hg : g.method = m) (hn : As.length = n) (hsize : g.locals.size = nL) (hstack : g.stack = As.reverse ++ rest) (hW : 2 * g.monitorRoom + (rest.map fun v => v.category).sum ≤ 8) (hdg : decode cc g.pc = .ok (.invokestatic index, 3)) (hf : cells + mc ≤ R.cells ∧ slots + ms ≤ R.slots) :
    vx_Run p l e R s m args below meth c H locs cells slots mc ms g rest (Qc As.toArray) XC free := by
  have hK : vx_Back l R p e below s args y 3 8 (PreOf R mc ms Pc) (PostOf Qc mc ms free) (vx_Post XC mc ms free) := vx_callBack cw.1 hM hp.1
  obtain ⟨⟨-, -, -, -, -, -, hcode, hini, hy, hlen, hl⟩, hstt⟩ := cw
  obtain ⟨hx, hb, hml, ho, -⟩ := S
  intro T hT X
  rcases vx_callS X hx (bytes := bytes) (maxL := maxL) (ret := ret) ho hl hstt hini hcode hy hK hg (hsize.trans hml.symm) (argsL := As) (rest := rest) (fun sig h => hn.trans (hlen sig h)) hstack hW (by rw [hb]; exact hdg)
    (fun vm₁ hW₁ => ⟨hf.1, hf.2, hp.2 (T.setVm vm₁) hT hW₁⟩) with ⟨v, vm₁, ⟨U', l2, c2, s2⟩, hW₁, X', ⟨g', mk, t, L, e1, e2, hq, h1, hL, h2, h3⟩, st⟩ | ⟨q, vm₁, ⟨U', l2, c2, s2⟩, hW₁, X', ⟨g', mk, t, L, E, ce, e1, e2, hq, hce, hcv, hcl, h1, hL, h2, h3⟩, st⟩
  · dsimp only [Pt.U, Pt.locs, Pt.cells, Pt.slots] at X' e1 e2 h1 h2 h3 st
    subst h1; subst h2; subst h3
    exact Or.inl ⟨v, (T.setVm vm₁).calling g' mk As.toArray, t, U', L, hT, X', hL, e1, e2, hq, st⟩
  · dsimp only [Pt.U, Pt.locs, Pt.cells, Pt.slots] at X' e1 e2 h1 h2 h3 st hcl
    subst h1; subst h2; subst h3
    exact Or.inr ⟨q, (T.setVm vm₁).calling g' mk As.toArray, t, U', L, E, ce, hT, X', hL, e1, e2, hq, hce, hcv, vx_cls hW₁ hcl, st⟩
end Runs
section Rows
variable {p : Program} {l : Launch} {e : Env} {R : Room} {s : State} {m : MethodId} {args : Array Value} {below : List Frame} {meth : Method} {c : Code} {H : Heap} {locs : List Loc} {cells slots : Nat} {Q : State → Prop}
variable {mc ms : Nat} {free : Addr → Prop} {A0 A1 : Nat → Prop} {H0 : Heap} {a : Array Value} {pc : Nat} {ls : Array Slot} {st0 rest : List Value}
theorem vx_keep {st₀ t T' : State} {L : List Loc} (h0 : st₀.heap = H) (e1 : T'.heap = t.heap) (hS : va_S A0 H0 H locs) (hA : ∀ q, q < H.size → A1 q → A0 q) (hf : ∀ q, free q → A0 q) (hL : ∀ q ∈ L, free q.base) (hF : va_F A1 st₀ t) :
    H.size ≤ T'.heap.size ∧ (∀ q : Nat, q < H.size → ¬ A1 q → T'.heap[q]? = H[q]?) ∧ va_S A0 H0 T'.heap (locs ++ L) := by
  obtain ⟨hz, hk⟩ := hF
  rw [h0] at hz hk
  exact ⟨by rw [e1]; exact hz, fun q h1 h2 => by rw [e1]; exact hk q h1 h2,
    ⟨Nat.le_trans hS.1 (by rw [e1]; exact hz), fun q h1 h2 => by rw [e1, hk q (Nat.lt_of_lt_of_le h1 hS.1) (fun z => h2 (hA q (Nat.lt_of_lt_of_le h1 hS.1) z))]; exact hS.2.1 q h1 h2, fun q hq => by
      rcases List.mem_append.mp hq with h | h
      · exact hS.2.2 q h
      · exact hf _ (hL q h)⟩⟩
theorem vx_calli {S SX : Type} {post : Int32 → S → Prop} {px : SX → Prop} {B : S → State → Prop} {BX : String → SX → State → Prop} {AX : Nat → Prop} (hr : vx_Run p l e R s m args below meth c H locs cells slots mc ms (F0 m pc ls st0) rest (va_Qi post B A1 a) (vx_X px BX AX) free) (hS : va_S A0 H0 H locs) (hA : ∀ q, q < H.size → A1 q → A0 q) (hf : ∀ q, free q → A0 q) (hAX : ∀ q, q < H.size → AX q → A0 q)
    (kx : ∀ (E : String) (ce : Cell) (q9 : Addr) (u : SX) (t : State) (H1 : Heap) (locs1 : List Loc), t.heap = H1 → s.vm.Alike t.vm → px u → BX E u t → H.size ≤ H1.size → (∀ q : Nat, q < H.size → ¬ AX q → H1[q]? = H[q]?) → va_S A0 H0 H1 locs1 → H1[q9]? = some ce → ce.vm = .none → s.vm.findClass E = some ce.cls → vx_W p l e R s m args below meth c H1 locs1 (cells + mc) (slots + ms) Q (F0 m pc ls rest) q9)
    (kk : ∀ (r : Int32) (u : S) (t : State) (H1 : Heap) (locs1 : List Loc), t.heap = H1 → s.vm.Alike t.vm → post r u → B u t → H.size ≤ H1.size → (∀ q : Nat, q < H.size → ¬ A1 q → H1[q]? = H[q]?) → va_S A0 H0 H1 locs1 → W p l e R s m args below meth c H1 locs1 (cells + mc) (slots + ms) Q (F0 m (pc + 3) ls (.int r :: rest))) : W p l e R s m args below meth c H locs cells slots Q (F0 m pc ls st0) := by
  intro T hT X
  rcases hr T hT X with ⟨v, st₀, t, T', L, h0, X', hL, e1, e2, ⟨⟨r, u, hv, hp, hb⟩, hF⟩, st⟩ | ⟨q, st₀, t, T', L, E, ce, h0, X', hL, e1, e2, ⟨u, hp, hb, hF⟩, hce, hcv, hcl, st⟩
  · cases hv
    obtain ⟨k1, k2, k3⟩ := vx_keep h0 e1 hS hA hf hL hF
    obtain ⟨t2, a1, b1⟩ := kk r u t T'.heap (locs ++ L) e1.symm (by rw [← e2]; exact X'.warmed.alike) hp hb k1 k2 k3 T' rfl X'
    exact ⟨t2, st t2 a1, b1⟩
  · obtain ⟨k1, k2, k3⟩ := vx_keep h0 e1 hS hAX hf hL hF
    obtain ⟨t2, a1, b1⟩ := kx E ce q u t T'.heap (locs ++ L) e1.symm (by rw [← e2]; exact X'.warmed.alike) hp hb k1 k2 k3 (by rw [e1]; exact hce) hcv hcl T' rfl X'
    exact ⟨t2, st.trans a1, b1⟩
theorem vx_calll {S SX : Type} {post : Int64 → S → Prop} {px : SX → Prop} {B : S → State → Prop} {BX : String → SX → State → Prop} {AX : Nat → Prop} (hr : vx_Run p l e R s m args below meth c H locs cells slots mc ms (F0 m pc ls st0) rest (va_Ql post B A1 a) (vx_X px BX AX) free) (hS : va_S A0 H0 H locs) (hA : ∀ q, q < H.size → A1 q → A0 q) (hf : ∀ q, free q → A0 q) (hAX : ∀ q, q < H.size → AX q → A0 q)
    (kx : ∀ (E : String) (ce : Cell) (q9 : Addr) (u : SX) (t : State) (H1 : Heap) (locs1 : List Loc), t.heap = H1 → s.vm.Alike t.vm → px u → BX E u t → H.size ≤ H1.size → (∀ q : Nat, q < H.size → ¬ AX q → H1[q]? = H[q]?) → va_S A0 H0 H1 locs1 → H1[q9]? = some ce → ce.vm = .none → s.vm.findClass E = some ce.cls → vx_W p l e R s m args below meth c H1 locs1 (cells + mc) (slots + ms) Q (F0 m pc ls rest) q9)
    (kk : ∀ (r : Int64) (u : S) (t : State) (H1 : Heap) (locs1 : List Loc), t.heap = H1 → s.vm.Alike t.vm → post r u → B u t → H.size ≤ H1.size → (∀ q : Nat, q < H.size → ¬ A1 q → H1[q]? = H[q]?) → va_S A0 H0 H1 locs1 → W p l e R s m args below meth c H1 locs1 (cells + mc) (slots + ms) Q (F0 m (pc + 3) ls (.long r :: rest))) : W p l e R s m args below meth c H locs cells slots Q (F0 m pc ls st0) := by
  intro T hT X
  rcases hr T hT X with ⟨v, st₀, t, T', L, h0, X', hL, e1, e2, ⟨⟨r, u, hv, hp, hb⟩, hF⟩, st⟩ | ⟨q, st₀, t, T', L, E, ce, h0, X', hL, e1, e2, ⟨u, hp, hb, hF⟩, hce, hcv, hcl, st⟩
  · cases hv
    obtain ⟨k1, k2, k3⟩ := vx_keep h0 e1 hS hA hf hL hF
    obtain ⟨t2, a1, b1⟩ := kk r u t T'.heap (locs ++ L) e1.symm (by rw [← e2]; exact X'.warmed.alike) hp hb k1 k2 k3 T' rfl X'
    exact ⟨t2, st t2 a1, b1⟩
  · obtain ⟨k1, k2, k3⟩ := vx_keep h0 e1 hS hAX hf hL hF
    obtain ⟨t2, a1, b1⟩ := kx E ce q u t T'.heap (locs ++ L) e1.symm (by rw [← e2]; exact X'.warmed.alike) hp hb k1 k2 k3 (by rw [e1]; exact hce) hcv hcl T' rfl X'
    exact ⟨t2, st.trans a1, b1⟩
theorem vx_callf {S SX : Type} {post : UInt32 → S → Prop} {px : SX → Prop} {B : S → State → Prop} {BX : String → SX → State → Prop} {AX : Nat → Prop} (hr : vx_Run p l e R s m args below meth c H locs cells slots mc ms (F0 m pc ls st0) rest (va_Qf post B A1 a) (vx_X px BX AX) free) (hS : va_S A0 H0 H locs) (hA : ∀ q, q < H.size → A1 q → A0 q) (hf : ∀ q, free q → A0 q) (hAX : ∀ q, q < H.size → AX q → A0 q)
    (kx : ∀ (E : String) (ce : Cell) (q9 : Addr) (u : SX) (t : State) (H1 : Heap) (locs1 : List Loc), t.heap = H1 → s.vm.Alike t.vm → px u → BX E u t → H.size ≤ H1.size → (∀ q : Nat, q < H.size → ¬ AX q → H1[q]? = H[q]?) → va_S A0 H0 H1 locs1 → H1[q9]? = some ce → ce.vm = .none → s.vm.findClass E = some ce.cls → vx_W p l e R s m args below meth c H1 locs1 (cells + mc) (slots + ms) Q (F0 m pc ls rest) q9)
    (kk : ∀ (r : UInt32) (u : S) (t : State) (H1 : Heap) (locs1 : List Loc), t.heap = H1 → s.vm.Alike t.vm → post r u → B u t → H.size ≤ H1.size → (∀ q : Nat, q < H.size → ¬ A1 q → H1[q]? = H[q]?) → va_S A0 H0 H1 locs1 → W p l e R s m args below meth c H1 locs1 (cells + mc) (slots + ms) Q (F0 m (pc + 3) ls (.float r :: rest))) : W p l e R s m args below meth c H locs cells slots Q (F0 m pc ls st0) := by
  intro T hT X
  rcases hr T hT X with ⟨v, st₀, t, T', L, h0, X', hL, e1, e2, ⟨⟨r, u, hv, hp, hb⟩, hF⟩, st⟩ | ⟨q, st₀, t, T', L, E, ce, h0, X', hL, e1, e2, ⟨u, hp, hb, hF⟩, hce, hcv, hcl, st⟩
  · cases hv
    obtain ⟨k1, k2, k3⟩ := vx_keep h0 e1 hS hA hf hL hF
    obtain ⟨t2, a1, b1⟩ := kk r u t T'.heap (locs ++ L) e1.symm (by rw [← e2]; exact X'.warmed.alike) hp hb k1 k2 k3 T' rfl X'
    exact ⟨t2, st t2 a1, b1⟩
  · obtain ⟨k1, k2, k3⟩ := vx_keep h0 e1 hS hAX hf hL hF
    obtain ⟨t2, a1, b1⟩ := kx E ce q u t T'.heap (locs ++ L) e1.symm (by rw [← e2]; exact X'.warmed.alike) hp hb k1 k2 k3 (by rw [e1]; exact hce) hcv hcl T' rfl X'
    exact ⟨t2, st.trans a1, b1⟩
theorem vx_calld {S SX : Type} {post : UInt64 → S → Prop} {px : SX → Prop} {B : S → State → Prop} {BX : String → SX → State → Prop} {AX : Nat → Prop} (hr : vx_Run p l e R s m args below meth c H locs cells slots mc ms (F0 m pc ls st0) rest (va_Qd post B A1 a) (vx_X px BX AX) free) (hS : va_S A0 H0 H locs) (hA : ∀ q, q < H.size → A1 q → A0 q) (hf : ∀ q, free q → A0 q) (hAX : ∀ q, q < H.size → AX q → A0 q)
    (kx : ∀ (E : String) (ce : Cell) (q9 : Addr) (u : SX) (t : State) (H1 : Heap) (locs1 : List Loc), t.heap = H1 → s.vm.Alike t.vm → px u → BX E u t → H.size ≤ H1.size → (∀ q : Nat, q < H.size → ¬ AX q → H1[q]? = H[q]?) → va_S A0 H0 H1 locs1 → H1[q9]? = some ce → ce.vm = .none → s.vm.findClass E = some ce.cls → vx_W p l e R s m args below meth c H1 locs1 (cells + mc) (slots + ms) Q (F0 m pc ls rest) q9)
    (kk : ∀ (r : UInt64) (u : S) (t : State) (H1 : Heap) (locs1 : List Loc), t.heap = H1 → s.vm.Alike t.vm → post r u → B u t → H.size ≤ H1.size → (∀ q : Nat, q < H.size → ¬ A1 q → H1[q]? = H[q]?) → va_S A0 H0 H1 locs1 → W p l e R s m args below meth c H1 locs1 (cells + mc) (slots + ms) Q (F0 m (pc + 3) ls (.double r :: rest))) : W p l e R s m args below meth c H locs cells slots Q (F0 m pc ls st0) := by
  intro T hT X
  rcases hr T hT X with ⟨v, st₀, t, T', L, h0, X', hL, e1, e2, ⟨⟨r, u, hv, hp, hb⟩, hF⟩, st⟩ | ⟨q, st₀, t, T', L, E, ce, h0, X', hL, e1, e2, ⟨u, hp, hb, hF⟩, hce, hcv, hcl, st⟩
  · cases hv
    obtain ⟨k1, k2, k3⟩ := vx_keep h0 e1 hS hA hf hL hF
    obtain ⟨t2, a1, b1⟩ := kk r u t T'.heap (locs ++ L) e1.symm (by rw [← e2]; exact X'.warmed.alike) hp hb k1 k2 k3 T' rfl X'
    exact ⟨t2, st t2 a1, b1⟩
  · obtain ⟨k1, k2, k3⟩ := vx_keep h0 e1 hS hAX hf hL hF
    obtain ⟨t2, a1, b1⟩ := kx E ce q u t T'.heap (locs ++ L) e1.symm (by rw [← e2]; exact X'.warmed.alike) hp hb k1 k2 k3 (by rw [e1]; exact hce) hcv hcl T' rfl X'
    exact ⟨t2, st.trans a1, b1⟩
theorem vx_callv {S SX : Type} {post : S → Prop} {px : SX → Prop} {B : S → State → Prop} {BX : String → SX → State → Prop} {AX : Nat → Prop} (hr : vx_Run p l e R s m args below meth c H locs cells slots mc ms (F0 m pc ls st0) rest (va_Qv post B A1 a) (vx_X px BX AX) free) (hS : va_S A0 H0 H locs) (hA : ∀ q, q < H.size → A1 q → A0 q) (hf : ∀ q, free q → A0 q) (hAX : ∀ q, q < H.size → AX q → A0 q)
    (kx : ∀ (E : String) (ce : Cell) (q9 : Addr) (u : SX) (t : State) (H1 : Heap) (locs1 : List Loc), t.heap = H1 → s.vm.Alike t.vm → px u → BX E u t → H.size ≤ H1.size → (∀ q : Nat, q < H.size → ¬ AX q → H1[q]? = H[q]?) → va_S A0 H0 H1 locs1 → H1[q9]? = some ce → ce.vm = .none → s.vm.findClass E = some ce.cls → vx_W p l e R s m args below meth c H1 locs1 (cells + mc) (slots + ms) Q (F0 m pc ls rest) q9)
    (kk : ∀ (u : S) (t : State) (H1 : Heap) (locs1 : List Loc), t.heap = H1 → s.vm.Alike t.vm → post u → B u t → H.size ≤ H1.size → (∀ q : Nat, q < H.size → ¬ A1 q → H1[q]? = H[q]?) → va_S A0 H0 H1 locs1 → W p l e R s m args below meth c H1 locs1 (cells + mc) (slots + ms) Q (F0 m (pc + 3) ls (rest))) : W p l e R s m args below meth c H locs cells slots Q (F0 m pc ls st0) := by
  intro T hT X
  rcases hr T hT X with ⟨v, st₀, t, T', L, h0, X', hL, e1, e2, ⟨⟨u, hv, hp, hb⟩, hF⟩, st⟩ | ⟨q, st₀, t, T', L, E, ce, h0, X', hL, e1, e2, ⟨u, hp, hb, hF⟩, hce, hcv, hcl, st⟩
  · cases hv
    obtain ⟨k1, k2, k3⟩ := vx_keep h0 e1 hS hA hf hL hF
    obtain ⟨t2, a1, b1⟩ := kk u t T'.heap (locs ++ L) e1.symm (by rw [← e2]; exact X'.warmed.alike) hp hb k1 k2 k3 T' rfl X'
    exact ⟨t2, st t2 a1, b1⟩
  · obtain ⟨k1, k2, k3⟩ := vx_keep h0 e1 hS hAX hf hL hF
    obtain ⟨t2, a1, b1⟩ := kx E ce q u t T'.heap (locs ++ L) e1.symm (by rw [← e2]; exact X'.warmed.alike) hp hb k1 k2 k3 (by rw [e1]; exact hce) hcv hcl T' rfl X'
    exact ⟨t2, st.trans a1, b1⟩
/-- caught by the row x of this method's table; the rows ahead don't take it -/
theorem vx_catch {own name : String} {E : String} {ce : Cell} {q : Addr} (hown : s.vm.findClass own = some m.cls) (pre : List ExceptionTableEntry) (x : ExceptionTableEntry) (suf : List ExceptionTableEntry) (hsplit : c.exceptionTable.toList = pre ++ x :: suf)
    (hpass : ∀ z ∈ pre, covers z pc = false ∨ (z.catchType ≠ 0 ∧ ∃ nm : String, (Cond.classLink own z.catchType nm).before args s = true ∧ va_Nc E nm s)) (hx : covers x pc = true) (h0 : x.catchType ≠ 0)
    (hlink : (Cond.classLink own x.catchType name).before args s = true) (hcast : (Cond.castable E name).before args s = true) (hcell : H[q]? = some ce) (hv : ce.vm = .none) (hcl : s.vm.findClass E = some ce.cls)
    (kk : W p l e R s m args below meth c H locs cells slots Q (F0 m x.handlerPc ls [.ref q])) : vx_W p l e R s m args below meth c H locs cells slots Q (F0 m pc ls rest) q := by
  intro T hT X
  have hpl : e.platform.magicAccessors = ({} : Platform).magicAccessors := by rw [X.admits.platform]
  obtain ⟨c3, c4, hc3, hc4, hasg⟩ := Cond.castable_spec hcast
  cases Option.some.inj (hc3.symm.trans hcl)
  obtain ⟨c5, hc5, hcl5⟩ := Cond.classLink_spec hown hlink e.platform hpl
  cases Option.some.inj (hc4.symm.trans hc5)
  obtain ⟨vm', X', st⟩ := X.thenCaughtThrough q (g := F0 m pc ls rest) rfl (Steps.refl _) (by rw [hT]; exact hcell) (by rw [hv]; rfl) (by obtain ⟨k9, h9, -⟩ := Vm.findClass_spec hcl; exact ⟨k9, h9⟩) pre x suf hsplit
    (fun z hz => by
      rcases hpass z hz with h | ⟨hz0, nm, hl1, hn1⟩
      · exact Or.inl h
      · obtain ⟨c6, hc6, hcl6⟩ := Cond.classLink_spec hown hl1 e.platform hpl
        obtain ⟨a8, b8, h1, h2, h3⟩ := hn1
        cases Option.some.inj (h1.symm.trans hcl)
        cases Option.some.inj (h2.symm.trans hc6)
        exact Or.inr ⟨hz0, _, hcl6, h3⟩) hx (Or.inr ⟨h0, c4, hcl5, hasg⟩)
  obtain ⟨t, a1, b1⟩ := kk (T.setVm vm') hT X'
  exact ⟨t, st.trans a1, b1⟩
end Rows
section Ends
variable {p : Program} {l : Launch} {e : Env} {R : Room} {s : State} {m : MethodId} {args : Array Value} {below : List Frame} {meth : Method} {c : Code} {H : Heap} {locs : List Loc} {cells slots : Nat} {Q : State → Prop}
variable {mc ms : Nat} {free : Addr → Prop} {A0 A1 : Nat → Prop} {H0 : Heap} {a : Array Value} {ls : Array Slot} {st0 rest : List Value}
variable {Qc : Array Value → State → Outcome → State → Prop} {XC : String → State → State → Prop}
/-- what a body that may throw owes at its end -/
def vx_MQ (below : List Frame) (Qc : Array Value → State → Outcome → State → Prop) (XC : String → State → State → Prop) (a : Array Value) (s : State) (mc ms : Nat) (free : Addr → Prop) : State → Prop := fun t =>
  ∃ o, t.status = .running ∧ Ended t below o ∧ vx_Q Qc XC mc ms free a s o t
theorem vx_ret {g : JFrame} {mc ms : Nat} (k : W p l e R s m args below meth c H locs cells slots (MQ below Qc args s mc ms free) g) : W p l e R s m args below meth c H locs cells slots (vx_MQ below Qc XC args s mc ms free) g := by
  intro T hT X
  obtain ⟨t, a1, o, b1, b2, b3, b4⟩ := k T hT X
  exact ⟨t, a1, o, b1, b2, Or.inl ⟨b3, b4⟩⟩
/-- not caught here: it goes on to the caller -/
theorem vx_widen {g : JFrame} {q : Addr} {k n : Nat} (h1 : cells ≤ k) (h2 : slots ≤ n) (kk : vx_W p l e R s m args below meth c H locs k n Q g q) : vx_W p l e R s m args below meth c H locs cells slots Q g q := fun T hT X => kk T hT (stand_widen X h1 h2)
theorem vx_out {pc : Nat} {E : String} {ce : Cell} {q : Addr} {mc ms : Nat} (hout : ∀ x ∈ c.exceptionTable.toList, covers x pc = false) (hlocks : meth.locks = false) (hcell : H[q]? = some ce) (hv : ce.vm = .none) (hcl : s.vm.findClass E = some ce.cls)
    (hx : ∀ t : State, t.heap = H → s.vm.Alike t.vm → XC E s t) (hf : ∀ z ∈ locs, free z.base) (hc : cells ≤ mc) (hs : slots ≤ ms) :
    vx_W p l e R s m args below meth c H locs cells slots (vx_MQ below Qc XC args s mc ms free) (F0 m pc ls rest) q := by
  intro T hT X
  obtain ⟨st1, hrun, hend, hW, hsm⟩ := X.leaveThrown q (g := F0 m pc ls rest) rfl rfl rfl hout hlocks
  have hcell9 : (T.setFrames (.throwing q :: below)).heap[q]? = some ce := by
    show T.heap[q]? = some ce
    rw [hT]; exact hcell
  exact ⟨_, st1, .threw q, hrun, hend, Or.inr ⟨q, rfl, E, ce, locs, hx _ hT hW.alike, hcell9, hv, hcl, hW, hsm.mono hc hs, hf⟩⟩
theorem vx_frame {U : State} {k n : Nat} (h : s.sameButNew ({ U with vm := s.vm } : State) locs k n) : s.heap.size ≤ U.heap.size ∧ ∀ q : Nat, q < s.heap.size → (∀ z ∈ locs, z.base ≠ q) → U.heap[q]? = s.heap[q]? := by
  obtain ⟨-, h2, -, -, -, h6⟩ := h
  refine ⟨h2, fun q hq hz => ?_⟩
  obtain ⟨c9, e1, e2, e3, e4⟩ := h6 q _ (Array.getElem?_eq_getElem hq)
  have hs : c9.slots = (s.heap[q]).slots := Array.ext_getElem? fun i => e4 i fun hm => hz _ hm rfl
  have h9 : c9 = s.heap[q] := by
    rw [hs] at e2
    exact e2
  have e5 : U.heap[q]? = some c9 := e1
  rw [e5, h9, Array.getElem?_eq_getElem hq]
/-- the words of a throw but the four that speak of the heap -/
def vx_no (w : Cond) : Bool := decide (w ≠ .isRef (.static Bundle.tN "UNASSIGNED_STACK" Bundle.steD)) && decide (w ≠ .isRef (.static Bundle.tN "SUPPRESSED_SENTINEL" Bundle.listD)) && decide (w ≠ .laysStatic Bundle.tN "UNASSIGNED_STACK" Bundle.steD) && decide (w ≠ .laysStatic Bundle.tN "SUPPRESSED_SENTINEL" Bundle.listD)
def vx_at0 (own : String) (ic : Nat) (X : String) (names : List String) : List Cond := (Bundle.ownAtoms0 own ic X names).filter vx_no
def vx_atS (own : String) (ic : Nat) (X : String) (names : List String) : List Cond := (Bundle.ownAtoms own ic X names).filter vx_no
/-- a word that the tables alone decide, or a good one -/
def vx_ot (w : Cond) : Bool := w.onTables || goodWord w
theorem vx_ot_at {args a' : Array Value} {s U : State} {w : Cond} (hW : s.WarmedH U.vm) (hvm : s.vm = U.vm) (hg : vx_ot w = true) (h : w.before args s = true) : w.before a' U = true := by
  simp only [vx_ot, Bool.or_eq_true] at hg
  rcases hg with hg | hg
  · exact va_tabs hg hvm h
  · exact word_at hW (good_of_word hg) h
/-- a list's words: the good ones out of the method's own list, the others by premises of their own -/
theorem vx_hat {args : Array Value} {s : State} {L B : List Cond} (h1 : ∀ w ∈ L.filter goodWord, w.before args s = true) (h2 : ∀ w ∈ L.filter (fun w => !goodWord w), w ∈ B) (h3 : ∀ w ∈ B, w.before args s = true) : ∀ w ∈ L, w.before args s = true := by
  intro w hw
  by_cases g : goodWord w = true
  · exact h1 w (List.mem_filter.mpr ⟨hw, g⟩)
  · refine h3 w (h2 w (List.mem_filter.mpr ⟨hw, ?_⟩))
    show (!goodWord w) = true
    cases hgw : goodWord w
    · rfl
    · exact absurd hgw g
theorem vx_c {args : Array Value} {s : State} {w : Cond} {B : List Cond} (h : w.before args s = true) (t : ∀ w ∈ B, w.before args s = true) : ∀ w' ∈ w :: B, w'.before args s = true := fun w' h' => (List.mem_cons.mp h').elim (fun e => by rw [e]; exact h) (t w')
theorem vx_n {args : Array Value} {s : State} : ∀ w ∈ ([] : List Cond), w.before args s = true := fun _ h => nomatch h
theorem vx_own {args : Array Value} {s : State} {L : List Cond} (h1 : ∀ w ∈ L.filter vx_no, w.before args s = true)
    (hU : (Cond.isRef (.static Bundle.tN "UNASSIGNED_STACK" Bundle.steD)).before args s = true) (hN : (Cond.isRef (.static Bundle.tN "SUPPRESSED_SENTINEL" Bundle.listD)).before args s = true)
    (lU : (Cond.laysStatic Bundle.tN "UNASSIGNED_STACK" Bundle.steD).before args s = true) (lN : (Cond.laysStatic Bundle.tN "SUPPRESSED_SENTINEL" Bundle.listD).before args s = true) : ∀ w ∈ L, w.before args s = true := by
  intro w hw
  by_cases e1 : w = .isRef (.static Bundle.tN "UNASSIGNED_STACK" Bundle.steD)
  · rw [e1]; exact hU
  · by_cases e2 : w = .isRef (.static Bundle.tN "SUPPRESSED_SENTINEL" Bundle.listD)
    · rw [e2]; exact hN
    · by_cases e3 : w = .laysStatic Bundle.tN "UNASSIGNED_STACK" Bundle.steD
      · rw [e3]; exact lU
      · by_cases e4 : w = .laysStatic Bundle.tN "SUPPRESSED_SENTINEL" Bundle.listD
        · rw [e4]; exact lN
        · exact h1 w (List.mem_filter.mpr ⟨hw, by unfold vx_no; rw [decide_eq_true e1, decide_eq_true e2, decide_eq_true e3, decide_eq_true e4]; rfl⟩)
/-- where a static field lies, its class's statics cell in H -/
def vx_L (C n d : String) (A : Nat → Prop) (U : State) (H : Heap) : Prop := ∃ (c : ClassId) (k : Class) (i : Nat) (f : Field) (a : Nat) (cell : Cell), U.vm.findClass C = some c ∧ U.fieldFound? C n d = some (c, k, i, f) ∧ f.isStatic = true ∧ k.statics = some a ∧ H[a]? = some cell ∧ cell.vm.isStatics = true ∧ cell.cls = c ∧ f.slot < cell.slots.size ∧ k.staticTypes[f.slot]? = some f.type ∧ ¬ A a
theorem vx_L.moved {C n d : String} {A : Nat → Prop} {u U : State} {H : Heap} (hvm : u.vm.Alike U.vm) (h : vx_L C n d A u H) : vx_L C n d A U H := by
  obtain ⟨c, k, i, f, a, cell, h1, h2, h3, h4, h5, h6, h7, h8, h9, h10⟩ := h
  obtain ⟨k', hi', he⟩ := State.fieldFound?_setVm hvm h2
  exact ⟨c, k', i, f, a, cell, by rw [hvm.findClass]; exact h1, hi', h3, by rw [he]; exact h4, h5, h6, h7, h8, by rw [he]; exact h9, h10⟩
theorem vx_L.kept {C n d : String} {A : Nat → Prop} {U : State} {H H1 : Heap} (h : vx_L C n d A U H) (hq : ∀ a : Nat, a < H.size → ¬ A a → H1[a]? = H[a]?) : vx_L C n d A U H1 := by
  obtain ⟨c, k, i, f, a, cell, h1, h2, h3, h4, h5, h6, h7, h8, h9, h10⟩ := h
  exact ⟨c, k, i, f, a, cell, h1, h2, h3, h4, by rw [hq a (Array.getElem?_eq_some_iff.mp h5).1 h10]; exact h5, h6, h7, h8, h9, h10⟩
theorem vx_L.narrow {C n d : String} {A B : Nat → Prop} {U : State} {H : Heap} (h : vx_L C n d A U H) (hAB : ∀ q, B q → A q) : vx_L C n d B U H := by
  obtain ⟨c, k, i, f, a, cell, h1, h2, h3, h4, h5, h6, h7, h8, h9, h10⟩ := h
  exact ⟨c, k, i, f, a, cell, h1, h2, h3, h4, h5, h6, h7, h8, h9, fun z => h10 (hAB _ z)⟩
theorem vx_L.word {C n d : String} {A : Nat → Prop} {s : State} {args : Array Value} (h : vx_L C n d A s s.heap) : (Cond.laysStatic C n d).before args s = true := by
  obtain ⟨c, k, i, f, a, cell, h1, h2, h3, h4, h5, h6, h7, h8, h9, -⟩ := h
  show (Cond.laysStatic C n d).holds args s none s [] = true
  exact Cond.laysStatic_of h1 h2 h3 h4 h5 h6 h7 h8 h9
/-- .. and what it holds: null or some reference -/
def vx_Zq (C n d : String) (A : Nat → Prop) (U : State) (H : Heap) : Prop := va_Zq C n d A U H ∧ vx_L C n d A U H
theorem vx_Zq.moved {C n d : String} {A : Nat → Prop} {u U : State} {H : Heap} (hvm : u.vm.Alike U.vm) (h : vx_Zq C n d A u H) : vx_Zq C n d A U H := ⟨va_Zq.moved hvm h.1, vx_L.moved hvm h.2⟩
theorem vx_Zq.kept {C n d : String} {A : Nat → Prop} {U : State} {H H1 : Heap} (h : vx_Zq C n d A U H) (hq : ∀ a : Nat, a < H.size → ¬ A a → H1[a]? = H[a]?) : vx_Zq C n d A U H1 := ⟨va_Zq.kept h.1 hq, vx_L.kept h.2 hq⟩
theorem vx_Zq.narrow {C n d : String} {A B : Nat → Prop} {U : State} {H : Heap} (h : vx_Zq C n d A U H) (hAB : ∀ q, B q → A q) : vx_Zq C n d B U H := ⟨va_Zq.narrow h.1 hAB, vx_L.narrow h.2 hAB⟩
theorem vx_Zqof {args : Array Value} {s : State} {C n d : String} {A : Nat → Prop} (hl : (Cond.laysStatic C n d).before args s = true) (hini : (Cond.initialized C).before args s = true) (h : (Cond.isRef (.static C n d)).before args s = true) (hA : ∀ a : Nat, a < s.heap.size → ¬ A a) : vx_Zq C n d A s s.heap := by
  refine ⟨va_Zqof hl hini h hA, ?_⟩
  obtain ⟨c, k, i, f, a, cell, h1, h2, h3, h4, h5, h6, h7, h8, h9⟩ := Cond.laysStatic_spec hl
  exact ⟨c, k, i, f, a, cell, h1, h2, h3, h4, h5, h6, h7, h8, h9, hA a (Array.getElem?_eq_some_iff.mp h5).1⟩
theorem vx_isRef {C n d : String} {v : Value} {A : Nat → Prop} {s : State} {args : Array Value} (h : va_Z C n d v A s s.heap) (hv : v.isRef = true) : (Cond.isRef (.static C n d)).before args s = true := by
  obtain ⟨cf, kf, fi, f, a, cell, h1, h2, h3, h4, h5, h6, h7, -⟩ := h
  have he : (Term.static C n d).eval args s none [] s = some v := by
    simp [Term.eval, State.fieldNamed?, h1, h2, h4, h5, h6, h7]
  simp only [Cond.before, Cond.holds, Cond.value, he]
  cases v <;> simp_all [Value.isRef]
theorem vx_isRefq {C n d : String} {A : Nat → Prop} {s : State} {args : Array Value} (h : va_Zq C n d A s s.heap) : (Cond.isRef (.static C n d)).before args s = true := by
  rcases h with h | ⟨t, h⟩
  · exact vx_isRef h rfl
  · exact vx_isRef h rfl
/-- the same frame, seen from here: as if the method were called anew in this heap -/
theorem vx_rebase {T : State} (X : Stand p l e R s m args below meth c T locs cells slots) {R' : Room} (hf : R'.frames ≤ R.frames) (hl : R'.locals ≤ R.locals) (hc : cells + R'.cells ≤ R.cells) (hs : slots + R'.slots ≤ R.slots) :
    Stand p l e R' ((T.setVm s.vm).setFrames (.invoking m args :: below)) m args below meth c T [] 0 0 := by
  have htop : (T.setVm s.vm).topJava?.isSome := X.here.top
  have hF : ((T.setVm s.vm).setFrames (.invoking m args :: below)).frames = .invoking m args :: below := State.frames_setFrames _ (State.cur_lt_of_top htop)
  obtain ⟨g₀, hg0⟩ := Option.isSome_iff_exists.mp htop
  obtain ⟨r, hr⟩ := State.topJava?_eq_some.mp hg0
  have hl9 : e.platform.stackLimits (T.setVm s.vm).me = e.platform.stackLimits s.me := X.limits
  have hb9 : (T.setVm s.vm).me.stackBytes = s.me.stackBytes := X.bytes
  refine ⟨X.admits, X.cas, X.clock, hF, ?_, X.hears, X.method, X.code, X.here, X.tail, X.warmed, ?_, ?_, ?_⟩
  · have h := X.room
    have hU : ((T.setVm s.vm).setFrames (.invoking m args :: below)).localsInUse = s.localsInUse := by
      rw [State.localsInUse_invoking hF (meth := meth) (c := c) X.method X.code, State.localsInUse_invoking X.frames X.method X.code]
    simp only [State.hasRoom, Bool.and_eq_true, decide_eq_true_eq] at h ⊢
    obtain ⟨⟨⟨⟨h1, h2, h3, h4, h5, h6⟩, h7⟩, h8⟩, h9⟩ := h
    rw [X.frames, List.length_cons] at h2 h3
    have q1 := X.heapSize
    have q2 := X.used
    simp only [hF, hU, List.length_cons, State.stackLimits_setFrames, State.stackBytes_setFrames, hl9, hb9]
    refine ⟨⟨⟨⟨by omega, by omega, by omega, by omega, by omega, h6⟩, ?_⟩, ?_⟩, X.book⟩
    · show T.heap.size + R'.cells ≤ e.platform.maxCells
      omega
    · show T.slotsUsed + R'.slots ≤ e.platform.maxSlots
      omega
  · rw [State.stackLimits_setFrames]; rfl
  · rw [State.stackBytes_setFrames]; rfl
  · refine ⟨?_, Nat.le_refl _, Nat.le_refl _, ?_, ?_, fun a c9 h9 => ⟨c9, h9, rfl, rfl, fun _ _ => rfl⟩⟩
    · obtain ⟨t, ht, -⟩ := State.frames_cons hr
      show T.setVm s.vm = { ((T.setVm s.vm).setFrames (.invoking m args :: below)).setFrames (T.setVm s.vm).frames with heap := T.heap, slotsUsed := T.slotsUsed }
      rw [State.setFrames_setFrames, State.setFrames_self ht]
      rfl
    · show T.slotsUsed = T.slotsUsed + ((T.heap.toList.drop T.heap.size).map (·.slots.size)).sum
      rw [List.drop_eq_nil_of_le (Nat.le_of_eq Array.length_toList)]
      rfl
    · show ((T.heap.toList.drop T.heap.size).map (·.slots.size)).sum ≤ 0
      rw [List.drop_eq_nil_of_le (Nat.le_of_eq Array.length_toList)]
      exact Nat.le_refl _
/-- 'throw new E()': new; dup; invokespecial; athrow -/
theorem vx_throw0 {cc : ByteArray} {pc : Nat} (hexec : p.tables.exec = Jvm.exec) (hb : c.code = cc) (hl : l.stackTraces = false) {own cls : String} {names : List String} {ik ic mc ms : Nat} {A : Nat → Prop}
    (hown : s.vm.findClass own = some m.cls) (hcls : Bundle.fit cls = true) (hnames : ∀ n ∈ names, Bundle.fit n = true)
    (hk : (Cond.classLink own ik cls).before args s = true) (hini : (Cond.initialized cls).before args s = true) (hat : ∀ w ∈ vx_at0 own ic cls names, w.before args s = true)
    (hgood : ∀ w ∈ Cond.classLink own ik cls :: Cond.initialized cls :: vx_at0 own ic cls names, vx_ot w = true)
    (hU : vx_Zq Bundle.tN "UNASSIGNED_STACK" Bundle.steD A s s.heap) (hN : vx_Zq Bundle.tN "SUPPRESSED_SENTINEL" Bundle.listD A s s.heap) (hS : va_S A s.heap H locs) (hsize : ls.size = c.maxLocals)
    (d0 : decode cc pc = .ok (.new ik, 3)) (d3 : decode cc (pc + 3) = .ok (.dup, 1)) (d4 : decode cc (pc + 4) = .ok (.invokespecial ic, 3)) (d7 : decode cc (pc + 7) = .ok (.athrow, 1))
    (hout : ∀ x ∈ c.exceptionTable.toList, covers x (pc + 7) = false)
    (hRframes : names.length + 3 < R.frames) (hRlocals : (rest.map fun v => v.category).sum + (13 * (names.length + 1) + 42) ≤ R.locals) (hRcells : cells + 1 ≤ R.cells) (hRslots : slots + 6 ≤ R.slots) (hlocks : meth.locks = false)
    (hx : ∀ t : State, s.vm.Alike t.vm → H.size ≤ t.heap.size → (∀ q : Nat, q < H.size → t.heap[q]? = H[q]?) → XC cls s t)
    (hf : ∀ z ∈ locs, free z.base) (hc : cells + 1 ≤ mc) (hs : slots + 6 ≤ ms) :
    W p l e R s m args below meth c H locs cells slots (vx_MQ below Qc XC args s mc ms free) (F0 m pc ls rest) := by
  intro T hT X
  have htr : e.platform.stackTraces = false := (show e.platform.stackTraces = l.stackTraces by rw [X.admits.platform]).trans hl
  have Y := vx_rebase X (R' := { frames := R.frames, locals := R.locals, cells := 1, slots := 6 }) (Nat.le_refl _) (Nat.le_refl _) hRcells hRslots
  obtain ⟨s', hA⟩ : ∃ z, z = (T.setVm s.vm).setFrames (.invoking m args :: below) := ⟨_, rfl⟩
  rw [← hA] at Y
  have hvm : s'.vm = s.vm := by rw [hA]; rfl
  have hhp : s'.heap = H := by rw [hA]; exact hT
  have hW0 : s.WarmedH s'.vm := by rw [hvm]; exact State.WarmedH.refl s
  have hat' : ∀ w ∈ vx_at0 own ic cls names, w.before args s' = true := fun w hw => vx_ot_at hW0 hvm.symm (hgood w (List.mem_cons_of_mem _ (List.mem_cons_of_mem _ hw))) (hat w hw)
  have hk' : (Cond.classLink own ik cls).before args s' = true := vx_ot_at hW0 hvm.symm (hgood _ List.mem_cons_self) hk
  have hini' : (Cond.initialized cls).before args s' = true := vx_ot_at hW0 hvm.symm (hgood _ (List.mem_cons_of_mem _ List.mem_cons_self)) hini
  have hU' : vx_Zq Bundle.tN "UNASSIGNED_STACK" Bundle.steD A s' s'.heap := by rw [hhp]; exact vx_Zq.moved hW0.alike (hU.kept hS.2.1)
  have hN' : vx_Zq Bundle.tN "SUPPRESSED_SENTINEL" Bundle.listD A s' s'.heap := by rw [hhp]; exact vx_Zq.moved hW0.alike (hN.kept hS.2.1)
  have h : ∀ w ∈ Bundle.ownAtoms0 own ic cls names, w.before args s' = true := vx_own hat' (vx_isRefq hU'.1) (vx_isRefq hN'.1) hU'.2.word hN'.2.word
  have hown' : s'.vm.findClass own = some m.cls := by rw [hvm]; exact hown
  have hins : (Cond.instantiable cls 6).before args s' = true := h _ (by simp [Bundle.ownAtoms0])
  obtain ⟨vm₁, cX, kX, hfX, hkX, -, -, X₁, st1⟩ := Y.newCold hexec (own := own) (C := cls) (index := ik) (n := 6) hown' hk' hins hini'
    (g := F0 m pc ls rest) rfl (by rw [hb]; exact d0) (Nat.le_refl _) (Nat.le_refl _)
  generalize hT1 : (T.setVm vm₁).pushCell { cls := cX, slots := kX.instanceTypes.map defaultValue, vm := .none } = T1 at X₁ st1
  have hcat : (Value.ref T.heap.size).category = 1 := rfl
  have hcellA : T1.heap[T.heap.size]? = some (freshCell cX kX) := by rw [← hT1]; exact State.heap_pushCell_size _ _
  have d3' : decode c.code (pc + 3) = .ok (.dup, 1) := by rw [hb]; exact d3
  obtain ⟨U, hsteps, hrun, hend, hW, hsame, ce, hce, hO⟩ := X₁.ctorThrow0 hexec htr (own := own) (cls := cls) (names := names) (ic := ic) hown' hcls hnames h (fun x hx => nomatch hx) hfX hkX hcellA (by rw [hhp, hT]; exact Nat.le_refl _)
    (g := { method := m, pc := pc + 4, locals := ls, stack := .ref T.heap.size :: .ref T.heap.size :: rest, locked := none }) rfl hsize rfl rfl (rest := rest) rfl
    (by rw [hb]; exact d4) (by rw [hb]; exact d7) hout hRframes (by simp only [List.map_cons, List.sum_cons, hcat]; omega) hlocks
  obtain ⟨f1, f2⟩ := vx_frame hsame
  rw [hhp] at f1 f2
  have hWs : s.WarmedH U.vm := State.WarmedH.trans hW0 hW
  have hcl : s.vm.findClass cls = some ce.cls := by
    have h9 := hO.cls
    rw [hvm] at h9
    exact h9
  have hall : s.sameButNew ({ U with vm := s.vm } : State) locs mc ms := by
    subst hA
    obtain ⟨e1, e2⟩ := hsame
    rw [State.setFrames_setFrames] at e1
    have h2 : (T.setVm s.vm).sameButNew ({ U with vm := s.vm } : State) [] (0 + 1) (0 + 6) := ⟨e1, e2⟩
    have h3 := X.same.trans h2
    rw [List.append_nil] at h3
    exact h3.mono hc hs
  refine ⟨U, ?_, .threw T.heap.size, hrun, hend, Or.inr ⟨T.heap.size, rfl, cls, ce, locs, hx U hWs.alike f1 (fun q hq => f2 q hq (fun z hz => nomatch hz)), hce, hO.vm, hcl, hWs, hall, hf⟩⟩
  refine st1 _ ?_
  show Steps p.tables e below (T1.setTop { method := m, pc := pc + 3, locals := ls, stack := .ref T.heap.size :: rest, locked := none }) _
  jvm_step X₁.here [X₁.here.top, hexec, d3', Value.category]
  exact hsteps
/-- 'throw new E("text")': new; dup; ldc; invokespecial; athrow -/
theorem vx_throwS {cc : ByteArray} {pc : Nat} (hexec : p.tables.exec = Jvm.exec) (hb : c.code = cc) (hl : l.stackTraces = false) {own cls text : String} {names : List String} {ik is ic mc ms sa : Nat} {A : Nat → Prop}
    (hown : s.vm.findClass own = some m.cls) (hcls : Bundle.fit cls = true) (hnames : ∀ n ∈ names, Bundle.fit n = true)
    (hk : (Cond.classLink own ik cls).before args s = true) (hini : (Cond.initialized cls).before args s = true) (hstr : vk_R own is text sa s) (hat : ∀ w ∈ vx_atS own ic cls names, w.before args s = true)
    (hgood : ∀ w ∈ Cond.classLink own ik cls :: Cond.initialized cls :: vx_atS own ic cls names, vx_ot w = true)
    (hU : vx_Zq Bundle.tN "UNASSIGNED_STACK" Bundle.steD A s s.heap) (hN : vx_Zq Bundle.tN "SUPPRESSED_SENTINEL" Bundle.listD A s s.heap) (hS : va_S A s.heap H locs) (hsize : ls.size = c.maxLocals)
    (d0 : decode cc pc = .ok (.new ik, 3)) (d3 : decode cc (pc + 3) = .ok (.dup, 1)) (d4 : decode cc (pc + 4) = .ok (.ldc is, 2)) (d6 : decode cc (pc + 6) = .ok (.invokespecial ic, 3)) (d9 : decode cc (pc + 9) = .ok (.athrow, 1))
    (hout : ∀ x ∈ c.exceptionTable.toList, covers x (pc + 9) = false)
    (hRframes : names.length + 3 < R.frames) (hRlocals : (rest.map fun v => v.category).sum + (13 * (names.length + 1) + 43) ≤ R.locals) (hRcells : cells + 1 ≤ R.cells) (hRslots : slots + 6 ≤ R.slots) (hlocks : meth.locks = false)
    (hx : ∀ t : State, s.vm.Alike t.vm → H.size ≤ t.heap.size → (∀ q : Nat, q < H.size → t.heap[q]? = H[q]?) → XC cls s t)
    (hf : ∀ z ∈ locs, free z.base) (hc : cells + 1 ≤ mc) (hs : slots + 6 ≤ ms) :
    W p l e R s m args below meth c H locs cells slots (vx_MQ below Qc XC args s mc ms free) (F0 m pc ls rest) := by
  intro T hT X
  have htr : e.platform.stackTraces = false := (show e.platform.stackTraces = l.stackTraces by rw [X.admits.platform]).trans hl
  have Y := vx_rebase X (R' := { frames := R.frames, locals := R.locals, cells := 1, slots := 6 }) (Nat.le_refl _) (Nat.le_refl _) hRcells hRslots
  obtain ⟨s', hA⟩ : ∃ z, z = (T.setVm s.vm).setFrames (.invoking m args :: below) := ⟨_, rfl⟩
  rw [← hA] at Y
  have hvm : s'.vm = s.vm := by rw [hA]; rfl
  have hhp : s'.heap = H := by rw [hA]; exact hT
  have hW0 : s.WarmedH s'.vm := by rw [hvm]; exact State.WarmedH.refl s
  have hat' : ∀ w ∈ vx_atS own ic cls names, w.before args s' = true := fun w hw => vx_ot_at hW0 hvm.symm (hgood w (List.mem_cons_of_mem _ (List.mem_cons_of_mem _ hw))) (hat w hw)
  have hk' : (Cond.classLink own ik cls).before args s' = true := vx_ot_at hW0 hvm.symm (hgood _ List.mem_cons_self) hk
  have hini' : (Cond.initialized cls).before args s' = true := vx_ot_at hW0 hvm.symm (hgood _ (List.mem_cons_of_mem _ List.mem_cons_self)) hini
  have hU' : vx_Zq Bundle.tN "UNASSIGNED_STACK" Bundle.steD A s' s'.heap := by rw [hhp]; exact vx_Zq.moved hW0.alike (hU.kept hS.2.1)
  have hN' : vx_Zq Bundle.tN "SUPPRESSED_SENTINEL" Bundle.listD A s' s'.heap := by rw [hhp]; exact vx_Zq.moved hW0.alike (hN.kept hS.2.1)
  have h : ∀ w ∈ Bundle.ownAtoms own ic cls names, w.before args s' = true := vx_own hat' (vx_isRefq hU'.1) (vx_isRefq hN'.1) hU'.2.word hN'.2.word
  have hown' : s'.vm.findClass own = some m.cls := by rw [hvm]; exact hown
  have hins : (Cond.instantiable cls 6).before args s' = true := h _ (by simp [Bundle.ownAtoms])
  obtain ⟨vm₁, cX, kX, hfX, hkX, -, -, X₁, st1⟩ := Y.newCold hexec (own := own) (C := cls) (index := ik) (n := 6) hown' hk' hins hini'
    (g := F0 m pc ls rest) rfl (by rw [hb]; exact d0) (Nat.le_refl _) (Nat.le_refl _)
  generalize hT1 : (T.setVm vm₁).pushCell { cls := cX, slots := kX.instanceTypes.map defaultValue, vm := .none } = T1 at X₁ st1
  have hcat : (Value.ref T.heap.size).category = 1 := rfl
  have hcellA : T1.heap[T.heap.size]? = some (freshCell cX kX) := by rw [← hT1]; exact State.heap_pushCell_size _ _
  have d3' : decode c.code (pc + 3) = .ok (.dup, 1) := by rw [hb]; exact d3
  have d4' : decode c.code (pc + 4) = .ok (.ldc is, 2) := by rw [hb]; exact d4
  have hstr' : vk_R own is text sa s' := vk_R.warm hW0 hstr
  obtain ⟨U, hsteps, hrun, hend, hW, hsame, ce, hce, hO⟩ := X₁.ctorThrowS hexec htr (own := own) (cls := cls) (names := names) (ic := ic) hown' hcls hnames h (fun x hx => nomatch hx) hfX hkX hcellA (by rw [hhp, hT]; exact Nat.le_refl _) (msg := .ref sa) rfl
    (g := { method := m, pc := pc + 6, locals := ls, stack := .ref sa :: .ref T.heap.size :: .ref T.heap.size :: rest, locked := none }) rfl hsize rfl rfl (rest := rest) rfl
    (by rw [hb]; exact d6) (by rw [hb]; exact d9) hout hRframes (by simp only [List.map_cons, List.sum_cons, hcat]; omega) hlocks
  obtain ⟨f1, f2⟩ := vx_frame hsame
  rw [hhp] at f1 f2
  have hWs : s.WarmedH U.vm := State.WarmedH.trans hW0 hW
  have hcl : s.vm.findClass cls = some ce.cls := by
    have h9 := hO.cls
    rw [hvm] at h9
    exact h9
  have hall : s.sameButNew ({ U with vm := s.vm } : State) locs mc ms := by
    subst hA
    obtain ⟨e1, e2⟩ := hsame
    rw [State.setFrames_setFrames] at e1
    have h2 : (T.setVm s.vm).sameButNew ({ U with vm := s.vm } : State) [] (0 + 1) (0 + 6) := ⟨e1, e2⟩
    have h3 := X.same.trans h2
    rw [List.append_nil] at h3
    exact h3.mono hc hs
  refine ⟨U, ?_, .threw T.heap.size, hrun, hend, Or.inr ⟨T.heap.size, rfl, cls, ce, locs, hx U hWs.alike f1 (fun q hq => f2 q hq (fun z hz => nomatch hz)), hce, hO.vm, hcl, hWs, hall, hf⟩⟩
  refine st1 _ ?_
  show Steps p.tables e below (T1.setTop { method := m, pc := pc + 3, locals := ls, stack := .ref T.heap.size :: rest, locked := none }) _
  jvm_step X₁.here [X₁.here.top, hexec, d3', Value.category]
  exact X₁.ldcString hexec (own := own) (text := text) (index := is) (a := sa) hown' hstr'.1 hstr'.2
    (g := { method := m, pc := pc + 4, locals := ls, stack := .ref T.heap.size :: .ref T.heap.size :: rest, locked := none }) rfl d4' _ hsteps
/-- 'throw new E("text")', the text by a wide index -/
theorem vx_throwSW {cc : ByteArray} {pc : Nat} (hexec : p.tables.exec = Jvm.exec) (hb : c.code = cc) (hl : l.stackTraces = false) {own cls text : String} {names : List String} {ik is ic mc ms sa : Nat} {A : Nat → Prop}
    (hown : s.vm.findClass own = some m.cls) (hcls : Bundle.fit cls = true) (hnames : ∀ n ∈ names, Bundle.fit n = true)
    (hk : (Cond.classLink own ik cls).before args s = true) (hini : (Cond.initialized cls).before args s = true) (hstr : vk_R own is text sa s) (hat : ∀ w ∈ vx_atS own ic cls names, w.before args s = true)
    (hgood : ∀ w ∈ Cond.classLink own ik cls :: Cond.initialized cls :: vx_atS own ic cls names, vx_ot w = true)
    (hU : vx_Zq Bundle.tN "UNASSIGNED_STACK" Bundle.steD A s s.heap) (hN : vx_Zq Bundle.tN "SUPPRESSED_SENTINEL" Bundle.listD A s s.heap) (hS : va_S A s.heap H locs) (hsize : ls.size = c.maxLocals)
    (d0 : decode cc pc = .ok (.new ik, 3)) (d3 : decode cc (pc + 3) = .ok (.dup, 1)) (d4 : decode cc (pc + 4) = .ok (.ldc_w is, 3)) (d7 : decode cc (pc + 7) = .ok (.invokespecial ic, 3)) (d10 : decode cc (pc + 10) = .ok (.athrow, 1))
    (hout : ∀ x ∈ c.exceptionTable.toList, covers x (pc + 10) = false)
    (hRframes : names.length + 3 < R.frames) (hRlocals : (rest.map fun v => v.category).sum + (13 * (names.length + 1) + 43) ≤ R.locals) (hRcells : cells + 1 ≤ R.cells) (hRslots : slots + 6 ≤ R.slots) (hlocks : meth.locks = false)
    (hx : ∀ t : State, s.vm.Alike t.vm → H.size ≤ t.heap.size → (∀ q : Nat, q < H.size → t.heap[q]? = H[q]?) → XC cls s t)
    (hf : ∀ z ∈ locs, free z.base) (hc : cells + 1 ≤ mc) (hs : slots + 6 ≤ ms) :
    W p l e R s m args below meth c H locs cells slots (vx_MQ below Qc XC args s mc ms free) (F0 m pc ls rest) := by
  intro T hT X
  have htr : e.platform.stackTraces = false := (show e.platform.stackTraces = l.stackTraces by rw [X.admits.platform]).trans hl
  have Y := vx_rebase X (R' := { frames := R.frames, locals := R.locals, cells := 1, slots := 6 }) (Nat.le_refl _) (Nat.le_refl _) hRcells hRslots
  obtain ⟨s', hA⟩ : ∃ z, z = (T.setVm s.vm).setFrames (.invoking m args :: below) := ⟨_, rfl⟩
  rw [← hA] at Y
  have hvm : s'.vm = s.vm := by rw [hA]; rfl
  have hhp : s'.heap = H := by rw [hA]; exact hT
  have hW0 : s.WarmedH s'.vm := by rw [hvm]; exact State.WarmedH.refl s
  have hat' : ∀ w ∈ vx_atS own ic cls names, w.before args s' = true := fun w hw => vx_ot_at hW0 hvm.symm (hgood w (List.mem_cons_of_mem _ (List.mem_cons_of_mem _ hw))) (hat w hw)
  have hk' : (Cond.classLink own ik cls).before args s' = true := vx_ot_at hW0 hvm.symm (hgood _ List.mem_cons_self) hk
  have hini' : (Cond.initialized cls).before args s' = true := vx_ot_at hW0 hvm.symm (hgood _ (List.mem_cons_of_mem _ List.mem_cons_self)) hini
  have hU' : vx_Zq Bundle.tN "UNASSIGNED_STACK" Bundle.steD A s' s'.heap := by rw [hhp]; exact vx_Zq.moved hW0.alike (hU.kept hS.2.1)
  have hN' : vx_Zq Bundle.tN "SUPPRESSED_SENTINEL" Bundle.listD A s' s'.heap := by rw [hhp]; exact vx_Zq.moved hW0.alike (hN.kept hS.2.1)
  have h : ∀ w ∈ Bundle.ownAtoms own ic cls names, w.before args s' = true := vx_own hat' (vx_isRefq hU'.1) (vx_isRefq hN'.1) hU'.2.word hN'.2.word
  have hown' : s'.vm.findClass own = some m.cls := by rw [hvm]; exact hown
  have hins : (Cond.instantiable cls 6).before args s' = true := h _ (by simp [Bundle.ownAtoms])
  obtain ⟨vm₁, cX, kX, hfX, hkX, -, -, X₁, st1⟩ := Y.newCold hexec (own := own) (C := cls) (index := ik) (n := 6) hown' hk' hins hini'
    (g := F0 m pc ls rest) rfl (by rw [hb]; exact d0) (Nat.le_refl _) (Nat.le_refl _)
  generalize hT1 : (T.setVm vm₁).pushCell { cls := cX, slots := kX.instanceTypes.map defaultValue, vm := .none } = T1 at X₁ st1
  have hcat : (Value.ref T.heap.size).category = 1 := rfl
  have hcellA : T1.heap[T.heap.size]? = some (freshCell cX kX) := by rw [← hT1]; exact State.heap_pushCell_size _ _
  have d3' : decode c.code (pc + 3) = .ok (.dup, 1) := by rw [hb]; exact d3
  have d4' : decode c.code (pc + 4) = .ok (.ldc_w is, 3) := by rw [hb]; exact d4
  have hstr' : vk_R own is text sa s' := vk_R.warm hW0 hstr
  obtain ⟨U, hsteps, hrun, hend, hW, hsame, ce, hce, hO⟩ := X₁.ctorThrowS hexec htr (own := own) (cls := cls) (names := names) (ic := ic) hown' hcls hnames h (fun x hx => nomatch hx) hfX hkX hcellA (by rw [hhp, hT]; exact Nat.le_refl _) (msg := .ref sa) rfl
    (g := { method := m, pc := pc + 7, locals := ls, stack := .ref sa :: .ref T.heap.size :: .ref T.heap.size :: rest, locked := none }) rfl hsize rfl rfl (rest := rest) rfl
    (by rw [hb]; exact d7) (by rw [hb]; exact d10) hout hRframes (by simp only [List.map_cons, List.sum_cons, hcat]; omega) hlocks
  obtain ⟨f1, f2⟩ := vx_frame hsame
  rw [hhp] at f1 f2
  have hWs : s.WarmedH U.vm := State.WarmedH.trans hW0 hW
  have hcl : s.vm.findClass cls = some ce.cls := by
    have h9 := hO.cls
    rw [hvm] at h9
    exact h9
  have hall : s.sameButNew ({ U with vm := s.vm } : State) locs mc ms := by
    subst hA
    obtain ⟨e1, e2⟩ := hsame
    rw [State.setFrames_setFrames] at e1
    have h2 : (T.setVm s.vm).sameButNew ({ U with vm := s.vm } : State) [] (0 + 1) (0 + 6) := ⟨e1, e2⟩
    have h3 := X.same.trans h2
    rw [List.append_nil] at h3
    exact h3.mono hc hs
  refine ⟨U, ?_, .threw T.heap.size, hrun, hend, Or.inr ⟨T.heap.size, rfl, cls, ce, locs, hx U hWs.alike f1 (fun q hq => f2 q hq (fun z hz => nomatch hz)), hce, hO.vm, hcl, hWs, hall, hf⟩⟩
  refine st1 _ ?_
  show Steps p.tables e below (T1.setTop { method := m, pc := pc + 3, locals := ls, stack := .ref T.heap.size :: rest, locked := none }) _
  jvm_step X₁.here [X₁.here.top, hexec, d3', Value.category]
  exact X₁.ldcStringW hexec (own := own) (text := text) (index := is) (a := sa) hown' hstr'.1 hstr'.2
    (g := { method := m, pc := pc + 4, locals := ls, stack := .ref T.heap.size :: .ref T.heap.size :: rest, locked := none }) rfl d4' _ hsteps
end Ends
section Bodies
variable {l : Launch}
theorem vx_ofW {y : MethodName} {ws ws' : List Cond} {rm : Room} {Pc : Array Value → State → Prop} {Qc : Array Value → State → Outcome → State → Prop} {XC : String → State → State → Prop} {mc ms : Nat} {free : Addr → Prop} {cc : ByteArray} {maxL : Nat} {ret : Option FieldType}
    (hy : plainName y.cls = true) (hw : ws = Cond.code y cc maxL ret :: ws')
    (body : ∀ p e s m args below meth c s₁, BodyLoose p l y (headSpec ws rm) cc maxL ret e s m args below meth c s₁ → c.maxLocals = maxL → (∀ x ∈ c.exceptionTable.toList, False) → Pc args s →
      W p l e (headSpec ws rm).room s m args below meth c s.heap [] 0 0 (vx_MQ below Qc XC args s mc ms free) (entryFrame m args maxL)) : vx_Met l y ws rm Pc Qc XC mc ms free := by
  refine MetFree.of_bodyS (code := cc) (maxLocals := maxL) (ret := ret) hy ?_ ?_
  · intro args s m h hn
    obtain ⟨meth, c, h1, h2, h3, h4, h5, h6, -, -⟩ := Cond.code_spec hn (atoms_spec (ws := ws) h _ (by rw [hw]; exact List.mem_cons_self))
    exact ⟨meth, c, h1, h2, h3, h4, h5, h6⟩
  · intro p e s m args below meth c s₁ B hml hP _
    have hh0 : s₁.heap = s.heap := by rw [B.state]; rfl
    have ht : ∀ x ∈ c.exceptionTable.toList, False := by
      obtain ⟨meth9, c9, h1, h2, -, -, -, -, h7, -⟩ := Cond.code_spec B.named (atoms_spec (ws := ws) B.pre _ (by rw [hw]; exact List.mem_cons_self))
      cases Option.some.inj (h1.symm.trans B.method)
      cases Option.some.inj (h2.symm.trans (Stand.of_body B).code)
      intro x hx
      rw [Array.isEmpty_iff.mp h7] at hx
      cases hx
    obtain ⟨t, a1, o, b1, b2, b3⟩ := body p e s m args below meth c s₁ B hml ht hP s₁ hh0 (Stand.of_body B)
    exact ⟨t, o, a1, b1, b2, b3⟩
/-- the table of a body with handlers -/
theorem vx_table {p : Program} {x y : MethodName} {S : Spec} {cc bytes : ByteArray} {maxL maxL' : Nat} {ret ret' : Option FieldType} {e : Env} {s s₁ : State} {m : MethodId} {args : Array Value} {below : List Frame} {meth : Method} {c : Code} {hh : List (Nat × Nat × Nat × Nat)}
    (B : BodyLoose p l y S cc maxL ret e s m args below meth c s₁) (h : (Cond.codeWith y bytes maxL' ret' hh).before args s = true) : c.exceptionTable.toList = tableOf hh := by
  obtain ⟨m9, meth9, c9, hn9, h1, h2, -, -, h6, -⟩ := Cond.codeWith_spec h
  cases Option.some.inj (hn9.symm.trans B.named)
  cases Option.some.inj (h1.symm.trans B.method)
  cases Option.some.inj (h2.symm.trans (Stand.of_body B).code)
  rw [← h6, table_eq]
end Bodies
end VXA
/-! ===== END ===== -/
/-! ===== BEGIN a static call of a method with an exception table ===== -/
section VXS
variable {p : Program} {l : Launch} {e : Env} {R : Room} {s : State} {m : MethodId} {args : Array Value} {below : List Frame} {meth : Method} {c : Code} {T : State} {H : Heap} {locs : List Loc} {cells slots : Nat}
abbrev vx_CSW (R : Room) (s : State) (args : Array Value) (own : String) (index : Nat) (y : MethodName) (bytes : ByteArray) (maxL : Nat) (ret : Option FieldType) (hh : List (Nat × Nat × Nat × Nat)) (ws : List Cond) (rm : Room) (mc ms n : Nat) : Prop :=
  (rm.cells = mc ∧ rm.slots = ms ∧ rm.frames + 1 ≤ R.frames ∧ 8 + (maxL + 11) + rm.locals ≤ R.locals ∧ (∀ w ∈ ws, ∀ (a' : Array Value) (U : State), s.WarmedH U.vm → w.before a' U = true) ∧ Cond.codeWith y bytes maxL ret hh ∈ ws) ∧
  (Cond.codeWith y bytes maxL ret hh).before args s = true ∧ (Cond.initialized y.cls).before args s = true ∧ (y.cls ≠ "java/lang/invoke/MethodHandle" ∧ y.cls ≠ "java/lang/invoke/VarHandle") ∧
  (∀ sig, parseMethodDescriptor y.desc = some sig → n = sig.parameters.length) ∧ (Cond.methodLink own index y).before args s = true ∧ (Cond.static y).before args s = true
theorem vx_cwSW {own : String} {index maxL mc ms : Nat} {y : MethodName} {bytes : ByteArray} {ret : Option FieldType} {hh : List (Nat × Nat × Nat × Nat)} {Ts ws ws' : List Cond} {rm : Room} (n : Nat) (ht : ∀ w ∈ Ts, w.before args s = true) (hT : GoodIn Ts (va_wsS own index y ws)) (hw : ws = Cond.codeWith y bytes maxL ret hh :: ws') (hrc : rm.cells = mc) (hrs : rm.slots = ms)
    (hd : y.cls ≠ "java/lang/invoke/MethodHandle" ∧ y.cls ≠ "java/lang/invoke/VarHandle" ∧ (parseMethodDescriptor y.desc).map (fun d => d.parameters.length) = some n) (hR : rm.frames + 1 ≤ R.frames ∧ 8 + (maxL + 11) + rm.locals ≤ R.locals) :
    vx_CSW R s args own index y bytes maxL ret hh ws rm mc ms n := by
  have ok : ∀ w ∈ va_wsS own index y ws, w.before args s = true := fun w h => ht w (hT w h).1
  have hG : GoodIn Ts ws := fun w h => hT w (by unfold va_wsS; exact List.mem_append_right _ h)
  have hc : Cond.codeWith y bytes maxL ret hh ∈ ws := by rw [hw]; exact List.mem_cons_self
  refine ⟨⟨hrc, hrs, hR.1, hR.2, pay_in ht hG, hc⟩, ht _ (hG _ hc).1, ok _ (by simp [va_wsS]), ⟨hd.1, hd.2.1⟩, fun sig h => ?_, ok _ (by simp [va_wsS]), ok _ (by simp [va_wsS])⟩
  have h2 := hd.2.2
  rw [h] at h2
  exact (Option.some.inj h2).symm
theorem vx_callSW (X : Stand p l e R s m args below meth c T locs cells slots) (hexec : p.tables.exec = Jvm.exec) {own : String} {index : Nat} {y : MethodName} {bytes : ByteArray} {maxL : Nat} {ret : Option FieldType} {hh : List (Nat × Nat × Nat × Nat)}
    (hown : s.vm.findClass own = some m.cls) (hlink : (Cond.methodLink own index y).before args s = true) (hstat : (Cond.static y).before args s = true) (hinit : (Cond.initialized y.cls).before args s = true)
    (hcode : (Cond.codeWith y bytes maxL ret hh).before args s = true) (hy : y.cls ≠ "java/lang/invoke/MethodHandle" ∧ y.cls ≠ "java/lang/invoke/VarHandle")
    {W9 : Nat} {Pre : Pt → Array Value → Prop} {Post : Pt → Array Value → Option Value → Pt → Prop} (hK : Back l R p e below s args y 3 W9 Pre Post)
    {g : JFrame} (hg : g.method = m) (hsize : g.locals.size = c.maxLocals) {argsL rest : List Value} (hlen : ∀ sig, parseMethodDescriptor y.desc = some sig → argsL.length = sig.parameters.length)
    (hstack : g.stack = argsL.reverse ++ rest) (hW : 2 * g.monitorRoom + (rest.map fun v => v.category).sum ≤ W9) (hdg : decode c.code g.pc = .ok (.invokestatic index, 3))
    (hpre : ∀ vm₁, s.WarmedH vm₁ → Pre ⟨T.setVm vm₁, locs, cells, slots⟩ argsL.toArray) :
    ∃ (v : Option Value) (vm₁ : Vm) (B : Pt), s.WarmedH vm₁ ∧ Stand p l e R s m args below meth c B.U B.locs B.cells B.slots ∧ Post ⟨T.setVm vm₁, locs, cells, slots⟩ argsL.toArray v B ∧
      ∀ target, Steps p.tables e below (B.U.setTop { g with pc := g.pc + 3, stack := v.toList ++ rest }) target → Steps p.tables e below (T.setTop g) target := by
  obtain ⟨mk, methM, cM, hnamed, hmethM, -, -, -, -, -, -, hsigM⟩ := Cond.codeWith_spec hcode
  have hstatic : methM.isStatic = true := Cond.static_spec hnamed hmethM hstat
  obtain ⟨kP, hkP, -⟩ := className_of_methodNamed hnamed
  have hinitP : kP.init = .initialized := Cond.initialized_spec (findClass_of_methodNamed hnamed) hkP hinit
  obtain ⟨vm₁, X₁, hstep₁⟩ := X.invokestatic hexec hown hlink hnamed hmethM hstatic hkP hinitP hy (g := g) hg (argsL := argsL) (rest := rest) (hlen _ hsigM) hstack hdg
  obtain ⟨v, B, X', hpost, hsteps⟩ := hK m meth c ⟨T.setVm vm₁, locs, cells, slots⟩ { g with stack := rest } (.invokestatic index) mk argsL.toArray X₁ hg hsize hdg hW (X₁.named hnamed) (hpre vm₁ X₁.warmed)
  exact ⟨v, vm₁, B, X₁.warmed, X', hpost, fun target h => hstep₁ _ fun acts => by rw [doInvoke_state]; exact hsteps.trans h⟩
theorem vx_runSW {y : MethodName} {bytes cc : ByteArray} {maxL nL mc ms n index : Nat} {ret : Option FieldType} {hh : List (Nat × Nat × Nat × Nat)} {ws : List Cond} {rm : Room} {Pc : Array Value → State → Prop} {Qc : Array Value → State → Outcome → State → Prop} {free : Addr → Prop} {Ts : List Cond} {own : String} {As rest : List Value} {g : JFrame}
    (S : CallFix p m c cc nL s args Ts own) (hM : Met l y ws rm Pc Qc mc ms free) (cw : vx_CSW R s args own index y bytes maxL ret hh ws rm mc ms n) (hp : PreS s H Pc As)
    (hg : g.method = m) (hn : As.length = n) (hsize : g.locals.size = nL) (hstack : g.stack = As.reverse ++ rest) (hW : 2 * g.monitorRoom + (rest.map fun v => v.category).sum ≤ 8) (hdg : decode cc g.pc = .ok (.invokestatic index, 3)) (hf : cells + mc ≤ R.cells ∧ slots + ms ≤ R.slots) :
    va_Run p l e R s m args below meth c H locs cells slots mc ms g rest (Qc As.toArray) (free) := by
  obtain ⟨⟨hrc, hrs, hfr, hlo, hws, hcw⟩, hcode, hini, hy, hlen, hl, hstt⟩ := cw
  have hK : Back l R p e below s args y 3 8 (PreOf R mc ms Pc) (PostOf Qc mc ms free) := va_backW (hh := hh) (bytes := bytes) (maxL := maxL) (ret := ret) hM hp.1 hrc hrs hfr hlo hws hcw (fun a' U hW => word_at hW (Or.inl (by first | rfl | simp [Cond.onTables, Cond.keeps, Cond.steady])) hini)
  obtain ⟨hx, hb, hml, ho, -⟩ := S
  intro T hT X
  obtain ⟨v, vm₁, ⟨U', l2, c2, s2⟩, hW₁, X', ⟨g', mk, t, L, e1, e2, hq, h1, hL, h2, h3⟩, st⟩ := vx_callSW X hx (hh := hh) (bytes := bytes) (maxL := maxL) (ret := ret) ho hl hstt hini hcode hy hK hg (hsize.trans hml.symm) (argsL := As) (rest := rest) (fun sig h => hn.trans (hlen sig h)) hstack hW (by rw [hb]; exact hdg)
    (fun vm₁ hW₁ => ⟨hf.1, hf.2, hp.2 (T.setVm vm₁) hT hW₁⟩)
  dsimp only [Pt.U, Pt.locs, Pt.cells, Pt.slots] at X' e1 e2 h1 h2 h3 st
  subst h1; subst h2; subst h3
  exact ⟨v, (T.setVm vm₁).calling g' mk As.toArray, t, U', L, hT, X', hL, e1, e2, hq, st⟩
/-- not caught here, past rows that name other classes: it goes on to the caller -/
theorem vx_outP {p : Program} {l : Launch} {e : Env} {R : Room} {s : State} {m : MethodId} {args : Array Value} {below : List Frame} {meth : Method} {c : Code} {H : Heap} {locs : List Loc} {cells slots : Nat} {free : Addr → Prop} {ls : Array Slot} {rest : List Value} {Qc : Array Value → State → Outcome → State → Prop} {XC : String → State → State → Prop}
    {pc : Nat} {own E : String} {ce : Cell} {q : Addr} {mc ms : Nat} (hown : s.vm.findClass own = some m.cls) (hlocks : meth.locks = false)
    (hpass : ∀ z ∈ c.exceptionTable.toList, covers z pc = false ∨ (z.catchType ≠ 0 ∧ ∃ nm : String, (Cond.classLink own z.catchType nm).before args s = true ∧ va_Nc E nm s)) (hcell : H[q]? = some ce) (hv : ce.vm = .none) (hcl : s.vm.findClass E = some ce.cls)
    (hx : ∀ t : State, t.heap = H → s.vm.Alike t.vm → XC E s t) (hf : ∀ z ∈ locs, free z.base) (hc : cells ≤ mc) (hs : slots ≤ ms) :
    vx_W p l e R s m args below meth c H locs cells slots (vx_MQ below Qc XC args s mc ms free) (F0 m pc ls rest) q := by
  intro T hT X
  have hpl : e.platform.magicAccessors = ({} : Platform).magicAccessors := by rw [X.admits.platform]
  obtain ⟨vm', hW', X', st⟩ := X.outThrough hlocks q (g := F0 m pc ls rest) rfl rfl rfl (cell := ce) (by rw [hT]; exact hcell) (by rw [hv]; rfl)
    (by obtain ⟨k9, h9, -⟩ := Vm.findClass_spec hcl; exact ⟨k9, h9⟩) (fun z hz => by
      rcases hpass z hz with h | ⟨hz0, nm, hl1, hn1⟩
      · exact Or.inl h
      · obtain ⟨c6, hc6, hcl6⟩ := Cond.classLink_spec hown hl1 e.platform hpl
        obtain ⟨a8, b8, h1, h2, h3⟩ := hn1
        cases Option.some.inj (h1.symm.trans hcl)
        cases Option.some.inj (h2.symm.trans hc6)
        exact Or.inr ⟨hz0, _, hcl6, h3⟩)
  obtain ⟨g₀, hfr⟩ := X'.frames_eq
  have hcell9 : ((T.setVm vm').setFrames (.throwing q :: below)).heap[q]? = some ce := by
    show T.heap[q]? = some ce
    rw [hT]; exact hcell
  have hend : Ended ((T.setVm vm').setFrames (.throwing q :: below)) below (.threw q) := State.frames_setFrames _ (State.cur_lt_of_frames hfr)
  refine ⟨(T.setVm vm').setFrames (.throwing q :: below), ?_, .threw q, X'.here.running, hend, Or.inr ⟨q, rfl, E, ce, locs, hx _ hT (X'.ends _).1.alike, hcell9, hv, hcl, (X'.ends _).1, (X'.ends _).2.mono hc hs, hf⟩⟩
  rw [X.pushThrowing_eq]
  exact st
/-- a thing of a world lies in the heap -/
theorem vx_lt {D : va_G} {cl : List vw_C} {ws : va_W} {H1 : Heap} (h : va_P D cl ws H1) {k : Nat} {q : Nat × va_E} (hk : ws[k]? = some q) : q.1 < H1.size := (h k q hk).lt
end VXS
/-! ===== END ===== -/
/-! ===== BEGIN methods with a table of their own: called by a name, returning or throwing ===== -/
section VXH
/-! vx_backW, vx_callVX, vx_callSX, vx_callVW, vx_runVW, vx_runVX, vx_runSX, vx_ofWH follow the same proofs as their sisters above (Free/Laws.lean, Shelf42/LK1.lean); vx_outP calls Shelf42/NT130.lean (outThrough). -/
section
variable {l : Launch} {R : Room} {p : Program} {e : Env} {below : List Frame} {s : State} {sargs : Array Value} {y : MethodName} {len W9 : Nat}
theorem vx_backW {ws : List Cond} {rm : Room} {Pc : Array Value → State → Prop} {Qc : Array Value → State → Outcome → State → Prop} {XC : String → State → State → Prop} {mc ms : Nat} {free : Addr → Prop} {bytes : ByteArray} {maxL : Nat} {ret : Option FieldType} {hh : List (Nat × Nat × Nat × Nat)}
    (hM : vx_Met l y ws rm Pc Qc XC mc ms free) (hblind : FrameBlind Pc) (hrc : rm.cells = mc) (hrs : rm.slots = ms)
    (hframes : rm.frames + 1 ≤ R.frames) (hlocals : W9 + (maxL + 11) + rm.locals ≤ R.locals)
    (hws : ∀ w ∈ ws, ∀ a' U, s.WarmedH U.vm → w.before a' U = true) (hcode : Cond.codeWith y bytes maxL ret hh ∈ ws) (hinit : ∀ a' U, s.WarmedH U.vm → (Cond.initialized y.cls).before a' U = true) :
    vx_Back l R p e below s sargs y len W9 (PreOf R mc ms Pc) (PostOf Qc mc ms free) (vx_Post XC mc ms free) := by
  intro m meth c A g ig mk a X hg hsize hdg hW hn hp
  have h1 : (headSpec ws rm).pre.before a A.U = true := atoms_intro fun w hw => hws w hw _ _ X.warmed
  have h2 : (Cond.codeWith y bytes maxL ret hh).before a A.U = true := hws _ hcode _ _ X.warmed
  have h3 : (Cond.initialized y.cls).before a A.U = true := hinit _ _ X.warmed
  have h4 : A.cells + (headSpec ws rm).room.cells ≤ R.cells := by rw [show (headSpec ws rm).room.cells = mc from hrc]; exact hp.1
  have h5 : A.slots + (headSpec ws rm).room.slots ≤ R.slots := by rw [show (headSpec ws rm).room.slots = ms from hrs]; exact hp.2.1
  have hPc : Pc a (A.U.calling g mk a) := hblind _ _ _ _ hp.2.2
  obtain ⟨U, Ls, c0, s0⟩ := A
  dsimp only [Pt.U, Pt.locs, Pt.cells, Pt.slots] at h1 h2 h3 h4 h5 X hn hPc ⊢
  obtain ⟨m9, methY, cY, hn9, hmY, hcY, -, hlY, -⟩ := Cond.codeWith_spec h2
  cases Option.some.inj (hn9.symm.trans hn)
  obtain ⟨kY, hkY, -⟩ := className_of_methodNamed hn
  have hinitY : kY.init = .initialized := Cond.initialized_spec (findClass_of_methodNamed hn) hkY h3
  have h : At U g.method c below := by rw [hg]; exact X.here
  have hlocals9 : W9 + (maxL + 11) + (headSpec ws rm).room.locals ≤ R.locals := hlocals
  have happ : (headSpec ws rm).appliesLoose y e.platform (U.calling g mk a) = true :=
    Spec.appliesLoose_calling (g := g) h hdg hn hkY hinitY
      (X.room_calling (g := g) (R' := (headSpec ws rm).room) hsize hmY hcY hframes (by rw [hlY]; omega) h4 h5) h1
  obtain ⟨mid, hmid⟩ := h.above
  have hfr : (U.setTop g).frames = (.java g :: mid) ++ below := by rw [State.frames_setTop' g h.top, hmid]; rfl
  obtain ⟨o, s₂, hsteps, -, hend, hq⟩ := Steps.callFree hM p X.admits X.cas X.clock (acts := []) hfr happ hPc trivial
  have hq' : vx_Q Qc XC mc ms free a (U.calling g mk a) o s₂ := hq
  rw [State.frames_setTop' g h.top] at hend
  obtain ⟨g₀, hg0⟩ := Option.isSome_iff_exists.mp h.top
  obtain ⟨r, hr⟩ := State.topJava?_eq_some.mp hg0
  have hr' : (({ U with heap := s₂.heap, slotsUsed := s₂.slotsUsed } : State).setVm s₂.vm).frames = .java g₀ :: r := hr
  rcases hq' with ⟨hqc, L, hfe, hL⟩ | ⟨q, rfl, E, ce, L, hx, hce, hcv, hcl, hW₂, hsm, hL⟩
  · obtain ⟨⟨v, rfl⟩, hW₂, e2, q2, q3, q4, q5, q6⟩ := id hfe
    have e3 : s₂ = ({ (U.calling g mk a).setFrames s₂.frames with heap := s₂.heap, slotsUsed := s₂.slotsUsed } : State).setVm s₂.vm := by
      have : s₂ = ({ s₂ with vm := (U.calling g mk a).vm } : State).setVm s₂.vm := rfl
      rw [e2] at this
      exact this
    obtain ⟨c₂, i₂, len₂, hc₂, hd₂, hf₂⟩ := hend
    have hW' : U.WarmedH s₂.vm := hW₂
    have hcc : c₂ = c := by
      have h1 : s₂.code? g.method = U.code? g.method := by
        rw [State.code?_eq, State.code?_eq, hW'.alike.method?]
      exact Option.some.inj (hc₂.symm.trans (h1.trans h.code))
    subst hcc
    have hlen : len₂ = len := by rw [hdg] at hd₂; cases hd₂; rfl
    subst hlen
    have hs₂ : s₂ = (({ U with heap := s₂.heap, slotsUsed := s₂.slotsUsed } : State).setVm s₂.vm).setTop { g with pc := g.pc + len₂, stack := v.toList ++ g.stack } := by
      refine e3.trans ?_
      rw [hf₂, State.calling_eq h.top, State.setFrames_setFrames, State.setTop_of_frames _ hr', hr]
      rfl
    have hsame : U.sameButNew ({ U with heap := s₂.heap, slotsUsed := s₂.slotsUsed } : State) L mc ms := by
      refine ⟨?_, q2, q3, q4, q5, q6⟩
      obtain ⟨t, ht, -⟩ := State.frames_cons hr
      show ({ U with heap := s₂.heap, slotsUsed := s₂.slotsUsed } : State) = { U.setFrames U.frames with heap := s₂.heap, slotsUsed := s₂.slotsUsed }
      rw [State.setFrames_self ht]
    subst hg
    refine Or.inl ⟨v, ⟨(({ U with heap := s₂.heap, slotsUsed := s₂.slotsUsed } : State).setVm s₂.vm), Ls ++ L, c0 + mc, s0 + ms⟩,
      ⟨X.admits, X.cas, X.clock, X.frames, X.room, X.hears, X.method, X.code, (X.here.setHeapUsed s₂.heap s₂.slotsUsed).setVm hW'.alike, X.tail, State.WarmedH.trans X.warmed hW', X.limits, X.bytes, X.same.trans (hsame.setVm s.vm)⟩,
      ⟨g, mk, s₂, L, rfl, rfl, hqc, rfl, hL, rfl, rfl⟩, ?_⟩
    show Steps p.tables e below _ ((({ U with heap := s₂.heap, slotsUsed := s₂.slotsUsed } : State).setVm s₂.vm).setTop { g with pc := g.pc + len₂, stack := v.toList ++ g.stack })
    rw [← hs₂]
    exact hsteps
  · obtain ⟨e2, q2, q3, q4, q5, q6⟩ := id hsm
    have e3 : s₂ = ({ (U.calling g mk a).setFrames s₂.frames with heap := s₂.heap, slotsUsed := s₂.slotsUsed } : State).setVm s₂.vm := by
      have : s₂ = ({ s₂ with vm := (U.calling g mk a).vm } : State).setVm s₂.vm := rfl
      rw [e2] at this
      exact this
    have hf₂ : s₂.frames = .throwing q :: .java g :: U.frames.tail := hend
    have hW' : U.WarmedH s₂.vm := hW₂
    have hs₂ : s₂ = ((({ U with heap := s₂.heap, slotsUsed := s₂.slotsUsed } : State).setVm s₂.vm).setTop g).pushFrame (.throwing q) := by
      refine e3.trans ?_
      rw [hf₂, State.calling_eq h.top, State.setFrames_setFrames, State.pushFrame, State.frames_setTop _ hr', State.setTop_of_frames _ hr', State.setFrames_setFrames, hr]
      rfl
    have hsame : U.sameButNew ({ U with heap := s₂.heap, slotsUsed := s₂.slotsUsed } : State) L mc ms := by
      refine ⟨?_, q2, q3, q4, q5, q6⟩
      obtain ⟨t, ht, -⟩ := State.frames_cons hr
      show ({ U with heap := s₂.heap, slotsUsed := s₂.slotsUsed } : State) = { U.setFrames U.frames with heap := s₂.heap, slotsUsed := s₂.slotsUsed }
      rw [State.setFrames_self ht]
    subst hg
    refine Or.inr ⟨q, ⟨(({ U with heap := s₂.heap, slotsUsed := s₂.slotsUsed } : State).setVm s₂.vm), Ls ++ L, c0 + mc, s0 + ms⟩,
      ⟨X.admits, X.cas, X.clock, X.frames, X.room, X.hears, X.method, X.code, (X.here.setHeapUsed s₂.heap s₂.slotsUsed).setVm hW'.alike, X.tail, State.WarmedH.trans X.warmed hW', X.limits, X.bytes, X.same.trans (hsame.setVm s.vm)⟩,
      ⟨g, mk, s₂, L, E, ce, rfl, rfl, hx, hce, hcv, hcl, rfl, hL, rfl, rfl⟩, ?_⟩
    show Steps p.tables e below _ (((({ U with heap := s₂.heap, slotsUsed := s₂.slotsUsed } : State).setVm s₂.vm).setTop g).pushFrame (.throwing q))
    rw [← hs₂]
    exact hsteps
end
variable {p : Program} {l : Launch} {e : Env} {R : Room} {s : State} {m : MethodId} {args : Array Value} {below : List Frame} {meth : Method} {c : Code} {T : State} {H : Heap} {locs : List Loc} {cells slots : Nat}
theorem vx_callVX (X : Stand p l e R s m args below meth c T locs cells slots) (hexec : p.tables.exec = Jvm.exec) {own C : String} {index : Nat} {y : MethodName} {bytes : ByteArray} {maxL : Nat} {ret : Option FieldType} {hh : List (Nat × Nat × Nat × Nat)}
    (hown : s.vm.findClass own = some m.cls) (hlink : (Cond.methodLink own index y).before args s = true) (hinst : (Cond.instanceMethod y).before args s = true) (hsel : (Cond.selects C y y).before args s = true)
    (hcode : (Cond.codeWith y bytes maxL ret hh).before args s = true) (hy : y.cls ≠ "java/lang/invoke/MethodHandle" ∧ y.cls ≠ "java/lang/invoke/VarHandle")
    {W9 : Nat} {Pre : Pt → Array Value → Prop} {Post : Pt → Array Value → Option Value → Pt → Prop} {PostX : Pt → Array Value → Addr → Pt → Prop} (hK : vx_Back l R p e below s args y 3 W9 Pre Post PostX)
    {b : Addr} {cellB : Cell} (hcell : T.heap[b]? = some cellB) (hobj : cellB.vm.isStatics = false) (hcls : s.vm.findClass C = some cellB.cls)
    {g : JFrame} (hg : g.method = m) (hsize : g.locals.size = c.maxLocals) {argsL rest : List Value} (hlen : ∀ sig, parseMethodDescriptor y.desc = some sig → argsL.length = sig.parameters.length)
    (hstack : g.stack = argsL.reverse ++ .ref b :: rest) (hW : 2 * g.monitorRoom + (rest.map fun v => v.category).sum ≤ W9) (hdg : decode c.code g.pc = .ok (.invokevirtual index, 3))
    (hpre : ∀ vm₁, s.WarmedH vm₁ → Pre ⟨T.setVm vm₁, locs, cells, slots⟩ (Value.ref b :: argsL).toArray) :
    (∃ (v : Option Value) (vm₁ : Vm) (B : Pt), s.WarmedH vm₁ ∧ Stand p l e R s m args below meth c B.U B.locs B.cells B.slots ∧ Post ⟨T.setVm vm₁, locs, cells, slots⟩ (Value.ref b :: argsL).toArray v B ∧
      ∀ target, Steps p.tables e below (B.U.setTop { g with pc := g.pc + 3, stack := v.toList ++ rest }) target → Steps p.tables e below (T.setTop g) target) ∨
    (∃ (q : Addr) (vm₁ : Vm) (B : Pt), s.WarmedH vm₁ ∧ Stand p l e R s m args below meth c B.U B.locs B.cells B.slots ∧ PostX ⟨T.setVm vm₁, locs, cells, slots⟩ (Value.ref b :: argsL).toArray q B ∧
      Steps p.tables e below (T.setTop g) ((B.U.setTop { g with stack := rest }).pushFrame (.throwing q))) := by
  obtain ⟨mk, methM, hnamed, hmethM, hstM, habM⟩ := Cond.instanceMethod_spec hinst
  obtain ⟨m8, methM', cM, hn8, hmethM', -, -, -, -, -, -, hsigM⟩ := Cond.codeWith_spec hcode
  cases Option.some.inj (hn8.symm.trans hnamed)
  cases hmethM.symm.trans hmethM'
  obtain ⟨c2, r2, m2, q1, q2, q3, q4, kP, hkP, hkPi⟩ := Cond.selects_spec hsel
  cases hcls.symm.trans q1
  cases (State.methodFound?_of_named hnamed hy).symm.trans q2
  cases hnamed.symm.trans q3
  have hselP : selectMethod e.platform s.vm cellB.cls mk = .method mk := by rw [Launch.admits_selectMethod X.admits]; exact q4
  obtain ⟨vm₁, X₁, hstep₁⟩ := X.invokevirtual hexec hown hlink hnamed hmethM hstM hkP hkPi hy (a := b) (cell := cellB) hcell
    (fun z h => by rw [h] at hobj; cases hobj) hselP hmethM habM hkP hkPi (g := g) hg (argsL := argsL) (rest := rest) (hlen _ hsigM) hstack hdg
  rcases hK m meth c ⟨T.setVm vm₁, locs, cells, slots⟩ { g with stack := rest } (.invokevirtual index) mk (Value.ref b :: argsL).toArray X₁ hg hsize hdg hW (X₁.named hnamed) (hpre vm₁ X₁.warmed) with ⟨v, B, X', hpost, hsteps⟩ | ⟨q, B, X', hpost, hsteps⟩
  · exact Or.inl ⟨v, vm₁, B, X₁.warmed, X', hpost, fun target h => hstep₁ _ fun acts => by rw [doInvoke_state]; exact hsteps.trans h⟩
  · exact Or.inr ⟨q, vm₁, B, X₁.warmed, X', hpost, hstep₁ _ fun acts => by rw [doInvoke_state]; exact hsteps⟩
theorem vx_callSX (X : Stand p l e R s m args below meth c T locs cells slots) (hexec : p.tables.exec = Jvm.exec) {own : String} {index : Nat} {y : MethodName} {bytes : ByteArray} {maxL : Nat} {ret : Option FieldType} {hh : List (Nat × Nat × Nat × Nat)}
    (hown : s.vm.findClass own = some m.cls) (hlink : (Cond.methodLink own index y).before args s = true) (hstat : (Cond.static y).before args s = true) (hinit : (Cond.initialized y.cls).before args s = true)
    (hcode : (Cond.codeWith y bytes maxL ret hh).before args s = true) (hy : y.cls ≠ "java/lang/invoke/MethodHandle" ∧ y.cls ≠ "java/lang/invoke/VarHandle")
    {W9 : Nat} {Pre : Pt → Array Value → Prop} {Post : Pt → Array Value → Option Value → Pt → Prop} {PostX : Pt → Array Value → Addr → Pt → Prop} (hK : vx_Back l R p e below s args y 3 W9 Pre Post PostX)
    {g : JFrame} (hg : g.method = m) (hsize : g.locals.size = c.maxLocals) {argsL rest : List Value} (hlen : ∀ sig, parseMethodDescriptor y.desc = some sig → argsL.length = sig.parameters.length)
    (hstack : g.stack = argsL.reverse ++ rest) (hW : 2 * g.monitorRoom + (rest.map fun v => v.category).sum ≤ W9) (hdg : decode c.code g.pc = .ok (.invokestatic index, 3))
    (hpre : ∀ vm₁, s.WarmedH vm₁ → Pre ⟨T.setVm vm₁, locs, cells, slots⟩ argsL.toArray) :
    (∃ (v : Option Value) (vm₁ : Vm) (B : Pt), s.WarmedH vm₁ ∧ Stand p l e R s m args below meth c B.U B.locs B.cells B.slots ∧ Post ⟨T.setVm vm₁, locs, cells, slots⟩ argsL.toArray v B ∧
      ∀ target, Steps p.tables e below (B.U.setTop { g with pc := g.pc + 3, stack := v.toList ++ rest }) target → Steps p.tables e below (T.setTop g) target) ∨
    (∃ (q : Addr) (vm₁ : Vm) (B : Pt), s.WarmedH vm₁ ∧ Stand p l e R s m args below meth c B.U B.locs B.cells B.slots ∧ PostX ⟨T.setVm vm₁, locs, cells, slots⟩ argsL.toArray q B ∧
      Steps p.tables e below (T.setTop g) ((B.U.setTop { g with stack := rest }).pushFrame (.throwing q))) := by
  obtain ⟨mk, methM, cM, hnamed, hmethM, -, -, -, -, -, -, hsigM⟩ := Cond.codeWith_spec hcode
  have hstatic : methM.isStatic = true := Cond.static_spec hnamed hmethM hstat
  obtain ⟨kP, hkP, -⟩ := className_of_methodNamed hnamed
  have hinitP : kP.init = .initialized := Cond.initialized_spec (findClass_of_methodNamed hnamed) hkP hinit
  obtain ⟨vm₁, X₁, hstep₁⟩ := X.invokestatic hexec hown hlink hnamed hmethM hstatic hkP hinitP hy (g := g) hg (argsL := argsL) (rest := rest) (hlen _ hsigM) hstack hdg
  rcases hK m meth c ⟨T.setVm vm₁, locs, cells, slots⟩ { g with stack := rest } (.invokestatic index) mk argsL.toArray X₁ hg hsize hdg hW (X₁.named hnamed) (hpre vm₁ X₁.warmed) with ⟨v, B, X', hpost, hsteps⟩ | ⟨q, B, X', hpost, hsteps⟩
  · exact Or.inl ⟨v, vm₁, B, X₁.warmed, X', hpost, fun target h => hstep₁ _ fun acts => by rw [doInvoke_state]; exact hsteps.trans h⟩
  · exact Or.inr ⟨q, vm₁, B, X₁.warmed, X', hpost, hstep₁ _ fun acts => by rw [doInvoke_state]; exact hsteps⟩
theorem vx_callVW (X : Stand p l e R s m args below meth c T locs cells slots) (hexec : p.tables.exec = Jvm.exec) {own C : String} {index : Nat} {y : MethodName} {bytes : ByteArray} {maxL : Nat} {ret : Option FieldType} {hh : List (Nat × Nat × Nat × Nat)}
    (hown : s.vm.findClass own = some m.cls) (hlink : (Cond.methodLink own index y).before args s = true) (hinst : (Cond.instanceMethod y).before args s = true) (hsel : (Cond.selects C y y).before args s = true)
    (hcode : (Cond.codeWith y bytes maxL ret hh).before args s = true) (hy : y.cls ≠ "java/lang/invoke/MethodHandle" ∧ y.cls ≠ "java/lang/invoke/VarHandle")
    {W9 : Nat} {Pre : Pt → Array Value → Prop} {Post : Pt → Array Value → Option Value → Pt → Prop} (hK : Back l R p e below s args y 3 W9 Pre Post)
    {b : Addr} {cellB : Cell} (hcell : T.heap[b]? = some cellB) (hobj : cellB.vm.isStatics = false) (hcls : s.vm.findClass C = some cellB.cls)
    {g : JFrame} (hg : g.method = m) (hsize : g.locals.size = c.maxLocals) {argsL rest : List Value} (hlen : ∀ sig, parseMethodDescriptor y.desc = some sig → argsL.length = sig.parameters.length)
    (hstack : g.stack = argsL.reverse ++ .ref b :: rest) (hW : 2 * g.monitorRoom + (rest.map fun v => v.category).sum ≤ W9) (hdg : decode c.code g.pc = .ok (.invokevirtual index, 3))
    (hpre : ∀ vm₁, s.WarmedH vm₁ → Pre ⟨T.setVm vm₁, locs, cells, slots⟩ (Value.ref b :: argsL).toArray) :
    ∃ (v : Option Value) (vm₁ : Vm) (B : Pt), s.WarmedH vm₁ ∧ Stand p l e R s m args below meth c B.U B.locs B.cells B.slots ∧ Post ⟨T.setVm vm₁, locs, cells, slots⟩ (Value.ref b :: argsL).toArray v B ∧
      ∀ target, Steps p.tables e below (B.U.setTop { g with pc := g.pc + 3, stack := v.toList ++ rest }) target → Steps p.tables e below (T.setTop g) target := by
  obtain ⟨mk, methM, hnamed, hmethM, hstM, habM⟩ := Cond.instanceMethod_spec hinst
  obtain ⟨m8, methM', cM, hn8, hmethM', -, -, -, -, -, -, hsigM⟩ := Cond.codeWith_spec hcode
  cases Option.some.inj (hn8.symm.trans hnamed)
  cases hmethM.symm.trans hmethM'
  obtain ⟨c2, r2, m2, q1, q2, q3, q4, kP, hkP, hkPi⟩ := Cond.selects_spec hsel
  cases hcls.symm.trans q1
  cases (State.methodFound?_of_named hnamed hy).symm.trans q2
  cases hnamed.symm.trans q3
  have hselP : selectMethod e.platform s.vm cellB.cls mk = .method mk := by rw [Launch.admits_selectMethod X.admits]; exact q4
  obtain ⟨vm₁, X₁, hstep₁⟩ := X.invokevirtual hexec hown hlink hnamed hmethM hstM hkP hkPi hy (a := b) (cell := cellB) hcell
    (fun z h => by rw [h] at hobj; cases hobj) hselP hmethM habM hkP hkPi (g := g) hg (argsL := argsL) (rest := rest) (hlen _ hsigM) hstack hdg
  obtain ⟨v, B, X', hpost, hsteps⟩ := hK m meth c ⟨T.setVm vm₁, locs, cells, slots⟩ { g with stack := rest } (.invokevirtual index) mk (Value.ref b :: argsL).toArray X₁ hg hsize hdg hW (X₁.named hnamed) (hpre vm₁ X₁.warmed)
  exact ⟨v, vm₁, B, X₁.warmed, X', hpost, fun target h => hstep₁ _ fun acts => by rw [doInvoke_state]; exact hsteps.trans h⟩
abbrev vx_CVW (R : Room) (s : State) (args : Array Value) (own C : String) (index : Nat) (y : MethodName) (bytes : ByteArray) (maxL : Nat) (ret : Option FieldType) (hh : List (Nat × Nat × Nat × Nat)) (ws : List Cond) (rm : Room) (mc ms n : Nat) : Prop :=
  (rm.cells = mc ∧ rm.slots = ms ∧ rm.frames + 1 ≤ R.frames ∧ 8 + (maxL + 11) + rm.locals ≤ R.locals ∧ (∀ w ∈ ws, ∀ (a' : Array Value) (U : State), s.WarmedH U.vm → w.before a' U = true) ∧ Cond.codeWith y bytes maxL ret hh ∈ ws) ∧
  (Cond.codeWith y bytes maxL ret hh).before args s = true ∧ (Cond.initialized y.cls).before args s = true ∧ (y.cls ≠ "java/lang/invoke/MethodHandle" ∧ y.cls ≠ "java/lang/invoke/VarHandle") ∧
  (∀ sig, parseMethodDescriptor y.desc = some sig → n = sig.parameters.length) ∧ (Cond.methodLink own index y).before args s = true ∧ (Cond.instanceMethod y).before args s = true ∧ (Cond.selects C y y).before args s = true
theorem vx_cwVW {own C : String} {index maxL mc ms : Nat} {y : MethodName} {bytes : ByteArray} {ret : Option FieldType} {hh : List (Nat × Nat × Nat × Nat)} {Ts ws ws' : List Cond} {rm : Room} (n : Nat) (ht : ∀ w ∈ Ts, w.before args s = true) (hT : GoodIn Ts (wsV own index C y ws)) (hw : ws = Cond.codeWith y bytes maxL ret hh :: ws') (hrc : rm.cells = mc) (hrs : rm.slots = ms)
    (hd : y.cls = C ∧ y.cls ≠ "java/lang/invoke/MethodHandle" ∧ y.cls ≠ "java/lang/invoke/VarHandle" ∧ (parseMethodDescriptor y.desc).map (fun d => d.parameters.length) = some n) (hR : rm.frames + 1 ≤ R.frames ∧ 8 + (maxL + 11) + rm.locals ≤ R.locals) :
    vx_CVW R s args own C index y bytes maxL ret hh ws rm mc ms n := by
  obtain ⟨hC, hd⟩ := hd
  subst hC
  have ok : ∀ w ∈ wsV own index y.cls y ws, w.before args s = true := fun w h => ht w (hT w h).1
  have hG : GoodIn Ts ws := fun w h => hT w (by unfold wsV; exact List.mem_append_right _ h)
  have hc : Cond.codeWith y bytes maxL ret hh ∈ ws := by rw [hw]; exact List.mem_cons_self
  refine ⟨⟨hrc, hrs, hR.1, hR.2, pay_in ht hG, hc⟩, ht _ (hG _ hc).1, ok _ (by simp [wsV]), ⟨hd.1, hd.2.1⟩, fun sig h => ?_, ok _ (by simp [wsV]), ok _ (by simp [wsV]), ok _ (by simp [wsV])⟩
  have h2 := hd.2.2
  rw [h] at h2
  exact (Option.some.inj h2).symm
theorem vx_runVW {y : MethodName} {bytes cc : ByteArray} {maxL nL mc ms n index : Nat} {ret : Option FieldType} {hh : List (Nat × Nat × Nat × Nat)} {ws : List Cond} {rm : Room} {Pc : Array Value → State → Prop} {Qc : Array Value → State → Outcome → State → Prop} {free : Addr → Prop} {Ts : List Cond} {own C : String} {b : Addr} {As rest : List Value} {g : JFrame}
    (S : CallFix p m c cc nL s args Ts own) (hM : Met l y ws rm Pc Qc mc ms free) (cw : vx_CVW R s args own C index y bytes maxL ret hh ws rm mc ms n) (hp : PreV s H C b Pc As)
    (hg : g.method = m) (hn : As.length = n) (hsize : g.locals.size = nL) (hstack : g.stack = As.reverse ++ .ref b :: rest) (hW : 2 * g.monitorRoom + (rest.map fun v => v.category).sum ≤ 8) (hdg : decode cc g.pc = .ok (.invokevirtual index, 3)) (hf : cells + mc ≤ R.cells ∧ slots + ms ≤ R.slots) :
    va_Run p l e R s m args below meth c H locs cells slots mc ms g rest (Qc (Value.ref b :: As).toArray) free := by
  obtain ⟨⟨hrc, hrs, hfr, hlo, hws, hcw⟩, hcode, hini, hy, hlen, hl, hin, hse⟩ := cw
  have hK : Back l R p e below s args y 3 8 (PreOf R mc ms Pc) (PostOf Qc mc ms free) := va_backW (hh := hh) (bytes := bytes) (maxL := maxL) (ret := ret) hM hp.1 hrc hrs hfr hlo hws hcw (fun a' U hW => word_at hW (Or.inl (by first | rfl | simp [Cond.onTables, Cond.keeps, Cond.steady])) hini)
  obtain ⟨hx, hb, hml, ho, -⟩ := S
  obtain ⟨-, ⟨cellB, hcB, hoB, hclB⟩, hPc⟩ := hp
  intro T hT X
  obtain ⟨v, vm₁, ⟨U', l2, c2, s2⟩, hW₁, X', ⟨g', mk, t, L, e1, e2, hq, h1, hL, h2, h3⟩, st⟩ := vx_callVW X hx (C := C) (hh := hh) (bytes := bytes) (maxL := maxL) (ret := ret) ho hl hin hse hcode hy hK (by rw [hT]; exact hcB) hoB hclB hg (hsize.trans hml.symm) (argsL := As) (rest := rest) (fun sig h => hn.trans (hlen sig h)) hstack hW (by rw [hb]; exact hdg)
    (fun vm₁ hW₁ => ⟨hf.1, hf.2, hPc (T.setVm vm₁) hT hW₁⟩)
  dsimp only [Pt.U, Pt.locs, Pt.cells, Pt.slots] at X' e1 e2 h1 h2 h3 st
  subst h1; subst h2; subst h3
  exact ⟨v, (T.setVm vm₁).calling g' mk (Value.ref b :: As).toArray, t, U', L, hT, X', hL, e1, e2, hq, st⟩
section
variable {y : MethodName} {bytes cc : ByteArray} {maxL nL mc ms n index : Nat} {ret : Option FieldType} {ws : List Cond} {rm : Room} {Pc : Array Value → State → Prop} {Qc : Array Value → State → Outcome → State → Prop} {XC : String → State → State → Prop} {free : Addr → Prop} {Ts : List Cond} {own C : String} {b : Addr} {As rest : List Value} {g : JFrame}
theorem vx_runVX {hh : List (Nat × Nat × Nat × Nat)} (S : CallFix p m c cc nL s args Ts own) (hM : vx_Met l y ws rm Pc Qc XC mc ms free) (cw : vx_CVW R s args own C index y bytes maxL ret hh ws rm mc ms n) (hp : PreV s H C b Pc As)
    (hg : g.method = m) (hn : As.length = n) (hsize : g.locals.size = nL) (hstack : g.stack = As.reverse ++ .ref b :: rest) (hW : 2 * g.monitorRoom + (rest.map fun v => v.category).sum ≤ 8) (hdg : decode cc g.pc = .ok (.invokevirtual index, 3)) (hf : cells + mc ≤ R.cells ∧ slots + ms ≤ R.slots) :
    vx_Run p l e R s m args below meth c H locs cells slots mc ms g rest (Qc (Value.ref b :: As).toArray) XC free := by
  obtain ⟨⟨hrc, hrs, hfr, hlo, hws, hcw⟩, hcode, hini, hy, hlen, hl, hin, hse⟩ := cw
  have hK : vx_Back l R p e below s args y 3 8 (PreOf R mc ms Pc) (PostOf Qc mc ms free) (vx_Post XC mc ms free) := vx_backW (hh := hh) (bytes := bytes) (maxL := maxL) (ret := ret) hM hp.1 hrc hrs hfr hlo hws hcw (fun a' U hW => word_at hW (Or.inl (by first | rfl | simp [Cond.onTables, Cond.keeps, Cond.steady])) hini)
  obtain ⟨hx, hb, hml, ho, -⟩ := S
  obtain ⟨-, ⟨cellB, hcB, hoB, hclB⟩, hPc⟩ := hp
  intro T hT X
  rcases vx_callVX X hx (C := C) (hh := hh) (bytes := bytes) (maxL := maxL) (ret := ret) ho hl hin hse hcode hy hK (by rw [hT]; exact hcB) hoB hclB hg (hsize.trans hml.symm) (argsL := As) (rest := rest) (fun sig h => hn.trans (hlen sig h)) hstack hW (by rw [hb]; exact hdg)
    (fun vm₁ hW₁ => ⟨hf.1, hf.2, hPc (T.setVm vm₁) hT hW₁⟩) with ⟨v, vm₁, ⟨U', l2, c2, s2⟩, hW₁, X', ⟨g', mk, t, L, e1, e2, hq, h1, hL, h2, h3⟩, st⟩ | ⟨q, vm₁, ⟨U', l2, c2, s2⟩, hW₁, X', ⟨g', mk, t, L, E, ce, e1, e2, hq, hce, hcv, hcl, h1, hL, h2, h3⟩, st⟩
  · dsimp only [Pt.U, Pt.locs, Pt.cells, Pt.slots] at X' e1 e2 h1 h2 h3 st
    subst h1; subst h2; subst h3
    exact Or.inl ⟨v, (T.setVm vm₁).calling g' mk (Value.ref b :: As).toArray, t, U', L, hT, X', hL, e1, e2, hq, st⟩
  · dsimp only [Pt.U, Pt.locs, Pt.cells, Pt.slots] at X' e1 e2 h1 h2 h3 st hcl
    subst h1; subst h2; subst h3
    exact Or.inr ⟨q, (T.setVm vm₁).calling g' mk (Value.ref b :: As).toArray, t, U', L, E, ce, hT, X', hL, e1, e2, hq, hce, hcv, vx_cls hW₁ hcl, st⟩
theorem vx_runSX {hh : List (Nat × Nat × Nat × Nat)} (S : CallFix p m c cc nL s args Ts own) (hM : vx_Met l y ws rm Pc Qc XC mc ms free) (cw : vx_CSW R s args own index y bytes maxL ret hh ws rm mc ms n) (hp : PreS s H Pc As)
    (hg : g.method = m) (hn : As.length = n) (hsize : g.locals.size = nL) (hstack : g.stack = As.reverse ++ rest) (hW : 2 * g.monitorRoom + (rest.map fun v => v.category).sum ≤ 8) (hdg : decode cc g.pc = .ok (.invokestatic index, 3)) (hf : cells + mc ≤ R.cells ∧ slots + ms ≤ R.slots) :
    vx_Run p l e R s m args below meth c H locs cells slots mc ms g rest (Qc As.toArray) XC free := by
  obtain ⟨⟨hrc, hrs, hfr, hlo, hws, hcw⟩, hcode, hini, hy, hlen, hl, hstt⟩ := cw
  have hK : vx_Back l R p e below s args y 3 8 (PreOf R mc ms Pc) (PostOf Qc mc ms free) (vx_Post XC mc ms free) := vx_backW (hh := hh) (bytes := bytes) (maxL := maxL) (ret := ret) hM hp.1 hrc hrs hfr hlo hws hcw (fun a' U hW => word_at hW (Or.inl (by first | rfl | simp [Cond.onTables, Cond.keeps, Cond.steady])) hini)
  obtain ⟨hx, hb, hml, ho, -⟩ := S
  intro T hT X
  rcases vx_callSX X hx (hh := hh) (bytes := bytes) (maxL := maxL) (ret := ret) ho hl hstt hini hcode hy hK hg (hsize.trans hml.symm) (argsL := As) (rest := rest) (fun sig h => hn.trans (hlen sig h)) hstack hW (by rw [hb]; exact hdg)
    (fun vm₁ hW₁ => ⟨hf.1, hf.2, hp.2 (T.setVm vm₁) hT hW₁⟩) with ⟨v, vm₁, ⟨U', l2, c2, s2⟩, hW₁, X', ⟨g', mk, t, L, e1, e2, hq, h1, hL, h2, h3⟩, st⟩ | ⟨q, vm₁, ⟨U', l2, c2, s2⟩, hW₁, X', ⟨g', mk, t, L, E, ce, e1, e2, hq, hce, hcv, hcl, h1, hL, h2, h3⟩, st⟩
  · dsimp only [Pt.U, Pt.locs, Pt.cells, Pt.slots] at X' e1 e2 h1 h2 h3 st
    subst h1; subst h2; subst h3
    exact Or.inl ⟨v, (T.setVm vm₁).calling g' mk As.toArray, t, U', L, hT, X', hL, e1, e2, hq, st⟩
  · dsimp only [Pt.U, Pt.locs, Pt.cells, Pt.slots] at X' e1 e2 h1 h2 h3 st hcl
    subst h1; subst h2; subst h3
    exact Or.inr ⟨q, (T.setVm vm₁).calling g' mk As.toArray, t, U', L, E, ce, hT, X', hL, e1, e2, hq, hce, hcv, vx_cls hW₁ hcl, st⟩
end
end VXH
theorem vx_ofWH {l : Launch} {y : MethodName} {ws ws' : List Cond} {rm : Room} {Pc : Array Value → State → Prop} {Qc : Array Value → State → Outcome → State → Prop} {XC : String → State → State → Prop} {mc ms : Nat} {free : Addr → Prop} {cc : ByteArray} {maxL : Nat} {ret : Option FieldType} {hh : List (Nat × Nat × Nat × Nat)}
    (hy : plainName y.cls = true) (hw : ws = Cond.codeWith y cc maxL ret hh :: ws')
    (body : ∀ p e s m args below meth c s₁, BodyLoose p l y (headSpec ws rm) cc maxL ret e s m args below meth c s₁ → c.maxLocals = maxL → Pc args s →
      W p l e (headSpec ws rm).room s m args below meth c s.heap [] 0 0 (vx_MQ below Qc XC args s mc ms free) (entryFrame m args maxL)) : vx_Met l y ws rm Pc Qc XC mc ms free := by
  refine MetFree.of_bodyS (code := cc) (maxLocals := maxL) (ret := ret) hy ?_ ?_
  · intro args s m h hn
    obtain ⟨m9, meth, c, hn9, h1, h2, h3, h4, -, h5, h6, -⟩ := Cond.codeWith_spec (atoms_spec (ws := ws) h _ (by rw [hw]; exact List.mem_cons_self))
    cases hn.symm.trans hn9
    exact ⟨meth, c, h1, h2, h3, h4, h5, h6⟩
  · intro p e s m args below meth c s₁ B hml hP _
    have hh0 : s₁.heap = s.heap := by rw [B.state]; rfl
    obtain ⟨t, a1, o, b1, b2, b3⟩ := body p e s m args below meth c s₁ B hml hP s₁ hh0 (Stand.of_body B)
    exact ⟨t, o, a1, b1, b2, b3⟩
/-! ===== END ===== -/
end
section
def RX0 : String := "CanalCity$City"
def TX0 : u_T := fun k => match k with
  | 0 => ("CanalCity$City", "month", "I", false)
  | 1 => ("CanalCity$City", "coins", "I", false)
  | 2 => ("CanalCity$City", "left", "I", false)
  | 3 => ("CanalCity$City", "kinds", "[I", true)
  | 4 => ("CanalCity$City", "quarters", "[I", true)
  | 5 => ("CanalCity$City", "lotsOf", "[I", true)
  | 6 => ("CanalCity$City", "housesOf", "[I", true)
  | 7 => ("CanalCity$City", "marketsOf", "[I", true)
  | 8 => ("CanalCity$City", "boatSteps", "[I", true)
  | 9 => ("CanalCity$City", "complaints", "[I", true)
  | 10 => ("CanalCity$City", "dues", "[I", true)
  | 11 => ("CanalCity$City", "footSteps", "[I", true)
  | _ => ("CanalCity$City", "waiting", "[I", true)
def tyX0 : Nat → FieldType := fun k => match k with
  | 0 => .int
  | 1 => .int
  | 2 => .int
  | 3 => .array .int
  | 4 => .array .int
  | 5 => .array .int
  | 6 => .array .int
  | 7 => .array .int
  | 8 => .array .int
  | 9 => .array .int
  | 10 => .array .int
  | 11 => .array .int
  | _ => .array .int
abbrev wsX00 : List Cond := u_ws RX0 TX0 13
theorem nmX0 : ∀ a, a < 13 → ∀ b, b < 13 → a ≠ b → (TX0 a).2.1 ≠ (TX0 b).2.1 := by decide +kernel
theorem tyX0_ok : ∀ k, k < 13 → parseFieldDescriptor (TX0 k).2.2.1 = some (tyX0 k) := by decide +kernel
abbrev cX0_init : ByteArray := prog_2_method_1_code
def yX0_init : MethodName := ⟨RX0, "<init>", "()V"⟩
abbrev cX0_become : ByteArray := prog_2_method_2_code
def yX0_become : MethodName := ⟨RX0, "become", "(LCanalCity$City;)V"⟩
abbrev cX0_buy : ByteArray := prog_2_method_3_code
def yX0_buy : MethodName := ⟨RX0, "buy", "(III)V"⟩
abbrev cX0_change : ByteArray := prog_2_method_4_code
def yX0_change : MethodName := ⟨RX0, "change", "(II)V"⟩
abbrev cX0_live : ByteArray := prog_2_method_5_code
def yX0_live : MethodName := ⟨RX0, "live", "(I)I"⟩
abbrev cX0_leaveHouses : ByteArray := prog_2_method_6_code
def yX0_leaveHouses : MethodName := ⟨RX0, "leaveHouses", "()V"⟩
abbrev cX0_sinkLots : ByteArray := prog_2_method_7_code
def yX0_sinkLots : MethodName := ⟨RX0, "sinkLots", "()V"⟩
abbrev cX0_survey : ByteArray := prog_2_method_8_code
def yX0_survey : MethodName := ⟨RX0, "survey", "()V"⟩
abbrev cX0_surveyQuarters : ByteArray := prog_2_method_9_code
def yX0_surveyQuarters : MethodName := ⟨RX0, "surveyQuarters", "()V"⟩
abbrev cX0_enter : ByteArray := prog_2_method_10_code
def yX0_enter : MethodName := ⟨RX0, "enter", "(II)V"⟩
abbrev cX0_clear : ByteArray := prog_2_method_11_code
def yX0_clear : MethodName := ⟨RX0, "clear", "([II)V"⟩
abbrev cX0_spread : ByteArray := prog_2_method_12_code
def yX0_spread : MethodName := ⟨RX0, "spread", "([IIZII)V"⟩
abbrev cX0_complaintsAt : ByteArray := prog_2_method_13_code
def yX0_complaintsAt : MethodName := ⟨RX0, "complaintsAt", "(I)I"⟩
abbrev cX0_duesAt : ByteArray := prog_2_method_14_code
def yX0_duesAt : MethodName := ⟨RX0, "duesAt", "(I)I"⟩
abbrev cX0_lotsOfQuarter : ByteArray := prog_2_method_15_code
def yX0_lotsOfQuarter : MethodName := ⟨RX0, "lotsOfQuarter", "(I)I"⟩
abbrev cX0_housesInQuarter : ByteArray := prog_2_method_16_code
def yX0_housesInQuarter : MethodName := ⟨RX0, "housesInQuarter", "(I)I"⟩
abbrev cX0_marketsInQuarter : ByteArray := prog_2_method_17_code
def yX0_marketsInQuarter : MethodName := ⟨RX0, "marketsInQuarter", "(I)I"⟩
abbrev cX0_isOpenWater : ByteArray := prog_2_method_18_code
def yX0_isOpenWater : MethodName := ⟨RX0, "isOpenWater", "(I)Z"⟩
abbrev cX0_isByBoat : ByteArray := prog_2_method_19_code
def yX0_isByBoat : MethodName := ⟨RX0, "isByBoat", "(I)Z"⟩
abbrev cX0_neighboursOfKind : ByteArray := prog_2_method_20_code
def yX0_neighboursOfKind : MethodName := ⟨RX0, "neighboursOfKind", "(II)I"⟩
abbrev cX0_stepsOnFoot : ByteArray := prog_2_method_21_code
def yX0_stepsOnFoot : MethodName := ⟨RX0, "stepsOnFoot", "(II)I"⟩
abbrev cX0_factOf : ByteArray := prog_2_method_22_code
def yX0_factOf : MethodName := ⟨RX0, "factOf", "(II)I"⟩
abbrev cX0_total : ByteArray := prog_2_method_23_code
def yX0_total : MethodName := ⟨RX0, "total", "(I)I"⟩
abbrev cX0_lotsOfKind : ByteArray := prog_2_method_24_code
def yX0_lotsOfKind : MethodName := ⟨RX0, "lotsOfKind", "(I)I"⟩
abbrev cX0_quartersOfAll : ByteArray := prog_2_method_25_code
def yX0_quartersOfAll : MethodName := ⟨RX0, "quartersOfAll", "()I"⟩
abbrev cX0_complaintsOfAll : ByteArray := prog_2_method_26_code
def yX0_complaintsOfAll : MethodName := ⟨RX0, "complaintsOfAll", "()I"⟩
abbrev cX0_duesOfAll : ByteArray := prog_2_method_27_code
def yX0_duesOfAll : MethodName := ⟨RX0, "duesOfAll", "()I"⟩
abbrev cX0_sum : ByteArray := prog_2_method_28_code
def yX0_sum : MethodName := ⟨RX0, "sum", "([I)I"⟩
def RX1 : String := "CanalCity"
def TX1 : u_T := fun k => match k with
  | 0 => ("CanalCity", "now", "LCanalCity$City;", true)
  | _ => ("CanalCity", "trial", "LCanalCity$City;", true)
def tyX1 : Nat → FieldType := fun k => match k with
  | 0 => .object "CanalCity$City"
  | _ => .object "CanalCity$City"
abbrev wsX10 : List Cond := u_ws RX1 TX1 2
theorem nmX1 : ∀ a, a < 2 → ∀ b, b < 2 → a ≠ b → (TX1 a).2.1 ≠ (TX1 b).2.1 := by decide +kernel
theorem tyX1_ok : ∀ k, k < 2 → parseFieldDescriptor (TX1 k).2.2.1 = some (tyX1 k) := by decide +kernel
abbrev cX1_init : ByteArray := prog_1_method_1_code
def yX1_init : MethodName := ⟨RX1, "<init>", "()V"⟩
abbrev cX1_drain : ByteArray := prog_1_method_2_code
def yX1_drain : MethodName := ⟨RX1, "drain", "(II)I"⟩
abbrev cX1_dig : ByteArray := prog_1_method_3_code
def yX1_dig : MethodName := ⟨RX1, "dig", "(II)I"⟩
abbrev cX1_build : ByteArray := prog_1_method_4_code
def yX1_build : MethodName := ⟨RX1, "build", "(III)I"⟩
abbrev cX1_bridge : ByteArray := prog_1_method_5_code
def yX1_bridge : MethodName := ⟨RX1, "bridge", "(II)I"⟩
abbrev cX1_raze : ByteArray := prog_1_method_6_code
def yX1_raze : MethodName := ⟨RX1, "raze", "(II)I"⟩
abbrev cX1_lot : ByteArray := prog_1_method_7_code
def yX1_lot : MethodName := ⟨RX1, "lot", "(III)I"⟩
abbrev cX1_count : ByteArray := prog_1_method_8_code
def yX1_count : MethodName := ⟨RX1, "count", "(I)I"⟩
abbrev cX1_walk : ByteArray := prog_1_method_9_code
def yX1_walk : MethodName := ⟨RX1, "walk", "(II)I"⟩
abbrev cX1_sail : ByteArray := prog_1_method_10_code
def yX1_sail : MethodName := ⟨RX1, "sail", "(I)I"⟩
abbrev cX1_pass : ByteArray := prog_1_method_11_code
def yX1_pass : MethodName := ⟨RX1, "pass", "(I)I"⟩
abbrev cX1_foresee : ByteArray := prog_1_method_12_code
def yX1_foresee : MethodName := ⟨RX1, "foresee", "(II)I"⟩
abbrev cX1_would : ByteArray := prog_1_method_13_code
def yX1_would : MethodName := ⟨RX1, "would", "(III)I"⟩
abbrev cX1_best : ByteArray := prog_1_method_14_code
def yX1_best : MethodName := ⟨RX1, "best", "(I)I"⟩
abbrev cX1_mean : ByteArray := prog_1_method_15_code
def yX1_mean : MethodName := ⟨RX1, "mean", "()D"⟩
abbrev cX1_digest : ByteArray := prog_1_method_16_code
def yX1_digest : MethodName := ⟨RX1, "digest", "()J"⟩
abbrev cX1_duesWith : ByteArray := prog_1_method_17_code
def yX1_duesWith : MethodName := ⟨RX1, "duesWith", "(II)I"⟩
abbrev cX1_checkedNumber : ByteArray := prog_1_method_18_code
def yX1_checkedNumber : MethodName := ⟨RX1, "checkedNumber", "(II)I"⟩
abbrev cX1_checkNumber : ByteArray := prog_1_method_19_code
def yX1_checkNumber : MethodName := ⟨RX1, "checkNumber", "(I)V"⟩
abbrev cX1_checkBuilding : ByteArray := prog_1_method_20_code
def yX1_checkBuilding : MethodName := ⟨RX1, "checkBuilding", "(I)V"⟩
abbrev cX1_checkMonths : ByteArray := prog_1_method_21_code
def yX1_checkMonths : MethodName := ⟨RX1, "checkMonths", "(I)V"⟩
abbrev cX1_checkDrained : ByteArray := prog_1_method_22_code
def yX1_checkDrained : MethodName := ⟨RX1, "checkDrained", "(I)V"⟩
abbrev cX1_checkCoins : ByteArray := prog_1_method_23_code
def yX1_checkCoins : MethodName := ⟨RX1, "checkCoins", "(I)V"⟩
abbrev cX1_isLot : ByteArray := prog_1_method_24_code
def yX1_isLot : MethodName := ⟨RX1, "isLot", "(I)Z"⟩
abbrev cX1_costOf : ByteArray := prog_1_method_25_code
def yX1_costOf : MethodName := ⟨RX1, "costOf", "(I)I"⟩
abbrev cX1_isLand : ByteArray := prog_1_method_26_code
def yX1_isLand : MethodName := ⟨RX1, "isLand", "(I)Z"⟩
abbrev cX1_isWater : ByteArray := prog_1_method_27_code
def yX1_isWater : MethodName := ⟨RX1, "isWater", "(I)Z"⟩
abbrev cX1_neighbour : ByteArray := prog_1_method_28_code
def yX1_neighbour : MethodName := ⟨RX1, "neighbour", "(II)I"⟩
def RX2 : String := "CanalCityModel"
def TX2 : u_T := fun k => match k with
  | 0 => ("CanalCityModel", "thrown", "I", false)
  | 1 => ("CanalCityModel", "month", "I", false)
  | 2 => ("CanalCityModel", "coins", "I", false)
  | 3 => ("CanalCityModel", "left", "I", false)
  | 4 => ("CanalCityModel", "kind", "[I", false)
  | 5 => ("CanalCityModel", "ahead", "[I", false)
  | 6 => ("CanalCityModel", "other", "[I", false)
  | 7 => ("CanalCityModel", "quarter", "[I", true)
  | 8 => ("CanalCityModel", "open", "[I", true)
  | 9 => ("CanalCityModel", "lots", "[I", true)
  | 10 => ("CanalCityModel", "houses", "[I", true)
  | 11 => ("CanalCityModel", "markets", "[I", true)
  | 12 => ("CanalCityModel", "row", "[I", true)
  | _ => ("CanalCityModel", "steps", "[I", true)
def tyX2 : Nat → FieldType := fun k => match k with
  | 0 => .int
  | 1 => .int
  | 2 => .int
  | 3 => .int
  | 4 => .array .int
  | 5 => .array .int
  | 6 => .array .int
  | 7 => .array .int
  | 8 => .array .int
  | 9 => .array .int
  | 10 => .array .int
  | 11 => .array .int
  | 12 => .array .int
  | _ => .array .int
abbrev wsX20 : List Cond := u_ws RX2 TX2 14
theorem nmX2 : ∀ a, a < 14 → ∀ b, b < 14 → a ≠ b → (TX2 a).2.1 ≠ (TX2 b).2.1 := by decide +kernel
theorem tyX2_ok : ∀ k, k < 14 → parseFieldDescriptor (TX2 k).2.2.1 = some (tyX2 k) := by decide +kernel
abbrev cX2_init : ByteArray := prog_4_method_1_code
def yX2_init : MethodName := ⟨RX2, "<init>", "()V"⟩
abbrev cX2_thrown : ByteArray := prog_4_method_2_code
def yX2_thrown : MethodName := ⟨RX2, "thrown", "()I"⟩
abbrev cX2_no : ByteArray := prog_4_method_3_code
def yX2_no : MethodName := ⟨RX2, "no", "(I)I"⟩
abbrev cX2_isIn : ByteArray := prog_4_method_4_code
def yX2_isIn : MethodName := ⟨RX2, "isIn", "(III)Z"⟩
abbrev cX2_isPlace : ByteArray := prog_4_method_5_code
def yX2_isPlace : MethodName := ⟨RX2, "isPlace", "(II)Z"⟩
abbrev cX2_isLand : ByteArray := prog_4_method_6_code
def yX2_isLand : MethodName := ⟨RX2, "isLand", "(I)Z"⟩
abbrev cX2_isWater : ByteArray := prog_4_method_7_code
def yX2_isWater : MethodName := ⟨RX2, "isWater", "(I)Z"⟩
abbrev cX2_beside : ByteArray := prog_4_method_8_code
def yX2_beside : MethodName := ⟨RX2, "beside", "(II)I"⟩
abbrev cX2_fill : ByteArray := prog_4_method_9_code
def yX2_fill : MethodName := ⟨RX2, "fill", "([IIZ)I"⟩
abbrev cX2_look : ByteArray := prog_4_method_10_code
def yX2_look : MethodName := ⟨RX2, "look", "([I)I"⟩
abbrev cX2_besideOf : ByteArray := prog_4_method_11_code
def yX2_besideOf : MethodName := ⟨RX2, "besideOf", "([III)I"⟩
abbrev cX2_isByBoat : ByteArray := prog_4_method_12_code
def yX2_isByBoat : MethodName := ⟨RX2, "isByBoat", "([II)Z"⟩
abbrev cX2_complaints : ByteArray := prog_4_method_13_code
def yX2_complaints : MethodName := ⟨RX2, "complaints", "([II)I"⟩
abbrev cX2_dues : ByteArray := prog_4_method_14_code
def yX2_dues : MethodName := ⟨RX2, "dues", "([II)I"⟩
abbrev cX2_sum : ByteArray := prog_4_method_15_code
def yX2_sum : MethodName := ⟨RX2, "sum", "([IZ)I"⟩
abbrev cX2_many : ByteArray := prog_4_method_16_code
def yX2_many : MethodName := ⟨RX2, "many", "([II)I"⟩
abbrev cX2_isBuilt : ByteArray := prog_4_method_17_code
def yX2_isBuilt : MethodName := ⟨RX2, "isBuilt", "(III)Z"⟩
abbrev cX2_drain : ByteArray := prog_4_method_18_code
def yX2_drain : MethodName := ⟨RX2, "drain", "(II)I"⟩
abbrev cX2_dig : ByteArray := prog_4_method_19_code
def yX2_dig : MethodName := ⟨RX2, "dig", "(II)I"⟩
abbrev cX2_build : ByteArray := prog_4_method_20_code
def yX2_build : MethodName := ⟨RX2, "build", "(III)I"⟩
abbrev cX2_bridge : ByteArray := prog_4_method_21_code
def yX2_bridge : MethodName := ⟨RX2, "bridge", "(II)I"⟩
abbrev cX2_raze : ByteArray := prog_4_method_22_code
def yX2_raze : MethodName := ⟨RX2, "raze", "(II)I"⟩
abbrev cX2_lotTold : ByteArray := prog_4_method_23_code
def yX2_lotTold : MethodName := ⟨RX2, "lotTold", "(II)I"⟩
abbrev cX2_lot : ByteArray := prog_4_method_24_code
def yX2_lot : MethodName := ⟨RX2, "lot", "(III)I"⟩
abbrev cX2_counted : ByteArray := prog_4_method_25_code
def yX2_counted : MethodName := ⟨RX2, "counted", "([IIIII)I"⟩
abbrev cX2_counted_ : ByteArray := prog_4_method_26_code
def yX2_counted_ : MethodName := ⟨RX2, "counted", "(I)I"⟩
abbrev cX2_count : ByteArray := prog_4_method_27_code
def yX2_count : MethodName := ⟨RX2, "count", "(I)I"⟩
abbrev cX2_walk : ByteArray := prog_4_method_28_code
def yX2_walk : MethodName := ⟨RX2, "walk", "(II)I"⟩
abbrev cX2_sail : ByteArray := prog_4_method_29_code
def yX2_sail : MethodName := ⟨RX2, "sail", "(I)I"⟩
abbrev cX2_leave : ByteArray := prog_4_method_30_code
def yX2_leave : MethodName := ⟨RX2, "leave", "([I)I"⟩
abbrev cX2_sink : ByteArray := prog_4_method_31_code
def yX2_sink : MethodName := ⟨RX2, "sink", "([I)V"⟩
abbrev cX2_pass : ByteArray := prog_4_method_32_code
def yX2_pass : MethodName := ⟨RX2, "pass", "(I)I"⟩
abbrev cX2_foresee : ByteArray := prog_4_method_33_code
def yX2_foresee : MethodName := ⟨RX2, "foresee", "(II)I"⟩
abbrev cX2_duesWith : ByteArray := prog_4_method_34_code
def yX2_duesWith : MethodName := ⟨RX2, "duesWith", "(II)I"⟩
abbrev cX2_would : ByteArray := prog_4_method_35_code
def yX2_would : MethodName := ⟨RX2, "would", "(III)I"⟩
abbrev cX2_best : ByteArray := prog_4_method_36_code
def yX2_best : MethodName := ⟨RX2, "best", "(I)I"⟩
abbrev cX2_mean : ByteArray := prog_4_method_37_code
def yX2_mean : MethodName := ⟨RX2, "mean", "()D"⟩
abbrev cX2_digest : ByteArray := prog_4_method_38_code
def yX2_digest : MethodName := ⟨RX2, "digest", "()J"⟩
def RJ9 : String := "java/lang/Math"
def TJ9 : u_T := fun k => match k with
  | _ => ("", "", "", false)
def tyJ9 : Nat → FieldType := fun k => match k with
  | _ => .int
abbrev wsJ90 : List Cond := u_ws RJ9 TJ9 0
theorem nmJ9 : ∀ a, a < 0 → ∀ b, b < 0 → a ≠ b → (TJ9 a).2.1 ≠ (TJ9 b).2.1 := by decide +kernel
theorem tyJ9_ok : ∀ k, k < 0 → parseFieldDescriptor (TJ9 k).2.2.1 = some (tyJ9 k) := by decide +kernel
abbrev cJ9_max_7cf53 : ByteArray := prog_9_method_65_code
def yJ9_max_7cf53 : MethodName := ⟨RJ9, "max", "(II)I"⟩
def RJ0 : String := "java/lang/String"
def TJ0 : u_T := fun k => match k with
  | _ => ("", "", "", false)
def tyJ0 : Nat → FieldType := fun k => match k with
  | _ => .int
abbrev wsJ00 : List Cond := u_ws RJ0 TJ0 0
theorem nmJ0 : ∀ a, a < 0 → ∀ b, b < 0 → a ≠ b → (TJ0 a).2.1 ≠ (TJ0 b).2.1 := by decide +kernel
theorem tyJ0_ok : ∀ k, k < 0 → parseFieldDescriptor (TJ0 k).2.2.1 = some (tyJ0 k) := by decide +kernel
def RJ10 : String := "java/lang/System"
def TJ10 : u_T := fun k => match k with
  | _ => ("", "", "", false)
def tyJ10 : Nat → FieldType := fun k => match k with
  | _ => .int
abbrev wsJ100 : List Cond := u_ws RJ10 TJ10 0
theorem nmJ10 : ∀ a, a < 0 → ∀ b, b < 0 → a ≠ b → (TJ10 a).2.1 ≠ (TJ10 b).2.1 := by decide +kernel
theorem tyJ10_ok : ∀ k, k < 0 → parseFieldDescriptor (TJ10 k).2.2.1 = some (tyJ10 k) := by decide +kernel
def RL : String := "CanalCityLaw"
abbrev cL_drain : ByteArray := method_3_code
def yL_drain : MethodName := ⟨RL, "drain", "(LCanalCity;II[J)I"⟩
abbrev cL_dig : ByteArray := method_4_code
def yL_dig : MethodName := ⟨RL, "dig", "(LCanalCity;II[J)I"⟩
abbrev cL_build : ByteArray := method_5_code
def yL_build : MethodName := ⟨RL, "build", "(LCanalCity;III[J)I"⟩
abbrev cL_bridge : ByteArray := method_6_code
def yL_bridge : MethodName := ⟨RL, "bridge", "(LCanalCity;II[J)I"⟩
abbrev cL_raze : ByteArray := method_7_code
def yL_raze : MethodName := ⟨RL, "raze", "(LCanalCity;II[J)I"⟩
abbrev cL_lot : ByteArray := method_8_code
def yL_lot : MethodName := ⟨RL, "lot", "(LCanalCity;III[J)I"⟩
abbrev cL_count : ByteArray := method_9_code
def yL_count : MethodName := ⟨RL, "count", "(LCanalCity;I[J)I"⟩
abbrev cL_walk : ByteArray := method_10_code
def yL_walk : MethodName := ⟨RL, "walk", "(LCanalCity;II[J)I"⟩
abbrev cL_sail : ByteArray := method_11_code
def yL_sail : MethodName := ⟨RL, "sail", "(LCanalCity;I[J)I"⟩
abbrev cL_pass : ByteArray := method_12_code
def yL_pass : MethodName := ⟨RL, "pass", "(LCanalCity;I[J)I"⟩
abbrev cL_foresee : ByteArray := method_13_code
def yL_foresee : MethodName := ⟨RL, "foresee", "(LCanalCity;II[J)I"⟩
abbrev cL_would : ByteArray := method_14_code
def yL_would : MethodName := ⟨RL, "would", "(LCanalCity;III[J)I"⟩
abbrev cL_best : ByteArray := method_15_code
def yL_best : MethodName := ⟨RL, "best", "(LCanalCity;I[J)I"⟩
abbrev cL_law : ByteArray := code
def yL_law : MethodName := ⟨RL, "law", "([I)Z"⟩
def wsX0_clear : List Cond := .code yX0_clear cX0_clear 3 none :: ([])
def wsX1_isLand : List Cond := .code yX1_isLand cX1_isLand 1 (some .boolean) :: ([])
def wsX1_isLot : List Cond := .code yX1_isLot cX1_isLot 1 (some .boolean) :: ([])
def wsX1_neighbour : List Cond := .code yX1_neighbour cX1_neighbour 4 (some .int) :: ([])
def wsX1_isWater : List Cond := .code yX1_isWater cX1_isWater 1 (some .boolean) :: ([])
def wsX0_spread : List Cond := .code yX0_spread cX0_spread 11 none :: ([.fieldLink RX0 49 "CanalCity$City" "waiting" "[I", .fieldLink RX0 21 "CanalCity$City" "kinds" "[I", .static yX1_isLot, .initialized RX1, .code yX1_isLot cX1_isLot 1 (some .boolean), .static yX1_neighbour, .code yX1_neighbour cX1_neighbour 4 (some .int), .static yX1_isLand, .code yX1_isLand cX1_isLand 1 (some .boolean), .static yX1_isWater, .code yX1_isWater cX1_isWater 1 (some .boolean)] ++ wsX00)
def wsX0_enter : List Cond := .code yX0_enter cX0_enter 3 none :: ([.fieldLink RX0 28 "CanalCity$City" "lotsOf" "[I", .fieldLink RX0 31 "CanalCity$City" "housesOf" "[I", .fieldLink RX0 34 "CanalCity$City" "marketsOf" "[I", .static yX1_isLot, .initialized RX1, .code yX1_isLot cX1_isLot 1 (some .boolean)] ++ wsX00)
def wsX0_surveyQuarters_r1 : List Cond := [Cond.fieldLink RX0 25 "CanalCity$City" "quarters" "[I", Cond.fieldLink RX0 28 "CanalCity$City" "lotsOf" "[I", Cond.fieldLink RX0 31 "CanalCity$City" "housesOf" "[I", Cond.fieldLink RX0 34 "CanalCity$City" "marketsOf" "[I", Cond.fieldLink RX0 21 "CanalCity$City" "kinds" "[I", Cond.methodLink RX0 80 yX0_clear, Cond.static yX0_clear, Cond.initialized RX0, Cond.code yX0_clear cX0_clear 3 none, Cond.static yX1_isLand, Cond.initialized RX1, Cond.code yX1_isLand cX1_isLand 1 (some .boolean), Cond.methodLink RX0 87 yX0_spread, Cond.instanceMethod yX0_spread, Cond.selects RX0 yX0_spread yX0_spread, Cond.code yX0_spread cX0_spread 11 none, Cond.fieldLink RX0 49 "CanalCity$City" "waiting" "[I", Cond.static yX1_isLot, Cond.code yX1_isLot cX1_isLot 1 (some .boolean), Cond.static yX1_neighbour, Cond.code yX1_neighbour cX1_neighbour 4 (some .int), Cond.static yX1_isWater, Cond.code yX1_isWater cX1_isWater 1 (some .boolean), Cond.methodLink RX0 101 yX0_enter]
def wsX0_surveyQuarters_r2 : List Cond := [Cond.instanceMethod yX0_enter, Cond.selects RX0 yX0_enter yX0_enter, Cond.code yX0_enter cX0_enter 3 none]
def wsX0_surveyQuarters : List Cond := .code yX0_surveyQuarters cX0_surveyQuarters 2 none :: ((wsX0_surveyQuarters_r1 ++ wsX0_surveyQuarters_r2) ++ wsX00)
def wsX0_marketsInQuarter : List Cond := .code yX0_marketsInQuarter cX0_marketsInQuarter 3 (some .int) :: ([.fieldLink RX0 25 "CanalCity$City" "quarters" "[I", .fieldLink RX0 34 "CanalCity$City" "marketsOf" "[I", .static yX1_isLot, .initialized RX1, .code yX1_isLot cX1_isLot 1 (some .boolean)] ++ wsX00)
def wsX0_isOpenWater : List Cond := .code yX0_isOpenWater cX0_isOpenWater 2 (some .boolean) :: ([.fieldLink RX0 37 "CanalCity$City" "boatSteps" "[I"] ++ wsX00)
def wsX0_isByBoat : List Cond := .code yX0_isByBoat cX0_isByBoat 5 (some .boolean) :: ([.fieldLink RX0 21 "CanalCity$City" "kinds" "[I", .static yX1_isLand, .initialized RX1, .code yX1_isLand cX1_isLand 1 (some .boolean), .static yX1_neighbour, .code yX1_neighbour cX1_neighbour 4 (some .int), .static yX1_isLot, .code yX1_isLot cX1_isLot 1 (some .boolean), .methodLink RX0 121 yX0_isOpenWater, .instanceMethod yX0_isOpenWater, .selects RX0 yX0_isOpenWater yX0_isOpenWater, .initialized RX0, .code yX0_isOpenWater cX0_isOpenWater 2 (some .boolean), .fieldLink RX0 37 "CanalCity$City" "boatSteps" "[I"] ++ wsX00)
def wsX0_neighboursOfKind : List Cond := .code yX0_neighboursOfKind cX0_neighboursOfKind 6 (some .int) :: ([.fieldLink RX0 21 "CanalCity$City" "kinds" "[I", .static yX1_neighbour, .initialized RX1, .code yX1_neighbour cX1_neighbour 4 (some .int), .static yX1_isLot, .code yX1_isLot cX1_isLot 1 (some .boolean)] ++ wsX00)
def wsX0_complaintsAt_r1 : List Cond := [Cond.fieldLink RX0 21 "CanalCity$City" "kinds" "[I", Cond.methodLink RX0 107 yX0_marketsInQuarter, Cond.instanceMethod yX0_marketsInQuarter, Cond.selects RX0 yX0_marketsInQuarter yX0_marketsInQuarter, Cond.initialized RX0, Cond.code yX0_marketsInQuarter cX0_marketsInQuarter 3 (some .int), Cond.fieldLink RX0 25 "CanalCity$City" "quarters" "[I", Cond.fieldLink RX0 34 "CanalCity$City" "marketsOf" "[I", Cond.static yX1_isLot, Cond.initialized RX1, Cond.code yX1_isLot cX1_isLot 1 (some .boolean), Cond.methodLink RX0 110 yX0_isByBoat, Cond.instanceMethod yX0_isByBoat, Cond.selects RX0 yX0_isByBoat yX0_isByBoat, Cond.code yX0_isByBoat cX0_isByBoat 5 (some .boolean), Cond.static yX1_isLand, Cond.code yX1_isLand cX1_isLand 1 (some .boolean), Cond.static yX1_neighbour, Cond.code yX1_neighbour cX1_neighbour 4 (some .int), Cond.methodLink RX0 121 yX0_isOpenWater, Cond.instanceMethod yX0_isOpenWater, Cond.selects RX0 yX0_isOpenWater yX0_isOpenWater, Cond.code yX0_isOpenWater cX0_isOpenWater 2 (some .boolean), Cond.fieldLink RX0 37 "CanalCity$City" "boatSteps" "[I"]
def wsX0_complaintsAt_r2 : List Cond := [Cond.methodLink RX0 69 yX0_neighboursOfKind, Cond.instanceMethod yX0_neighboursOfKind, Cond.selects RX0 yX0_neighboursOfKind yX0_neighboursOfKind, Cond.code yX0_neighboursOfKind cX0_neighboursOfKind 6 (some .int)]
def wsX0_complaintsAt : List Cond := .code yX0_complaintsAt cX0_complaintsAt 4 (some .int) :: ((wsX0_complaintsAt_r1 ++ wsX0_complaintsAt_r2) ++ wsX00)
def wsX0_housesInQuarter : List Cond := .code yX0_housesInQuarter cX0_housesInQuarter 3 (some .int) :: ([.fieldLink RX0 25 "CanalCity$City" "quarters" "[I", .fieldLink RX0 31 "CanalCity$City" "housesOf" "[I", .static yX1_isLot, .initialized RX1, .code yX1_isLot cX1_isLot 1 (some .boolean)] ++ wsX00)
def wsX0_duesAt_r1 : List Cond := [Cond.fieldLink RX0 21 "CanalCity$City" "kinds" "[I", Cond.fieldLink RX0 40 "CanalCity$City" "complaints" "[I", Cond.methodLink RX0 113 Lib.Math.max.name, Cond.static Lib.Math.max.name, Cond.initialized "java/lang/Math", Cond.code Lib.Math.max.name Lib.Math.max.code 2 (some .int), Cond.methodLink RX0 110 yX0_isByBoat, Cond.instanceMethod yX0_isByBoat, Cond.selects RX0 yX0_isByBoat yX0_isByBoat, Cond.initialized RX0, Cond.code yX0_isByBoat cX0_isByBoat 5 (some .boolean), Cond.static yX1_isLand, Cond.initialized RX1, Cond.code yX1_isLand cX1_isLand 1 (some .boolean), Cond.static yX1_neighbour, Cond.code yX1_neighbour cX1_neighbour 4 (some .int), Cond.static yX1_isLot, Cond.code yX1_isLot cX1_isLot 1 (some .boolean), Cond.methodLink RX0 121 yX0_isOpenWater, Cond.instanceMethod yX0_isOpenWater, Cond.selects RX0 yX0_isOpenWater yX0_isOpenWater, Cond.code yX0_isOpenWater cX0_isOpenWater 2 (some .boolean), Cond.fieldLink RX0 37 "CanalCity$City" "boatSteps" "[I", Cond.methodLink RX0 118 yX0_housesInQuarter]
def wsX0_duesAt_r2 : List Cond := [Cond.instanceMethod yX0_housesInQuarter, Cond.selects RX0 yX0_housesInQuarter yX0_housesInQuarter, Cond.code yX0_housesInQuarter cX0_housesInQuarter 3 (some .int), Cond.fieldLink RX0 25 "CanalCity$City" "quarters" "[I", Cond.fieldLink RX0 31 "CanalCity$City" "housesOf" "[I"]
def wsX0_duesAt : List Cond := .code yX0_duesAt cX0_duesAt 2 (some .int) :: ((wsX0_duesAt_r1 ++ wsX0_duesAt_r2) ++ wsX00)
def wsX0_survey_r1 : List Cond := [Cond.fieldLink RX0 37 "CanalCity$City" "boatSteps" "[I", Cond.fieldLink RX0 21 "CanalCity$City" "kinds" "[I", Cond.fieldLink RX0 40 "CanalCity$City" "complaints" "[I", Cond.fieldLink RX0 43 "CanalCity$City" "dues" "[I", Cond.methodLink RX0 77 yX0_surveyQuarters, Cond.instanceMethod yX0_surveyQuarters, Cond.selects RX0 yX0_surveyQuarters yX0_surveyQuarters, Cond.initialized RX0, Cond.code yX0_surveyQuarters cX0_surveyQuarters 2 none, Cond.fieldLink RX0 25 "CanalCity$City" "quarters" "[I", Cond.fieldLink RX0 28 "CanalCity$City" "lotsOf" "[I", Cond.fieldLink RX0 31 "CanalCity$City" "housesOf" "[I", Cond.fieldLink RX0 34 "CanalCity$City" "marketsOf" "[I", Cond.methodLink RX0 80 yX0_clear, Cond.static yX0_clear, Cond.code yX0_clear cX0_clear 3 none, Cond.static yX1_isLand, Cond.initialized RX1, Cond.code yX1_isLand cX1_isLand 1 (some .boolean), Cond.methodLink RX0 87 yX0_spread, Cond.instanceMethod yX0_spread, Cond.selects RX0 yX0_spread yX0_spread, Cond.code yX0_spread cX0_spread 11 none, Cond.fieldLink RX0 49 "CanalCity$City" "waiting" "[I"]
def wsX0_survey_r2 : List Cond := [Cond.static yX1_isLot, Cond.code yX1_isLot cX1_isLot 1 (some .boolean), Cond.static yX1_neighbour, Cond.code yX1_neighbour cX1_neighbour 4 (some .int), Cond.static yX1_isWater, Cond.code yX1_isWater cX1_isWater 1 (some .boolean), Cond.methodLink RX0 101 yX0_enter, Cond.instanceMethod yX0_enter, Cond.selects RX0 yX0_enter yX0_enter, Cond.code yX0_enter cX0_enter 3 none, Cond.methodLink RX0 91 yX0_complaintsAt, Cond.instanceMethod yX0_complaintsAt, Cond.selects RX0 yX0_complaintsAt yX0_complaintsAt, Cond.code yX0_complaintsAt cX0_complaintsAt 4 (some .int), Cond.methodLink RX0 107 yX0_marketsInQuarter, Cond.instanceMethod yX0_marketsInQuarter, Cond.selects RX0 yX0_marketsInQuarter yX0_marketsInQuarter, Cond.code yX0_marketsInQuarter cX0_marketsInQuarter 3 (some .int), Cond.methodLink RX0 110 yX0_isByBoat, Cond.instanceMethod yX0_isByBoat, Cond.selects RX0 yX0_isByBoat yX0_isByBoat, Cond.code yX0_isByBoat cX0_isByBoat 5 (some .boolean), Cond.methodLink RX0 121 yX0_isOpenWater, Cond.instanceMethod yX0_isOpenWater]
def wsX0_survey_r3 : List Cond := [Cond.selects RX0 yX0_isOpenWater yX0_isOpenWater, Cond.code yX0_isOpenWater cX0_isOpenWater 2 (some .boolean), Cond.methodLink RX0 69 yX0_neighboursOfKind, Cond.instanceMethod yX0_neighboursOfKind, Cond.selects RX0 yX0_neighboursOfKind yX0_neighboursOfKind, Cond.code yX0_neighboursOfKind cX0_neighboursOfKind 6 (some .int), Cond.methodLink RX0 95 yX0_duesAt, Cond.instanceMethod yX0_duesAt, Cond.selects RX0 yX0_duesAt yX0_duesAt, Cond.code yX0_duesAt cX0_duesAt 2 (some .int), Cond.methodLink RX0 113 Lib.Math.max.name, Cond.static Lib.Math.max.name, Cond.initialized "java/lang/Math", Cond.code Lib.Math.max.name Lib.Math.max.code 2 (some .int), Cond.methodLink RX0 118 yX0_housesInQuarter, Cond.instanceMethod yX0_housesInQuarter, Cond.selects RX0 yX0_housesInQuarter yX0_housesInQuarter, Cond.code yX0_housesInQuarter cX0_housesInQuarter 3 (some .int)]
def wsX0_survey : List Cond := .code yX0_survey cX0_survey 2 none :: ((wsX0_survey_r1 ++ (wsX0_survey_r2 ++ wsX0_survey_r3)) ++ wsX00)
def wsX0_init_r1 : List Cond := [Cond.methodLink RX0 3 objectInit, Cond.instanceMethod objectInit, Cond.code objectInit ⟨#[0xb1]⟩ 1 none, Cond.fieldLink RX0 9 "CanalCity$City" "month" "I", Cond.fieldLink RX0 15 "CanalCity$City" "coins" "I", Cond.fieldLink RX0 18 "CanalCity$City" "left" "I", Cond.arrayClass .int, Cond.fieldLink RX0 21 "CanalCity$City" "kinds" "[I", Cond.fieldLink RX0 25 "CanalCity$City" "quarters" "[I", Cond.fieldLink RX0 28 "CanalCity$City" "lotsOf" "[I", Cond.fieldLink RX0 31 "CanalCity$City" "housesOf" "[I", Cond.fieldLink RX0 34 "CanalCity$City" "marketsOf" "[I", Cond.fieldLink RX0 37 "CanalCity$City" "boatSteps" "[I", Cond.fieldLink RX0 40 "CanalCity$City" "complaints" "[I", Cond.fieldLink RX0 43 "CanalCity$City" "dues" "[I", Cond.fieldLink RX0 46 "CanalCity$City" "footSteps" "[I", Cond.fieldLink RX0 49 "CanalCity$City" "waiting" "[I", Cond.methodLink RX0 52 yX0_survey, Cond.instanceMethod yX0_survey, Cond.selects RX0 yX0_survey yX0_survey, Cond.initialized RX0, Cond.code yX0_survey cX0_survey 2 none, Cond.methodLink RX0 77 yX0_surveyQuarters, Cond.instanceMethod yX0_surveyQuarters]
def wsX0_init_r2 : List Cond := [Cond.selects RX0 yX0_surveyQuarters yX0_surveyQuarters, Cond.code yX0_surveyQuarters cX0_surveyQuarters 2 none, Cond.methodLink RX0 80 yX0_clear, Cond.static yX0_clear, Cond.code yX0_clear cX0_clear 3 none, Cond.static yX1_isLand, Cond.initialized RX1, Cond.code yX1_isLand cX1_isLand 1 (some .boolean), Cond.methodLink RX0 87 yX0_spread, Cond.instanceMethod yX0_spread, Cond.selects RX0 yX0_spread yX0_spread, Cond.code yX0_spread cX0_spread 11 none, Cond.static yX1_isLot, Cond.code yX1_isLot cX1_isLot 1 (some .boolean), Cond.static yX1_neighbour, Cond.code yX1_neighbour cX1_neighbour 4 (some .int), Cond.static yX1_isWater, Cond.code yX1_isWater cX1_isWater 1 (some .boolean), Cond.methodLink RX0 101 yX0_enter, Cond.instanceMethod yX0_enter, Cond.selects RX0 yX0_enter yX0_enter, Cond.code yX0_enter cX0_enter 3 none, Cond.methodLink RX0 91 yX0_complaintsAt, Cond.instanceMethod yX0_complaintsAt]
def wsX0_init_r3 : List Cond := [Cond.selects RX0 yX0_complaintsAt yX0_complaintsAt, Cond.code yX0_complaintsAt cX0_complaintsAt 4 (some .int), Cond.methodLink RX0 107 yX0_marketsInQuarter, Cond.instanceMethod yX0_marketsInQuarter, Cond.selects RX0 yX0_marketsInQuarter yX0_marketsInQuarter, Cond.code yX0_marketsInQuarter cX0_marketsInQuarter 3 (some .int), Cond.methodLink RX0 110 yX0_isByBoat, Cond.instanceMethod yX0_isByBoat, Cond.selects RX0 yX0_isByBoat yX0_isByBoat, Cond.code yX0_isByBoat cX0_isByBoat 5 (some .boolean), Cond.methodLink RX0 121 yX0_isOpenWater, Cond.instanceMethod yX0_isOpenWater, Cond.selects RX0 yX0_isOpenWater yX0_isOpenWater, Cond.code yX0_isOpenWater cX0_isOpenWater 2 (some .boolean), Cond.methodLink RX0 69 yX0_neighboursOfKind, Cond.instanceMethod yX0_neighboursOfKind, Cond.selects RX0 yX0_neighboursOfKind yX0_neighboursOfKind, Cond.code yX0_neighboursOfKind cX0_neighboursOfKind 6 (some .int), Cond.methodLink RX0 95 yX0_duesAt, Cond.instanceMethod yX0_duesAt, Cond.selects RX0 yX0_duesAt yX0_duesAt, Cond.code yX0_duesAt cX0_duesAt 2 (some .int), Cond.methodLink RX0 113 Lib.Math.max.name, Cond.static Lib.Math.max.name]
def wsX0_init_r4 : List Cond := [Cond.initialized "java/lang/Math", Cond.code Lib.Math.max.name Lib.Math.max.code 2 (some .int), Cond.methodLink RX0 118 yX0_housesInQuarter, Cond.instanceMethod yX0_housesInQuarter, Cond.selects RX0 yX0_housesInQuarter yX0_housesInQuarter, Cond.code yX0_housesInQuarter cX0_housesInQuarter 3 (some .int)]
def wsX0_init : List Cond := .code yX0_init cX0_init 2 none :: ((wsX0_init_r1 ++ (wsX0_init_r2 ++ (wsX0_init_r3 ++ wsX0_init_r4))) ++ wsX00)
def wsX0_become : List Cond := .code yX0_become cX0_become 3 none :: ([.fieldLink RX0 9 "CanalCity$City" "month" "I", .fieldLink RX0 15 "CanalCity$City" "coins" "I", .fieldLink RX0 18 "CanalCity$City" "left" "I", .fieldLink RX0 21 "CanalCity$City" "kinds" "[I"] ++ wsX00)
def wsX0_change_r1 : List Cond := [Cond.fieldLink RX0 21 "CanalCity$City" "kinds" "[I", Cond.methodLink RX0 52 yX0_survey, Cond.instanceMethod yX0_survey, Cond.selects RX0 yX0_survey yX0_survey, Cond.initialized RX0, Cond.code yX0_survey cX0_survey 2 none, Cond.fieldLink RX0 37 "CanalCity$City" "boatSteps" "[I", Cond.fieldLink RX0 40 "CanalCity$City" "complaints" "[I", Cond.fieldLink RX0 43 "CanalCity$City" "dues" "[I", Cond.methodLink RX0 77 yX0_surveyQuarters, Cond.instanceMethod yX0_surveyQuarters, Cond.selects RX0 yX0_surveyQuarters yX0_surveyQuarters, Cond.code yX0_surveyQuarters cX0_surveyQuarters 2 none, Cond.fieldLink RX0 25 "CanalCity$City" "quarters" "[I", Cond.fieldLink RX0 28 "CanalCity$City" "lotsOf" "[I", Cond.fieldLink RX0 31 "CanalCity$City" "housesOf" "[I", Cond.fieldLink RX0 34 "CanalCity$City" "marketsOf" "[I", Cond.methodLink RX0 80 yX0_clear, Cond.static yX0_clear, Cond.code yX0_clear cX0_clear 3 none, Cond.static yX1_isLand, Cond.initialized RX1, Cond.code yX1_isLand cX1_isLand 1 (some .boolean), Cond.methodLink RX0 87 yX0_spread]
def wsX0_change_r2 : List Cond := [Cond.instanceMethod yX0_spread, Cond.selects RX0 yX0_spread yX0_spread, Cond.code yX0_spread cX0_spread 11 none, Cond.fieldLink RX0 49 "CanalCity$City" "waiting" "[I", Cond.static yX1_isLot, Cond.code yX1_isLot cX1_isLot 1 (some .boolean), Cond.static yX1_neighbour, Cond.code yX1_neighbour cX1_neighbour 4 (some .int), Cond.static yX1_isWater, Cond.code yX1_isWater cX1_isWater 1 (some .boolean), Cond.methodLink RX0 101 yX0_enter, Cond.instanceMethod yX0_enter, Cond.selects RX0 yX0_enter yX0_enter, Cond.code yX0_enter cX0_enter 3 none, Cond.methodLink RX0 91 yX0_complaintsAt, Cond.instanceMethod yX0_complaintsAt, Cond.selects RX0 yX0_complaintsAt yX0_complaintsAt, Cond.code yX0_complaintsAt cX0_complaintsAt 4 (some .int), Cond.methodLink RX0 107 yX0_marketsInQuarter, Cond.instanceMethod yX0_marketsInQuarter, Cond.selects RX0 yX0_marketsInQuarter yX0_marketsInQuarter, Cond.code yX0_marketsInQuarter cX0_marketsInQuarter 3 (some .int), Cond.methodLink RX0 110 yX0_isByBoat, Cond.instanceMethod yX0_isByBoat]
def wsX0_change_r3 : List Cond := [Cond.selects RX0 yX0_isByBoat yX0_isByBoat, Cond.code yX0_isByBoat cX0_isByBoat 5 (some .boolean), Cond.methodLink RX0 121 yX0_isOpenWater, Cond.instanceMethod yX0_isOpenWater, Cond.selects RX0 yX0_isOpenWater yX0_isOpenWater, Cond.code yX0_isOpenWater cX0_isOpenWater 2 (some .boolean), Cond.methodLink RX0 69 yX0_neighboursOfKind, Cond.instanceMethod yX0_neighboursOfKind, Cond.selects RX0 yX0_neighboursOfKind yX0_neighboursOfKind, Cond.code yX0_neighboursOfKind cX0_neighboursOfKind 6 (some .int), Cond.methodLink RX0 95 yX0_duesAt, Cond.instanceMethod yX0_duesAt, Cond.selects RX0 yX0_duesAt yX0_duesAt, Cond.code yX0_duesAt cX0_duesAt 2 (some .int), Cond.methodLink RX0 113 Lib.Math.max.name, Cond.static Lib.Math.max.name, Cond.initialized "java/lang/Math", Cond.code Lib.Math.max.name Lib.Math.max.code 2 (some .int), Cond.methodLink RX0 118 yX0_housesInQuarter, Cond.instanceMethod yX0_housesInQuarter, Cond.selects RX0 yX0_housesInQuarter yX0_housesInQuarter, Cond.code yX0_housesInQuarter cX0_housesInQuarter 3 (some .int)]
def wsX0_change : List Cond := .code yX0_change cX0_change 3 none :: ((wsX0_change_r1 ++ (wsX0_change_r2 ++ wsX0_change_r3)) ++ wsX00)
def wsX0_buy_r1 : List Cond := [Cond.fieldLink RX0 15 "CanalCity$City" "coins" "I", Cond.methodLink RX0 55 yX0_change, Cond.instanceMethod yX0_change, Cond.selects RX0 yX0_change yX0_change, Cond.initialized RX0, Cond.code yX0_change cX0_change 3 none, Cond.fieldLink RX0 21 "CanalCity$City" "kinds" "[I", Cond.methodLink RX0 52 yX0_survey, Cond.instanceMethod yX0_survey, Cond.selects RX0 yX0_survey yX0_survey, Cond.code yX0_survey cX0_survey 2 none, Cond.fieldLink RX0 37 "CanalCity$City" "boatSteps" "[I", Cond.fieldLink RX0 40 "CanalCity$City" "complaints" "[I", Cond.fieldLink RX0 43 "CanalCity$City" "dues" "[I", Cond.methodLink RX0 77 yX0_surveyQuarters, Cond.instanceMethod yX0_surveyQuarters, Cond.selects RX0 yX0_surveyQuarters yX0_surveyQuarters, Cond.code yX0_surveyQuarters cX0_surveyQuarters 2 none, Cond.fieldLink RX0 25 "CanalCity$City" "quarters" "[I", Cond.fieldLink RX0 28 "CanalCity$City" "lotsOf" "[I", Cond.fieldLink RX0 31 "CanalCity$City" "housesOf" "[I", Cond.fieldLink RX0 34 "CanalCity$City" "marketsOf" "[I", Cond.methodLink RX0 80 yX0_clear, Cond.static yX0_clear]
def wsX0_buy_r2 : List Cond := [Cond.code yX0_clear cX0_clear 3 none, Cond.static yX1_isLand, Cond.initialized RX1, Cond.code yX1_isLand cX1_isLand 1 (some .boolean), Cond.methodLink RX0 87 yX0_spread, Cond.instanceMethod yX0_spread, Cond.selects RX0 yX0_spread yX0_spread, Cond.code yX0_spread cX0_spread 11 none, Cond.fieldLink RX0 49 "CanalCity$City" "waiting" "[I", Cond.static yX1_isLot, Cond.code yX1_isLot cX1_isLot 1 (some .boolean), Cond.static yX1_neighbour, Cond.code yX1_neighbour cX1_neighbour 4 (some .int), Cond.static yX1_isWater, Cond.code yX1_isWater cX1_isWater 1 (some .boolean), Cond.methodLink RX0 101 yX0_enter, Cond.instanceMethod yX0_enter, Cond.selects RX0 yX0_enter yX0_enter, Cond.code yX0_enter cX0_enter 3 none, Cond.methodLink RX0 91 yX0_complaintsAt, Cond.instanceMethod yX0_complaintsAt, Cond.selects RX0 yX0_complaintsAt yX0_complaintsAt, Cond.code yX0_complaintsAt cX0_complaintsAt 4 (some .int), Cond.methodLink RX0 107 yX0_marketsInQuarter]
def wsX0_buy_r3 : List Cond := [Cond.instanceMethod yX0_marketsInQuarter, Cond.selects RX0 yX0_marketsInQuarter yX0_marketsInQuarter, Cond.code yX0_marketsInQuarter cX0_marketsInQuarter 3 (some .int), Cond.methodLink RX0 110 yX0_isByBoat, Cond.instanceMethod yX0_isByBoat, Cond.selects RX0 yX0_isByBoat yX0_isByBoat, Cond.code yX0_isByBoat cX0_isByBoat 5 (some .boolean), Cond.methodLink RX0 121 yX0_isOpenWater, Cond.instanceMethod yX0_isOpenWater, Cond.selects RX0 yX0_isOpenWater yX0_isOpenWater, Cond.code yX0_isOpenWater cX0_isOpenWater 2 (some .boolean), Cond.methodLink RX0 69 yX0_neighboursOfKind, Cond.instanceMethod yX0_neighboursOfKind, Cond.selects RX0 yX0_neighboursOfKind yX0_neighboursOfKind, Cond.code yX0_neighboursOfKind cX0_neighboursOfKind 6 (some .int), Cond.methodLink RX0 95 yX0_duesAt, Cond.instanceMethod yX0_duesAt, Cond.selects RX0 yX0_duesAt yX0_duesAt, Cond.code yX0_duesAt cX0_duesAt 2 (some .int), Cond.methodLink RX0 113 Lib.Math.max.name, Cond.static Lib.Math.max.name, Cond.initialized "java/lang/Math", Cond.code Lib.Math.max.name Lib.Math.max.code 2 (some .int), Cond.methodLink RX0 118 yX0_housesInQuarter]
def wsX0_buy_r4 : List Cond := [Cond.instanceMethod yX0_housesInQuarter, Cond.selects RX0 yX0_housesInQuarter yX0_housesInQuarter, Cond.code yX0_housesInQuarter cX0_housesInQuarter 3 (some .int)]
def wsX0_buy : List Cond := .code yX0_buy cX0_buy 4 none :: ((wsX0_buy_r1 ++ (wsX0_buy_r2 ++ (wsX0_buy_r3 ++ wsX0_buy_r4))) ++ wsX00)
def wsX0_sum : List Cond := .code yX0_sum cX0_sum 3 (some .int) :: ([])
def wsX0_duesOfAll : List Cond := .code yX0_duesOfAll cX0_duesOfAll 1 (some .int) :: ([.fieldLink RX0 43 "CanalCity$City" "dues" "[I", .methodLink RX0 136 yX0_sum, .static yX0_sum, .initialized RX0, .code yX0_sum cX0_sum 3 (some .int)] ++ wsX00)
def wsX0_leaveHouses : List Cond := .code yX0_leaveHouses cX0_leaveHouses 2 none :: ([.fieldLink RX0 21 "CanalCity$City" "kinds" "[I", .fieldLink RX0 40 "CanalCity$City" "complaints" "[I", .fieldLink RX0 18 "CanalCity$City" "left" "I"] ++ wsX00)
def wsX0_sinkLots : List Cond := .code yX0_sinkLots cX0_sinkLots 4 none :: ([.fieldLink RX0 21 "CanalCity$City" "kinds" "[I", .fieldLink RX0 49 "CanalCity$City" "waiting" "[I", .methodLink RX0 69 yX0_neighboursOfKind, .instanceMethod yX0_neighboursOfKind, .selects RX0 yX0_neighboursOfKind yX0_neighboursOfKind, .initialized RX0, .code yX0_neighboursOfKind cX0_neighboursOfKind 6 (some .int), .static yX1_neighbour, .initialized RX1, .code yX1_neighbour cX1_neighbour 4 (some .int), .static yX1_isLot, .code yX1_isLot cX1_isLot 1 (some .boolean)] ++ wsX00)
def wsX0_live_r1 : List Cond := [Cond.fieldLink RX0 15 "CanalCity$City" "coins" "I", Cond.fieldLink RX0 9 "CanalCity$City" "month" "I", Cond.methodLink RX0 59 yX0_duesOfAll, Cond.instanceMethod yX0_duesOfAll, Cond.selects RX0 yX0_duesOfAll yX0_duesOfAll, Cond.initialized RX0, Cond.code yX0_duesOfAll cX0_duesOfAll 1 (some .int), Cond.fieldLink RX0 43 "CanalCity$City" "dues" "[I", Cond.methodLink RX0 136 yX0_sum, Cond.static yX0_sum, Cond.code yX0_sum cX0_sum 3 (some .int), Cond.methodLink RX0 63 yX0_leaveHouses, Cond.instanceMethod yX0_leaveHouses, Cond.selects RX0 yX0_leaveHouses yX0_leaveHouses, Cond.code yX0_leaveHouses cX0_leaveHouses 2 none, Cond.fieldLink RX0 21 "CanalCity$City" "kinds" "[I", Cond.fieldLink RX0 40 "CanalCity$City" "complaints" "[I", Cond.fieldLink RX0 18 "CanalCity$City" "left" "I", Cond.methodLink RX0 66 yX0_sinkLots, Cond.instanceMethod yX0_sinkLots, Cond.selects RX0 yX0_sinkLots yX0_sinkLots, Cond.code yX0_sinkLots cX0_sinkLots 4 none, Cond.fieldLink RX0 49 "CanalCity$City" "waiting" "[I", Cond.methodLink RX0 69 yX0_neighboursOfKind]
def wsX0_live_r2 : List Cond := [Cond.instanceMethod yX0_neighboursOfKind, Cond.selects RX0 yX0_neighboursOfKind yX0_neighboursOfKind, Cond.code yX0_neighboursOfKind cX0_neighboursOfKind 6 (some .int), Cond.static yX1_neighbour, Cond.initialized RX1, Cond.code yX1_neighbour cX1_neighbour 4 (some .int), Cond.static yX1_isLot, Cond.code yX1_isLot cX1_isLot 1 (some .boolean), Cond.methodLink RX0 52 yX0_survey, Cond.instanceMethod yX0_survey, Cond.selects RX0 yX0_survey yX0_survey, Cond.code yX0_survey cX0_survey 2 none, Cond.fieldLink RX0 37 "CanalCity$City" "boatSteps" "[I", Cond.methodLink RX0 77 yX0_surveyQuarters, Cond.instanceMethod yX0_surveyQuarters, Cond.selects RX0 yX0_surveyQuarters yX0_surveyQuarters, Cond.code yX0_surveyQuarters cX0_surveyQuarters 2 none, Cond.fieldLink RX0 25 "CanalCity$City" "quarters" "[I", Cond.fieldLink RX0 28 "CanalCity$City" "lotsOf" "[I", Cond.fieldLink RX0 31 "CanalCity$City" "housesOf" "[I", Cond.fieldLink RX0 34 "CanalCity$City" "marketsOf" "[I", Cond.methodLink RX0 80 yX0_clear, Cond.static yX0_clear, Cond.code yX0_clear cX0_clear 3 none]
def wsX0_live_r3 : List Cond := [Cond.static yX1_isLand, Cond.code yX1_isLand cX1_isLand 1 (some .boolean), Cond.methodLink RX0 87 yX0_spread, Cond.instanceMethod yX0_spread, Cond.selects RX0 yX0_spread yX0_spread, Cond.code yX0_spread cX0_spread 11 none, Cond.static yX1_isWater, Cond.code yX1_isWater cX1_isWater 1 (some .boolean), Cond.methodLink RX0 101 yX0_enter, Cond.instanceMethod yX0_enter, Cond.selects RX0 yX0_enter yX0_enter, Cond.code yX0_enter cX0_enter 3 none, Cond.methodLink RX0 91 yX0_complaintsAt, Cond.instanceMethod yX0_complaintsAt, Cond.selects RX0 yX0_complaintsAt yX0_complaintsAt, Cond.code yX0_complaintsAt cX0_complaintsAt 4 (some .int), Cond.methodLink RX0 107 yX0_marketsInQuarter, Cond.instanceMethod yX0_marketsInQuarter, Cond.selects RX0 yX0_marketsInQuarter yX0_marketsInQuarter, Cond.code yX0_marketsInQuarter cX0_marketsInQuarter 3 (some .int), Cond.methodLink RX0 110 yX0_isByBoat, Cond.instanceMethod yX0_isByBoat, Cond.selects RX0 yX0_isByBoat yX0_isByBoat, Cond.code yX0_isByBoat cX0_isByBoat 5 (some .boolean)]
def wsX0_live_r4 : List Cond := [Cond.methodLink RX0 121 yX0_isOpenWater, Cond.instanceMethod yX0_isOpenWater, Cond.selects RX0 yX0_isOpenWater yX0_isOpenWater, Cond.code yX0_isOpenWater cX0_isOpenWater 2 (some .boolean), Cond.methodLink RX0 95 yX0_duesAt, Cond.instanceMethod yX0_duesAt, Cond.selects RX0 yX0_duesAt yX0_duesAt, Cond.code yX0_duesAt cX0_duesAt 2 (some .int), Cond.methodLink RX0 113 Lib.Math.max.name, Cond.static Lib.Math.max.name, Cond.initialized "java/lang/Math", Cond.code Lib.Math.max.name Lib.Math.max.code 2 (some .int), Cond.methodLink RX0 118 yX0_housesInQuarter, Cond.instanceMethod yX0_housesInQuarter, Cond.selects RX0 yX0_housesInQuarter yX0_housesInQuarter, Cond.code yX0_housesInQuarter cX0_housesInQuarter 3 (some .int)]
def wsX0_live : List Cond := .code yX0_live cX0_live 5 (some .int) :: ((wsX0_live_r1 ++ (wsX0_live_r2 ++ (wsX0_live_r3 ++ wsX0_live_r4))) ++ wsX00)
def wsX0_lotsOfQuarter : List Cond := .code yX0_lotsOfQuarter cX0_lotsOfQuarter 3 (some .int) :: ([.fieldLink RX0 25 "CanalCity$City" "quarters" "[I", .fieldLink RX0 28 "CanalCity$City" "lotsOf" "[I", .static yX1_isLot, .initialized RX1, .code yX1_isLot cX1_isLot 1 (some .boolean)] ++ wsX00)
def wsX0_stepsOnFoot : List Cond := .code yX0_stepsOnFoot cX0_stepsOnFoot 3 (some .int) :: ([.fieldLink RX0 46 "CanalCity$City" "footSteps" "[I", .methodLink RX0 80 yX0_clear, .static yX0_clear, .initialized RX0, .code yX0_clear cX0_clear 3 none, .methodLink RX0 87 yX0_spread, .instanceMethod yX0_spread, .selects RX0 yX0_spread yX0_spread, .code yX0_spread cX0_spread 11 none, .fieldLink RX0 49 "CanalCity$City" "waiting" "[I", .fieldLink RX0 21 "CanalCity$City" "kinds" "[I", .static yX1_isLot, .initialized RX1, .code yX1_isLot cX1_isLot 1 (some .boolean), .static yX1_neighbour, .code yX1_neighbour cX1_neighbour 4 (some .int), .static yX1_isLand, .code yX1_isLand cX1_isLand 1 (some .boolean), .static yX1_isWater, .code yX1_isWater cX1_isWater 1 (some .boolean)] ++ wsX00)
def wsX0_factOf_r1 : List Cond := [Cond.fieldLink RX0 21 "CanalCity$City" "kinds" "[I", Cond.fieldLink RX0 25 "CanalCity$City" "quarters" "[I", Cond.fieldLink RX0 40 "CanalCity$City" "complaints" "[I", Cond.fieldLink RX0 43 "CanalCity$City" "dues" "[I", Cond.methodLink RX0 124 yX0_lotsOfQuarter, Cond.instanceMethod yX0_lotsOfQuarter, Cond.selects RX0 yX0_lotsOfQuarter yX0_lotsOfQuarter, Cond.initialized RX0, Cond.code yX0_lotsOfQuarter cX0_lotsOfQuarter 3 (some .int), Cond.fieldLink RX0 28 "CanalCity$City" "lotsOf" "[I", Cond.static yX1_isLot, Cond.initialized RX1, Cond.code yX1_isLot cX1_isLot 1 (some .boolean), Cond.methodLink RX0 110 yX0_isByBoat, Cond.instanceMethod yX0_isByBoat, Cond.selects RX0 yX0_isByBoat yX0_isByBoat, Cond.code yX0_isByBoat cX0_isByBoat 5 (some .boolean), Cond.static yX1_isLand, Cond.code yX1_isLand cX1_isLand 1 (some .boolean), Cond.static yX1_neighbour, Cond.code yX1_neighbour cX1_neighbour 4 (some .int), Cond.methodLink RX0 121 yX0_isOpenWater, Cond.instanceMethod yX0_isOpenWater, Cond.selects RX0 yX0_isOpenWater yX0_isOpenWater]
def wsX0_factOf_r2 : List Cond := [Cond.code yX0_isOpenWater cX0_isOpenWater 2 (some .boolean), Cond.fieldLink RX0 37 "CanalCity$City" "boatSteps" "[I"]
def wsX0_factOf : List Cond := .code yX0_factOf cX0_factOf 3 (some .int) :: ((wsX0_factOf_r1 ++ wsX0_factOf_r2) ++ wsX00)
def wsX0_quartersOfAll : List Cond := .code yX0_quartersOfAll cX0_quartersOfAll 3 (some .int) :: ([.fieldLink RX0 25 "CanalCity$City" "quarters" "[I"] ++ wsX00)
def wsX0_complaintsOfAll : List Cond := .code yX0_complaintsOfAll cX0_complaintsOfAll 1 (some .int) :: ([.fieldLink RX0 40 "CanalCity$City" "complaints" "[I", .methodLink RX0 136 yX0_sum, .static yX0_sum, .initialized RX0, .code yX0_sum cX0_sum 3 (some .int)] ++ wsX00)
def wsX0_lotsOfKind : List Cond := .code yX0_lotsOfKind cX0_lotsOfKind 4 (some .int) :: ([.fieldLink RX0 21 "CanalCity$City" "kinds" "[I"] ++ wsX00)
def wsX0_total_r1 : List Cond := [Cond.fieldLink RX0 9 "CanalCity$City" "month" "I", Cond.fieldLink RX0 15 "CanalCity$City" "coins" "I", Cond.fieldLink RX0 18 "CanalCity$City" "left" "I", Cond.methodLink RX0 127 yX0_quartersOfAll, Cond.instanceMethod yX0_quartersOfAll, Cond.selects RX0 yX0_quartersOfAll yX0_quartersOfAll, Cond.initialized RX0, Cond.code yX0_quartersOfAll cX0_quartersOfAll 3 (some .int), Cond.fieldLink RX0 25 "CanalCity$City" "quarters" "[I", Cond.methodLink RX0 130 yX0_complaintsOfAll, Cond.instanceMethod yX0_complaintsOfAll, Cond.selects RX0 yX0_complaintsOfAll yX0_complaintsOfAll, Cond.code yX0_complaintsOfAll cX0_complaintsOfAll 1 (some .int), Cond.fieldLink RX0 40 "CanalCity$City" "complaints" "[I", Cond.methodLink RX0 136 yX0_sum, Cond.static yX0_sum, Cond.code yX0_sum cX0_sum 3 (some .int), Cond.methodLink RX0 59 yX0_duesOfAll, Cond.instanceMethod yX0_duesOfAll, Cond.selects RX0 yX0_duesOfAll yX0_duesOfAll, Cond.code yX0_duesOfAll cX0_duesOfAll 1 (some .int), Cond.fieldLink RX0 43 "CanalCity$City" "dues" "[I", Cond.methodLink RX0 133 yX0_lotsOfKind, Cond.instanceMethod yX0_lotsOfKind]
def wsX0_total_r2 : List Cond := [Cond.selects RX0 yX0_lotsOfKind yX0_lotsOfKind, Cond.code yX0_lotsOfKind cX0_lotsOfKind 4 (some .int), Cond.fieldLink RX0 21 "CanalCity$City" "kinds" "[I"]
def wsX0_total : List Cond := .code yX0_total cX0_total 2 (some .int) :: ((wsX0_total_r1 ++ wsX0_total_r2) ++ wsX00)
def wsX1_init_r1 : List Cond := [Cond.methodLink RX1 1 objectInit, Cond.instanceMethod objectInit, Cond.code objectInit ⟨#[0xb1]⟩ 1 none, Cond.classLink RX1 7 RX0, Cond.instantiable RX0 13, Cond.initialized RX0, Cond.fieldLink RX1 10 "CanalCity" "now" "LCanalCity$City;", Cond.fieldLink RX1 16 "CanalCity" "trial" "LCanalCity$City;", Cond.methodLink RX1 9 yX0_init, Cond.instanceMethod yX0_init, Cond.code yX0_init cX0_init 2 none, Cond.methodLink RX0 3 objectInit, Cond.fieldLink RX0 9 "CanalCity$City" "month" "I", Cond.fieldLink RX0 15 "CanalCity$City" "coins" "I", Cond.fieldLink RX0 18 "CanalCity$City" "left" "I", Cond.arrayClass .int, Cond.fieldLink RX0 21 "CanalCity$City" "kinds" "[I", Cond.fieldLink RX0 25 "CanalCity$City" "quarters" "[I", Cond.fieldLink RX0 28 "CanalCity$City" "lotsOf" "[I", Cond.fieldLink RX0 31 "CanalCity$City" "housesOf" "[I", Cond.fieldLink RX0 34 "CanalCity$City" "marketsOf" "[I", Cond.fieldLink RX0 37 "CanalCity$City" "boatSteps" "[I", Cond.fieldLink RX0 40 "CanalCity$City" "complaints" "[I", Cond.fieldLink RX0 43 "CanalCity$City" "dues" "[I"]
def wsX1_init_r2 : List Cond := [Cond.fieldLink RX0 46 "CanalCity$City" "footSteps" "[I", Cond.fieldLink RX0 49 "CanalCity$City" "waiting" "[I", Cond.methodLink RX0 52 yX0_survey, Cond.instanceMethod yX0_survey, Cond.selects RX0 yX0_survey yX0_survey, Cond.code yX0_survey cX0_survey 2 none, Cond.methodLink RX0 77 yX0_surveyQuarters, Cond.instanceMethod yX0_surveyQuarters, Cond.selects RX0 yX0_surveyQuarters yX0_surveyQuarters, Cond.code yX0_surveyQuarters cX0_surveyQuarters 2 none, Cond.methodLink RX0 80 yX0_clear, Cond.static yX0_clear, Cond.code yX0_clear cX0_clear 3 none, Cond.static yX1_isLand, Cond.initialized RX1, Cond.code yX1_isLand cX1_isLand 1 (some .boolean), Cond.methodLink RX0 87 yX0_spread, Cond.instanceMethod yX0_spread, Cond.selects RX0 yX0_spread yX0_spread, Cond.code yX0_spread cX0_spread 11 none, Cond.static yX1_isLot, Cond.code yX1_isLot cX1_isLot 1 (some .boolean), Cond.static yX1_neighbour, Cond.code yX1_neighbour cX1_neighbour 4 (some .int)]
def wsX1_init_r3 : List Cond := [Cond.static yX1_isWater, Cond.code yX1_isWater cX1_isWater 1 (some .boolean), Cond.methodLink RX0 101 yX0_enter, Cond.instanceMethod yX0_enter, Cond.selects RX0 yX0_enter yX0_enter, Cond.code yX0_enter cX0_enter 3 none, Cond.methodLink RX0 91 yX0_complaintsAt, Cond.instanceMethod yX0_complaintsAt, Cond.selects RX0 yX0_complaintsAt yX0_complaintsAt, Cond.code yX0_complaintsAt cX0_complaintsAt 4 (some .int), Cond.methodLink RX0 107 yX0_marketsInQuarter, Cond.instanceMethod yX0_marketsInQuarter, Cond.selects RX0 yX0_marketsInQuarter yX0_marketsInQuarter, Cond.code yX0_marketsInQuarter cX0_marketsInQuarter 3 (some .int), Cond.methodLink RX0 110 yX0_isByBoat, Cond.instanceMethod yX0_isByBoat, Cond.selects RX0 yX0_isByBoat yX0_isByBoat, Cond.code yX0_isByBoat cX0_isByBoat 5 (some .boolean), Cond.methodLink RX0 121 yX0_isOpenWater, Cond.instanceMethod yX0_isOpenWater, Cond.selects RX0 yX0_isOpenWater yX0_isOpenWater, Cond.code yX0_isOpenWater cX0_isOpenWater 2 (some .boolean), Cond.methodLink RX0 69 yX0_neighboursOfKind, Cond.instanceMethod yX0_neighboursOfKind]
def wsX1_init_r4 : List Cond := [Cond.selects RX0 yX0_neighboursOfKind yX0_neighboursOfKind, Cond.code yX0_neighboursOfKind cX0_neighboursOfKind 6 (some .int), Cond.methodLink RX0 95 yX0_duesAt, Cond.instanceMethod yX0_duesAt, Cond.selects RX0 yX0_duesAt yX0_duesAt, Cond.code yX0_duesAt cX0_duesAt 2 (some .int), Cond.methodLink RX0 113 Lib.Math.max.name, Cond.static Lib.Math.max.name, Cond.initialized "java/lang/Math", Cond.code Lib.Math.max.name Lib.Math.max.code 2 (some .int), Cond.methodLink RX0 118 yX0_housesInQuarter, Cond.instanceMethod yX0_housesInQuarter, Cond.selects RX0 yX0_housesInQuarter yX0_housesInQuarter, Cond.code yX0_housesInQuarter cX0_housesInQuarter 3 (some .int)]
def wsX1_init : List Cond := .code yX1_init cX1_init 1 none :: ((wsX1_init_r1 ++ (wsX1_init_r2 ++ (wsX1_init_r3 ++ wsX1_init_r4))) ++ wsX00 ++ wsX10)
def wsX1_checkedNumber : List Cond := .code yX1_checkedNumber cX1_checkedNumber 2 (some .int) :: ([.classLink RX1 69 "java/lang/IndexOutOfBoundsException", .initialized "java/lang/IndexOutOfBoundsException"] ++ (vx_atS RX1 73 "java/lang/IndexOutOfBoundsException" ["java/lang/RuntimeException", "java/lang/Exception"]).filter goodWord)
def wsX1_checkCoins : List Cond := .code yX1_checkCoins cX1_checkCoins 2 none :: ([.classLink RX1 27 "java/lang/IllegalStateException", .initialized "java/lang/IllegalStateException", .fieldLink RX1 10 "CanalCity" "now" "LCanalCity$City;"] ++ wsX10 ++ wsX00 ++ (vx_atS RX1 31 "java/lang/IllegalStateException" ["java/lang/RuntimeException", "java/lang/Exception"]).filter goodWord)
def wsX1_drain_r1 : List Cond := [Cond.classLink RX1 27 "java/lang/IllegalStateException", Cond.initialized "java/lang/IllegalStateException", Cond.fieldLink RX1 10 "CanalCity" "now" "LCanalCity$City;", Cond.methodLink RX1 19 yX1_checkedNumber, Cond.static yX1_checkedNumber, Cond.initialized RX1, Cond.code yX1_checkedNumber cX1_checkedNumber 2 (some .int), Cond.classLink RX1 69 "java/lang/IndexOutOfBoundsException", Cond.initialized "java/lang/IndexOutOfBoundsException", Cond.methodLink RX1 34 yX1_checkCoins, Cond.instanceMethod yX1_checkCoins, Cond.selects RX1 yX1_checkCoins yX1_checkCoins, Cond.code yX1_checkCoins cX1_checkCoins 2 none, Cond.methodLink RX1 38 yX0_buy, Cond.instanceMethod yX0_buy, Cond.selects RX0 yX0_buy yX0_buy, Cond.initialized RX0, Cond.code yX0_buy cX0_buy 4 none, Cond.fieldLink RX0 15 "CanalCity$City" "coins" "I", Cond.methodLink RX0 55 yX0_change, Cond.instanceMethod yX0_change, Cond.selects RX0 yX0_change yX0_change, Cond.code yX0_change cX0_change 3 none, Cond.fieldLink RX0 21 "CanalCity$City" "kinds" "[I"]
def wsX1_drain_r2 : List Cond := [Cond.methodLink RX0 52 yX0_survey, Cond.instanceMethod yX0_survey, Cond.selects RX0 yX0_survey yX0_survey, Cond.code yX0_survey cX0_survey 2 none, Cond.fieldLink RX0 37 "CanalCity$City" "boatSteps" "[I", Cond.fieldLink RX0 40 "CanalCity$City" "complaints" "[I", Cond.fieldLink RX0 43 "CanalCity$City" "dues" "[I", Cond.methodLink RX0 77 yX0_surveyQuarters, Cond.instanceMethod yX0_surveyQuarters, Cond.selects RX0 yX0_surveyQuarters yX0_surveyQuarters, Cond.code yX0_surveyQuarters cX0_surveyQuarters 2 none, Cond.fieldLink RX0 25 "CanalCity$City" "quarters" "[I", Cond.fieldLink RX0 28 "CanalCity$City" "lotsOf" "[I", Cond.fieldLink RX0 31 "CanalCity$City" "housesOf" "[I", Cond.fieldLink RX0 34 "CanalCity$City" "marketsOf" "[I", Cond.methodLink RX0 80 yX0_clear, Cond.static yX0_clear, Cond.code yX0_clear cX0_clear 3 none, Cond.static yX1_isLand, Cond.code yX1_isLand cX1_isLand 1 (some .boolean), Cond.methodLink RX0 87 yX0_spread, Cond.instanceMethod yX0_spread, Cond.selects RX0 yX0_spread yX0_spread, Cond.code yX0_spread cX0_spread 11 none]
def wsX1_drain_r3 : List Cond := [Cond.fieldLink RX0 49 "CanalCity$City" "waiting" "[I", Cond.static yX1_isLot, Cond.code yX1_isLot cX1_isLot 1 (some .boolean), Cond.static yX1_neighbour, Cond.code yX1_neighbour cX1_neighbour 4 (some .int), Cond.static yX1_isWater, Cond.code yX1_isWater cX1_isWater 1 (some .boolean), Cond.methodLink RX0 101 yX0_enter, Cond.instanceMethod yX0_enter, Cond.selects RX0 yX0_enter yX0_enter, Cond.code yX0_enter cX0_enter 3 none, Cond.methodLink RX0 91 yX0_complaintsAt, Cond.instanceMethod yX0_complaintsAt, Cond.selects RX0 yX0_complaintsAt yX0_complaintsAt, Cond.code yX0_complaintsAt cX0_complaintsAt 4 (some .int), Cond.methodLink RX0 107 yX0_marketsInQuarter, Cond.instanceMethod yX0_marketsInQuarter, Cond.selects RX0 yX0_marketsInQuarter yX0_marketsInQuarter, Cond.code yX0_marketsInQuarter cX0_marketsInQuarter 3 (some .int), Cond.methodLink RX0 110 yX0_isByBoat, Cond.instanceMethod yX0_isByBoat, Cond.selects RX0 yX0_isByBoat yX0_isByBoat, Cond.code yX0_isByBoat cX0_isByBoat 5 (some .boolean), Cond.methodLink RX0 121 yX0_isOpenWater]
def wsX1_drain_r4 : List Cond := [Cond.instanceMethod yX0_isOpenWater, Cond.selects RX0 yX0_isOpenWater yX0_isOpenWater, Cond.code yX0_isOpenWater cX0_isOpenWater 2 (some .boolean), Cond.methodLink RX0 69 yX0_neighboursOfKind, Cond.instanceMethod yX0_neighboursOfKind, Cond.selects RX0 yX0_neighboursOfKind yX0_neighboursOfKind, Cond.code yX0_neighboursOfKind cX0_neighboursOfKind 6 (some .int), Cond.methodLink RX0 95 yX0_duesAt, Cond.instanceMethod yX0_duesAt, Cond.selects RX0 yX0_duesAt yX0_duesAt, Cond.code yX0_duesAt cX0_duesAt 2 (some .int), Cond.methodLink RX0 113 Lib.Math.max.name, Cond.static Lib.Math.max.name, Cond.initialized "java/lang/Math", Cond.code Lib.Math.max.name Lib.Math.max.code 2 (some .int), Cond.methodLink RX0 118 yX0_housesInQuarter, Cond.instanceMethod yX0_housesInQuarter, Cond.selects RX0 yX0_housesInQuarter yX0_housesInQuarter, Cond.code yX0_housesInQuarter cX0_housesInQuarter 3 (some .int)]
def wsX1_drain : List Cond := .code yX1_drain cX1_drain 4 (some .int) :: ((wsX1_drain_r1 ++ (wsX1_drain_r2 ++ (wsX1_drain_r3 ++ wsX1_drain_r4))) ++ wsX10 ++ wsX00 ++ (vx_atS RX1 31 "java/lang/IllegalStateException" ["java/lang/RuntimeException", "java/lang/Exception"]).filter goodWord ++ (vx_atS RX1 73 "java/lang/IndexOutOfBoundsException" ["java/lang/RuntimeException", "java/lang/Exception"]).filter goodWord)
def wsX1_dig_r1 : List Cond := [Cond.classLink RX1 27 "java/lang/IllegalStateException", Cond.initialized "java/lang/IllegalStateException", Cond.fieldLink RX1 10 "CanalCity" "now" "LCanalCity$City;", Cond.methodLink RX1 19 yX1_checkedNumber, Cond.static yX1_checkedNumber, Cond.initialized RX1, Cond.code yX1_checkedNumber cX1_checkedNumber 2 (some .int), Cond.classLink RX1 69 "java/lang/IndexOutOfBoundsException", Cond.initialized "java/lang/IndexOutOfBoundsException", Cond.methodLink RX1 34 yX1_checkCoins, Cond.instanceMethod yX1_checkCoins, Cond.selects RX1 yX1_checkCoins yX1_checkCoins, Cond.code yX1_checkCoins cX1_checkCoins 2 none, Cond.methodLink RX1 38 yX0_buy, Cond.instanceMethod yX0_buy, Cond.selects RX0 yX0_buy yX0_buy, Cond.initialized RX0, Cond.code yX0_buy cX0_buy 4 none, Cond.fieldLink RX0 15 "CanalCity$City" "coins" "I", Cond.methodLink RX0 55 yX0_change, Cond.instanceMethod yX0_change, Cond.selects RX0 yX0_change yX0_change, Cond.code yX0_change cX0_change 3 none, Cond.fieldLink RX0 21 "CanalCity$City" "kinds" "[I"]
def wsX1_dig_r2 : List Cond := [Cond.methodLink RX0 52 yX0_survey, Cond.instanceMethod yX0_survey, Cond.selects RX0 yX0_survey yX0_survey, Cond.code yX0_survey cX0_survey 2 none, Cond.fieldLink RX0 37 "CanalCity$City" "boatSteps" "[I", Cond.fieldLink RX0 40 "CanalCity$City" "complaints" "[I", Cond.fieldLink RX0 43 "CanalCity$City" "dues" "[I", Cond.methodLink RX0 77 yX0_surveyQuarters, Cond.instanceMethod yX0_surveyQuarters, Cond.selects RX0 yX0_surveyQuarters yX0_surveyQuarters, Cond.code yX0_surveyQuarters cX0_surveyQuarters 2 none, Cond.fieldLink RX0 25 "CanalCity$City" "quarters" "[I", Cond.fieldLink RX0 28 "CanalCity$City" "lotsOf" "[I", Cond.fieldLink RX0 31 "CanalCity$City" "housesOf" "[I", Cond.fieldLink RX0 34 "CanalCity$City" "marketsOf" "[I", Cond.methodLink RX0 80 yX0_clear, Cond.static yX0_clear, Cond.code yX0_clear cX0_clear 3 none, Cond.static yX1_isLand, Cond.code yX1_isLand cX1_isLand 1 (some .boolean), Cond.methodLink RX0 87 yX0_spread, Cond.instanceMethod yX0_spread, Cond.selects RX0 yX0_spread yX0_spread, Cond.code yX0_spread cX0_spread 11 none]
def wsX1_dig_r3 : List Cond := [Cond.fieldLink RX0 49 "CanalCity$City" "waiting" "[I", Cond.static yX1_isLot, Cond.code yX1_isLot cX1_isLot 1 (some .boolean), Cond.static yX1_neighbour, Cond.code yX1_neighbour cX1_neighbour 4 (some .int), Cond.static yX1_isWater, Cond.code yX1_isWater cX1_isWater 1 (some .boolean), Cond.methodLink RX0 101 yX0_enter, Cond.instanceMethod yX0_enter, Cond.selects RX0 yX0_enter yX0_enter, Cond.code yX0_enter cX0_enter 3 none, Cond.methodLink RX0 91 yX0_complaintsAt, Cond.instanceMethod yX0_complaintsAt, Cond.selects RX0 yX0_complaintsAt yX0_complaintsAt, Cond.code yX0_complaintsAt cX0_complaintsAt 4 (some .int), Cond.methodLink RX0 107 yX0_marketsInQuarter, Cond.instanceMethod yX0_marketsInQuarter, Cond.selects RX0 yX0_marketsInQuarter yX0_marketsInQuarter, Cond.code yX0_marketsInQuarter cX0_marketsInQuarter 3 (some .int), Cond.methodLink RX0 110 yX0_isByBoat, Cond.instanceMethod yX0_isByBoat, Cond.selects RX0 yX0_isByBoat yX0_isByBoat, Cond.code yX0_isByBoat cX0_isByBoat 5 (some .boolean), Cond.methodLink RX0 121 yX0_isOpenWater]
def wsX1_dig_r4 : List Cond := [Cond.instanceMethod yX0_isOpenWater, Cond.selects RX0 yX0_isOpenWater yX0_isOpenWater, Cond.code yX0_isOpenWater cX0_isOpenWater 2 (some .boolean), Cond.methodLink RX0 69 yX0_neighboursOfKind, Cond.instanceMethod yX0_neighboursOfKind, Cond.selects RX0 yX0_neighboursOfKind yX0_neighboursOfKind, Cond.code yX0_neighboursOfKind cX0_neighboursOfKind 6 (some .int), Cond.methodLink RX0 95 yX0_duesAt, Cond.instanceMethod yX0_duesAt, Cond.selects RX0 yX0_duesAt yX0_duesAt, Cond.code yX0_duesAt cX0_duesAt 2 (some .int), Cond.methodLink RX0 113 Lib.Math.max.name, Cond.static Lib.Math.max.name, Cond.initialized "java/lang/Math", Cond.code Lib.Math.max.name Lib.Math.max.code 2 (some .int), Cond.methodLink RX0 118 yX0_housesInQuarter, Cond.instanceMethod yX0_housesInQuarter, Cond.selects RX0 yX0_housesInQuarter yX0_housesInQuarter, Cond.code yX0_housesInQuarter cX0_housesInQuarter 3 (some .int)]
def wsX1_dig : List Cond := .code yX1_dig cX1_dig 5 (some .int) :: ((wsX1_dig_r1 ++ (wsX1_dig_r2 ++ (wsX1_dig_r3 ++ wsX1_dig_r4))) ++ wsX10 ++ wsX00 ++ (vx_atS RX1 31 "java/lang/IllegalStateException" ["java/lang/RuntimeException", "java/lang/Exception"]).filter goodWord ++ (vx_atS RX1 73 "java/lang/IndexOutOfBoundsException" ["java/lang/RuntimeException", "java/lang/Exception"]).filter goodWord)
def wsX1_checkBuilding : List Cond := .code yX1_checkBuilding cX1_checkBuilding 1 none :: ([.classLink RX1 141 "java/lang/IllegalArgumentException", .initialized "java/lang/IllegalArgumentException"] ++ (vx_atS RX1 145 "java/lang/IllegalArgumentException" ["java/lang/RuntimeException", "java/lang/Exception"]).filter goodWord)
def wsX1_checkDrained : List Cond := .code yX1_checkDrained cX1_checkDrained 2 none :: ([.classLink RX1 27 "java/lang/IllegalStateException", .initialized "java/lang/IllegalStateException", .fieldLink RX1 10 "CanalCity" "now" "LCanalCity$City;"] ++ wsX10 ++ wsX00 ++ (vx_atS RX1 31 "java/lang/IllegalStateException" ["java/lang/RuntimeException", "java/lang/Exception"]).filter goodWord)
def wsX1_costOf : List Cond := .code yX1_costOf cX1_costOf 1 (some .int) :: ([])
def wsX1_build_r1 : List Cond := [Cond.fieldLink RX1 10 "CanalCity" "now" "LCanalCity$City;", Cond.methodLink RX1 19 yX1_checkedNumber, Cond.static yX1_checkedNumber, Cond.initialized RX1, Cond.code yX1_checkedNumber cX1_checkedNumber 2 (some .int), Cond.classLink RX1 69 "java/lang/IndexOutOfBoundsException", Cond.initialized "java/lang/IndexOutOfBoundsException", Cond.methodLink RX1 48 yX1_checkBuilding, Cond.static yX1_checkBuilding, Cond.code yX1_checkBuilding cX1_checkBuilding 1 none, Cond.classLink RX1 141 "java/lang/IllegalArgumentException", Cond.initialized "java/lang/IllegalArgumentException", Cond.methodLink RX1 51 yX1_checkDrained, Cond.instanceMethod yX1_checkDrained, Cond.selects RX1 yX1_checkDrained yX1_checkDrained, Cond.code yX1_checkDrained cX1_checkDrained 2 none, Cond.classLink RX1 27 "java/lang/IllegalStateException", Cond.initialized "java/lang/IllegalStateException", Cond.methodLink RX1 54 yX1_costOf, Cond.static yX1_costOf, Cond.code yX1_costOf cX1_costOf 1 (some .int), Cond.methodLink RX1 34 yX1_checkCoins, Cond.instanceMethod yX1_checkCoins, Cond.selects RX1 yX1_checkCoins yX1_checkCoins]
def wsX1_build_r2 : List Cond := [Cond.code yX1_checkCoins cX1_checkCoins 2 none, Cond.methodLink RX1 38 yX0_buy, Cond.instanceMethod yX0_buy, Cond.selects RX0 yX0_buy yX0_buy, Cond.initialized RX0, Cond.code yX0_buy cX0_buy 4 none, Cond.fieldLink RX0 15 "CanalCity$City" "coins" "I", Cond.methodLink RX0 55 yX0_change, Cond.instanceMethod yX0_change, Cond.selects RX0 yX0_change yX0_change, Cond.code yX0_change cX0_change 3 none, Cond.fieldLink RX0 21 "CanalCity$City" "kinds" "[I", Cond.methodLink RX0 52 yX0_survey, Cond.instanceMethod yX0_survey, Cond.selects RX0 yX0_survey yX0_survey, Cond.code yX0_survey cX0_survey 2 none, Cond.fieldLink RX0 37 "CanalCity$City" "boatSteps" "[I", Cond.fieldLink RX0 40 "CanalCity$City" "complaints" "[I", Cond.fieldLink RX0 43 "CanalCity$City" "dues" "[I", Cond.methodLink RX0 77 yX0_surveyQuarters, Cond.instanceMethod yX0_surveyQuarters, Cond.selects RX0 yX0_surveyQuarters yX0_surveyQuarters, Cond.code yX0_surveyQuarters cX0_surveyQuarters 2 none, Cond.fieldLink RX0 25 "CanalCity$City" "quarters" "[I"]
def wsX1_build_r3 : List Cond := [Cond.fieldLink RX0 28 "CanalCity$City" "lotsOf" "[I", Cond.fieldLink RX0 31 "CanalCity$City" "housesOf" "[I", Cond.fieldLink RX0 34 "CanalCity$City" "marketsOf" "[I", Cond.methodLink RX0 80 yX0_clear, Cond.static yX0_clear, Cond.code yX0_clear cX0_clear 3 none, Cond.static yX1_isLand, Cond.code yX1_isLand cX1_isLand 1 (some .boolean), Cond.methodLink RX0 87 yX0_spread, Cond.instanceMethod yX0_spread, Cond.selects RX0 yX0_spread yX0_spread, Cond.code yX0_spread cX0_spread 11 none, Cond.fieldLink RX0 49 "CanalCity$City" "waiting" "[I", Cond.static yX1_isLot, Cond.code yX1_isLot cX1_isLot 1 (some .boolean), Cond.static yX1_neighbour, Cond.code yX1_neighbour cX1_neighbour 4 (some .int), Cond.static yX1_isWater, Cond.code yX1_isWater cX1_isWater 1 (some .boolean), Cond.methodLink RX0 101 yX0_enter, Cond.instanceMethod yX0_enter, Cond.selects RX0 yX0_enter yX0_enter, Cond.code yX0_enter cX0_enter 3 none, Cond.methodLink RX0 91 yX0_complaintsAt]
def wsX1_build_r4 : List Cond := [Cond.instanceMethod yX0_complaintsAt, Cond.selects RX0 yX0_complaintsAt yX0_complaintsAt, Cond.code yX0_complaintsAt cX0_complaintsAt 4 (some .int), Cond.methodLink RX0 107 yX0_marketsInQuarter, Cond.instanceMethod yX0_marketsInQuarter, Cond.selects RX0 yX0_marketsInQuarter yX0_marketsInQuarter, Cond.code yX0_marketsInQuarter cX0_marketsInQuarter 3 (some .int), Cond.methodLink RX0 110 yX0_isByBoat, Cond.instanceMethod yX0_isByBoat, Cond.selects RX0 yX0_isByBoat yX0_isByBoat, Cond.code yX0_isByBoat cX0_isByBoat 5 (some .boolean), Cond.methodLink RX0 121 yX0_isOpenWater, Cond.instanceMethod yX0_isOpenWater, Cond.selects RX0 yX0_isOpenWater yX0_isOpenWater, Cond.code yX0_isOpenWater cX0_isOpenWater 2 (some .boolean), Cond.methodLink RX0 69 yX0_neighboursOfKind, Cond.instanceMethod yX0_neighboursOfKind, Cond.selects RX0 yX0_neighboursOfKind yX0_neighboursOfKind, Cond.code yX0_neighboursOfKind cX0_neighboursOfKind 6 (some .int), Cond.methodLink RX0 95 yX0_duesAt, Cond.instanceMethod yX0_duesAt, Cond.selects RX0 yX0_duesAt yX0_duesAt, Cond.code yX0_duesAt cX0_duesAt 2 (some .int), Cond.methodLink RX0 113 Lib.Math.max.name]
def wsX1_build_r5 : List Cond := [Cond.static Lib.Math.max.name, Cond.initialized "java/lang/Math", Cond.code Lib.Math.max.name Lib.Math.max.code 2 (some .int), Cond.methodLink RX0 118 yX0_housesInQuarter, Cond.instanceMethod yX0_housesInQuarter, Cond.selects RX0 yX0_housesInQuarter yX0_housesInQuarter, Cond.code yX0_housesInQuarter cX0_housesInQuarter 3 (some .int)]
def wsX1_build : List Cond := .code yX1_build cX1_build 6 (some .int) :: ((wsX1_build_r1 ++ (wsX1_build_r2 ++ (wsX1_build_r3 ++ (wsX1_build_r4 ++ wsX1_build_r5)))) ++ wsX10 ++ wsX00 ++ (vx_atS RX1 73 "java/lang/IndexOutOfBoundsException" ["java/lang/RuntimeException", "java/lang/Exception"]).filter goodWord ++ (vx_atS RX1 145 "java/lang/IllegalArgumentException" ["java/lang/RuntimeException", "java/lang/Exception"]).filter goodWord ++ (vx_atS RX1 31 "java/lang/IllegalStateException" ["java/lang/RuntimeException", "java/lang/Exception"]).filter goodWord)
def wsX1_bridge_r1 : List Cond := [Cond.classLink RX1 27 "java/lang/IllegalStateException", Cond.initialized "java/lang/IllegalStateException", Cond.fieldLink RX1 10 "CanalCity" "now" "LCanalCity$City;", Cond.methodLink RX1 19 yX1_checkedNumber, Cond.static yX1_checkedNumber, Cond.initialized RX1, Cond.code yX1_checkedNumber cX1_checkedNumber 2 (some .int), Cond.classLink RX1 69 "java/lang/IndexOutOfBoundsException", Cond.initialized "java/lang/IndexOutOfBoundsException", Cond.methodLink RX1 34 yX1_checkCoins, Cond.instanceMethod yX1_checkCoins, Cond.selects RX1 yX1_checkCoins yX1_checkCoins, Cond.code yX1_checkCoins cX1_checkCoins 2 none, Cond.methodLink RX1 38 yX0_buy, Cond.instanceMethod yX0_buy, Cond.selects RX0 yX0_buy yX0_buy, Cond.initialized RX0, Cond.code yX0_buy cX0_buy 4 none, Cond.fieldLink RX0 15 "CanalCity$City" "coins" "I", Cond.methodLink RX0 55 yX0_change, Cond.instanceMethod yX0_change, Cond.selects RX0 yX0_change yX0_change, Cond.code yX0_change cX0_change 3 none, Cond.fieldLink RX0 21 "CanalCity$City" "kinds" "[I"]
def wsX1_bridge_r2 : List Cond := [Cond.methodLink RX0 52 yX0_survey, Cond.instanceMethod yX0_survey, Cond.selects RX0 yX0_survey yX0_survey, Cond.code yX0_survey cX0_survey 2 none, Cond.fieldLink RX0 37 "CanalCity$City" "boatSteps" "[I", Cond.fieldLink RX0 40 "CanalCity$City" "complaints" "[I", Cond.fieldLink RX0 43 "CanalCity$City" "dues" "[I", Cond.methodLink RX0 77 yX0_surveyQuarters, Cond.instanceMethod yX0_surveyQuarters, Cond.selects RX0 yX0_surveyQuarters yX0_surveyQuarters, Cond.code yX0_surveyQuarters cX0_surveyQuarters 2 none, Cond.fieldLink RX0 25 "CanalCity$City" "quarters" "[I", Cond.fieldLink RX0 28 "CanalCity$City" "lotsOf" "[I", Cond.fieldLink RX0 31 "CanalCity$City" "housesOf" "[I", Cond.fieldLink RX0 34 "CanalCity$City" "marketsOf" "[I", Cond.methodLink RX0 80 yX0_clear, Cond.static yX0_clear, Cond.code yX0_clear cX0_clear 3 none, Cond.static yX1_isLand, Cond.code yX1_isLand cX1_isLand 1 (some .boolean), Cond.methodLink RX0 87 yX0_spread, Cond.instanceMethod yX0_spread, Cond.selects RX0 yX0_spread yX0_spread, Cond.code yX0_spread cX0_spread 11 none]
def wsX1_bridge_r3 : List Cond := [Cond.fieldLink RX0 49 "CanalCity$City" "waiting" "[I", Cond.static yX1_isLot, Cond.code yX1_isLot cX1_isLot 1 (some .boolean), Cond.static yX1_neighbour, Cond.code yX1_neighbour cX1_neighbour 4 (some .int), Cond.static yX1_isWater, Cond.code yX1_isWater cX1_isWater 1 (some .boolean), Cond.methodLink RX0 101 yX0_enter, Cond.instanceMethod yX0_enter, Cond.selects RX0 yX0_enter yX0_enter, Cond.code yX0_enter cX0_enter 3 none, Cond.methodLink RX0 91 yX0_complaintsAt, Cond.instanceMethod yX0_complaintsAt, Cond.selects RX0 yX0_complaintsAt yX0_complaintsAt, Cond.code yX0_complaintsAt cX0_complaintsAt 4 (some .int), Cond.methodLink RX0 107 yX0_marketsInQuarter, Cond.instanceMethod yX0_marketsInQuarter, Cond.selects RX0 yX0_marketsInQuarter yX0_marketsInQuarter, Cond.code yX0_marketsInQuarter cX0_marketsInQuarter 3 (some .int), Cond.methodLink RX0 110 yX0_isByBoat, Cond.instanceMethod yX0_isByBoat, Cond.selects RX0 yX0_isByBoat yX0_isByBoat, Cond.code yX0_isByBoat cX0_isByBoat 5 (some .boolean), Cond.methodLink RX0 121 yX0_isOpenWater]
def wsX1_bridge_r4 : List Cond := [Cond.instanceMethod yX0_isOpenWater, Cond.selects RX0 yX0_isOpenWater yX0_isOpenWater, Cond.code yX0_isOpenWater cX0_isOpenWater 2 (some .boolean), Cond.methodLink RX0 69 yX0_neighboursOfKind, Cond.instanceMethod yX0_neighboursOfKind, Cond.selects RX0 yX0_neighboursOfKind yX0_neighboursOfKind, Cond.code yX0_neighboursOfKind cX0_neighboursOfKind 6 (some .int), Cond.methodLink RX0 95 yX0_duesAt, Cond.instanceMethod yX0_duesAt, Cond.selects RX0 yX0_duesAt yX0_duesAt, Cond.code yX0_duesAt cX0_duesAt 2 (some .int), Cond.methodLink RX0 113 Lib.Math.max.name, Cond.static Lib.Math.max.name, Cond.initialized "java/lang/Math", Cond.code Lib.Math.max.name Lib.Math.max.code 2 (some .int), Cond.methodLink RX0 118 yX0_housesInQuarter, Cond.instanceMethod yX0_housesInQuarter, Cond.selects RX0 yX0_housesInQuarter yX0_housesInQuarter, Cond.code yX0_housesInQuarter cX0_housesInQuarter 3 (some .int), Cond.methodLink RX1 60 yX0_lotsOfQuarter, Cond.instanceMethod yX0_lotsOfQuarter, Cond.selects RX0 yX0_lotsOfQuarter yX0_lotsOfQuarter, Cond.code yX0_lotsOfQuarter cX0_lotsOfQuarter 3 (some .int)]
def wsX1_bridge : List Cond := .code yX1_bridge cX1_bridge 4 (some .int) :: ((wsX1_bridge_r1 ++ (wsX1_bridge_r2 ++ (wsX1_bridge_r3 ++ wsX1_bridge_r4))) ++ wsX10 ++ wsX00 ++ (vx_atS RX1 31 "java/lang/IllegalStateException" ["java/lang/RuntimeException", "java/lang/Exception"]).filter goodWord ++ (vx_atS RX1 73 "java/lang/IndexOutOfBoundsException" ["java/lang/RuntimeException", "java/lang/Exception"]).filter goodWord)
def wsX1_raze_r1 : List Cond := [Cond.classLink RX1 27 "java/lang/IllegalStateException", Cond.initialized "java/lang/IllegalStateException", Cond.fieldLink RX1 10 "CanalCity" "now" "LCanalCity$City;", Cond.methodLink RX1 19 yX1_checkedNumber, Cond.static yX1_checkedNumber, Cond.initialized RX1, Cond.code yX1_checkedNumber cX1_checkedNumber 2 (some .int), Cond.classLink RX1 69 "java/lang/IndexOutOfBoundsException", Cond.initialized "java/lang/IndexOutOfBoundsException", Cond.methodLink RX1 65 yX0_change, Cond.instanceMethod yX0_change, Cond.selects RX0 yX0_change yX0_change, Cond.initialized RX0, Cond.code yX0_change cX0_change 3 none, Cond.fieldLink RX0 21 "CanalCity$City" "kinds" "[I", Cond.methodLink RX0 52 yX0_survey, Cond.instanceMethod yX0_survey, Cond.selects RX0 yX0_survey yX0_survey, Cond.code yX0_survey cX0_survey 2 none, Cond.fieldLink RX0 37 "CanalCity$City" "boatSteps" "[I", Cond.fieldLink RX0 40 "CanalCity$City" "complaints" "[I", Cond.fieldLink RX0 43 "CanalCity$City" "dues" "[I", Cond.methodLink RX0 77 yX0_surveyQuarters, Cond.instanceMethod yX0_surveyQuarters]
def wsX1_raze_r2 : List Cond := [Cond.selects RX0 yX0_surveyQuarters yX0_surveyQuarters, Cond.code yX0_surveyQuarters cX0_surveyQuarters 2 none, Cond.fieldLink RX0 25 "CanalCity$City" "quarters" "[I", Cond.fieldLink RX0 28 "CanalCity$City" "lotsOf" "[I", Cond.fieldLink RX0 31 "CanalCity$City" "housesOf" "[I", Cond.fieldLink RX0 34 "CanalCity$City" "marketsOf" "[I", Cond.methodLink RX0 80 yX0_clear, Cond.static yX0_clear, Cond.code yX0_clear cX0_clear 3 none, Cond.static yX1_isLand, Cond.code yX1_isLand cX1_isLand 1 (some .boolean), Cond.methodLink RX0 87 yX0_spread, Cond.instanceMethod yX0_spread, Cond.selects RX0 yX0_spread yX0_spread, Cond.code yX0_spread cX0_spread 11 none, Cond.fieldLink RX0 49 "CanalCity$City" "waiting" "[I", Cond.static yX1_isLot, Cond.code yX1_isLot cX1_isLot 1 (some .boolean), Cond.static yX1_neighbour, Cond.code yX1_neighbour cX1_neighbour 4 (some .int), Cond.static yX1_isWater, Cond.code yX1_isWater cX1_isWater 1 (some .boolean), Cond.methodLink RX0 101 yX0_enter, Cond.instanceMethod yX0_enter]
def wsX1_raze_r3 : List Cond := [Cond.selects RX0 yX0_enter yX0_enter, Cond.code yX0_enter cX0_enter 3 none, Cond.methodLink RX0 91 yX0_complaintsAt, Cond.instanceMethod yX0_complaintsAt, Cond.selects RX0 yX0_complaintsAt yX0_complaintsAt, Cond.code yX0_complaintsAt cX0_complaintsAt 4 (some .int), Cond.methodLink RX0 107 yX0_marketsInQuarter, Cond.instanceMethod yX0_marketsInQuarter, Cond.selects RX0 yX0_marketsInQuarter yX0_marketsInQuarter, Cond.code yX0_marketsInQuarter cX0_marketsInQuarter 3 (some .int), Cond.methodLink RX0 110 yX0_isByBoat, Cond.instanceMethod yX0_isByBoat, Cond.selects RX0 yX0_isByBoat yX0_isByBoat, Cond.code yX0_isByBoat cX0_isByBoat 5 (some .boolean), Cond.methodLink RX0 121 yX0_isOpenWater, Cond.instanceMethod yX0_isOpenWater, Cond.selects RX0 yX0_isOpenWater yX0_isOpenWater, Cond.code yX0_isOpenWater cX0_isOpenWater 2 (some .boolean), Cond.methodLink RX0 69 yX0_neighboursOfKind, Cond.instanceMethod yX0_neighboursOfKind, Cond.selects RX0 yX0_neighboursOfKind yX0_neighboursOfKind, Cond.code yX0_neighboursOfKind cX0_neighboursOfKind 6 (some .int), Cond.methodLink RX0 95 yX0_duesAt, Cond.instanceMethod yX0_duesAt]
def wsX1_raze_r4 : List Cond := [Cond.selects RX0 yX0_duesAt yX0_duesAt, Cond.code yX0_duesAt cX0_duesAt 2 (some .int), Cond.methodLink RX0 113 Lib.Math.max.name, Cond.static Lib.Math.max.name, Cond.initialized "java/lang/Math", Cond.code Lib.Math.max.name Lib.Math.max.code 2 (some .int), Cond.methodLink RX0 118 yX0_housesInQuarter, Cond.instanceMethod yX0_housesInQuarter, Cond.selects RX0 yX0_housesInQuarter yX0_housesInQuarter, Cond.code yX0_housesInQuarter cX0_housesInQuarter 3 (some .int)]
def wsX1_raze : List Cond := .code yX1_raze cX1_raze 5 (some .int) :: ((wsX1_raze_r1 ++ (wsX1_raze_r2 ++ (wsX1_raze_r3 ++ wsX1_raze_r4))) ++ wsX10 ++ wsX00 ++ (vx_atS RX1 31 "java/lang/IllegalStateException" ["java/lang/RuntimeException", "java/lang/Exception"]).filter goodWord ++ (vx_atS RX1 73 "java/lang/IndexOutOfBoundsException" ["java/lang/RuntimeException", "java/lang/Exception"]).filter goodWord)
def wsX1_lot_r1 : List Cond := [Cond.classLink RX1 69 "java/lang/IndexOutOfBoundsException", Cond.initialized "java/lang/IndexOutOfBoundsException", Cond.fieldLink RX1 10 "CanalCity" "now" "LCanalCity$City;", Cond.methodLink RX1 19 yX1_checkedNumber, Cond.static yX1_checkedNumber, Cond.initialized RX1, Cond.code yX1_checkedNumber cX1_checkedNumber 2 (some .int), Cond.methodLink RX1 74 yX0_factOf, Cond.instanceMethod yX0_factOf, Cond.selects RX0 yX0_factOf yX0_factOf, Cond.initialized RX0, Cond.code yX0_factOf cX0_factOf 3 (some .int), Cond.fieldLink RX0 21 "CanalCity$City" "kinds" "[I", Cond.fieldLink RX0 25 "CanalCity$City" "quarters" "[I", Cond.fieldLink RX0 40 "CanalCity$City" "complaints" "[I", Cond.fieldLink RX0 43 "CanalCity$City" "dues" "[I", Cond.methodLink RX0 124 yX0_lotsOfQuarter, Cond.instanceMethod yX0_lotsOfQuarter, Cond.selects RX0 yX0_lotsOfQuarter yX0_lotsOfQuarter, Cond.code yX0_lotsOfQuarter cX0_lotsOfQuarter 3 (some .int), Cond.fieldLink RX0 28 "CanalCity$City" "lotsOf" "[I", Cond.static yX1_isLot, Cond.code yX1_isLot cX1_isLot 1 (some .boolean), Cond.methodLink RX0 110 yX0_isByBoat]
def wsX1_lot_r2 : List Cond := [Cond.instanceMethod yX0_isByBoat, Cond.selects RX0 yX0_isByBoat yX0_isByBoat, Cond.code yX0_isByBoat cX0_isByBoat 5 (some .boolean), Cond.static yX1_isLand, Cond.code yX1_isLand cX1_isLand 1 (some .boolean), Cond.static yX1_neighbour, Cond.code yX1_neighbour cX1_neighbour 4 (some .int), Cond.methodLink RX0 121 yX0_isOpenWater, Cond.instanceMethod yX0_isOpenWater, Cond.selects RX0 yX0_isOpenWater yX0_isOpenWater, Cond.code yX0_isOpenWater cX0_isOpenWater 2 (some .boolean), Cond.fieldLink RX0 37 "CanalCity$City" "boatSteps" "[I"]
def wsX1_lot : List Cond := .code yX1_lot cX1_lot 5 (some .int) :: ((wsX1_lot_r1 ++ wsX1_lot_r2) ++ wsX10 ++ wsX00 ++ (vx_atS RX1 73 "java/lang/IndexOutOfBoundsException" ["java/lang/RuntimeException", "java/lang/Exception"]).filter goodWord)
def wsX1_count_r1 : List Cond := [Cond.classLink RX1 69 "java/lang/IndexOutOfBoundsException", Cond.initialized "java/lang/IndexOutOfBoundsException", Cond.fieldLink RX1 10 "CanalCity" "now" "LCanalCity$City;", Cond.methodLink RX1 79 yX0_total, Cond.instanceMethod yX0_total, Cond.selects RX0 yX0_total yX0_total, Cond.initialized RX0, Cond.code yX0_total cX0_total 2 (some .int), Cond.fieldLink RX0 9 "CanalCity$City" "month" "I", Cond.fieldLink RX0 15 "CanalCity$City" "coins" "I", Cond.fieldLink RX0 18 "CanalCity$City" "left" "I", Cond.methodLink RX0 127 yX0_quartersOfAll, Cond.instanceMethod yX0_quartersOfAll, Cond.selects RX0 yX0_quartersOfAll yX0_quartersOfAll, Cond.code yX0_quartersOfAll cX0_quartersOfAll 3 (some .int), Cond.fieldLink RX0 25 "CanalCity$City" "quarters" "[I", Cond.methodLink RX0 130 yX0_complaintsOfAll, Cond.instanceMethod yX0_complaintsOfAll, Cond.selects RX0 yX0_complaintsOfAll yX0_complaintsOfAll, Cond.code yX0_complaintsOfAll cX0_complaintsOfAll 1 (some .int), Cond.fieldLink RX0 40 "CanalCity$City" "complaints" "[I", Cond.methodLink RX0 136 yX0_sum, Cond.static yX0_sum, Cond.code yX0_sum cX0_sum 3 (some .int)]
def wsX1_count_r2 : List Cond := [Cond.methodLink RX0 59 yX0_duesOfAll, Cond.instanceMethod yX0_duesOfAll, Cond.selects RX0 yX0_duesOfAll yX0_duesOfAll, Cond.code yX0_duesOfAll cX0_duesOfAll 1 (some .int), Cond.fieldLink RX0 43 "CanalCity$City" "dues" "[I", Cond.methodLink RX0 133 yX0_lotsOfKind, Cond.instanceMethod yX0_lotsOfKind, Cond.selects RX0 yX0_lotsOfKind yX0_lotsOfKind, Cond.code yX0_lotsOfKind cX0_lotsOfKind 4 (some .int), Cond.fieldLink RX0 21 "CanalCity$City" "kinds" "[I"]
def wsX1_count : List Cond := .code yX1_count cX1_count 2 (some .int) :: ((wsX1_count_r1 ++ wsX1_count_r2) ++ wsX10 ++ wsX00 ++ (vx_atS RX1 73 "java/lang/IndexOutOfBoundsException" ["java/lang/RuntimeException", "java/lang/Exception"]).filter goodWord)
def wsX1_checkNumber : List Cond := .code yX1_checkNumber cX1_checkNumber 1 none :: ([.classLink RX1 69 "java/lang/IndexOutOfBoundsException", .initialized "java/lang/IndexOutOfBoundsException", .methodLink RX1 136 yX1_isLot, .static yX1_isLot, .initialized RX1, .code yX1_isLot cX1_isLot 1 (some .boolean)] ++ (vx_atS RX1 73 "java/lang/IndexOutOfBoundsException" ["java/lang/RuntimeException", "java/lang/Exception"]).filter goodWord)
def wsX1_walk_r1 : List Cond := [Cond.classLink RX1 27 "java/lang/IllegalStateException", Cond.initialized "java/lang/IllegalStateException", Cond.fieldLink RX1 10 "CanalCity" "now" "LCanalCity$City;", Cond.methodLink RX1 82 yX1_checkNumber, Cond.static yX1_checkNumber, Cond.initialized RX1, Cond.code yX1_checkNumber cX1_checkNumber 1 none, Cond.classLink RX1 69 "java/lang/IndexOutOfBoundsException", Cond.initialized "java/lang/IndexOutOfBoundsException", Cond.methodLink RX1 136 yX1_isLot, Cond.static yX1_isLot, Cond.code yX1_isLot cX1_isLot 1 (some .boolean), Cond.methodLink RX1 85 yX1_isLand, Cond.static yX1_isLand, Cond.code yX1_isLand cX1_isLand 1 (some .boolean), Cond.methodLink RX1 91 yX0_stepsOnFoot, Cond.instanceMethod yX0_stepsOnFoot, Cond.selects RX0 yX0_stepsOnFoot yX0_stepsOnFoot, Cond.initialized RX0, Cond.code yX0_stepsOnFoot cX0_stepsOnFoot 3 (some .int), Cond.fieldLink RX0 46 "CanalCity$City" "footSteps" "[I", Cond.methodLink RX0 80 yX0_clear, Cond.static yX0_clear, Cond.code yX0_clear cX0_clear 3 none]
def wsX1_walk_r2 : List Cond := [Cond.methodLink RX0 87 yX0_spread, Cond.instanceMethod yX0_spread, Cond.selects RX0 yX0_spread yX0_spread, Cond.code yX0_spread cX0_spread 11 none, Cond.fieldLink RX0 49 "CanalCity$City" "waiting" "[I", Cond.fieldLink RX0 21 "CanalCity$City" "kinds" "[I", Cond.static yX1_neighbour, Cond.code yX1_neighbour cX1_neighbour 4 (some .int), Cond.static yX1_isWater, Cond.code yX1_isWater cX1_isWater 1 (some .boolean)]
def wsX1_walk : List Cond := .code yX1_walk cX1_walk 3 (some .int) :: ((wsX1_walk_r1 ++ wsX1_walk_r2) ++ wsX10 ++ wsX00 ++ (vx_atS RX1 31 "java/lang/IllegalStateException" ["java/lang/RuntimeException", "java/lang/Exception"]).filter goodWord ++ (vx_atS RX1 73 "java/lang/IndexOutOfBoundsException" ["java/lang/RuntimeException", "java/lang/Exception"]).filter goodWord)
def wsX1_sail : List Cond := .code yX1_sail cX1_sail 2 (some .int) :: ([.classLink RX1 27 "java/lang/IllegalStateException", .initialized "java/lang/IllegalStateException", .fieldLink RX1 10 "CanalCity" "now" "LCanalCity$City;", .methodLink RX1 82 yX1_checkNumber, .static yX1_checkNumber, .initialized RX1, .code yX1_checkNumber cX1_checkNumber 1 none, .classLink RX1 69 "java/lang/IndexOutOfBoundsException", .initialized "java/lang/IndexOutOfBoundsException", .methodLink RX1 136 yX1_isLot, .static yX1_isLot, .code yX1_isLot cX1_isLot 1 (some .boolean), .methodLink RX1 94 yX1_isWater, .static yX1_isWater, .code yX1_isWater cX1_isWater 1 (some .boolean)] ++ wsX10 ++ wsX00 ++ (vx_atS RX1 31 "java/lang/IllegalStateException" ["java/lang/RuntimeException", "java/lang/Exception"]).filter goodWord ++ (vx_atS RX1 73 "java/lang/IndexOutOfBoundsException" ["java/lang/RuntimeException", "java/lang/Exception"]).filter goodWord)
def wsX1_checkMonths : List Cond := .code yX1_checkMonths cX1_checkMonths 1 none :: ([.classLink RX1 141 "java/lang/IllegalArgumentException", .initialized "java/lang/IllegalArgumentException"] ++ (vx_atS RX1 145 "java/lang/IllegalArgumentException" ["java/lang/RuntimeException", "java/lang/Exception"]).filter goodWord)
def wsX1_pass_r1 : List Cond := [Cond.fieldLink RX1 10 "CanalCity" "now" "LCanalCity$City;", Cond.methodLink RX1 102 yX1_checkMonths, Cond.static yX1_checkMonths, Cond.initialized RX1, Cond.code yX1_checkMonths cX1_checkMonths 1 none, Cond.classLink RX1 141 "java/lang/IllegalArgumentException", Cond.initialized "java/lang/IllegalArgumentException", Cond.methodLink RX1 105 yX0_live, Cond.instanceMethod yX0_live, Cond.selects RX0 yX0_live yX0_live, Cond.initialized RX0, Cond.code yX0_live cX0_live 5 (some .int), Cond.fieldLink RX0 15 "CanalCity$City" "coins" "I", Cond.fieldLink RX0 9 "CanalCity$City" "month" "I", Cond.methodLink RX0 59 yX0_duesOfAll, Cond.instanceMethod yX0_duesOfAll, Cond.selects RX0 yX0_duesOfAll yX0_duesOfAll, Cond.code yX0_duesOfAll cX0_duesOfAll 1 (some .int), Cond.fieldLink RX0 43 "CanalCity$City" "dues" "[I", Cond.methodLink RX0 136 yX0_sum, Cond.static yX0_sum, Cond.code yX0_sum cX0_sum 3 (some .int), Cond.methodLink RX0 63 yX0_leaveHouses, Cond.instanceMethod yX0_leaveHouses]
def wsX1_pass_r2 : List Cond := [Cond.selects RX0 yX0_leaveHouses yX0_leaveHouses, Cond.code yX0_leaveHouses cX0_leaveHouses 2 none, Cond.fieldLink RX0 21 "CanalCity$City" "kinds" "[I", Cond.fieldLink RX0 40 "CanalCity$City" "complaints" "[I", Cond.fieldLink RX0 18 "CanalCity$City" "left" "I", Cond.methodLink RX0 66 yX0_sinkLots, Cond.instanceMethod yX0_sinkLots, Cond.selects RX0 yX0_sinkLots yX0_sinkLots, Cond.code yX0_sinkLots cX0_sinkLots 4 none, Cond.fieldLink RX0 49 "CanalCity$City" "waiting" "[I", Cond.methodLink RX0 69 yX0_neighboursOfKind, Cond.instanceMethod yX0_neighboursOfKind, Cond.selects RX0 yX0_neighboursOfKind yX0_neighboursOfKind, Cond.code yX0_neighboursOfKind cX0_neighboursOfKind 6 (some .int), Cond.static yX1_neighbour, Cond.code yX1_neighbour cX1_neighbour 4 (some .int), Cond.static yX1_isLot, Cond.code yX1_isLot cX1_isLot 1 (some .boolean), Cond.methodLink RX0 52 yX0_survey, Cond.instanceMethod yX0_survey, Cond.selects RX0 yX0_survey yX0_survey, Cond.code yX0_survey cX0_survey 2 none, Cond.fieldLink RX0 37 "CanalCity$City" "boatSteps" "[I", Cond.methodLink RX0 77 yX0_surveyQuarters]
def wsX1_pass_r3 : List Cond := [Cond.instanceMethod yX0_surveyQuarters, Cond.selects RX0 yX0_surveyQuarters yX0_surveyQuarters, Cond.code yX0_surveyQuarters cX0_surveyQuarters 2 none, Cond.fieldLink RX0 25 "CanalCity$City" "quarters" "[I", Cond.fieldLink RX0 28 "CanalCity$City" "lotsOf" "[I", Cond.fieldLink RX0 31 "CanalCity$City" "housesOf" "[I", Cond.fieldLink RX0 34 "CanalCity$City" "marketsOf" "[I", Cond.methodLink RX0 80 yX0_clear, Cond.static yX0_clear, Cond.code yX0_clear cX0_clear 3 none, Cond.static yX1_isLand, Cond.code yX1_isLand cX1_isLand 1 (some .boolean), Cond.methodLink RX0 87 yX0_spread, Cond.instanceMethod yX0_spread, Cond.selects RX0 yX0_spread yX0_spread, Cond.code yX0_spread cX0_spread 11 none, Cond.static yX1_isWater, Cond.code yX1_isWater cX1_isWater 1 (some .boolean), Cond.methodLink RX0 101 yX0_enter, Cond.instanceMethod yX0_enter, Cond.selects RX0 yX0_enter yX0_enter, Cond.code yX0_enter cX0_enter 3 none, Cond.methodLink RX0 91 yX0_complaintsAt, Cond.instanceMethod yX0_complaintsAt]
def wsX1_pass_r4 : List Cond := [Cond.selects RX0 yX0_complaintsAt yX0_complaintsAt, Cond.code yX0_complaintsAt cX0_complaintsAt 4 (some .int), Cond.methodLink RX0 107 yX0_marketsInQuarter, Cond.instanceMethod yX0_marketsInQuarter, Cond.selects RX0 yX0_marketsInQuarter yX0_marketsInQuarter, Cond.code yX0_marketsInQuarter cX0_marketsInQuarter 3 (some .int), Cond.methodLink RX0 110 yX0_isByBoat, Cond.instanceMethod yX0_isByBoat, Cond.selects RX0 yX0_isByBoat yX0_isByBoat, Cond.code yX0_isByBoat cX0_isByBoat 5 (some .boolean), Cond.methodLink RX0 121 yX0_isOpenWater, Cond.instanceMethod yX0_isOpenWater, Cond.selects RX0 yX0_isOpenWater yX0_isOpenWater, Cond.code yX0_isOpenWater cX0_isOpenWater 2 (some .boolean), Cond.methodLink RX0 95 yX0_duesAt, Cond.instanceMethod yX0_duesAt, Cond.selects RX0 yX0_duesAt yX0_duesAt, Cond.code yX0_duesAt cX0_duesAt 2 (some .int), Cond.methodLink RX0 113 Lib.Math.max.name, Cond.static Lib.Math.max.name, Cond.initialized "java/lang/Math", Cond.code Lib.Math.max.name Lib.Math.max.code 2 (some .int), Cond.methodLink RX0 118 yX0_housesInQuarter, Cond.instanceMethod yX0_housesInQuarter]
def wsX1_pass_r5 : List Cond := [Cond.selects RX0 yX0_housesInQuarter yX0_housesInQuarter, Cond.code yX0_housesInQuarter cX0_housesInQuarter 3 (some .int)]
def wsX1_pass : List Cond := .code yX1_pass cX1_pass 2 (some .int) :: ((wsX1_pass_r1 ++ (wsX1_pass_r2 ++ (wsX1_pass_r3 ++ (wsX1_pass_r4 ++ wsX1_pass_r5)))) ++ wsX10 ++ wsX00 ++ (vx_atS RX1 145 "java/lang/IllegalArgumentException" ["java/lang/RuntimeException", "java/lang/Exception"]).filter goodWord)
def wsX1_foresee_r1 : List Cond := [Cond.classLink RX1 69 "java/lang/IndexOutOfBoundsException", Cond.initialized "java/lang/IndexOutOfBoundsException", Cond.fieldLink RX1 16 "CanalCity" "trial" "LCanalCity$City;", Cond.fieldLink RX1 10 "CanalCity" "now" "LCanalCity$City;", Cond.methodLink RX1 102 yX1_checkMonths, Cond.static yX1_checkMonths, Cond.initialized RX1, Cond.code yX1_checkMonths cX1_checkMonths 1 none, Cond.classLink RX1 141 "java/lang/IllegalArgumentException", Cond.initialized "java/lang/IllegalArgumentException", Cond.methodLink RX1 110 yX0_become, Cond.instanceMethod yX0_become, Cond.selects RX0 yX0_become yX0_become, Cond.initialized RX0, Cond.code yX0_become cX0_become 3 none, Cond.fieldLink RX0 9 "CanalCity$City" "month" "I", Cond.fieldLink RX0 15 "CanalCity$City" "coins" "I", Cond.fieldLink RX0 18 "CanalCity$City" "left" "I", Cond.fieldLink RX0 21 "CanalCity$City" "kinds" "[I", Cond.methodLink RX1 114 yX0_survey, Cond.instanceMethod yX0_survey, Cond.selects RX0 yX0_survey yX0_survey, Cond.code yX0_survey cX0_survey 2 none, Cond.fieldLink RX0 37 "CanalCity$City" "boatSteps" "[I"]
def wsX1_foresee_r2 : List Cond := [Cond.fieldLink RX0 40 "CanalCity$City" "complaints" "[I", Cond.fieldLink RX0 43 "CanalCity$City" "dues" "[I", Cond.methodLink RX0 77 yX0_surveyQuarters, Cond.instanceMethod yX0_surveyQuarters, Cond.selects RX0 yX0_surveyQuarters yX0_surveyQuarters, Cond.code yX0_surveyQuarters cX0_surveyQuarters 2 none, Cond.fieldLink RX0 25 "CanalCity$City" "quarters" "[I", Cond.fieldLink RX0 28 "CanalCity$City" "lotsOf" "[I", Cond.fieldLink RX0 31 "CanalCity$City" "housesOf" "[I", Cond.fieldLink RX0 34 "CanalCity$City" "marketsOf" "[I", Cond.methodLink RX0 80 yX0_clear, Cond.static yX0_clear, Cond.code yX0_clear cX0_clear 3 none, Cond.static yX1_isLand, Cond.code yX1_isLand cX1_isLand 1 (some .boolean), Cond.methodLink RX0 87 yX0_spread, Cond.instanceMethod yX0_spread, Cond.selects RX0 yX0_spread yX0_spread, Cond.code yX0_spread cX0_spread 11 none, Cond.fieldLink RX0 49 "CanalCity$City" "waiting" "[I", Cond.static yX1_isLot, Cond.code yX1_isLot cX1_isLot 1 (some .boolean), Cond.static yX1_neighbour, Cond.code yX1_neighbour cX1_neighbour 4 (some .int)]
def wsX1_foresee_r3 : List Cond := [Cond.static yX1_isWater, Cond.code yX1_isWater cX1_isWater 1 (some .boolean), Cond.methodLink RX0 101 yX0_enter, Cond.instanceMethod yX0_enter, Cond.selects RX0 yX0_enter yX0_enter, Cond.code yX0_enter cX0_enter 3 none, Cond.methodLink RX0 91 yX0_complaintsAt, Cond.instanceMethod yX0_complaintsAt, Cond.selects RX0 yX0_complaintsAt yX0_complaintsAt, Cond.code yX0_complaintsAt cX0_complaintsAt 4 (some .int), Cond.methodLink RX0 107 yX0_marketsInQuarter, Cond.instanceMethod yX0_marketsInQuarter, Cond.selects RX0 yX0_marketsInQuarter yX0_marketsInQuarter, Cond.code yX0_marketsInQuarter cX0_marketsInQuarter 3 (some .int), Cond.methodLink RX0 110 yX0_isByBoat, Cond.instanceMethod yX0_isByBoat, Cond.selects RX0 yX0_isByBoat yX0_isByBoat, Cond.code yX0_isByBoat cX0_isByBoat 5 (some .boolean), Cond.methodLink RX0 121 yX0_isOpenWater, Cond.instanceMethod yX0_isOpenWater, Cond.selects RX0 yX0_isOpenWater yX0_isOpenWater, Cond.code yX0_isOpenWater cX0_isOpenWater 2 (some .boolean), Cond.methodLink RX0 69 yX0_neighboursOfKind, Cond.instanceMethod yX0_neighboursOfKind]
def wsX1_foresee_r4 : List Cond := [Cond.selects RX0 yX0_neighboursOfKind yX0_neighboursOfKind, Cond.code yX0_neighboursOfKind cX0_neighboursOfKind 6 (some .int), Cond.methodLink RX0 95 yX0_duesAt, Cond.instanceMethod yX0_duesAt, Cond.selects RX0 yX0_duesAt yX0_duesAt, Cond.code yX0_duesAt cX0_duesAt 2 (some .int), Cond.methodLink RX0 113 Lib.Math.max.name, Cond.static Lib.Math.max.name, Cond.initialized "java/lang/Math", Cond.code Lib.Math.max.name Lib.Math.max.code 2 (some .int), Cond.methodLink RX0 118 yX0_housesInQuarter, Cond.instanceMethod yX0_housesInQuarter, Cond.selects RX0 yX0_housesInQuarter yX0_housesInQuarter, Cond.code yX0_housesInQuarter cX0_housesInQuarter 3 (some .int), Cond.methodLink RX1 105 yX0_live, Cond.instanceMethod yX0_live, Cond.selects RX0 yX0_live yX0_live, Cond.code yX0_live cX0_live 5 (some .int), Cond.methodLink RX0 59 yX0_duesOfAll, Cond.instanceMethod yX0_duesOfAll, Cond.selects RX0 yX0_duesOfAll yX0_duesOfAll, Cond.code yX0_duesOfAll cX0_duesOfAll 1 (some .int), Cond.methodLink RX0 136 yX0_sum, Cond.static yX0_sum]
def wsX1_foresee_r5 : List Cond := [Cond.code yX0_sum cX0_sum 3 (some .int), Cond.methodLink RX0 63 yX0_leaveHouses, Cond.instanceMethod yX0_leaveHouses, Cond.selects RX0 yX0_leaveHouses yX0_leaveHouses, Cond.code yX0_leaveHouses cX0_leaveHouses 2 none, Cond.methodLink RX0 66 yX0_sinkLots, Cond.instanceMethod yX0_sinkLots, Cond.selects RX0 yX0_sinkLots yX0_sinkLots, Cond.code yX0_sinkLots cX0_sinkLots 4 none, Cond.methodLink RX0 52 yX0_survey, Cond.methodLink RX1 79 yX0_total, Cond.instanceMethod yX0_total, Cond.selects RX0 yX0_total yX0_total, Cond.code yX0_total cX0_total 2 (some .int), Cond.methodLink RX0 127 yX0_quartersOfAll, Cond.instanceMethod yX0_quartersOfAll, Cond.selects RX0 yX0_quartersOfAll yX0_quartersOfAll, Cond.code yX0_quartersOfAll cX0_quartersOfAll 3 (some .int), Cond.methodLink RX0 130 yX0_complaintsOfAll, Cond.instanceMethod yX0_complaintsOfAll, Cond.selects RX0 yX0_complaintsOfAll yX0_complaintsOfAll, Cond.code yX0_complaintsOfAll cX0_complaintsOfAll 1 (some .int), Cond.methodLink RX0 133 yX0_lotsOfKind, Cond.instanceMethod yX0_lotsOfKind]
def wsX1_foresee_r6 : List Cond := [Cond.selects RX0 yX0_lotsOfKind yX0_lotsOfKind, Cond.code yX0_lotsOfKind cX0_lotsOfKind 4 (some .int)]
def wsX1_foresee : List Cond := .code yX1_foresee cX1_foresee 3 (some .int) :: ((wsX1_foresee_r1 ++ (wsX1_foresee_r2 ++ (wsX1_foresee_r3 ++ (wsX1_foresee_r4 ++ (wsX1_foresee_r5 ++ wsX1_foresee_r6))))) ++ wsX10 ++ wsX00 ++ (vx_atS RX1 73 "java/lang/IndexOutOfBoundsException" ["java/lang/RuntimeException", "java/lang/Exception"]).filter goodWord ++ (vx_atS RX1 145 "java/lang/IllegalArgumentException" ["java/lang/RuntimeException", "java/lang/Exception"]).filter goodWord)
def wsX1_duesWith_r1 : List Cond := [Cond.fieldLink RX1 16 "CanalCity" "trial" "LCanalCity$City;", Cond.fieldLink RX1 10 "CanalCity" "now" "LCanalCity$City;", Cond.methodLink RX1 110 yX0_become, Cond.instanceMethod yX0_become, Cond.selects RX0 yX0_become yX0_become, Cond.initialized RX0, Cond.code yX0_become cX0_become 3 none, Cond.fieldLink RX0 9 "CanalCity$City" "month" "I", Cond.fieldLink RX0 15 "CanalCity$City" "coins" "I", Cond.fieldLink RX0 18 "CanalCity$City" "left" "I", Cond.fieldLink RX0 21 "CanalCity$City" "kinds" "[I", Cond.methodLink RX1 65 yX0_change, Cond.instanceMethod yX0_change, Cond.selects RX0 yX0_change yX0_change, Cond.code yX0_change cX0_change 3 none, Cond.methodLink RX0 52 yX0_survey, Cond.instanceMethod yX0_survey, Cond.selects RX0 yX0_survey yX0_survey, Cond.code yX0_survey cX0_survey 2 none, Cond.fieldLink RX0 37 "CanalCity$City" "boatSteps" "[I", Cond.fieldLink RX0 40 "CanalCity$City" "complaints" "[I", Cond.fieldLink RX0 43 "CanalCity$City" "dues" "[I", Cond.methodLink RX0 77 yX0_surveyQuarters, Cond.instanceMethod yX0_surveyQuarters]
def wsX1_duesWith_r2 : List Cond := [Cond.selects RX0 yX0_surveyQuarters yX0_surveyQuarters, Cond.code yX0_surveyQuarters cX0_surveyQuarters 2 none, Cond.fieldLink RX0 25 "CanalCity$City" "quarters" "[I", Cond.fieldLink RX0 28 "CanalCity$City" "lotsOf" "[I", Cond.fieldLink RX0 31 "CanalCity$City" "housesOf" "[I", Cond.fieldLink RX0 34 "CanalCity$City" "marketsOf" "[I", Cond.methodLink RX0 80 yX0_clear, Cond.static yX0_clear, Cond.code yX0_clear cX0_clear 3 none, Cond.static yX1_isLand, Cond.initialized RX1, Cond.code yX1_isLand cX1_isLand 1 (some .boolean), Cond.methodLink RX0 87 yX0_spread, Cond.instanceMethod yX0_spread, Cond.selects RX0 yX0_spread yX0_spread, Cond.code yX0_spread cX0_spread 11 none, Cond.fieldLink RX0 49 "CanalCity$City" "waiting" "[I", Cond.static yX1_isLot, Cond.code yX1_isLot cX1_isLot 1 (some .boolean), Cond.static yX1_neighbour, Cond.code yX1_neighbour cX1_neighbour 4 (some .int), Cond.static yX1_isWater, Cond.code yX1_isWater cX1_isWater 1 (some .boolean), Cond.methodLink RX0 101 yX0_enter]
def wsX1_duesWith_r3 : List Cond := [Cond.instanceMethod yX0_enter, Cond.selects RX0 yX0_enter yX0_enter, Cond.code yX0_enter cX0_enter 3 none, Cond.methodLink RX0 91 yX0_complaintsAt, Cond.instanceMethod yX0_complaintsAt, Cond.selects RX0 yX0_complaintsAt yX0_complaintsAt, Cond.code yX0_complaintsAt cX0_complaintsAt 4 (some .int), Cond.methodLink RX0 107 yX0_marketsInQuarter, Cond.instanceMethod yX0_marketsInQuarter, Cond.selects RX0 yX0_marketsInQuarter yX0_marketsInQuarter, Cond.code yX0_marketsInQuarter cX0_marketsInQuarter 3 (some .int), Cond.methodLink RX0 110 yX0_isByBoat, Cond.instanceMethod yX0_isByBoat, Cond.selects RX0 yX0_isByBoat yX0_isByBoat, Cond.code yX0_isByBoat cX0_isByBoat 5 (some .boolean), Cond.methodLink RX0 121 yX0_isOpenWater, Cond.instanceMethod yX0_isOpenWater, Cond.selects RX0 yX0_isOpenWater yX0_isOpenWater, Cond.code yX0_isOpenWater cX0_isOpenWater 2 (some .boolean), Cond.methodLink RX0 69 yX0_neighboursOfKind, Cond.instanceMethod yX0_neighboursOfKind, Cond.selects RX0 yX0_neighboursOfKind yX0_neighboursOfKind, Cond.code yX0_neighboursOfKind cX0_neighboursOfKind 6 (some .int), Cond.methodLink RX0 95 yX0_duesAt]
def wsX1_duesWith_r4 : List Cond := [Cond.instanceMethod yX0_duesAt, Cond.selects RX0 yX0_duesAt yX0_duesAt, Cond.code yX0_duesAt cX0_duesAt 2 (some .int), Cond.methodLink RX0 113 Lib.Math.max.name, Cond.static Lib.Math.max.name, Cond.initialized "java/lang/Math", Cond.code Lib.Math.max.name Lib.Math.max.code 2 (some .int), Cond.methodLink RX0 118 yX0_housesInQuarter, Cond.instanceMethod yX0_housesInQuarter, Cond.selects RX0 yX0_housesInQuarter yX0_housesInQuarter, Cond.code yX0_housesInQuarter cX0_housesInQuarter 3 (some .int), Cond.methodLink RX1 120 yX0_duesOfAll, Cond.instanceMethod yX0_duesOfAll, Cond.selects RX0 yX0_duesOfAll yX0_duesOfAll, Cond.code yX0_duesOfAll cX0_duesOfAll 1 (some .int), Cond.methodLink RX0 136 yX0_sum, Cond.static yX0_sum, Cond.code yX0_sum cX0_sum 3 (some .int)]
def wsX1_duesWith : List Cond := .code yX1_duesWith cX1_duesWith 3 (some .int) :: ((wsX1_duesWith_r1 ++ (wsX1_duesWith_r2 ++ (wsX1_duesWith_r3 ++ wsX1_duesWith_r4))) ++ wsX10 ++ wsX00)
def wsX1_would_r1 : List Cond := [Cond.fieldLink RX1 10 "CanalCity" "now" "LCanalCity$City;", Cond.methodLink RX1 19 yX1_checkedNumber, Cond.static yX1_checkedNumber, Cond.initialized RX1, Cond.code yX1_checkedNumber cX1_checkedNumber 2 (some .int), Cond.classLink RX1 69 "java/lang/IndexOutOfBoundsException", Cond.initialized "java/lang/IndexOutOfBoundsException", Cond.methodLink RX1 48 yX1_checkBuilding, Cond.static yX1_checkBuilding, Cond.code yX1_checkBuilding cX1_checkBuilding 1 none, Cond.classLink RX1 141 "java/lang/IllegalArgumentException", Cond.initialized "java/lang/IllegalArgumentException", Cond.methodLink RX1 51 yX1_checkDrained, Cond.instanceMethod yX1_checkDrained, Cond.selects RX1 yX1_checkDrained yX1_checkDrained, Cond.code yX1_checkDrained cX1_checkDrained 2 none, Cond.classLink RX1 27 "java/lang/IllegalStateException", Cond.initialized "java/lang/IllegalStateException", Cond.methodLink RX1 117 yX1_duesWith, Cond.instanceMethod yX1_duesWith, Cond.selects RX1 yX1_duesWith yX1_duesWith, Cond.code yX1_duesWith cX1_duesWith 3 (some .int), Cond.fieldLink RX1 16 "CanalCity" "trial" "LCanalCity$City;", Cond.methodLink RX1 110 yX0_become]
def wsX1_would_r2 : List Cond := [Cond.instanceMethod yX0_become, Cond.selects RX0 yX0_become yX0_become, Cond.initialized RX0, Cond.code yX0_become cX0_become 3 none, Cond.fieldLink RX0 9 "CanalCity$City" "month" "I", Cond.fieldLink RX0 15 "CanalCity$City" "coins" "I", Cond.fieldLink RX0 18 "CanalCity$City" "left" "I", Cond.fieldLink RX0 21 "CanalCity$City" "kinds" "[I", Cond.methodLink RX1 65 yX0_change, Cond.instanceMethod yX0_change, Cond.selects RX0 yX0_change yX0_change, Cond.code yX0_change cX0_change 3 none, Cond.methodLink RX0 52 yX0_survey, Cond.instanceMethod yX0_survey, Cond.selects RX0 yX0_survey yX0_survey, Cond.code yX0_survey cX0_survey 2 none, Cond.fieldLink RX0 37 "CanalCity$City" "boatSteps" "[I", Cond.fieldLink RX0 40 "CanalCity$City" "complaints" "[I", Cond.fieldLink RX0 43 "CanalCity$City" "dues" "[I", Cond.methodLink RX0 77 yX0_surveyQuarters, Cond.instanceMethod yX0_surveyQuarters, Cond.selects RX0 yX0_surveyQuarters yX0_surveyQuarters, Cond.code yX0_surveyQuarters cX0_surveyQuarters 2 none, Cond.fieldLink RX0 25 "CanalCity$City" "quarters" "[I"]
def wsX1_would_r3 : List Cond := [Cond.fieldLink RX0 28 "CanalCity$City" "lotsOf" "[I", Cond.fieldLink RX0 31 "CanalCity$City" "housesOf" "[I", Cond.fieldLink RX0 34 "CanalCity$City" "marketsOf" "[I", Cond.methodLink RX0 80 yX0_clear, Cond.static yX0_clear, Cond.code yX0_clear cX0_clear 3 none, Cond.static yX1_isLand, Cond.code yX1_isLand cX1_isLand 1 (some .boolean), Cond.methodLink RX0 87 yX0_spread, Cond.instanceMethod yX0_spread, Cond.selects RX0 yX0_spread yX0_spread, Cond.code yX0_spread cX0_spread 11 none, Cond.fieldLink RX0 49 "CanalCity$City" "waiting" "[I", Cond.static yX1_isLot, Cond.code yX1_isLot cX1_isLot 1 (some .boolean), Cond.static yX1_neighbour, Cond.code yX1_neighbour cX1_neighbour 4 (some .int), Cond.static yX1_isWater, Cond.code yX1_isWater cX1_isWater 1 (some .boolean), Cond.methodLink RX0 101 yX0_enter, Cond.instanceMethod yX0_enter, Cond.selects RX0 yX0_enter yX0_enter, Cond.code yX0_enter cX0_enter 3 none, Cond.methodLink RX0 91 yX0_complaintsAt]
def wsX1_would_r4 : List Cond := [Cond.instanceMethod yX0_complaintsAt, Cond.selects RX0 yX0_complaintsAt yX0_complaintsAt, Cond.code yX0_complaintsAt cX0_complaintsAt 4 (some .int), Cond.methodLink RX0 107 yX0_marketsInQuarter, Cond.instanceMethod yX0_marketsInQuarter, Cond.selects RX0 yX0_marketsInQuarter yX0_marketsInQuarter, Cond.code yX0_marketsInQuarter cX0_marketsInQuarter 3 (some .int), Cond.methodLink RX0 110 yX0_isByBoat, Cond.instanceMethod yX0_isByBoat, Cond.selects RX0 yX0_isByBoat yX0_isByBoat, Cond.code yX0_isByBoat cX0_isByBoat 5 (some .boolean), Cond.methodLink RX0 121 yX0_isOpenWater, Cond.instanceMethod yX0_isOpenWater, Cond.selects RX0 yX0_isOpenWater yX0_isOpenWater, Cond.code yX0_isOpenWater cX0_isOpenWater 2 (some .boolean), Cond.methodLink RX0 69 yX0_neighboursOfKind, Cond.instanceMethod yX0_neighboursOfKind, Cond.selects RX0 yX0_neighboursOfKind yX0_neighboursOfKind, Cond.code yX0_neighboursOfKind cX0_neighboursOfKind 6 (some .int), Cond.methodLink RX0 95 yX0_duesAt, Cond.instanceMethod yX0_duesAt, Cond.selects RX0 yX0_duesAt yX0_duesAt, Cond.code yX0_duesAt cX0_duesAt 2 (some .int), Cond.methodLink RX0 113 Lib.Math.max.name]
def wsX1_would_r5 : List Cond := [Cond.static Lib.Math.max.name, Cond.initialized "java/lang/Math", Cond.code Lib.Math.max.name Lib.Math.max.code 2 (some .int), Cond.methodLink RX0 118 yX0_housesInQuarter, Cond.instanceMethod yX0_housesInQuarter, Cond.selects RX0 yX0_housesInQuarter yX0_housesInQuarter, Cond.code yX0_housesInQuarter cX0_housesInQuarter 3 (some .int), Cond.methodLink RX1 120 yX0_duesOfAll, Cond.instanceMethod yX0_duesOfAll, Cond.selects RX0 yX0_duesOfAll yX0_duesOfAll, Cond.code yX0_duesOfAll cX0_duesOfAll 1 (some .int), Cond.methodLink RX0 136 yX0_sum, Cond.static yX0_sum, Cond.code yX0_sum cX0_sum 3 (some .int)]
def wsX1_would : List Cond := .code yX1_would cX1_would 5 (some .int) :: ((wsX1_would_r1 ++ (wsX1_would_r2 ++ (wsX1_would_r3 ++ (wsX1_would_r4 ++ wsX1_would_r5)))) ++ wsX10 ++ wsX00 ++ (vx_atS RX1 73 "java/lang/IndexOutOfBoundsException" ["java/lang/RuntimeException", "java/lang/Exception"]).filter goodWord ++ (vx_atS RX1 145 "java/lang/IllegalArgumentException" ["java/lang/RuntimeException", "java/lang/Exception"]).filter goodWord ++ (vx_atS RX1 31 "java/lang/IllegalStateException" ["java/lang/RuntimeException", "java/lang/Exception"]).filter goodWord)
def wsX1_best_r1 : List Cond := [Cond.fieldLink RX1 10 "CanalCity" "now" "LCanalCity$City;", Cond.methodLink RX1 48 yX1_checkBuilding, Cond.static yX1_checkBuilding, Cond.initialized RX1, Cond.code yX1_checkBuilding cX1_checkBuilding 1 none, Cond.classLink RX1 141 "java/lang/IllegalArgumentException", Cond.initialized "java/lang/IllegalArgumentException", Cond.methodLink RX1 117 yX1_duesWith, Cond.instanceMethod yX1_duesWith, Cond.selects RX1 yX1_duesWith yX1_duesWith, Cond.code yX1_duesWith cX1_duesWith 3 (some .int), Cond.fieldLink RX1 16 "CanalCity" "trial" "LCanalCity$City;", Cond.methodLink RX1 110 yX0_become, Cond.instanceMethod yX0_become, Cond.selects RX0 yX0_become yX0_become, Cond.initialized RX0, Cond.code yX0_become cX0_become 3 none, Cond.fieldLink RX0 9 "CanalCity$City" "month" "I", Cond.fieldLink RX0 15 "CanalCity$City" "coins" "I", Cond.fieldLink RX0 18 "CanalCity$City" "left" "I", Cond.fieldLink RX0 21 "CanalCity$City" "kinds" "[I", Cond.methodLink RX1 65 yX0_change, Cond.instanceMethod yX0_change, Cond.selects RX0 yX0_change yX0_change]
def wsX1_best_r2 : List Cond := [Cond.code yX0_change cX0_change 3 none, Cond.methodLink RX0 52 yX0_survey, Cond.instanceMethod yX0_survey, Cond.selects RX0 yX0_survey yX0_survey, Cond.code yX0_survey cX0_survey 2 none, Cond.fieldLink RX0 37 "CanalCity$City" "boatSteps" "[I", Cond.fieldLink RX0 40 "CanalCity$City" "complaints" "[I", Cond.fieldLink RX0 43 "CanalCity$City" "dues" "[I", Cond.methodLink RX0 77 yX0_surveyQuarters, Cond.instanceMethod yX0_surveyQuarters, Cond.selects RX0 yX0_surveyQuarters yX0_surveyQuarters, Cond.code yX0_surveyQuarters cX0_surveyQuarters 2 none, Cond.fieldLink RX0 25 "CanalCity$City" "quarters" "[I", Cond.fieldLink RX0 28 "CanalCity$City" "lotsOf" "[I", Cond.fieldLink RX0 31 "CanalCity$City" "housesOf" "[I", Cond.fieldLink RX0 34 "CanalCity$City" "marketsOf" "[I", Cond.methodLink RX0 80 yX0_clear, Cond.static yX0_clear, Cond.code yX0_clear cX0_clear 3 none, Cond.static yX1_isLand, Cond.code yX1_isLand cX1_isLand 1 (some .boolean), Cond.methodLink RX0 87 yX0_spread, Cond.instanceMethod yX0_spread, Cond.selects RX0 yX0_spread yX0_spread]
def wsX1_best_r3 : List Cond := [Cond.code yX0_spread cX0_spread 11 none, Cond.fieldLink RX0 49 "CanalCity$City" "waiting" "[I", Cond.static yX1_isLot, Cond.code yX1_isLot cX1_isLot 1 (some .boolean), Cond.static yX1_neighbour, Cond.code yX1_neighbour cX1_neighbour 4 (some .int), Cond.static yX1_isWater, Cond.code yX1_isWater cX1_isWater 1 (some .boolean), Cond.methodLink RX0 101 yX0_enter, Cond.instanceMethod yX0_enter, Cond.selects RX0 yX0_enter yX0_enter, Cond.code yX0_enter cX0_enter 3 none, Cond.methodLink RX0 91 yX0_complaintsAt, Cond.instanceMethod yX0_complaintsAt, Cond.selects RX0 yX0_complaintsAt yX0_complaintsAt, Cond.code yX0_complaintsAt cX0_complaintsAt 4 (some .int), Cond.methodLink RX0 107 yX0_marketsInQuarter, Cond.instanceMethod yX0_marketsInQuarter, Cond.selects RX0 yX0_marketsInQuarter yX0_marketsInQuarter, Cond.code yX0_marketsInQuarter cX0_marketsInQuarter 3 (some .int), Cond.methodLink RX0 110 yX0_isByBoat, Cond.instanceMethod yX0_isByBoat, Cond.selects RX0 yX0_isByBoat yX0_isByBoat, Cond.code yX0_isByBoat cX0_isByBoat 5 (some .boolean)]
def wsX1_best_r4 : List Cond := [Cond.methodLink RX0 121 yX0_isOpenWater, Cond.instanceMethod yX0_isOpenWater, Cond.selects RX0 yX0_isOpenWater yX0_isOpenWater, Cond.code yX0_isOpenWater cX0_isOpenWater 2 (some .boolean), Cond.methodLink RX0 69 yX0_neighboursOfKind, Cond.instanceMethod yX0_neighboursOfKind, Cond.selects RX0 yX0_neighboursOfKind yX0_neighboursOfKind, Cond.code yX0_neighboursOfKind cX0_neighboursOfKind 6 (some .int), Cond.methodLink RX0 95 yX0_duesAt, Cond.instanceMethod yX0_duesAt, Cond.selects RX0 yX0_duesAt yX0_duesAt, Cond.code yX0_duesAt cX0_duesAt 2 (some .int), Cond.methodLink RX0 113 Lib.Math.max.name, Cond.static Lib.Math.max.name, Cond.initialized "java/lang/Math", Cond.code Lib.Math.max.name Lib.Math.max.code 2 (some .int), Cond.methodLink RX0 118 yX0_housesInQuarter, Cond.instanceMethod yX0_housesInQuarter, Cond.selects RX0 yX0_housesInQuarter yX0_housesInQuarter, Cond.code yX0_housesInQuarter cX0_housesInQuarter 3 (some .int), Cond.methodLink RX1 120 yX0_duesOfAll, Cond.instanceMethod yX0_duesOfAll, Cond.selects RX0 yX0_duesOfAll yX0_duesOfAll, Cond.code yX0_duesOfAll cX0_duesOfAll 1 (some .int)]
def wsX1_best_r5 : List Cond := [Cond.methodLink RX0 136 yX0_sum, Cond.static yX0_sum, Cond.code yX0_sum cX0_sum 3 (some .int)]
def wsX1_best : List Cond := .code yX1_best cX1_best 6 (some .int) :: ((wsX1_best_r1 ++ (wsX1_best_r2 ++ (wsX1_best_r3 ++ (wsX1_best_r4 ++ wsX1_best_r5)))) ++ wsX10 ++ wsX00 ++ (vx_atS RX1 145 "java/lang/IllegalArgumentException" ["java/lang/RuntimeException", "java/lang/Exception"]).filter goodWord)
def wsX1_mean : List Cond := .code yX1_mean cX1_mean 2 (some .double) :: ([.fieldLink RX1 10 "CanalCity" "now" "LCanalCity$City;", .methodLink RX1 124 yX0_lotsOfKind, .instanceMethod yX0_lotsOfKind, .selects RX0 yX0_lotsOfKind yX0_lotsOfKind, .initialized RX0, .code yX0_lotsOfKind cX0_lotsOfKind 4 (some .int), .fieldLink RX0 21 "CanalCity$City" "kinds" "[I", .methodLink RX1 127 yX0_complaintsOfAll, .instanceMethod yX0_complaintsOfAll, .selects RX0 yX0_complaintsOfAll yX0_complaintsOfAll, .code yX0_complaintsOfAll cX0_complaintsOfAll 1 (some .int), .fieldLink RX0 40 "CanalCity$City" "complaints" "[I", .methodLink RX0 136 yX0_sum, .static yX0_sum, .code yX0_sum cX0_sum 3 (some .int)] ++ wsX10 ++ wsX00)
def wsX1_digest_r1 : List Cond := [Cond.constantLong RX1 130 (1409), Cond.constantLong RX1 132 (31), Cond.fieldLink RX1 10 "CanalCity" "now" "LCanalCity$City;", Cond.methodLink RX1 79 yX0_total, Cond.instanceMethod yX0_total, Cond.selects RX0 yX0_total yX0_total, Cond.initialized RX0, Cond.code yX0_total cX0_total 2 (some .int), Cond.fieldLink RX0 9 "CanalCity$City" "month" "I", Cond.fieldLink RX0 15 "CanalCity$City" "coins" "I", Cond.fieldLink RX0 18 "CanalCity$City" "left" "I", Cond.methodLink RX0 127 yX0_quartersOfAll, Cond.instanceMethod yX0_quartersOfAll, Cond.selects RX0 yX0_quartersOfAll yX0_quartersOfAll, Cond.code yX0_quartersOfAll cX0_quartersOfAll 3 (some .int), Cond.fieldLink RX0 25 "CanalCity$City" "quarters" "[I", Cond.methodLink RX0 130 yX0_complaintsOfAll, Cond.instanceMethod yX0_complaintsOfAll, Cond.selects RX0 yX0_complaintsOfAll yX0_complaintsOfAll, Cond.code yX0_complaintsOfAll cX0_complaintsOfAll 1 (some .int), Cond.fieldLink RX0 40 "CanalCity$City" "complaints" "[I", Cond.methodLink RX0 136 yX0_sum, Cond.static yX0_sum, Cond.code yX0_sum cX0_sum 3 (some .int)]
def wsX1_digest_r2 : List Cond := [Cond.methodLink RX0 59 yX0_duesOfAll, Cond.instanceMethod yX0_duesOfAll, Cond.selects RX0 yX0_duesOfAll yX0_duesOfAll, Cond.code yX0_duesOfAll cX0_duesOfAll 1 (some .int), Cond.fieldLink RX0 43 "CanalCity$City" "dues" "[I", Cond.methodLink RX0 133 yX0_lotsOfKind, Cond.instanceMethod yX0_lotsOfKind, Cond.selects RX0 yX0_lotsOfKind yX0_lotsOfKind, Cond.code yX0_lotsOfKind cX0_lotsOfKind 4 (some .int), Cond.fieldLink RX0 21 "CanalCity$City" "kinds" "[I", Cond.methodLink RX1 74 yX0_factOf, Cond.instanceMethod yX0_factOf, Cond.selects RX0 yX0_factOf yX0_factOf, Cond.code yX0_factOf cX0_factOf 3 (some .int), Cond.methodLink RX0 124 yX0_lotsOfQuarter, Cond.instanceMethod yX0_lotsOfQuarter, Cond.selects RX0 yX0_lotsOfQuarter yX0_lotsOfQuarter, Cond.code yX0_lotsOfQuarter cX0_lotsOfQuarter 3 (some .int), Cond.fieldLink RX0 28 "CanalCity$City" "lotsOf" "[I", Cond.static yX1_isLot, Cond.initialized RX1, Cond.code yX1_isLot cX1_isLot 1 (some .boolean), Cond.methodLink RX0 110 yX0_isByBoat, Cond.instanceMethod yX0_isByBoat]
def wsX1_digest_r3 : List Cond := [Cond.selects RX0 yX0_isByBoat yX0_isByBoat, Cond.code yX0_isByBoat cX0_isByBoat 5 (some .boolean), Cond.static yX1_isLand, Cond.code yX1_isLand cX1_isLand 1 (some .boolean), Cond.static yX1_neighbour, Cond.code yX1_neighbour cX1_neighbour 4 (some .int), Cond.methodLink RX0 121 yX0_isOpenWater, Cond.instanceMethod yX0_isOpenWater, Cond.selects RX0 yX0_isOpenWater yX0_isOpenWater, Cond.code yX0_isOpenWater cX0_isOpenWater 2 (some .boolean), Cond.fieldLink RX0 37 "CanalCity$City" "boatSteps" "[I"]
def wsX1_digest : List Cond := .code yX1_digest cX1_digest 5 (some .long) :: ((wsX1_digest_r1 ++ (wsX1_digest_r2 ++ wsX1_digest_r3)) ++ wsX10 ++ wsX00)
def wsX2_init : List Cond := .code yX2_init cX2_init 2 none :: ([.methodLink RX2 1 objectInit, .instanceMethod objectInit, .code objectInit ⟨#[0xb1]⟩ 1 none, .fieldLink RX2 7 "CanalCityModel" "coins" "I", .arrayClass .int, .fieldLink RX2 13 "CanalCityModel" "kind" "[I", .fieldLink RX2 17 "CanalCityModel" "ahead" "[I", .fieldLink RX2 20 "CanalCityModel" "other" "[I", .fieldLink RX2 23 "CanalCityModel" "quarter" "[I", .fieldLink RX2 26 "CanalCityModel" "open" "[I", .fieldLink RX2 29 "CanalCityModel" "lots" "[I", .fieldLink RX2 32 "CanalCityModel" "houses" "[I", .fieldLink RX2 35 "CanalCityModel" "markets" "[I", .fieldLink RX2 38 "CanalCityModel" "row" "[I", .fieldLink RX2 41 "CanalCityModel" "steps" "[I"] ++ wsX20)
def wsX2_thrown : List Cond := .code yX2_thrown cX2_thrown 1 (some .int) :: ([.fieldLink RX2 44 "CanalCityModel" "thrown" "I"] ++ wsX20)
def wsX2_no : List Cond := .code yX2_no cX2_no 2 (some .int) :: ([.fieldLink RX2 44 "CanalCityModel" "thrown" "I"] ++ wsX20)
def wsX2_isIn : List Cond := .code yX2_isIn cX2_isIn 3 (some .boolean) :: ([])
def wsX2_isPlace : List Cond := .code yX2_isPlace cX2_isPlace 2 (some .boolean) :: ([.methodLink RX2 47 yX2_isIn, .static yX2_isIn, .initialized RX2, .code yX2_isIn cX2_isIn 3 (some .boolean)])
def wsX2_isLand : List Cond := .code yX2_isLand cX2_isLand 1 (some .boolean) :: ([])
def wsX2_isWater : List Cond := .code yX2_isWater cX2_isWater 1 (some .boolean) :: ([])
def wsX2_beside : List Cond := .code yX2_beside cX2_beside 4 (some .int) :: ([.methodLink RX2 51 yX2_isPlace, .static yX2_isPlace, .initialized RX2, .code yX2_isPlace cX2_isPlace 2 (some .boolean), .methodLink RX2 47 yX2_isIn, .static yX2_isIn, .code yX2_isIn cX2_isIn 3 (some .boolean)])
def wsX2_fill : List Cond := .code yX2_fill cX2_fill 8 (some .int) :: ([.fieldLink RX2 41 "CanalCityModel" "steps" "[I", .fieldLink RX2 38 "CanalCityModel" "row" "[I", .methodLink RX2 55 yX2_beside, .static yX2_beside, .initialized RX2, .code yX2_beside cX2_beside 4 (some .int), .methodLink RX2 51 yX2_isPlace, .static yX2_isPlace, .code yX2_isPlace cX2_isPlace 2 (some .boolean), .methodLink RX2 47 yX2_isIn, .static yX2_isIn, .code yX2_isIn cX2_isIn 3 (some .boolean), .methodLink RX2 59 yX2_isLand, .static yX2_isLand, .code yX2_isLand cX2_isLand 1 (some .boolean), .methodLink RX2 63 yX2_isWater, .static yX2_isWater, .code yX2_isWater cX2_isWater 1 (some .boolean)] ++ wsX20)
def wsX2_look_r1 : List Cond := [Cond.fieldLink RX2 26 "CanalCityModel" "open" "[I", Cond.fieldLink RX2 41 "CanalCityModel" "steps" "[I", Cond.fieldLink RX2 23 "CanalCityModel" "quarter" "[I", Cond.fieldLink RX2 29 "CanalCityModel" "lots" "[I", Cond.fieldLink RX2 32 "CanalCityModel" "houses" "[I", Cond.fieldLink RX2 35 "CanalCityModel" "markets" "[I", Cond.fieldLink RX2 38 "CanalCityModel" "row" "[I", Cond.methodLink RX2 66 yX2_fill, Cond.instanceMethod yX2_fill, Cond.selects RX2 yX2_fill yX2_fill, Cond.initialized RX2, Cond.code yX2_fill cX2_fill 8 (some .int), Cond.methodLink RX2 55 yX2_beside, Cond.static yX2_beside, Cond.code yX2_beside cX2_beside 4 (some .int), Cond.methodLink RX2 51 yX2_isPlace, Cond.static yX2_isPlace, Cond.code yX2_isPlace cX2_isPlace 2 (some .boolean), Cond.methodLink RX2 47 yX2_isIn, Cond.static yX2_isIn, Cond.code yX2_isIn cX2_isIn 3 (some .boolean), Cond.methodLink RX2 59 yX2_isLand, Cond.static yX2_isLand, Cond.code yX2_isLand cX2_isLand 1 (some .boolean)]
def wsX2_look_r2 : List Cond := [Cond.methodLink RX2 63 yX2_isWater, Cond.static yX2_isWater, Cond.code yX2_isWater cX2_isWater 1 (some .boolean)]
def wsX2_look : List Cond := .code yX2_look cX2_look 5 (some .int) :: ((wsX2_look_r1 ++ wsX2_look_r2) ++ wsX20)
def wsX2_besideOf : List Cond := .code yX2_besideOf cX2_besideOf 5 (some .int) :: ([.methodLink RX2 55 yX2_beside, .static yX2_beside, .initialized RX2, .code yX2_beside cX2_beside 4 (some .int), .methodLink RX2 51 yX2_isPlace, .static yX2_isPlace, .code yX2_isPlace cX2_isPlace 2 (some .boolean), .methodLink RX2 47 yX2_isIn, .static yX2_isIn, .code yX2_isIn cX2_isIn 3 (some .boolean)])
def wsX2_isByBoat : List Cond := .code yX2_isByBoat cX2_isByBoat 4 (some .boolean) :: ([.fieldLink RX2 26 "CanalCityModel" "open" "[I", .methodLink RX2 59 yX2_isLand, .static yX2_isLand, .initialized RX2, .code yX2_isLand cX2_isLand 1 (some .boolean), .methodLink RX2 55 yX2_beside, .static yX2_beside, .code yX2_beside cX2_beside 4 (some .int), .methodLink RX2 51 yX2_isPlace, .static yX2_isPlace, .code yX2_isPlace cX2_isPlace 2 (some .boolean), .methodLink RX2 47 yX2_isIn, .static yX2_isIn, .code yX2_isIn cX2_isIn 3 (some .boolean)] ++ wsX20)
def wsX2_complaints : List Cond := .code yX2_complaints cX2_complaints 3 (some .int) :: ([.fieldLink RX2 35 "CanalCityModel" "markets" "[I", .fieldLink RX2 23 "CanalCityModel" "quarter" "[I", .methodLink RX2 70 yX2_besideOf, .static yX2_besideOf, .initialized RX2, .code yX2_besideOf cX2_besideOf 5 (some .int), .methodLink RX2 55 yX2_beside, .static yX2_beside, .code yX2_beside cX2_beside 4 (some .int), .methodLink RX2 51 yX2_isPlace, .static yX2_isPlace, .code yX2_isPlace cX2_isPlace 2 (some .boolean), .methodLink RX2 47 yX2_isIn, .static yX2_isIn, .code yX2_isIn cX2_isIn 3 (some .boolean), .methodLink RX2 74 yX2_isByBoat, .instanceMethod yX2_isByBoat, .selects RX2 yX2_isByBoat yX2_isByBoat, .code yX2_isByBoat cX2_isByBoat 4 (some .boolean), .fieldLink RX2 26 "CanalCityModel" "open" "[I", .methodLink RX2 59 yX2_isLand, .static yX2_isLand, .code yX2_isLand cX2_isLand 1 (some .boolean)] ++ wsX20)
def wsX2_dues_r1 : List Cond := [Cond.methodLink RX2 82 Lib.Math.max.name, Cond.static Lib.Math.max.name, Cond.initialized "java/lang/Math", Cond.code Lib.Math.max.name Lib.Math.max.code 2 (some .int), Cond.fieldLink RX2 32 "CanalCityModel" "houses" "[I", Cond.fieldLink RX2 23 "CanalCityModel" "quarter" "[I", Cond.methodLink RX2 78 yX2_complaints, Cond.instanceMethod yX2_complaints, Cond.selects RX2 yX2_complaints yX2_complaints, Cond.initialized RX2, Cond.code yX2_complaints cX2_complaints 3 (some .int), Cond.fieldLink RX2 35 "CanalCityModel" "markets" "[I", Cond.methodLink RX2 70 yX2_besideOf, Cond.static yX2_besideOf, Cond.code yX2_besideOf cX2_besideOf 5 (some .int), Cond.methodLink RX2 55 yX2_beside, Cond.static yX2_beside, Cond.code yX2_beside cX2_beside 4 (some .int), Cond.methodLink RX2 51 yX2_isPlace, Cond.static yX2_isPlace, Cond.code yX2_isPlace cX2_isPlace 2 (some .boolean), Cond.methodLink RX2 47 yX2_isIn, Cond.static yX2_isIn, Cond.code yX2_isIn cX2_isIn 3 (some .boolean)]
def wsX2_dues_r2 : List Cond := [Cond.methodLink RX2 74 yX2_isByBoat, Cond.instanceMethod yX2_isByBoat, Cond.selects RX2 yX2_isByBoat yX2_isByBoat, Cond.code yX2_isByBoat cX2_isByBoat 4 (some .boolean), Cond.fieldLink RX2 26 "CanalCityModel" "open" "[I", Cond.methodLink RX2 59 yX2_isLand, Cond.static yX2_isLand, Cond.code yX2_isLand cX2_isLand 1 (some .boolean)]
def wsX2_dues : List Cond := .code yX2_dues cX2_dues 3 (some .int) :: ((wsX2_dues_r1 ++ wsX2_dues_r2) ++ wsX20)
def wsX2_sum_r1 : List Cond := [Cond.methodLink RX2 87 yX2_dues, Cond.instanceMethod yX2_dues, Cond.selects RX2 yX2_dues yX2_dues, Cond.initialized RX2, Cond.code yX2_dues cX2_dues 3 (some .int), Cond.methodLink RX2 82 Lib.Math.max.name, Cond.static Lib.Math.max.name, Cond.initialized "java/lang/Math", Cond.code Lib.Math.max.name Lib.Math.max.code 2 (some .int), Cond.fieldLink RX2 32 "CanalCityModel" "houses" "[I", Cond.fieldLink RX2 23 "CanalCityModel" "quarter" "[I", Cond.methodLink RX2 78 yX2_complaints, Cond.instanceMethod yX2_complaints, Cond.selects RX2 yX2_complaints yX2_complaints, Cond.code yX2_complaints cX2_complaints 3 (some .int), Cond.fieldLink RX2 35 "CanalCityModel" "markets" "[I", Cond.methodLink RX2 70 yX2_besideOf, Cond.static yX2_besideOf, Cond.code yX2_besideOf cX2_besideOf 5 (some .int), Cond.methodLink RX2 55 yX2_beside, Cond.static yX2_beside, Cond.code yX2_beside cX2_beside 4 (some .int), Cond.methodLink RX2 51 yX2_isPlace, Cond.static yX2_isPlace]
def wsX2_sum_r2 : List Cond := [Cond.code yX2_isPlace cX2_isPlace 2 (some .boolean), Cond.methodLink RX2 47 yX2_isIn, Cond.static yX2_isIn, Cond.code yX2_isIn cX2_isIn 3 (some .boolean), Cond.methodLink RX2 74 yX2_isByBoat, Cond.instanceMethod yX2_isByBoat, Cond.selects RX2 yX2_isByBoat yX2_isByBoat, Cond.code yX2_isByBoat cX2_isByBoat 4 (some .boolean), Cond.fieldLink RX2 26 "CanalCityModel" "open" "[I", Cond.methodLink RX2 59 yX2_isLand, Cond.static yX2_isLand, Cond.code yX2_isLand cX2_isLand 1 (some .boolean)]
def wsX2_sum : List Cond := .code yX2_sum cX2_sum 5 (some .int) :: ((wsX2_sum_r1 ++ wsX2_sum_r2) ++ wsX20)
def wsX2_many : List Cond := .code yX2_many cX2_many 7 (some .int) :: ([])
def wsX2_isBuilt : List Cond := .code yX2_isBuilt cX2_isBuilt 4 (some .boolean) :: ([.fieldLink RX2 7 "CanalCityModel" "coins" "I", .fieldLink RX2 13 "CanalCityModel" "kind" "[I"] ++ wsX20)
def wsX2_drain : List Cond := .code yX2_drain cX2_drain 3 (some .int) :: ([.fieldLink RX2 44 "CanalCityModel" "thrown" "I", .fieldLink RX2 13 "CanalCityModel" "kind" "[I", .fieldLink RX2 7 "CanalCityModel" "coins" "I", .methodLink RX2 51 yX2_isPlace, .static yX2_isPlace, .initialized RX2, .code yX2_isPlace cX2_isPlace 2 (some .boolean), .methodLink RX2 47 yX2_isIn, .static yX2_isIn, .code yX2_isIn cX2_isIn 3 (some .boolean), .methodLink RX2 90 yX2_no, .instanceMethod yX2_no, .selects RX2 yX2_no yX2_no, .code yX2_no cX2_no 2 (some .int), .methodLink RX2 94 yX2_isBuilt, .instanceMethod yX2_isBuilt, .selects RX2 yX2_isBuilt yX2_isBuilt, .code yX2_isBuilt cX2_isBuilt 4 (some .boolean)] ++ wsX20)
def wsX2_dig : List Cond := .code yX2_dig cX2_dig 4 (some .int) :: ([.fieldLink RX2 44 "CanalCityModel" "thrown" "I", .fieldLink RX2 13 "CanalCityModel" "kind" "[I", .fieldLink RX2 7 "CanalCityModel" "coins" "I", .methodLink RX2 51 yX2_isPlace, .static yX2_isPlace, .initialized RX2, .code yX2_isPlace cX2_isPlace 2 (some .boolean), .methodLink RX2 47 yX2_isIn, .static yX2_isIn, .code yX2_isIn cX2_isIn 3 (some .boolean), .methodLink RX2 90 yX2_no, .instanceMethod yX2_no, .selects RX2 yX2_no yX2_no, .code yX2_no cX2_no 2 (some .int), .methodLink RX2 94 yX2_isBuilt, .instanceMethod yX2_isBuilt, .selects RX2 yX2_isBuilt yX2_isBuilt, .code yX2_isBuilt cX2_isBuilt 4 (some .boolean)] ++ wsX20)
def wsX2_build : List Cond := .code yX2_build cX2_build 4 (some .int) :: ([.fieldLink RX2 44 "CanalCityModel" "thrown" "I", .fieldLink RX2 13 "CanalCityModel" "kind" "[I", .fieldLink RX2 97 "CanalCityModel" "BUILT" "[I", .fieldLink RX2 7 "CanalCityModel" "coins" "I", .methodLink RX2 51 yX2_isPlace, .static yX2_isPlace, .initialized RX2, .code yX2_isPlace cX2_isPlace 2 (some .boolean), .methodLink RX2 47 yX2_isIn, .static yX2_isIn, .code yX2_isIn cX2_isIn 3 (some .boolean), .methodLink RX2 90 yX2_no, .instanceMethod yX2_no, .selects RX2 yX2_no yX2_no, .code yX2_no cX2_no 2 (some .int), .methodLink RX2 94 yX2_isBuilt, .instanceMethod yX2_isBuilt, .selects RX2 yX2_isBuilt yX2_isBuilt, .code yX2_isBuilt cX2_isBuilt 4 (some .boolean)] ++ wsX20)
def wsX2_bridge_r1 : List Cond := [Cond.fieldLink RX2 44 "CanalCityModel" "thrown" "I", Cond.fieldLink RX2 13 "CanalCityModel" "kind" "[I", Cond.fieldLink RX2 97 "CanalCityModel" "BUILT" "[I", Cond.methodLink RX2 51 yX2_isPlace, Cond.static yX2_isPlace, Cond.initialized RX2, Cond.code yX2_isPlace cX2_isPlace 2 (some .boolean), Cond.methodLink RX2 47 yX2_isIn, Cond.static yX2_isIn, Cond.code yX2_isIn cX2_isIn 3 (some .boolean), Cond.methodLink RX2 90 yX2_no, Cond.instanceMethod yX2_no, Cond.selects RX2 yX2_no yX2_no, Cond.code yX2_no cX2_no 2 (some .int), Cond.methodLink RX2 94 yX2_isBuilt, Cond.instanceMethod yX2_isBuilt, Cond.selects RX2 yX2_isBuilt yX2_isBuilt, Cond.code yX2_isBuilt cX2_isBuilt 4 (some .boolean), Cond.fieldLink RX2 7 "CanalCityModel" "coins" "I", Cond.methodLink RX2 66 yX2_fill, Cond.instanceMethod yX2_fill, Cond.selects RX2 yX2_fill yX2_fill, Cond.code yX2_fill cX2_fill 8 (some .int), Cond.fieldLink RX2 41 "CanalCityModel" "steps" "[I"]
def wsX2_bridge_r2 : List Cond := [Cond.fieldLink RX2 38 "CanalCityModel" "row" "[I", Cond.methodLink RX2 55 yX2_beside, Cond.static yX2_beside, Cond.code yX2_beside cX2_beside 4 (some .int), Cond.methodLink RX2 59 yX2_isLand, Cond.static yX2_isLand, Cond.code yX2_isLand cX2_isLand 1 (some .boolean), Cond.methodLink RX2 63 yX2_isWater, Cond.static yX2_isWater, Cond.code yX2_isWater cX2_isWater 1 (some .boolean)]
def wsX2_bridge : List Cond := .code yX2_bridge cX2_bridge 4 (some .int) :: ((wsX2_bridge_r1 ++ wsX2_bridge_r2) ++ wsX20)
def wsX2_raze : List Cond := .code yX2_raze cX2_raze 4 (some .int) :: ([.fieldLink RX2 44 "CanalCityModel" "thrown" "I", .fieldLink RX2 13 "CanalCityModel" "kind" "[I", .methodLink RX2 51 yX2_isPlace, .static yX2_isPlace, .initialized RX2, .code yX2_isPlace cX2_isPlace 2 (some .boolean), .methodLink RX2 47 yX2_isIn, .static yX2_isIn, .code yX2_isIn cX2_isIn 3 (some .boolean), .methodLink RX2 90 yX2_no, .instanceMethod yX2_no, .selects RX2 yX2_no yX2_no, .code yX2_no cX2_no 2 (some .int)] ++ wsX20)
def wsX2_lotTold_r1 : List Cond := [Cond.fieldLink RX2 13 "CanalCityModel" "kind" "[I", Cond.fieldLink RX2 23 "CanalCityModel" "quarter" "[I", Cond.fieldLink RX2 29 "CanalCityModel" "lots" "[I", Cond.fieldLink RX2 26 "CanalCityModel" "open" "[I", Cond.methodLink RX2 59 yX2_isLand, Cond.static yX2_isLand, Cond.initialized RX2, Cond.code yX2_isLand cX2_isLand 1 (some .boolean), Cond.methodLink RX2 74 yX2_isByBoat, Cond.instanceMethod yX2_isByBoat, Cond.selects RX2 yX2_isByBoat yX2_isByBoat, Cond.code yX2_isByBoat cX2_isByBoat 4 (some .boolean), Cond.methodLink RX2 55 yX2_beside, Cond.static yX2_beside, Cond.code yX2_beside cX2_beside 4 (some .int), Cond.methodLink RX2 51 yX2_isPlace, Cond.static yX2_isPlace, Cond.code yX2_isPlace cX2_isPlace 2 (some .boolean), Cond.methodLink RX2 47 yX2_isIn, Cond.static yX2_isIn, Cond.code yX2_isIn cX2_isIn 3 (some .boolean), Cond.methodLink RX2 78 yX2_complaints, Cond.instanceMethod yX2_complaints, Cond.selects RX2 yX2_complaints yX2_complaints]
def wsX2_lotTold_r2 : List Cond := [Cond.code yX2_complaints cX2_complaints 3 (some .int), Cond.fieldLink RX2 35 "CanalCityModel" "markets" "[I", Cond.methodLink RX2 70 yX2_besideOf, Cond.static yX2_besideOf, Cond.code yX2_besideOf cX2_besideOf 5 (some .int), Cond.methodLink RX2 87 yX2_dues, Cond.instanceMethod yX2_dues, Cond.selects RX2 yX2_dues yX2_dues, Cond.code yX2_dues cX2_dues 3 (some .int), Cond.methodLink RX2 82 Lib.Math.max.name, Cond.static Lib.Math.max.name, Cond.initialized "java/lang/Math", Cond.code Lib.Math.max.name Lib.Math.max.code 2 (some .int), Cond.fieldLink RX2 32 "CanalCityModel" "houses" "[I"]
def wsX2_lotTold : List Cond := .code yX2_lotTold cX2_lotTold 4 (some .int) :: ((wsX2_lotTold_r1 ++ wsX2_lotTold_r2) ++ wsX20)
def wsX2_lot_r1 : List Cond := [Cond.fieldLink RX2 44 "CanalCityModel" "thrown" "I", Cond.fieldLink RX2 13 "CanalCityModel" "kind" "[I", Cond.methodLink RX2 51 yX2_isPlace, Cond.static yX2_isPlace, Cond.initialized RX2, Cond.code yX2_isPlace cX2_isPlace 2 (some .boolean), Cond.methodLink RX2 47 yX2_isIn, Cond.static yX2_isIn, Cond.code yX2_isIn cX2_isIn 3 (some .boolean), Cond.methodLink RX2 90 yX2_no, Cond.instanceMethod yX2_no, Cond.selects RX2 yX2_no yX2_no, Cond.code yX2_no cX2_no 2 (some .int), Cond.methodLink RX2 100 yX2_look, Cond.instanceMethod yX2_look, Cond.selects RX2 yX2_look yX2_look, Cond.code yX2_look cX2_look 5 (some .int), Cond.fieldLink RX2 26 "CanalCityModel" "open" "[I", Cond.fieldLink RX2 41 "CanalCityModel" "steps" "[I", Cond.fieldLink RX2 23 "CanalCityModel" "quarter" "[I", Cond.fieldLink RX2 29 "CanalCityModel" "lots" "[I", Cond.fieldLink RX2 32 "CanalCityModel" "houses" "[I", Cond.fieldLink RX2 35 "CanalCityModel" "markets" "[I", Cond.fieldLink RX2 38 "CanalCityModel" "row" "[I"]
def wsX2_lot_r2 : List Cond := [Cond.methodLink RX2 66 yX2_fill, Cond.instanceMethod yX2_fill, Cond.selects RX2 yX2_fill yX2_fill, Cond.code yX2_fill cX2_fill 8 (some .int), Cond.methodLink RX2 55 yX2_beside, Cond.static yX2_beside, Cond.code yX2_beside cX2_beside 4 (some .int), Cond.methodLink RX2 59 yX2_isLand, Cond.static yX2_isLand, Cond.code yX2_isLand cX2_isLand 1 (some .boolean), Cond.methodLink RX2 63 yX2_isWater, Cond.static yX2_isWater, Cond.code yX2_isWater cX2_isWater 1 (some .boolean), Cond.methodLink RX2 104 yX2_lotTold, Cond.instanceMethod yX2_lotTold, Cond.selects RX2 yX2_lotTold yX2_lotTold, Cond.code yX2_lotTold cX2_lotTold 4 (some .int), Cond.methodLink RX2 74 yX2_isByBoat, Cond.instanceMethod yX2_isByBoat, Cond.selects RX2 yX2_isByBoat yX2_isByBoat, Cond.code yX2_isByBoat cX2_isByBoat 4 (some .boolean), Cond.methodLink RX2 78 yX2_complaints, Cond.instanceMethod yX2_complaints, Cond.selects RX2 yX2_complaints yX2_complaints]
def wsX2_lot_r3 : List Cond := [Cond.code yX2_complaints cX2_complaints 3 (some .int), Cond.methodLink RX2 70 yX2_besideOf, Cond.static yX2_besideOf, Cond.code yX2_besideOf cX2_besideOf 5 (some .int), Cond.methodLink RX2 87 yX2_dues, Cond.instanceMethod yX2_dues, Cond.selects RX2 yX2_dues yX2_dues, Cond.code yX2_dues cX2_dues 3 (some .int), Cond.methodLink RX2 82 Lib.Math.max.name, Cond.static Lib.Math.max.name, Cond.initialized "java/lang/Math", Cond.code Lib.Math.max.name Lib.Math.max.code 2 (some .int)]
def wsX2_lot : List Cond := .code yX2_lot cX2_lot 4 (some .int) :: ((wsX2_lot_r1 ++ (wsX2_lot_r2 ++ wsX2_lot_r3)) ++ wsX20)
def wsX2_counted_r1 : List Cond := [Cond.methodLink RX2 100 yX2_look, Cond.instanceMethod yX2_look, Cond.selects RX2 yX2_look yX2_look, Cond.initialized RX2, Cond.code yX2_look cX2_look 5 (some .int), Cond.fieldLink RX2 26 "CanalCityModel" "open" "[I", Cond.fieldLink RX2 41 "CanalCityModel" "steps" "[I", Cond.fieldLink RX2 23 "CanalCityModel" "quarter" "[I", Cond.fieldLink RX2 29 "CanalCityModel" "lots" "[I", Cond.fieldLink RX2 32 "CanalCityModel" "houses" "[I", Cond.fieldLink RX2 35 "CanalCityModel" "markets" "[I", Cond.fieldLink RX2 38 "CanalCityModel" "row" "[I", Cond.methodLink RX2 66 yX2_fill, Cond.instanceMethod yX2_fill, Cond.selects RX2 yX2_fill yX2_fill, Cond.code yX2_fill cX2_fill 8 (some .int), Cond.methodLink RX2 55 yX2_beside, Cond.static yX2_beside, Cond.code yX2_beside cX2_beside 4 (some .int), Cond.methodLink RX2 51 yX2_isPlace, Cond.static yX2_isPlace, Cond.code yX2_isPlace cX2_isPlace 2 (some .boolean), Cond.methodLink RX2 47 yX2_isIn, Cond.static yX2_isIn]
def wsX2_counted_r2 : List Cond := [Cond.code yX2_isIn cX2_isIn 3 (some .boolean), Cond.methodLink RX2 59 yX2_isLand, Cond.static yX2_isLand, Cond.code yX2_isLand cX2_isLand 1 (some .boolean), Cond.methodLink RX2 63 yX2_isWater, Cond.static yX2_isWater, Cond.code yX2_isWater cX2_isWater 1 (some .boolean), Cond.methodLink RX2 107 yX2_sum, Cond.instanceMethod yX2_sum, Cond.selects RX2 yX2_sum yX2_sum, Cond.code yX2_sum cX2_sum 5 (some .int), Cond.methodLink RX2 87 yX2_dues, Cond.instanceMethod yX2_dues, Cond.selects RX2 yX2_dues yX2_dues, Cond.code yX2_dues cX2_dues 3 (some .int), Cond.methodLink RX2 82 Lib.Math.max.name, Cond.static Lib.Math.max.name, Cond.initialized "java/lang/Math", Cond.code Lib.Math.max.name Lib.Math.max.code 2 (some .int), Cond.methodLink RX2 78 yX2_complaints, Cond.instanceMethod yX2_complaints, Cond.selects RX2 yX2_complaints yX2_complaints, Cond.code yX2_complaints cX2_complaints 3 (some .int), Cond.methodLink RX2 70 yX2_besideOf]
def wsX2_counted_r3 : List Cond := [Cond.static yX2_besideOf, Cond.code yX2_besideOf cX2_besideOf 5 (some .int), Cond.methodLink RX2 74 yX2_isByBoat, Cond.instanceMethod yX2_isByBoat, Cond.selects RX2 yX2_isByBoat yX2_isByBoat, Cond.code yX2_isByBoat cX2_isByBoat 4 (some .boolean), Cond.methodLink RX2 111 yX2_many, Cond.static yX2_many, Cond.code yX2_many cX2_many 7 (some .int)]
def wsX2_counted : List Cond := .code yX2_counted cX2_counted 6 (some .int) :: ((wsX2_counted_r1 ++ (wsX2_counted_r2 ++ wsX2_counted_r3)) ++ wsX20)
def wsX2_counted__r1 : List Cond := [Cond.fieldLink RX2 13 "CanalCityModel" "kind" "[I", Cond.fieldLink RX2 114 "CanalCityModel" "month" "I", Cond.fieldLink RX2 7 "CanalCityModel" "coins" "I", Cond.fieldLink RX2 117 "CanalCityModel" "left" "I", Cond.methodLink RX2 120 yX2_counted, Cond.instanceMethod yX2_counted, Cond.selects RX2 yX2_counted yX2_counted, Cond.initialized RX2, Cond.code yX2_counted cX2_counted 6 (some .int), Cond.methodLink RX2 100 yX2_look, Cond.instanceMethod yX2_look, Cond.selects RX2 yX2_look yX2_look, Cond.code yX2_look cX2_look 5 (some .int), Cond.fieldLink RX2 26 "CanalCityModel" "open" "[I", Cond.fieldLink RX2 41 "CanalCityModel" "steps" "[I", Cond.fieldLink RX2 23 "CanalCityModel" "quarter" "[I", Cond.fieldLink RX2 29 "CanalCityModel" "lots" "[I", Cond.fieldLink RX2 32 "CanalCityModel" "houses" "[I", Cond.fieldLink RX2 35 "CanalCityModel" "markets" "[I", Cond.fieldLink RX2 38 "CanalCityModel" "row" "[I", Cond.methodLink RX2 66 yX2_fill, Cond.instanceMethod yX2_fill, Cond.selects RX2 yX2_fill yX2_fill, Cond.code yX2_fill cX2_fill 8 (some .int)]
def wsX2_counted__r2 : List Cond := [Cond.methodLink RX2 55 yX2_beside, Cond.static yX2_beside, Cond.code yX2_beside cX2_beside 4 (some .int), Cond.methodLink RX2 51 yX2_isPlace, Cond.static yX2_isPlace, Cond.code yX2_isPlace cX2_isPlace 2 (some .boolean), Cond.methodLink RX2 47 yX2_isIn, Cond.static yX2_isIn, Cond.code yX2_isIn cX2_isIn 3 (some .boolean), Cond.methodLink RX2 59 yX2_isLand, Cond.static yX2_isLand, Cond.code yX2_isLand cX2_isLand 1 (some .boolean), Cond.methodLink RX2 63 yX2_isWater, Cond.static yX2_isWater, Cond.code yX2_isWater cX2_isWater 1 (some .boolean), Cond.methodLink RX2 107 yX2_sum, Cond.instanceMethod yX2_sum, Cond.selects RX2 yX2_sum yX2_sum, Cond.code yX2_sum cX2_sum 5 (some .int), Cond.methodLink RX2 87 yX2_dues, Cond.instanceMethod yX2_dues, Cond.selects RX2 yX2_dues yX2_dues, Cond.code yX2_dues cX2_dues 3 (some .int), Cond.methodLink RX2 82 Lib.Math.max.name]
def wsX2_counted__r3 : List Cond := [Cond.static Lib.Math.max.name, Cond.initialized "java/lang/Math", Cond.code Lib.Math.max.name Lib.Math.max.code 2 (some .int), Cond.methodLink RX2 78 yX2_complaints, Cond.instanceMethod yX2_complaints, Cond.selects RX2 yX2_complaints yX2_complaints, Cond.code yX2_complaints cX2_complaints 3 (some .int), Cond.methodLink RX2 70 yX2_besideOf, Cond.static yX2_besideOf, Cond.code yX2_besideOf cX2_besideOf 5 (some .int), Cond.methodLink RX2 74 yX2_isByBoat, Cond.instanceMethod yX2_isByBoat, Cond.selects RX2 yX2_isByBoat yX2_isByBoat, Cond.code yX2_isByBoat cX2_isByBoat 4 (some .boolean), Cond.methodLink RX2 111 yX2_many, Cond.static yX2_many, Cond.code yX2_many cX2_many 7 (some .int)]
def wsX2_counted_ : List Cond := .code yX2_counted_ cX2_counted_ 2 (some .int) :: ((wsX2_counted__r1 ++ (wsX2_counted__r2 ++ wsX2_counted__r3)) ++ wsX20)
def wsX2_count_r1 : List Cond := [Cond.fieldLink RX2 44 "CanalCityModel" "thrown" "I", Cond.methodLink RX2 47 yX2_isIn, Cond.static yX2_isIn, Cond.initialized RX2, Cond.code yX2_isIn cX2_isIn 3 (some .boolean), Cond.methodLink RX2 124 yX2_counted_, Cond.instanceMethod yX2_counted_, Cond.selects RX2 yX2_counted_ yX2_counted_, Cond.code yX2_counted_ cX2_counted_ 2 (some .int), Cond.fieldLink RX2 13 "CanalCityModel" "kind" "[I", Cond.fieldLink RX2 114 "CanalCityModel" "month" "I", Cond.fieldLink RX2 7 "CanalCityModel" "coins" "I", Cond.fieldLink RX2 117 "CanalCityModel" "left" "I", Cond.methodLink RX2 120 yX2_counted, Cond.instanceMethod yX2_counted, Cond.selects RX2 yX2_counted yX2_counted, Cond.code yX2_counted cX2_counted 6 (some .int), Cond.methodLink RX2 100 yX2_look, Cond.instanceMethod yX2_look, Cond.selects RX2 yX2_look yX2_look, Cond.code yX2_look cX2_look 5 (some .int), Cond.fieldLink RX2 26 "CanalCityModel" "open" "[I", Cond.fieldLink RX2 41 "CanalCityModel" "steps" "[I", Cond.fieldLink RX2 23 "CanalCityModel" "quarter" "[I"]
def wsX2_count_r2 : List Cond := [Cond.fieldLink RX2 29 "CanalCityModel" "lots" "[I", Cond.fieldLink RX2 32 "CanalCityModel" "houses" "[I", Cond.fieldLink RX2 35 "CanalCityModel" "markets" "[I", Cond.fieldLink RX2 38 "CanalCityModel" "row" "[I", Cond.methodLink RX2 66 yX2_fill, Cond.instanceMethod yX2_fill, Cond.selects RX2 yX2_fill yX2_fill, Cond.code yX2_fill cX2_fill 8 (some .int), Cond.methodLink RX2 55 yX2_beside, Cond.static yX2_beside, Cond.code yX2_beside cX2_beside 4 (some .int), Cond.methodLink RX2 51 yX2_isPlace, Cond.static yX2_isPlace, Cond.code yX2_isPlace cX2_isPlace 2 (some .boolean), Cond.methodLink RX2 59 yX2_isLand, Cond.static yX2_isLand, Cond.code yX2_isLand cX2_isLand 1 (some .boolean), Cond.methodLink RX2 63 yX2_isWater, Cond.static yX2_isWater, Cond.code yX2_isWater cX2_isWater 1 (some .boolean), Cond.methodLink RX2 107 yX2_sum, Cond.instanceMethod yX2_sum, Cond.selects RX2 yX2_sum yX2_sum, Cond.code yX2_sum cX2_sum 5 (some .int)]
def wsX2_count_r3 : List Cond := [Cond.methodLink RX2 87 yX2_dues, Cond.instanceMethod yX2_dues, Cond.selects RX2 yX2_dues yX2_dues, Cond.code yX2_dues cX2_dues 3 (some .int), Cond.methodLink RX2 82 Lib.Math.max.name, Cond.static Lib.Math.max.name, Cond.initialized "java/lang/Math", Cond.code Lib.Math.max.name Lib.Math.max.code 2 (some .int), Cond.methodLink RX2 78 yX2_complaints, Cond.instanceMethod yX2_complaints, Cond.selects RX2 yX2_complaints yX2_complaints, Cond.code yX2_complaints cX2_complaints 3 (some .int), Cond.methodLink RX2 70 yX2_besideOf, Cond.static yX2_besideOf, Cond.code yX2_besideOf cX2_besideOf 5 (some .int), Cond.methodLink RX2 74 yX2_isByBoat, Cond.instanceMethod yX2_isByBoat, Cond.selects RX2 yX2_isByBoat yX2_isByBoat, Cond.code yX2_isByBoat cX2_isByBoat 4 (some .boolean), Cond.methodLink RX2 111 yX2_many, Cond.static yX2_many, Cond.code yX2_many cX2_many 7 (some .int), Cond.methodLink RX2 90 yX2_no, Cond.instanceMethod yX2_no]
def wsX2_count_r4 : List Cond := [Cond.selects RX2 yX2_no yX2_no, Cond.code yX2_no cX2_no 2 (some .int)]
def wsX2_count : List Cond := .code yX2_count cX2_count 2 (some .int) :: ((wsX2_count_r1 ++ (wsX2_count_r2 ++ (wsX2_count_r3 ++ wsX2_count_r4))) ++ wsX20)
def wsX2_walk_r1 : List Cond := [Cond.fieldLink RX2 44 "CanalCityModel" "thrown" "I", Cond.fieldLink RX2 13 "CanalCityModel" "kind" "[I", Cond.fieldLink RX2 41 "CanalCityModel" "steps" "[I", Cond.methodLink RX2 47 yX2_isIn, Cond.static yX2_isIn, Cond.initialized RX2, Cond.code yX2_isIn cX2_isIn 3 (some .boolean), Cond.methodLink RX2 90 yX2_no, Cond.instanceMethod yX2_no, Cond.selects RX2 yX2_no yX2_no, Cond.code yX2_no cX2_no 2 (some .int), Cond.methodLink RX2 59 yX2_isLand, Cond.static yX2_isLand, Cond.code yX2_isLand cX2_isLand 1 (some .boolean), Cond.methodLink RX2 66 yX2_fill, Cond.instanceMethod yX2_fill, Cond.selects RX2 yX2_fill yX2_fill, Cond.code yX2_fill cX2_fill 8 (some .int), Cond.fieldLink RX2 38 "CanalCityModel" "row" "[I", Cond.methodLink RX2 55 yX2_beside, Cond.static yX2_beside, Cond.code yX2_beside cX2_beside 4 (some .int), Cond.methodLink RX2 51 yX2_isPlace, Cond.static yX2_isPlace]
def wsX2_walk_r2 : List Cond := [Cond.code yX2_isPlace cX2_isPlace 2 (some .boolean), Cond.methodLink RX2 63 yX2_isWater, Cond.static yX2_isWater, Cond.code yX2_isWater cX2_isWater 1 (some .boolean)]
def wsX2_walk : List Cond := .code yX2_walk cX2_walk 3 (some .int) :: ((wsX2_walk_r1 ++ wsX2_walk_r2) ++ wsX20)
def wsX2_sail_r1 : List Cond := [Cond.fieldLink RX2 44 "CanalCityModel" "thrown" "I", Cond.fieldLink RX2 13 "CanalCityModel" "kind" "[I", Cond.fieldLink RX2 41 "CanalCityModel" "steps" "[I", Cond.methodLink RX2 47 yX2_isIn, Cond.static yX2_isIn, Cond.initialized RX2, Cond.code yX2_isIn cX2_isIn 3 (some .boolean), Cond.methodLink RX2 90 yX2_no, Cond.instanceMethod yX2_no, Cond.selects RX2 yX2_no yX2_no, Cond.code yX2_no cX2_no 2 (some .int), Cond.methodLink RX2 63 yX2_isWater, Cond.static yX2_isWater, Cond.code yX2_isWater cX2_isWater 1 (some .boolean), Cond.methodLink RX2 66 yX2_fill, Cond.instanceMethod yX2_fill, Cond.selects RX2 yX2_fill yX2_fill, Cond.code yX2_fill cX2_fill 8 (some .int), Cond.fieldLink RX2 38 "CanalCityModel" "row" "[I", Cond.methodLink RX2 55 yX2_beside, Cond.static yX2_beside, Cond.code yX2_beside cX2_beside 4 (some .int), Cond.methodLink RX2 51 yX2_isPlace, Cond.static yX2_isPlace]
def wsX2_sail_r2 : List Cond := [Cond.code yX2_isPlace cX2_isPlace 2 (some .boolean), Cond.methodLink RX2 59 yX2_isLand, Cond.static yX2_isLand, Cond.code yX2_isLand cX2_isLand 1 (some .boolean)]
def wsX2_sail : List Cond := .code yX2_sail cX2_sail 2 (some .int) :: ((wsX2_sail_r1 ++ wsX2_sail_r2) ++ wsX20)
def wsX2_leave_r1 : List Cond := [Cond.fieldLink RX2 20 "CanalCityModel" "other" "[I", Cond.methodLink RX2 78 yX2_complaints, Cond.instanceMethod yX2_complaints, Cond.selects RX2 yX2_complaints yX2_complaints, Cond.initialized RX2, Cond.code yX2_complaints cX2_complaints 3 (some .int), Cond.fieldLink RX2 35 "CanalCityModel" "markets" "[I", Cond.fieldLink RX2 23 "CanalCityModel" "quarter" "[I", Cond.methodLink RX2 70 yX2_besideOf, Cond.static yX2_besideOf, Cond.code yX2_besideOf cX2_besideOf 5 (some .int), Cond.methodLink RX2 55 yX2_beside, Cond.static yX2_beside, Cond.code yX2_beside cX2_beside 4 (some .int), Cond.methodLink RX2 51 yX2_isPlace, Cond.static yX2_isPlace, Cond.code yX2_isPlace cX2_isPlace 2 (some .boolean), Cond.methodLink RX2 47 yX2_isIn, Cond.static yX2_isIn, Cond.code yX2_isIn cX2_isIn 3 (some .boolean), Cond.methodLink RX2 74 yX2_isByBoat, Cond.instanceMethod yX2_isByBoat, Cond.selects RX2 yX2_isByBoat yX2_isByBoat, Cond.code yX2_isByBoat cX2_isByBoat 4 (some .boolean)]
def wsX2_leave_r2 : List Cond := [Cond.fieldLink RX2 26 "CanalCityModel" "open" "[I", Cond.methodLink RX2 59 yX2_isLand, Cond.static yX2_isLand, Cond.code yX2_isLand cX2_isLand 1 (some .boolean)]
def wsX2_leave : List Cond := .code yX2_leave cX2_leave 4 (some .int) :: ((wsX2_leave_r1 ++ wsX2_leave_r2) ++ wsX20)
def wsX2_sink : List Cond := .code yX2_sink cX2_sink 3 none :: ([.fieldLink RX2 20 "CanalCityModel" "other" "[I", .methodLink RX2 70 yX2_besideOf, .static yX2_besideOf, .initialized RX2, .code yX2_besideOf cX2_besideOf 5 (some .int), .methodLink RX2 55 yX2_beside, .static yX2_beside, .code yX2_beside cX2_beside 4 (some .int), .methodLink RX2 51 yX2_isPlace, .static yX2_isPlace, .code yX2_isPlace cX2_isPlace 2 (some .boolean), .methodLink RX2 47 yX2_isIn, .static yX2_isIn, .code yX2_isIn cX2_isIn 3 (some .boolean)] ++ wsX20)
def wsX2_pass_r1 : List Cond := [Cond.fieldLink RX2 44 "CanalCityModel" "thrown" "I", Cond.fieldLink RX2 7 "CanalCityModel" "coins" "I", Cond.fieldLink RX2 13 "CanalCityModel" "kind" "[I", Cond.fieldLink RX2 117 "CanalCityModel" "left" "I", Cond.fieldLink RX2 114 "CanalCityModel" "month" "I", Cond.methodLink RX2 47 yX2_isIn, Cond.static yX2_isIn, Cond.initialized RX2, Cond.code yX2_isIn cX2_isIn 3 (some .boolean), Cond.methodLink RX2 90 yX2_no, Cond.instanceMethod yX2_no, Cond.selects RX2 yX2_no yX2_no, Cond.code yX2_no cX2_no 2 (some .int), Cond.methodLink RX2 100 yX2_look, Cond.instanceMethod yX2_look, Cond.selects RX2 yX2_look yX2_look, Cond.code yX2_look cX2_look 5 (some .int), Cond.fieldLink RX2 26 "CanalCityModel" "open" "[I", Cond.fieldLink RX2 41 "CanalCityModel" "steps" "[I", Cond.fieldLink RX2 23 "CanalCityModel" "quarter" "[I", Cond.fieldLink RX2 29 "CanalCityModel" "lots" "[I", Cond.fieldLink RX2 32 "CanalCityModel" "houses" "[I", Cond.fieldLink RX2 35 "CanalCityModel" "markets" "[I", Cond.fieldLink RX2 38 "CanalCityModel" "row" "[I"]
def wsX2_pass_r2 : List Cond := [Cond.methodLink RX2 66 yX2_fill, Cond.instanceMethod yX2_fill, Cond.selects RX2 yX2_fill yX2_fill, Cond.code yX2_fill cX2_fill 8 (some .int), Cond.methodLink RX2 55 yX2_beside, Cond.static yX2_beside, Cond.code yX2_beside cX2_beside 4 (some .int), Cond.methodLink RX2 51 yX2_isPlace, Cond.static yX2_isPlace, Cond.code yX2_isPlace cX2_isPlace 2 (some .boolean), Cond.methodLink RX2 59 yX2_isLand, Cond.static yX2_isLand, Cond.code yX2_isLand cX2_isLand 1 (some .boolean), Cond.methodLink RX2 63 yX2_isWater, Cond.static yX2_isWater, Cond.code yX2_isWater cX2_isWater 1 (some .boolean), Cond.methodLink RX2 107 yX2_sum, Cond.instanceMethod yX2_sum, Cond.selects RX2 yX2_sum yX2_sum, Cond.code yX2_sum cX2_sum 5 (some .int), Cond.methodLink RX2 87 yX2_dues, Cond.instanceMethod yX2_dues, Cond.selects RX2 yX2_dues yX2_dues, Cond.code yX2_dues cX2_dues 3 (some .int)]
def wsX2_pass_r3 : List Cond := [Cond.methodLink RX2 82 Lib.Math.max.name, Cond.static Lib.Math.max.name, Cond.initialized "java/lang/Math", Cond.code Lib.Math.max.name Lib.Math.max.code 2 (some .int), Cond.methodLink RX2 78 yX2_complaints, Cond.instanceMethod yX2_complaints, Cond.selects RX2 yX2_complaints yX2_complaints, Cond.code yX2_complaints cX2_complaints 3 (some .int), Cond.methodLink RX2 70 yX2_besideOf, Cond.static yX2_besideOf, Cond.code yX2_besideOf cX2_besideOf 5 (some .int), Cond.methodLink RX2 74 yX2_isByBoat, Cond.instanceMethod yX2_isByBoat, Cond.selects RX2 yX2_isByBoat yX2_isByBoat, Cond.code yX2_isByBoat cX2_isByBoat 4 (some .boolean), Cond.methodLink RX2 126 yX2_leave, Cond.instanceMethod yX2_leave, Cond.selects RX2 yX2_leave yX2_leave, Cond.code yX2_leave cX2_leave 4 (some .int), Cond.fieldLink RX2 20 "CanalCityModel" "other" "[I", Cond.methodLink RX2 129 yX2_sink, Cond.instanceMethod yX2_sink, Cond.selects RX2 yX2_sink yX2_sink, Cond.code yX2_sink cX2_sink 3 none]
def wsX2_pass : List Cond := .code yX2_pass cX2_pass 4 (some .int) :: ((wsX2_pass_r1 ++ (wsX2_pass_r2 ++ wsX2_pass_r3)) ++ wsX20)
def wsX2_foresee_r1 : List Cond := [Cond.fieldLink RX2 44 "CanalCityModel" "thrown" "I", Cond.fieldLink RX2 13 "CanalCityModel" "kind" "[I", Cond.fieldLink RX2 17 "CanalCityModel" "ahead" "[I", Cond.methodLink RX2 133 arraycopyName, Cond.native arraycopyName, Cond.static arraycopyName, Cond.initialized "java/lang/System", Cond.fieldLink RX2 7 "CanalCityModel" "coins" "I", Cond.fieldLink RX2 117 "CanalCityModel" "left" "I", Cond.fieldLink RX2 114 "CanalCityModel" "month" "I", Cond.methodLink RX2 47 yX2_isIn, Cond.static yX2_isIn, Cond.initialized RX2, Cond.code yX2_isIn cX2_isIn 3 (some .boolean), Cond.methodLink RX2 90 yX2_no, Cond.instanceMethod yX2_no, Cond.selects RX2 yX2_no yX2_no, Cond.code yX2_no cX2_no 2 (some .int), Cond.methodLink RX2 100 yX2_look, Cond.instanceMethod yX2_look, Cond.selects RX2 yX2_look yX2_look, Cond.code yX2_look cX2_look 5 (some .int), Cond.fieldLink RX2 26 "CanalCityModel" "open" "[I", Cond.fieldLink RX2 41 "CanalCityModel" "steps" "[I"]
def wsX2_foresee_r2 : List Cond := [Cond.fieldLink RX2 23 "CanalCityModel" "quarter" "[I", Cond.fieldLink RX2 29 "CanalCityModel" "lots" "[I", Cond.fieldLink RX2 32 "CanalCityModel" "houses" "[I", Cond.fieldLink RX2 35 "CanalCityModel" "markets" "[I", Cond.fieldLink RX2 38 "CanalCityModel" "row" "[I", Cond.methodLink RX2 66 yX2_fill, Cond.instanceMethod yX2_fill, Cond.selects RX2 yX2_fill yX2_fill, Cond.code yX2_fill cX2_fill 8 (some .int), Cond.methodLink RX2 55 yX2_beside, Cond.static yX2_beside, Cond.code yX2_beside cX2_beside 4 (some .int), Cond.methodLink RX2 51 yX2_isPlace, Cond.static yX2_isPlace, Cond.code yX2_isPlace cX2_isPlace 2 (some .boolean), Cond.methodLink RX2 59 yX2_isLand, Cond.static yX2_isLand, Cond.code yX2_isLand cX2_isLand 1 (some .boolean), Cond.methodLink RX2 63 yX2_isWater, Cond.static yX2_isWater, Cond.code yX2_isWater cX2_isWater 1 (some .boolean), Cond.methodLink RX2 107 yX2_sum, Cond.instanceMethod yX2_sum, Cond.selects RX2 yX2_sum yX2_sum]
def wsX2_foresee_r3 : List Cond := [Cond.code yX2_sum cX2_sum 5 (some .int), Cond.methodLink RX2 87 yX2_dues, Cond.instanceMethod yX2_dues, Cond.selects RX2 yX2_dues yX2_dues, Cond.code yX2_dues cX2_dues 3 (some .int), Cond.methodLink RX2 82 Lib.Math.max.name, Cond.static Lib.Math.max.name, Cond.initialized "java/lang/Math", Cond.code Lib.Math.max.name Lib.Math.max.code 2 (some .int), Cond.methodLink RX2 78 yX2_complaints, Cond.instanceMethod yX2_complaints, Cond.selects RX2 yX2_complaints yX2_complaints, Cond.code yX2_complaints cX2_complaints 3 (some .int), Cond.methodLink RX2 70 yX2_besideOf, Cond.static yX2_besideOf, Cond.code yX2_besideOf cX2_besideOf 5 (some .int), Cond.methodLink RX2 74 yX2_isByBoat, Cond.instanceMethod yX2_isByBoat, Cond.selects RX2 yX2_isByBoat yX2_isByBoat, Cond.code yX2_isByBoat cX2_isByBoat 4 (some .boolean), Cond.methodLink RX2 126 yX2_leave, Cond.instanceMethod yX2_leave, Cond.selects RX2 yX2_leave yX2_leave, Cond.code yX2_leave cX2_leave 4 (some .int)]
def wsX2_foresee_r4 : List Cond := [Cond.fieldLink RX2 20 "CanalCityModel" "other" "[I", Cond.methodLink RX2 129 yX2_sink, Cond.instanceMethod yX2_sink, Cond.selects RX2 yX2_sink yX2_sink, Cond.code yX2_sink cX2_sink 3 none, Cond.methodLink RX2 120 yX2_counted, Cond.instanceMethod yX2_counted, Cond.selects RX2 yX2_counted yX2_counted, Cond.code yX2_counted cX2_counted 6 (some .int), Cond.methodLink RX2 111 yX2_many, Cond.static yX2_many, Cond.code yX2_many cX2_many 7 (some .int)]
def wsX2_foresee : List Cond := .code yX2_foresee cX2_foresee 6 (some .int) :: ((wsX2_foresee_r1 ++ (wsX2_foresee_r2 ++ (wsX2_foresee_r3 ++ wsX2_foresee_r4))) ++ wsX20)
def wsX2_duesWith_r1 : List Cond := [Cond.fieldLink RX2 13 "CanalCityModel" "kind" "[I", Cond.fieldLink RX2 17 "CanalCityModel" "ahead" "[I", Cond.methodLink RX2 133 arraycopyName, Cond.native arraycopyName, Cond.static arraycopyName, Cond.initialized "java/lang/System", Cond.methodLink RX2 100 yX2_look, Cond.instanceMethod yX2_look, Cond.selects RX2 yX2_look yX2_look, Cond.initialized RX2, Cond.code yX2_look cX2_look 5 (some .int), Cond.fieldLink RX2 26 "CanalCityModel" "open" "[I", Cond.fieldLink RX2 41 "CanalCityModel" "steps" "[I", Cond.fieldLink RX2 23 "CanalCityModel" "quarter" "[I", Cond.fieldLink RX2 29 "CanalCityModel" "lots" "[I", Cond.fieldLink RX2 32 "CanalCityModel" "houses" "[I", Cond.fieldLink RX2 35 "CanalCityModel" "markets" "[I", Cond.fieldLink RX2 38 "CanalCityModel" "row" "[I", Cond.methodLink RX2 66 yX2_fill, Cond.instanceMethod yX2_fill, Cond.selects RX2 yX2_fill yX2_fill, Cond.code yX2_fill cX2_fill 8 (some .int), Cond.methodLink RX2 55 yX2_beside, Cond.static yX2_beside]
def wsX2_duesWith_r2 : List Cond := [Cond.code yX2_beside cX2_beside 4 (some .int), Cond.methodLink RX2 51 yX2_isPlace, Cond.static yX2_isPlace, Cond.code yX2_isPlace cX2_isPlace 2 (some .boolean), Cond.methodLink RX2 47 yX2_isIn, Cond.static yX2_isIn, Cond.code yX2_isIn cX2_isIn 3 (some .boolean), Cond.methodLink RX2 59 yX2_isLand, Cond.static yX2_isLand, Cond.code yX2_isLand cX2_isLand 1 (some .boolean), Cond.methodLink RX2 63 yX2_isWater, Cond.static yX2_isWater, Cond.code yX2_isWater cX2_isWater 1 (some .boolean), Cond.methodLink RX2 107 yX2_sum, Cond.instanceMethod yX2_sum, Cond.selects RX2 yX2_sum yX2_sum, Cond.code yX2_sum cX2_sum 5 (some .int), Cond.methodLink RX2 87 yX2_dues, Cond.instanceMethod yX2_dues, Cond.selects RX2 yX2_dues yX2_dues, Cond.code yX2_dues cX2_dues 3 (some .int), Cond.methodLink RX2 82 Lib.Math.max.name, Cond.static Lib.Math.max.name, Cond.initialized "java/lang/Math"]
def wsX2_duesWith_r3 : List Cond := [Cond.code Lib.Math.max.name Lib.Math.max.code 2 (some .int), Cond.methodLink RX2 78 yX2_complaints, Cond.instanceMethod yX2_complaints, Cond.selects RX2 yX2_complaints yX2_complaints, Cond.code yX2_complaints cX2_complaints 3 (some .int), Cond.methodLink RX2 70 yX2_besideOf, Cond.static yX2_besideOf, Cond.code yX2_besideOf cX2_besideOf 5 (some .int), Cond.methodLink RX2 74 yX2_isByBoat, Cond.instanceMethod yX2_isByBoat, Cond.selects RX2 yX2_isByBoat yX2_isByBoat, Cond.code yX2_isByBoat cX2_isByBoat 4 (some .boolean)]
def wsX2_duesWith : List Cond := .code yX2_duesWith cX2_duesWith 3 (some .int) :: ((wsX2_duesWith_r1 ++ (wsX2_duesWith_r2 ++ wsX2_duesWith_r3)) ++ wsX20)
def wsX2_would_r1 : List Cond := [Cond.fieldLink RX2 44 "CanalCityModel" "thrown" "I", Cond.fieldLink RX2 13 "CanalCityModel" "kind" "[I", Cond.methodLink RX2 51 yX2_isPlace, Cond.static yX2_isPlace, Cond.initialized RX2, Cond.code yX2_isPlace cX2_isPlace 2 (some .boolean), Cond.methodLink RX2 47 yX2_isIn, Cond.static yX2_isIn, Cond.code yX2_isIn cX2_isIn 3 (some .boolean), Cond.methodLink RX2 90 yX2_no, Cond.instanceMethod yX2_no, Cond.selects RX2 yX2_no yX2_no, Cond.code yX2_no cX2_no 2 (some .int), Cond.methodLink RX2 139 yX2_duesWith, Cond.instanceMethod yX2_duesWith, Cond.selects RX2 yX2_duesWith yX2_duesWith, Cond.code yX2_duesWith cX2_duesWith 3 (some .int), Cond.fieldLink RX2 17 "CanalCityModel" "ahead" "[I", Cond.methodLink RX2 133 arraycopyName, Cond.native arraycopyName, Cond.static arraycopyName, Cond.initialized "java/lang/System", Cond.methodLink RX2 100 yX2_look, Cond.instanceMethod yX2_look]
def wsX2_would_r2 : List Cond := [Cond.selects RX2 yX2_look yX2_look, Cond.code yX2_look cX2_look 5 (some .int), Cond.fieldLink RX2 26 "CanalCityModel" "open" "[I", Cond.fieldLink RX2 41 "CanalCityModel" "steps" "[I", Cond.fieldLink RX2 23 "CanalCityModel" "quarter" "[I", Cond.fieldLink RX2 29 "CanalCityModel" "lots" "[I", Cond.fieldLink RX2 32 "CanalCityModel" "houses" "[I", Cond.fieldLink RX2 35 "CanalCityModel" "markets" "[I", Cond.fieldLink RX2 38 "CanalCityModel" "row" "[I", Cond.methodLink RX2 66 yX2_fill, Cond.instanceMethod yX2_fill, Cond.selects RX2 yX2_fill yX2_fill, Cond.code yX2_fill cX2_fill 8 (some .int), Cond.methodLink RX2 55 yX2_beside, Cond.static yX2_beside, Cond.code yX2_beside cX2_beside 4 (some .int), Cond.methodLink RX2 59 yX2_isLand, Cond.static yX2_isLand, Cond.code yX2_isLand cX2_isLand 1 (some .boolean), Cond.methodLink RX2 63 yX2_isWater, Cond.static yX2_isWater, Cond.code yX2_isWater cX2_isWater 1 (some .boolean), Cond.methodLink RX2 107 yX2_sum, Cond.instanceMethod yX2_sum]
def wsX2_would_r3 : List Cond := [Cond.selects RX2 yX2_sum yX2_sum, Cond.code yX2_sum cX2_sum 5 (some .int), Cond.methodLink RX2 87 yX2_dues, Cond.instanceMethod yX2_dues, Cond.selects RX2 yX2_dues yX2_dues, Cond.code yX2_dues cX2_dues 3 (some .int), Cond.methodLink RX2 82 Lib.Math.max.name, Cond.static Lib.Math.max.name, Cond.initialized "java/lang/Math", Cond.code Lib.Math.max.name Lib.Math.max.code 2 (some .int), Cond.methodLink RX2 78 yX2_complaints, Cond.instanceMethod yX2_complaints, Cond.selects RX2 yX2_complaints yX2_complaints, Cond.code yX2_complaints cX2_complaints 3 (some .int), Cond.methodLink RX2 70 yX2_besideOf, Cond.static yX2_besideOf, Cond.code yX2_besideOf cX2_besideOf 5 (some .int), Cond.methodLink RX2 74 yX2_isByBoat, Cond.instanceMethod yX2_isByBoat, Cond.selects RX2 yX2_isByBoat yX2_isByBoat, Cond.code yX2_isByBoat cX2_isByBoat 4 (some .boolean)]
def wsX2_would : List Cond := .code yX2_would cX2_would 5 (some .int) :: ((wsX2_would_r1 ++ (wsX2_would_r2 ++ wsX2_would_r3)) ++ wsX20)
def wsX2_best_r1 : List Cond := [Cond.fieldLink RX2 44 "CanalCityModel" "thrown" "I", Cond.fieldLink RX2 13 "CanalCityModel" "kind" "[I", Cond.methodLink RX2 47 yX2_isIn, Cond.static yX2_isIn, Cond.initialized RX2, Cond.code yX2_isIn cX2_isIn 3 (some .boolean), Cond.methodLink RX2 90 yX2_no, Cond.instanceMethod yX2_no, Cond.selects RX2 yX2_no yX2_no, Cond.code yX2_no cX2_no 2 (some .int), Cond.methodLink RX2 139 yX2_duesWith, Cond.instanceMethod yX2_duesWith, Cond.selects RX2 yX2_duesWith yX2_duesWith, Cond.code yX2_duesWith cX2_duesWith 3 (some .int), Cond.fieldLink RX2 17 "CanalCityModel" "ahead" "[I", Cond.methodLink RX2 133 arraycopyName, Cond.native arraycopyName, Cond.static arraycopyName, Cond.initialized "java/lang/System", Cond.methodLink RX2 100 yX2_look, Cond.instanceMethod yX2_look, Cond.selects RX2 yX2_look yX2_look, Cond.code yX2_look cX2_look 5 (some .int), Cond.fieldLink RX2 26 "CanalCityModel" "open" "[I"]
def wsX2_best_r2 : List Cond := [Cond.fieldLink RX2 41 "CanalCityModel" "steps" "[I", Cond.fieldLink RX2 23 "CanalCityModel" "quarter" "[I", Cond.fieldLink RX2 29 "CanalCityModel" "lots" "[I", Cond.fieldLink RX2 32 "CanalCityModel" "houses" "[I", Cond.fieldLink RX2 35 "CanalCityModel" "markets" "[I", Cond.fieldLink RX2 38 "CanalCityModel" "row" "[I", Cond.methodLink RX2 66 yX2_fill, Cond.instanceMethod yX2_fill, Cond.selects RX2 yX2_fill yX2_fill, Cond.code yX2_fill cX2_fill 8 (some .int), Cond.methodLink RX2 55 yX2_beside, Cond.static yX2_beside, Cond.code yX2_beside cX2_beside 4 (some .int), Cond.methodLink RX2 51 yX2_isPlace, Cond.static yX2_isPlace, Cond.code yX2_isPlace cX2_isPlace 2 (some .boolean), Cond.methodLink RX2 59 yX2_isLand, Cond.static yX2_isLand, Cond.code yX2_isLand cX2_isLand 1 (some .boolean), Cond.methodLink RX2 63 yX2_isWater, Cond.static yX2_isWater, Cond.code yX2_isWater cX2_isWater 1 (some .boolean), Cond.methodLink RX2 107 yX2_sum, Cond.instanceMethod yX2_sum]
def wsX2_best_r3 : List Cond := [Cond.selects RX2 yX2_sum yX2_sum, Cond.code yX2_sum cX2_sum 5 (some .int), Cond.methodLink RX2 87 yX2_dues, Cond.instanceMethod yX2_dues, Cond.selects RX2 yX2_dues yX2_dues, Cond.code yX2_dues cX2_dues 3 (some .int), Cond.methodLink RX2 82 Lib.Math.max.name, Cond.static Lib.Math.max.name, Cond.initialized "java/lang/Math", Cond.code Lib.Math.max.name Lib.Math.max.code 2 (some .int), Cond.methodLink RX2 78 yX2_complaints, Cond.instanceMethod yX2_complaints, Cond.selects RX2 yX2_complaints yX2_complaints, Cond.code yX2_complaints cX2_complaints 3 (some .int), Cond.methodLink RX2 70 yX2_besideOf, Cond.static yX2_besideOf, Cond.code yX2_besideOf cX2_besideOf 5 (some .int), Cond.methodLink RX2 74 yX2_isByBoat, Cond.instanceMethod yX2_isByBoat, Cond.selects RX2 yX2_isByBoat yX2_isByBoat, Cond.code yX2_isByBoat cX2_isByBoat 4 (some .boolean)]
def wsX2_best : List Cond := .code yX2_best cX2_best 6 (some .int) :: ((wsX2_best_r1 ++ (wsX2_best_r2 ++ wsX2_best_r3)) ++ wsX20)
def wsX2_mean_r1 : List Cond := [Cond.fieldLink RX2 44 "CanalCityModel" "thrown" "I", Cond.fieldLink RX2 13 "CanalCityModel" "kind" "[I", Cond.methodLink RX2 100 yX2_look, Cond.instanceMethod yX2_look, Cond.selects RX2 yX2_look yX2_look, Cond.initialized RX2, Cond.code yX2_look cX2_look 5 (some .int), Cond.fieldLink RX2 26 "CanalCityModel" "open" "[I", Cond.fieldLink RX2 41 "CanalCityModel" "steps" "[I", Cond.fieldLink RX2 23 "CanalCityModel" "quarter" "[I", Cond.fieldLink RX2 29 "CanalCityModel" "lots" "[I", Cond.fieldLink RX2 32 "CanalCityModel" "houses" "[I", Cond.fieldLink RX2 35 "CanalCityModel" "markets" "[I", Cond.fieldLink RX2 38 "CanalCityModel" "row" "[I", Cond.methodLink RX2 66 yX2_fill, Cond.instanceMethod yX2_fill, Cond.selects RX2 yX2_fill yX2_fill, Cond.code yX2_fill cX2_fill 8 (some .int), Cond.methodLink RX2 55 yX2_beside, Cond.static yX2_beside, Cond.code yX2_beside cX2_beside 4 (some .int), Cond.methodLink RX2 51 yX2_isPlace, Cond.static yX2_isPlace, Cond.code yX2_isPlace cX2_isPlace 2 (some .boolean)]
def wsX2_mean_r2 : List Cond := [Cond.methodLink RX2 47 yX2_isIn, Cond.static yX2_isIn, Cond.code yX2_isIn cX2_isIn 3 (some .boolean), Cond.methodLink RX2 59 yX2_isLand, Cond.static yX2_isLand, Cond.code yX2_isLand cX2_isLand 1 (some .boolean), Cond.methodLink RX2 63 yX2_isWater, Cond.static yX2_isWater, Cond.code yX2_isWater cX2_isWater 1 (some .boolean), Cond.methodLink RX2 111 yX2_many, Cond.static yX2_many, Cond.code yX2_many cX2_many 7 (some .int), Cond.methodLink RX2 107 yX2_sum, Cond.instanceMethod yX2_sum, Cond.selects RX2 yX2_sum yX2_sum, Cond.code yX2_sum cX2_sum 5 (some .int), Cond.methodLink RX2 87 yX2_dues, Cond.instanceMethod yX2_dues, Cond.selects RX2 yX2_dues yX2_dues, Cond.code yX2_dues cX2_dues 3 (some .int), Cond.methodLink RX2 82 Lib.Math.max.name, Cond.static Lib.Math.max.name, Cond.initialized "java/lang/Math", Cond.code Lib.Math.max.name Lib.Math.max.code 2 (some .int)]
def wsX2_mean_r3 : List Cond := [Cond.methodLink RX2 78 yX2_complaints, Cond.instanceMethod yX2_complaints, Cond.selects RX2 yX2_complaints yX2_complaints, Cond.code yX2_complaints cX2_complaints 3 (some .int), Cond.methodLink RX2 70 yX2_besideOf, Cond.static yX2_besideOf, Cond.code yX2_besideOf cX2_besideOf 5 (some .int), Cond.methodLink RX2 74 yX2_isByBoat, Cond.instanceMethod yX2_isByBoat, Cond.selects RX2 yX2_isByBoat yX2_isByBoat, Cond.code yX2_isByBoat cX2_isByBoat 4 (some .boolean)]
def wsX2_mean : List Cond := .code yX2_mean cX2_mean 2 (some .double) :: ((wsX2_mean_r1 ++ (wsX2_mean_r2 ++ wsX2_mean_r3)) ++ wsX20)
def wsX2_digest_r1 : List Cond := [Cond.fieldLink RX2 44 "CanalCityModel" "thrown" "I", Cond.constantLong RX2 142 (1409), Cond.constantLong RX2 144 (31), Cond.fieldLink RX2 13 "CanalCityModel" "kind" "[I", Cond.methodLink RX2 124 yX2_counted_, Cond.instanceMethod yX2_counted_, Cond.selects RX2 yX2_counted_ yX2_counted_, Cond.initialized RX2, Cond.code yX2_counted_ cX2_counted_ 2 (some .int), Cond.fieldLink RX2 114 "CanalCityModel" "month" "I", Cond.fieldLink RX2 7 "CanalCityModel" "coins" "I", Cond.fieldLink RX2 117 "CanalCityModel" "left" "I", Cond.methodLink RX2 120 yX2_counted, Cond.instanceMethod yX2_counted, Cond.selects RX2 yX2_counted yX2_counted, Cond.code yX2_counted cX2_counted 6 (some .int), Cond.methodLink RX2 100 yX2_look, Cond.instanceMethod yX2_look, Cond.selects RX2 yX2_look yX2_look, Cond.code yX2_look cX2_look 5 (some .int), Cond.fieldLink RX2 26 "CanalCityModel" "open" "[I", Cond.fieldLink RX2 41 "CanalCityModel" "steps" "[I", Cond.fieldLink RX2 23 "CanalCityModel" "quarter" "[I", Cond.fieldLink RX2 29 "CanalCityModel" "lots" "[I"]
def wsX2_digest_r2 : List Cond := [Cond.fieldLink RX2 32 "CanalCityModel" "houses" "[I", Cond.fieldLink RX2 35 "CanalCityModel" "markets" "[I", Cond.fieldLink RX2 38 "CanalCityModel" "row" "[I", Cond.methodLink RX2 66 yX2_fill, Cond.instanceMethod yX2_fill, Cond.selects RX2 yX2_fill yX2_fill, Cond.code yX2_fill cX2_fill 8 (some .int), Cond.methodLink RX2 55 yX2_beside, Cond.static yX2_beside, Cond.code yX2_beside cX2_beside 4 (some .int), Cond.methodLink RX2 51 yX2_isPlace, Cond.static yX2_isPlace, Cond.code yX2_isPlace cX2_isPlace 2 (some .boolean), Cond.methodLink RX2 47 yX2_isIn, Cond.static yX2_isIn, Cond.code yX2_isIn cX2_isIn 3 (some .boolean), Cond.methodLink RX2 59 yX2_isLand, Cond.static yX2_isLand, Cond.code yX2_isLand cX2_isLand 1 (some .boolean), Cond.methodLink RX2 63 yX2_isWater, Cond.static yX2_isWater, Cond.code yX2_isWater cX2_isWater 1 (some .boolean), Cond.methodLink RX2 107 yX2_sum, Cond.instanceMethod yX2_sum]
def wsX2_digest_r3 : List Cond := [Cond.selects RX2 yX2_sum yX2_sum, Cond.code yX2_sum cX2_sum 5 (some .int), Cond.methodLink RX2 87 yX2_dues, Cond.instanceMethod yX2_dues, Cond.selects RX2 yX2_dues yX2_dues, Cond.code yX2_dues cX2_dues 3 (some .int), Cond.methodLink RX2 82 Lib.Math.max.name, Cond.static Lib.Math.max.name, Cond.initialized "java/lang/Math", Cond.code Lib.Math.max.name Lib.Math.max.code 2 (some .int), Cond.methodLink RX2 78 yX2_complaints, Cond.instanceMethod yX2_complaints, Cond.selects RX2 yX2_complaints yX2_complaints, Cond.code yX2_complaints cX2_complaints 3 (some .int), Cond.methodLink RX2 70 yX2_besideOf, Cond.static yX2_besideOf, Cond.code yX2_besideOf cX2_besideOf 5 (some .int), Cond.methodLink RX2 74 yX2_isByBoat, Cond.instanceMethod yX2_isByBoat, Cond.selects RX2 yX2_isByBoat yX2_isByBoat, Cond.code yX2_isByBoat cX2_isByBoat 4 (some .boolean), Cond.methodLink RX2 111 yX2_many, Cond.static yX2_many, Cond.code yX2_many cX2_many 7 (some .int)]
def wsX2_digest_r4 : List Cond := [Cond.methodLink RX2 104 yX2_lotTold, Cond.instanceMethod yX2_lotTold, Cond.selects RX2 yX2_lotTold yX2_lotTold, Cond.code yX2_lotTold cX2_lotTold 4 (some .int)]
def wsX2_digest : List Cond := .code yX2_digest cX2_digest 5 (some .long) :: ((wsX2_digest_r1 ++ (wsX2_digest_r2 ++ (wsX2_digest_r3 ++ wsX2_digest_r4))) ++ wsX20)
def wsJ9_max_7cf53 : List Cond := .code yJ9_max_7cf53 cJ9_max_7cf53 2 (some .int) :: ([])
def wsL_drain_r1 : List Cond := [Cond.classLink RL 13 "java/lang/IndexOutOfBoundsException", Cond.classLink RL 15 "java/lang/IllegalStateException", Cond.methodLink RL 7 yX1_drain, Cond.instanceMethod yX1_drain, Cond.selects RX1 yX1_drain yX1_drain, Cond.initialized RX1, Cond.code yX1_drain cX1_drain 4 (some .int), Cond.classLink RX1 27 "java/lang/IllegalStateException", Cond.initialized "java/lang/IllegalStateException", Cond.fieldLink RX1 10 "CanalCity" "now" "LCanalCity$City;", Cond.methodLink RX1 19 yX1_checkedNumber, Cond.static yX1_checkedNumber, Cond.code yX1_checkedNumber cX1_checkedNumber 2 (some .int), Cond.classLink RX1 69 "java/lang/IndexOutOfBoundsException", Cond.initialized "java/lang/IndexOutOfBoundsException", Cond.methodLink RX1 34 yX1_checkCoins, Cond.instanceMethod yX1_checkCoins, Cond.selects RX1 yX1_checkCoins yX1_checkCoins, Cond.code yX1_checkCoins cX1_checkCoins 2 none, Cond.methodLink RX1 38 yX0_buy, Cond.instanceMethod yX0_buy, Cond.selects RX0 yX0_buy yX0_buy, Cond.initialized RX0, Cond.code yX0_buy cX0_buy 4 none]
def wsL_drain_r2 : List Cond := [Cond.fieldLink RX0 15 "CanalCity$City" "coins" "I", Cond.methodLink RX0 55 yX0_change, Cond.instanceMethod yX0_change, Cond.selects RX0 yX0_change yX0_change, Cond.code yX0_change cX0_change 3 none, Cond.fieldLink RX0 21 "CanalCity$City" "kinds" "[I", Cond.methodLink RX0 52 yX0_survey, Cond.instanceMethod yX0_survey, Cond.selects RX0 yX0_survey yX0_survey, Cond.code yX0_survey cX0_survey 2 none, Cond.fieldLink RX0 37 "CanalCity$City" "boatSteps" "[I", Cond.fieldLink RX0 40 "CanalCity$City" "complaints" "[I", Cond.fieldLink RX0 43 "CanalCity$City" "dues" "[I", Cond.methodLink RX0 77 yX0_surveyQuarters, Cond.instanceMethod yX0_surveyQuarters, Cond.selects RX0 yX0_surveyQuarters yX0_surveyQuarters, Cond.code yX0_surveyQuarters cX0_surveyQuarters 2 none, Cond.fieldLink RX0 25 "CanalCity$City" "quarters" "[I", Cond.fieldLink RX0 28 "CanalCity$City" "lotsOf" "[I", Cond.fieldLink RX0 31 "CanalCity$City" "housesOf" "[I", Cond.fieldLink RX0 34 "CanalCity$City" "marketsOf" "[I", Cond.methodLink RX0 80 yX0_clear, Cond.static yX0_clear, Cond.code yX0_clear cX0_clear 3 none]
def wsL_drain_r3 : List Cond := [Cond.static yX1_isLand, Cond.code yX1_isLand cX1_isLand 1 (some .boolean), Cond.methodLink RX0 87 yX0_spread, Cond.instanceMethod yX0_spread, Cond.selects RX0 yX0_spread yX0_spread, Cond.code yX0_spread cX0_spread 11 none, Cond.fieldLink RX0 49 "CanalCity$City" "waiting" "[I", Cond.static yX1_isLot, Cond.code yX1_isLot cX1_isLot 1 (some .boolean), Cond.static yX1_neighbour, Cond.code yX1_neighbour cX1_neighbour 4 (some .int), Cond.static yX1_isWater, Cond.code yX1_isWater cX1_isWater 1 (some .boolean), Cond.methodLink RX0 101 yX0_enter, Cond.instanceMethod yX0_enter, Cond.selects RX0 yX0_enter yX0_enter, Cond.code yX0_enter cX0_enter 3 none, Cond.methodLink RX0 91 yX0_complaintsAt, Cond.instanceMethod yX0_complaintsAt, Cond.selects RX0 yX0_complaintsAt yX0_complaintsAt, Cond.code yX0_complaintsAt cX0_complaintsAt 4 (some .int), Cond.methodLink RX0 107 yX0_marketsInQuarter, Cond.instanceMethod yX0_marketsInQuarter, Cond.selects RX0 yX0_marketsInQuarter yX0_marketsInQuarter]
def wsL_drain_r4 : List Cond := [Cond.code yX0_marketsInQuarter cX0_marketsInQuarter 3 (some .int), Cond.methodLink RX0 110 yX0_isByBoat, Cond.instanceMethod yX0_isByBoat, Cond.selects RX0 yX0_isByBoat yX0_isByBoat, Cond.code yX0_isByBoat cX0_isByBoat 5 (some .boolean), Cond.methodLink RX0 121 yX0_isOpenWater, Cond.instanceMethod yX0_isOpenWater, Cond.selects RX0 yX0_isOpenWater yX0_isOpenWater, Cond.code yX0_isOpenWater cX0_isOpenWater 2 (some .boolean), Cond.methodLink RX0 69 yX0_neighboursOfKind, Cond.instanceMethod yX0_neighboursOfKind, Cond.selects RX0 yX0_neighboursOfKind yX0_neighboursOfKind, Cond.code yX0_neighboursOfKind cX0_neighboursOfKind 6 (some .int), Cond.methodLink RX0 95 yX0_duesAt, Cond.instanceMethod yX0_duesAt, Cond.selects RX0 yX0_duesAt yX0_duesAt, Cond.code yX0_duesAt cX0_duesAt 2 (some .int), Cond.methodLink RX0 113 Lib.Math.max.name, Cond.static Lib.Math.max.name, Cond.initialized "java/lang/Math", Cond.code Lib.Math.max.name Lib.Math.max.code 2 (some .int), Cond.methodLink RX0 118 yX0_housesInQuarter, Cond.instanceMethod yX0_housesInQuarter, Cond.selects RX0 yX0_housesInQuarter yX0_housesInQuarter]
def wsL_drain_r5 : List Cond := [Cond.code yX0_housesInQuarter cX0_housesInQuarter 3 (some .int)]
def wsL_drain : List Cond := .codeWith yL_drain cL_drain 5 (some .int) [(0, 10, 13, 13), (0, 10, 17, 15)] :: ((wsL_drain_r1 ++ (wsL_drain_r2 ++ (wsL_drain_r3 ++ (wsL_drain_r4 ++ wsL_drain_r5)))) ++ wsX10 ++ wsX00 ++ (vx_atS RX1 31 "java/lang/IllegalStateException" ["java/lang/RuntimeException", "java/lang/Exception"]).filter goodWord ++ (vx_atS RX1 73 "java/lang/IndexOutOfBoundsException" ["java/lang/RuntimeException", "java/lang/Exception"]).filter goodWord)
def wsL_dig_r1 : List Cond := [Cond.classLink RL 13 "java/lang/IndexOutOfBoundsException", Cond.classLink RL 15 "java/lang/IllegalStateException", Cond.methodLink RL 17 yX1_dig, Cond.instanceMethod yX1_dig, Cond.selects RX1 yX1_dig yX1_dig, Cond.initialized RX1, Cond.code yX1_dig cX1_dig 5 (some .int), Cond.classLink RX1 27 "java/lang/IllegalStateException", Cond.initialized "java/lang/IllegalStateException", Cond.fieldLink RX1 10 "CanalCity" "now" "LCanalCity$City;", Cond.methodLink RX1 19 yX1_checkedNumber, Cond.static yX1_checkedNumber, Cond.code yX1_checkedNumber cX1_checkedNumber 2 (some .int), Cond.classLink RX1 69 "java/lang/IndexOutOfBoundsException", Cond.initialized "java/lang/IndexOutOfBoundsException", Cond.methodLink RX1 34 yX1_checkCoins, Cond.instanceMethod yX1_checkCoins, Cond.selects RX1 yX1_checkCoins yX1_checkCoins, Cond.code yX1_checkCoins cX1_checkCoins 2 none, Cond.methodLink RX1 38 yX0_buy, Cond.instanceMethod yX0_buy, Cond.selects RX0 yX0_buy yX0_buy, Cond.initialized RX0, Cond.code yX0_buy cX0_buy 4 none]
def wsL_dig_r2 : List Cond := [Cond.fieldLink RX0 15 "CanalCity$City" "coins" "I", Cond.methodLink RX0 55 yX0_change, Cond.instanceMethod yX0_change, Cond.selects RX0 yX0_change yX0_change, Cond.code yX0_change cX0_change 3 none, Cond.fieldLink RX0 21 "CanalCity$City" "kinds" "[I", Cond.methodLink RX0 52 yX0_survey, Cond.instanceMethod yX0_survey, Cond.selects RX0 yX0_survey yX0_survey, Cond.code yX0_survey cX0_survey 2 none, Cond.fieldLink RX0 37 "CanalCity$City" "boatSteps" "[I", Cond.fieldLink RX0 40 "CanalCity$City" "complaints" "[I", Cond.fieldLink RX0 43 "CanalCity$City" "dues" "[I", Cond.methodLink RX0 77 yX0_surveyQuarters, Cond.instanceMethod yX0_surveyQuarters, Cond.selects RX0 yX0_surveyQuarters yX0_surveyQuarters, Cond.code yX0_surveyQuarters cX0_surveyQuarters 2 none, Cond.fieldLink RX0 25 "CanalCity$City" "quarters" "[I", Cond.fieldLink RX0 28 "CanalCity$City" "lotsOf" "[I", Cond.fieldLink RX0 31 "CanalCity$City" "housesOf" "[I", Cond.fieldLink RX0 34 "CanalCity$City" "marketsOf" "[I", Cond.methodLink RX0 80 yX0_clear, Cond.static yX0_clear, Cond.code yX0_clear cX0_clear 3 none]
def wsL_dig_r3 : List Cond := [Cond.static yX1_isLand, Cond.code yX1_isLand cX1_isLand 1 (some .boolean), Cond.methodLink RX0 87 yX0_spread, Cond.instanceMethod yX0_spread, Cond.selects RX0 yX0_spread yX0_spread, Cond.code yX0_spread cX0_spread 11 none, Cond.fieldLink RX0 49 "CanalCity$City" "waiting" "[I", Cond.static yX1_isLot, Cond.code yX1_isLot cX1_isLot 1 (some .boolean), Cond.static yX1_neighbour, Cond.code yX1_neighbour cX1_neighbour 4 (some .int), Cond.static yX1_isWater, Cond.code yX1_isWater cX1_isWater 1 (some .boolean), Cond.methodLink RX0 101 yX0_enter, Cond.instanceMethod yX0_enter, Cond.selects RX0 yX0_enter yX0_enter, Cond.code yX0_enter cX0_enter 3 none, Cond.methodLink RX0 91 yX0_complaintsAt, Cond.instanceMethod yX0_complaintsAt, Cond.selects RX0 yX0_complaintsAt yX0_complaintsAt, Cond.code yX0_complaintsAt cX0_complaintsAt 4 (some .int), Cond.methodLink RX0 107 yX0_marketsInQuarter, Cond.instanceMethod yX0_marketsInQuarter, Cond.selects RX0 yX0_marketsInQuarter yX0_marketsInQuarter]
def wsL_dig_r4 : List Cond := [Cond.code yX0_marketsInQuarter cX0_marketsInQuarter 3 (some .int), Cond.methodLink RX0 110 yX0_isByBoat, Cond.instanceMethod yX0_isByBoat, Cond.selects RX0 yX0_isByBoat yX0_isByBoat, Cond.code yX0_isByBoat cX0_isByBoat 5 (some .boolean), Cond.methodLink RX0 121 yX0_isOpenWater, Cond.instanceMethod yX0_isOpenWater, Cond.selects RX0 yX0_isOpenWater yX0_isOpenWater, Cond.code yX0_isOpenWater cX0_isOpenWater 2 (some .boolean), Cond.methodLink RX0 69 yX0_neighboursOfKind, Cond.instanceMethod yX0_neighboursOfKind, Cond.selects RX0 yX0_neighboursOfKind yX0_neighboursOfKind, Cond.code yX0_neighboursOfKind cX0_neighboursOfKind 6 (some .int), Cond.methodLink RX0 95 yX0_duesAt, Cond.instanceMethod yX0_duesAt, Cond.selects RX0 yX0_duesAt yX0_duesAt, Cond.code yX0_duesAt cX0_duesAt 2 (some .int), Cond.methodLink RX0 113 Lib.Math.max.name, Cond.static Lib.Math.max.name, Cond.initialized "java/lang/Math", Cond.code Lib.Math.max.name Lib.Math.max.code 2 (some .int), Cond.methodLink RX0 118 yX0_housesInQuarter, Cond.instanceMethod yX0_housesInQuarter, Cond.selects RX0 yX0_housesInQuarter yX0_housesInQuarter]
def wsL_dig_r5 : List Cond := [Cond.code yX0_housesInQuarter cX0_housesInQuarter 3 (some .int)]
def wsL_dig : List Cond := .codeWith yL_dig cL_dig 5 (some .int) [(0, 10, 13, 13), (0, 10, 17, 15)] :: ((wsL_dig_r1 ++ (wsL_dig_r2 ++ (wsL_dig_r3 ++ (wsL_dig_r4 ++ wsL_dig_r5)))) ++ wsX10 ++ wsX00 ++ (vx_atS RX1 31 "java/lang/IllegalStateException" ["java/lang/RuntimeException", "java/lang/Exception"]).filter goodWord ++ (vx_atS RX1 73 "java/lang/IndexOutOfBoundsException" ["java/lang/RuntimeException", "java/lang/Exception"]).filter goodWord)
def wsL_build_r1 : List Cond := [Cond.classLink RL 13 "java/lang/IndexOutOfBoundsException", Cond.classLink RL 24 "java/lang/IllegalArgumentException", Cond.classLink RL 15 "java/lang/IllegalStateException", Cond.methodLink RL 20 yX1_build, Cond.instanceMethod yX1_build, Cond.selects RX1 yX1_build yX1_build, Cond.initialized RX1, Cond.code yX1_build cX1_build 6 (some .int), Cond.fieldLink RX1 10 "CanalCity" "now" "LCanalCity$City;", Cond.methodLink RX1 19 yX1_checkedNumber, Cond.static yX1_checkedNumber, Cond.code yX1_checkedNumber cX1_checkedNumber 2 (some .int), Cond.classLink RX1 69 "java/lang/IndexOutOfBoundsException", Cond.initialized "java/lang/IndexOutOfBoundsException", Cond.methodLink RX1 48 yX1_checkBuilding, Cond.static yX1_checkBuilding, Cond.code yX1_checkBuilding cX1_checkBuilding 1 none, Cond.classLink RX1 141 "java/lang/IllegalArgumentException", Cond.initialized "java/lang/IllegalArgumentException", Cond.methodLink RX1 51 yX1_checkDrained, Cond.instanceMethod yX1_checkDrained, Cond.selects RX1 yX1_checkDrained yX1_checkDrained, Cond.code yX1_checkDrained cX1_checkDrained 2 none, Cond.classLink RX1 27 "java/lang/IllegalStateException"]
def wsL_build_r2 : List Cond := [Cond.initialized "java/lang/IllegalStateException", Cond.methodLink RX1 54 yX1_costOf, Cond.static yX1_costOf, Cond.code yX1_costOf cX1_costOf 1 (some .int), Cond.methodLink RX1 34 yX1_checkCoins, Cond.instanceMethod yX1_checkCoins, Cond.selects RX1 yX1_checkCoins yX1_checkCoins, Cond.code yX1_checkCoins cX1_checkCoins 2 none, Cond.methodLink RX1 38 yX0_buy, Cond.instanceMethod yX0_buy, Cond.selects RX0 yX0_buy yX0_buy, Cond.initialized RX0, Cond.code yX0_buy cX0_buy 4 none, Cond.fieldLink RX0 15 "CanalCity$City" "coins" "I", Cond.methodLink RX0 55 yX0_change, Cond.instanceMethod yX0_change, Cond.selects RX0 yX0_change yX0_change, Cond.code yX0_change cX0_change 3 none, Cond.fieldLink RX0 21 "CanalCity$City" "kinds" "[I", Cond.methodLink RX0 52 yX0_survey, Cond.instanceMethod yX0_survey, Cond.selects RX0 yX0_survey yX0_survey, Cond.code yX0_survey cX0_survey 2 none, Cond.fieldLink RX0 37 "CanalCity$City" "boatSteps" "[I"]
def wsL_build_r3 : List Cond := [Cond.fieldLink RX0 40 "CanalCity$City" "complaints" "[I", Cond.fieldLink RX0 43 "CanalCity$City" "dues" "[I", Cond.methodLink RX0 77 yX0_surveyQuarters, Cond.instanceMethod yX0_surveyQuarters, Cond.selects RX0 yX0_surveyQuarters yX0_surveyQuarters, Cond.code yX0_surveyQuarters cX0_surveyQuarters 2 none, Cond.fieldLink RX0 25 "CanalCity$City" "quarters" "[I", Cond.fieldLink RX0 28 "CanalCity$City" "lotsOf" "[I", Cond.fieldLink RX0 31 "CanalCity$City" "housesOf" "[I", Cond.fieldLink RX0 34 "CanalCity$City" "marketsOf" "[I", Cond.methodLink RX0 80 yX0_clear, Cond.static yX0_clear, Cond.code yX0_clear cX0_clear 3 none, Cond.static yX1_isLand, Cond.code yX1_isLand cX1_isLand 1 (some .boolean), Cond.methodLink RX0 87 yX0_spread, Cond.instanceMethod yX0_spread, Cond.selects RX0 yX0_spread yX0_spread, Cond.code yX0_spread cX0_spread 11 none, Cond.fieldLink RX0 49 "CanalCity$City" "waiting" "[I", Cond.static yX1_isLot, Cond.code yX1_isLot cX1_isLot 1 (some .boolean), Cond.static yX1_neighbour, Cond.code yX1_neighbour cX1_neighbour 4 (some .int)]
def wsL_build_r4 : List Cond := [Cond.static yX1_isWater, Cond.code yX1_isWater cX1_isWater 1 (some .boolean), Cond.methodLink RX0 101 yX0_enter, Cond.instanceMethod yX0_enter, Cond.selects RX0 yX0_enter yX0_enter, Cond.code yX0_enter cX0_enter 3 none, Cond.methodLink RX0 91 yX0_complaintsAt, Cond.instanceMethod yX0_complaintsAt, Cond.selects RX0 yX0_complaintsAt yX0_complaintsAt, Cond.code yX0_complaintsAt cX0_complaintsAt 4 (some .int), Cond.methodLink RX0 107 yX0_marketsInQuarter, Cond.instanceMethod yX0_marketsInQuarter, Cond.selects RX0 yX0_marketsInQuarter yX0_marketsInQuarter, Cond.code yX0_marketsInQuarter cX0_marketsInQuarter 3 (some .int), Cond.methodLink RX0 110 yX0_isByBoat, Cond.instanceMethod yX0_isByBoat, Cond.selects RX0 yX0_isByBoat yX0_isByBoat, Cond.code yX0_isByBoat cX0_isByBoat 5 (some .boolean), Cond.methodLink RX0 121 yX0_isOpenWater, Cond.instanceMethod yX0_isOpenWater, Cond.selects RX0 yX0_isOpenWater yX0_isOpenWater, Cond.code yX0_isOpenWater cX0_isOpenWater 2 (some .boolean), Cond.methodLink RX0 69 yX0_neighboursOfKind, Cond.instanceMethod yX0_neighboursOfKind]
def wsL_build_r5 : List Cond := [Cond.selects RX0 yX0_neighboursOfKind yX0_neighboursOfKind, Cond.code yX0_neighboursOfKind cX0_neighboursOfKind 6 (some .int), Cond.methodLink RX0 95 yX0_duesAt, Cond.instanceMethod yX0_duesAt, Cond.selects RX0 yX0_duesAt yX0_duesAt, Cond.code yX0_duesAt cX0_duesAt 2 (some .int), Cond.methodLink RX0 113 Lib.Math.max.name, Cond.static Lib.Math.max.name, Cond.initialized "java/lang/Math", Cond.code Lib.Math.max.name Lib.Math.max.code 2 (some .int), Cond.methodLink RX0 118 yX0_housesInQuarter, Cond.instanceMethod yX0_housesInQuarter, Cond.selects RX0 yX0_housesInQuarter yX0_housesInQuarter, Cond.code yX0_housesInQuarter cX0_housesInQuarter 3 (some .int)]
def wsL_build : List Cond := .codeWith yL_build cL_build 6 (some .int) [(0, 12, 15, 13), (0, 12, 19, 24), (0, 12, 23, 15)] :: ((wsL_build_r1 ++ (wsL_build_r2 ++ (wsL_build_r3 ++ (wsL_build_r4 ++ wsL_build_r5)))) ++ wsX10 ++ wsX00 ++ (vx_atS RX1 73 "java/lang/IndexOutOfBoundsException" ["java/lang/RuntimeException", "java/lang/Exception"]).filter goodWord ++ (vx_atS RX1 145 "java/lang/IllegalArgumentException" ["java/lang/RuntimeException", "java/lang/Exception"]).filter goodWord ++ (vx_atS RX1 31 "java/lang/IllegalStateException" ["java/lang/RuntimeException", "java/lang/Exception"]).filter goodWord)
def wsL_bridge_r1 : List Cond := [Cond.classLink RL 13 "java/lang/IndexOutOfBoundsException", Cond.classLink RL 15 "java/lang/IllegalStateException", Cond.methodLink RL 26 yX1_bridge, Cond.instanceMethod yX1_bridge, Cond.selects RX1 yX1_bridge yX1_bridge, Cond.initialized RX1, Cond.code yX1_bridge cX1_bridge 4 (some .int), Cond.classLink RX1 27 "java/lang/IllegalStateException", Cond.initialized "java/lang/IllegalStateException", Cond.fieldLink RX1 10 "CanalCity" "now" "LCanalCity$City;", Cond.methodLink RX1 19 yX1_checkedNumber, Cond.static yX1_checkedNumber, Cond.code yX1_checkedNumber cX1_checkedNumber 2 (some .int), Cond.classLink RX1 69 "java/lang/IndexOutOfBoundsException", Cond.initialized "java/lang/IndexOutOfBoundsException", Cond.methodLink RX1 34 yX1_checkCoins, Cond.instanceMethod yX1_checkCoins, Cond.selects RX1 yX1_checkCoins yX1_checkCoins, Cond.code yX1_checkCoins cX1_checkCoins 2 none, Cond.methodLink RX1 38 yX0_buy, Cond.instanceMethod yX0_buy, Cond.selects RX0 yX0_buy yX0_buy, Cond.initialized RX0, Cond.code yX0_buy cX0_buy 4 none]
def wsL_bridge_r2 : List Cond := [Cond.fieldLink RX0 15 "CanalCity$City" "coins" "I", Cond.methodLink RX0 55 yX0_change, Cond.instanceMethod yX0_change, Cond.selects RX0 yX0_change yX0_change, Cond.code yX0_change cX0_change 3 none, Cond.fieldLink RX0 21 "CanalCity$City" "kinds" "[I", Cond.methodLink RX0 52 yX0_survey, Cond.instanceMethod yX0_survey, Cond.selects RX0 yX0_survey yX0_survey, Cond.code yX0_survey cX0_survey 2 none, Cond.fieldLink RX0 37 "CanalCity$City" "boatSteps" "[I", Cond.fieldLink RX0 40 "CanalCity$City" "complaints" "[I", Cond.fieldLink RX0 43 "CanalCity$City" "dues" "[I", Cond.methodLink RX0 77 yX0_surveyQuarters, Cond.instanceMethod yX0_surveyQuarters, Cond.selects RX0 yX0_surveyQuarters yX0_surveyQuarters, Cond.code yX0_surveyQuarters cX0_surveyQuarters 2 none, Cond.fieldLink RX0 25 "CanalCity$City" "quarters" "[I", Cond.fieldLink RX0 28 "CanalCity$City" "lotsOf" "[I", Cond.fieldLink RX0 31 "CanalCity$City" "housesOf" "[I", Cond.fieldLink RX0 34 "CanalCity$City" "marketsOf" "[I", Cond.methodLink RX0 80 yX0_clear, Cond.static yX0_clear, Cond.code yX0_clear cX0_clear 3 none]
def wsL_bridge_r3 : List Cond := [Cond.static yX1_isLand, Cond.code yX1_isLand cX1_isLand 1 (some .boolean), Cond.methodLink RX0 87 yX0_spread, Cond.instanceMethod yX0_spread, Cond.selects RX0 yX0_spread yX0_spread, Cond.code yX0_spread cX0_spread 11 none, Cond.fieldLink RX0 49 "CanalCity$City" "waiting" "[I", Cond.static yX1_isLot, Cond.code yX1_isLot cX1_isLot 1 (some .boolean), Cond.static yX1_neighbour, Cond.code yX1_neighbour cX1_neighbour 4 (some .int), Cond.static yX1_isWater, Cond.code yX1_isWater cX1_isWater 1 (some .boolean), Cond.methodLink RX0 101 yX0_enter, Cond.instanceMethod yX0_enter, Cond.selects RX0 yX0_enter yX0_enter, Cond.code yX0_enter cX0_enter 3 none, Cond.methodLink RX0 91 yX0_complaintsAt, Cond.instanceMethod yX0_complaintsAt, Cond.selects RX0 yX0_complaintsAt yX0_complaintsAt, Cond.code yX0_complaintsAt cX0_complaintsAt 4 (some .int), Cond.methodLink RX0 107 yX0_marketsInQuarter, Cond.instanceMethod yX0_marketsInQuarter, Cond.selects RX0 yX0_marketsInQuarter yX0_marketsInQuarter]
def wsL_bridge_r4 : List Cond := [Cond.code yX0_marketsInQuarter cX0_marketsInQuarter 3 (some .int), Cond.methodLink RX0 110 yX0_isByBoat, Cond.instanceMethod yX0_isByBoat, Cond.selects RX0 yX0_isByBoat yX0_isByBoat, Cond.code yX0_isByBoat cX0_isByBoat 5 (some .boolean), Cond.methodLink RX0 121 yX0_isOpenWater, Cond.instanceMethod yX0_isOpenWater, Cond.selects RX0 yX0_isOpenWater yX0_isOpenWater, Cond.code yX0_isOpenWater cX0_isOpenWater 2 (some .boolean), Cond.methodLink RX0 69 yX0_neighboursOfKind, Cond.instanceMethod yX0_neighboursOfKind, Cond.selects RX0 yX0_neighboursOfKind yX0_neighboursOfKind, Cond.code yX0_neighboursOfKind cX0_neighboursOfKind 6 (some .int), Cond.methodLink RX0 95 yX0_duesAt, Cond.instanceMethod yX0_duesAt, Cond.selects RX0 yX0_duesAt yX0_duesAt, Cond.code yX0_duesAt cX0_duesAt 2 (some .int), Cond.methodLink RX0 113 Lib.Math.max.name, Cond.static Lib.Math.max.name, Cond.initialized "java/lang/Math", Cond.code Lib.Math.max.name Lib.Math.max.code 2 (some .int), Cond.methodLink RX0 118 yX0_housesInQuarter, Cond.instanceMethod yX0_housesInQuarter, Cond.selects RX0 yX0_housesInQuarter yX0_housesInQuarter]
def wsL_bridge_r5 : List Cond := [Cond.code yX0_housesInQuarter cX0_housesInQuarter 3 (some .int), Cond.methodLink RX1 60 yX0_lotsOfQuarter, Cond.instanceMethod yX0_lotsOfQuarter, Cond.selects RX0 yX0_lotsOfQuarter yX0_lotsOfQuarter, Cond.code yX0_lotsOfQuarter cX0_lotsOfQuarter 3 (some .int)]
def wsL_bridge : List Cond := .codeWith yL_bridge cL_bridge 5 (some .int) [(0, 10, 13, 13), (0, 10, 17, 15)] :: ((wsL_bridge_r1 ++ (wsL_bridge_r2 ++ (wsL_bridge_r3 ++ (wsL_bridge_r4 ++ wsL_bridge_r5)))) ++ wsX10 ++ wsX00 ++ (vx_atS RX1 31 "java/lang/IllegalStateException" ["java/lang/RuntimeException", "java/lang/Exception"]).filter goodWord ++ (vx_atS RX1 73 "java/lang/IndexOutOfBoundsException" ["java/lang/RuntimeException", "java/lang/Exception"]).filter goodWord)
def wsL_raze_r1 : List Cond := [Cond.classLink RL 13 "java/lang/IndexOutOfBoundsException", Cond.classLink RL 15 "java/lang/IllegalStateException", Cond.methodLink RL 29 yX1_raze, Cond.instanceMethod yX1_raze, Cond.selects RX1 yX1_raze yX1_raze, Cond.initialized RX1, Cond.code yX1_raze cX1_raze 5 (some .int), Cond.classLink RX1 27 "java/lang/IllegalStateException", Cond.initialized "java/lang/IllegalStateException", Cond.fieldLink RX1 10 "CanalCity" "now" "LCanalCity$City;", Cond.methodLink RX1 19 yX1_checkedNumber, Cond.static yX1_checkedNumber, Cond.code yX1_checkedNumber cX1_checkedNumber 2 (some .int), Cond.classLink RX1 69 "java/lang/IndexOutOfBoundsException", Cond.initialized "java/lang/IndexOutOfBoundsException", Cond.methodLink RX1 65 yX0_change, Cond.instanceMethod yX0_change, Cond.selects RX0 yX0_change yX0_change, Cond.initialized RX0, Cond.code yX0_change cX0_change 3 none, Cond.fieldLink RX0 21 "CanalCity$City" "kinds" "[I", Cond.methodLink RX0 52 yX0_survey, Cond.instanceMethod yX0_survey, Cond.selects RX0 yX0_survey yX0_survey]
def wsL_raze_r2 : List Cond := [Cond.code yX0_survey cX0_survey 2 none, Cond.fieldLink RX0 37 "CanalCity$City" "boatSteps" "[I", Cond.fieldLink RX0 40 "CanalCity$City" "complaints" "[I", Cond.fieldLink RX0 43 "CanalCity$City" "dues" "[I", Cond.methodLink RX0 77 yX0_surveyQuarters, Cond.instanceMethod yX0_surveyQuarters, Cond.selects RX0 yX0_surveyQuarters yX0_surveyQuarters, Cond.code yX0_surveyQuarters cX0_surveyQuarters 2 none, Cond.fieldLink RX0 25 "CanalCity$City" "quarters" "[I", Cond.fieldLink RX0 28 "CanalCity$City" "lotsOf" "[I", Cond.fieldLink RX0 31 "CanalCity$City" "housesOf" "[I", Cond.fieldLink RX0 34 "CanalCity$City" "marketsOf" "[I", Cond.methodLink RX0 80 yX0_clear, Cond.static yX0_clear, Cond.code yX0_clear cX0_clear 3 none, Cond.static yX1_isLand, Cond.code yX1_isLand cX1_isLand 1 (some .boolean), Cond.methodLink RX0 87 yX0_spread, Cond.instanceMethod yX0_spread, Cond.selects RX0 yX0_spread yX0_spread, Cond.code yX0_spread cX0_spread 11 none, Cond.fieldLink RX0 49 "CanalCity$City" "waiting" "[I", Cond.static yX1_isLot, Cond.code yX1_isLot cX1_isLot 1 (some .boolean)]
def wsL_raze_r3 : List Cond := [Cond.static yX1_neighbour, Cond.code yX1_neighbour cX1_neighbour 4 (some .int), Cond.static yX1_isWater, Cond.code yX1_isWater cX1_isWater 1 (some .boolean), Cond.methodLink RX0 101 yX0_enter, Cond.instanceMethod yX0_enter, Cond.selects RX0 yX0_enter yX0_enter, Cond.code yX0_enter cX0_enter 3 none, Cond.methodLink RX0 91 yX0_complaintsAt, Cond.instanceMethod yX0_complaintsAt, Cond.selects RX0 yX0_complaintsAt yX0_complaintsAt, Cond.code yX0_complaintsAt cX0_complaintsAt 4 (some .int), Cond.methodLink RX0 107 yX0_marketsInQuarter, Cond.instanceMethod yX0_marketsInQuarter, Cond.selects RX0 yX0_marketsInQuarter yX0_marketsInQuarter, Cond.code yX0_marketsInQuarter cX0_marketsInQuarter 3 (some .int), Cond.methodLink RX0 110 yX0_isByBoat, Cond.instanceMethod yX0_isByBoat, Cond.selects RX0 yX0_isByBoat yX0_isByBoat, Cond.code yX0_isByBoat cX0_isByBoat 5 (some .boolean), Cond.methodLink RX0 121 yX0_isOpenWater, Cond.instanceMethod yX0_isOpenWater, Cond.selects RX0 yX0_isOpenWater yX0_isOpenWater, Cond.code yX0_isOpenWater cX0_isOpenWater 2 (some .boolean)]
def wsL_raze_r4 : List Cond := [Cond.methodLink RX0 69 yX0_neighboursOfKind, Cond.instanceMethod yX0_neighboursOfKind, Cond.selects RX0 yX0_neighboursOfKind yX0_neighboursOfKind, Cond.code yX0_neighboursOfKind cX0_neighboursOfKind 6 (some .int), Cond.methodLink RX0 95 yX0_duesAt, Cond.instanceMethod yX0_duesAt, Cond.selects RX0 yX0_duesAt yX0_duesAt, Cond.code yX0_duesAt cX0_duesAt 2 (some .int), Cond.methodLink RX0 113 Lib.Math.max.name, Cond.static Lib.Math.max.name, Cond.initialized "java/lang/Math", Cond.code Lib.Math.max.name Lib.Math.max.code 2 (some .int), Cond.methodLink RX0 118 yX0_housesInQuarter, Cond.instanceMethod yX0_housesInQuarter, Cond.selects RX0 yX0_housesInQuarter yX0_housesInQuarter, Cond.code yX0_housesInQuarter cX0_housesInQuarter 3 (some .int)]
def wsL_raze : List Cond := .codeWith yL_raze cL_raze 5 (some .int) [(0, 10, 13, 13), (0, 10, 17, 15)] :: ((wsL_raze_r1 ++ (wsL_raze_r2 ++ (wsL_raze_r3 ++ wsL_raze_r4))) ++ wsX10 ++ wsX00 ++ (vx_atS RX1 31 "java/lang/IllegalStateException" ["java/lang/RuntimeException", "java/lang/Exception"]).filter goodWord ++ (vx_atS RX1 73 "java/lang/IndexOutOfBoundsException" ["java/lang/RuntimeException", "java/lang/Exception"]).filter goodWord)
def wsL_lot_r1 : List Cond := [Cond.classLink RL 13 "java/lang/IndexOutOfBoundsException", Cond.methodLink RL 32 yX1_lot, Cond.instanceMethod yX1_lot, Cond.selects RX1 yX1_lot yX1_lot, Cond.initialized RX1, Cond.code yX1_lot cX1_lot 5 (some .int), Cond.classLink RX1 69 "java/lang/IndexOutOfBoundsException", Cond.initialized "java/lang/IndexOutOfBoundsException", Cond.fieldLink RX1 10 "CanalCity" "now" "LCanalCity$City;", Cond.methodLink RX1 19 yX1_checkedNumber, Cond.static yX1_checkedNumber, Cond.code yX1_checkedNumber cX1_checkedNumber 2 (some .int), Cond.methodLink RX1 74 yX0_factOf, Cond.instanceMethod yX0_factOf, Cond.selects RX0 yX0_factOf yX0_factOf, Cond.initialized RX0, Cond.code yX0_factOf cX0_factOf 3 (some .int), Cond.fieldLink RX0 21 "CanalCity$City" "kinds" "[I", Cond.fieldLink RX0 25 "CanalCity$City" "quarters" "[I", Cond.fieldLink RX0 40 "CanalCity$City" "complaints" "[I", Cond.fieldLink RX0 43 "CanalCity$City" "dues" "[I", Cond.methodLink RX0 124 yX0_lotsOfQuarter, Cond.instanceMethod yX0_lotsOfQuarter, Cond.selects RX0 yX0_lotsOfQuarter yX0_lotsOfQuarter]
def wsL_lot_r2 : List Cond := [Cond.code yX0_lotsOfQuarter cX0_lotsOfQuarter 3 (some .int), Cond.fieldLink RX0 28 "CanalCity$City" "lotsOf" "[I", Cond.static yX1_isLot, Cond.code yX1_isLot cX1_isLot 1 (some .boolean), Cond.methodLink RX0 110 yX0_isByBoat, Cond.instanceMethod yX0_isByBoat, Cond.selects RX0 yX0_isByBoat yX0_isByBoat, Cond.code yX0_isByBoat cX0_isByBoat 5 (some .boolean), Cond.static yX1_isLand, Cond.code yX1_isLand cX1_isLand 1 (some .boolean), Cond.static yX1_neighbour, Cond.code yX1_neighbour cX1_neighbour 4 (some .int), Cond.methodLink RX0 121 yX0_isOpenWater, Cond.instanceMethod yX0_isOpenWater, Cond.selects RX0 yX0_isOpenWater yX0_isOpenWater, Cond.code yX0_isOpenWater cX0_isOpenWater 2 (some .boolean), Cond.fieldLink RX0 37 "CanalCity$City" "boatSteps" "[I"]
def wsL_lot : List Cond := .codeWith yL_lot cL_lot 6 (some .int) [(0, 12, 15, 13)] :: ((wsL_lot_r1 ++ wsL_lot_r2) ++ wsX10 ++ wsX00 ++ (vx_atS RX1 73 "java/lang/IndexOutOfBoundsException" ["java/lang/RuntimeException", "java/lang/Exception"]).filter goodWord)
def wsL_count_r1 : List Cond := [Cond.classLink RL 13 "java/lang/IndexOutOfBoundsException", Cond.methodLink RL 35 yX1_count, Cond.instanceMethod yX1_count, Cond.selects RX1 yX1_count yX1_count, Cond.initialized RX1, Cond.code yX1_count cX1_count 2 (some .int), Cond.classLink RX1 69 "java/lang/IndexOutOfBoundsException", Cond.initialized "java/lang/IndexOutOfBoundsException", Cond.fieldLink RX1 10 "CanalCity" "now" "LCanalCity$City;", Cond.methodLink RX1 79 yX0_total, Cond.instanceMethod yX0_total, Cond.selects RX0 yX0_total yX0_total, Cond.initialized RX0, Cond.code yX0_total cX0_total 2 (some .int), Cond.fieldLink RX0 9 "CanalCity$City" "month" "I", Cond.fieldLink RX0 15 "CanalCity$City" "coins" "I", Cond.fieldLink RX0 18 "CanalCity$City" "left" "I", Cond.methodLink RX0 127 yX0_quartersOfAll, Cond.instanceMethod yX0_quartersOfAll, Cond.selects RX0 yX0_quartersOfAll yX0_quartersOfAll, Cond.code yX0_quartersOfAll cX0_quartersOfAll 3 (some .int), Cond.fieldLink RX0 25 "CanalCity$City" "quarters" "[I", Cond.methodLink RX0 130 yX0_complaintsOfAll, Cond.instanceMethod yX0_complaintsOfAll]
def wsL_count_r2 : List Cond := [Cond.selects RX0 yX0_complaintsOfAll yX0_complaintsOfAll, Cond.code yX0_complaintsOfAll cX0_complaintsOfAll 1 (some .int), Cond.fieldLink RX0 40 "CanalCity$City" "complaints" "[I", Cond.methodLink RX0 136 yX0_sum, Cond.static yX0_sum, Cond.code yX0_sum cX0_sum 3 (some .int), Cond.methodLink RX0 59 yX0_duesOfAll, Cond.instanceMethod yX0_duesOfAll, Cond.selects RX0 yX0_duesOfAll yX0_duesOfAll, Cond.code yX0_duesOfAll cX0_duesOfAll 1 (some .int), Cond.fieldLink RX0 43 "CanalCity$City" "dues" "[I", Cond.methodLink RX0 133 yX0_lotsOfKind, Cond.instanceMethod yX0_lotsOfKind, Cond.selects RX0 yX0_lotsOfKind yX0_lotsOfKind, Cond.code yX0_lotsOfKind cX0_lotsOfKind 4 (some .int), Cond.fieldLink RX0 21 "CanalCity$City" "kinds" "[I"]
def wsL_count : List Cond := .codeWith yL_count cL_count 4 (some .int) [(0, 9, 12, 13)] :: ((wsL_count_r1 ++ wsL_count_r2) ++ wsX10 ++ wsX00 ++ (vx_atS RX1 73 "java/lang/IndexOutOfBoundsException" ["java/lang/RuntimeException", "java/lang/Exception"]).filter goodWord)
def wsL_walk_r1 : List Cond := [Cond.classLink RL 13 "java/lang/IndexOutOfBoundsException", Cond.classLink RL 15 "java/lang/IllegalStateException", Cond.methodLink RL 39 yX1_walk, Cond.instanceMethod yX1_walk, Cond.selects RX1 yX1_walk yX1_walk, Cond.initialized RX1, Cond.code yX1_walk cX1_walk 3 (some .int), Cond.classLink RX1 27 "java/lang/IllegalStateException", Cond.initialized "java/lang/IllegalStateException", Cond.fieldLink RX1 10 "CanalCity" "now" "LCanalCity$City;", Cond.methodLink RX1 82 yX1_checkNumber, Cond.static yX1_checkNumber, Cond.code yX1_checkNumber cX1_checkNumber 1 none, Cond.classLink RX1 69 "java/lang/IndexOutOfBoundsException", Cond.initialized "java/lang/IndexOutOfBoundsException", Cond.methodLink RX1 136 yX1_isLot, Cond.static yX1_isLot, Cond.code yX1_isLot cX1_isLot 1 (some .boolean), Cond.methodLink RX1 85 yX1_isLand, Cond.static yX1_isLand, Cond.code yX1_isLand cX1_isLand 1 (some .boolean), Cond.methodLink RX1 91 yX0_stepsOnFoot, Cond.instanceMethod yX0_stepsOnFoot, Cond.selects RX0 yX0_stepsOnFoot yX0_stepsOnFoot]
def wsL_walk_r2 : List Cond := [Cond.initialized RX0, Cond.code yX0_stepsOnFoot cX0_stepsOnFoot 3 (some .int), Cond.fieldLink RX0 46 "CanalCity$City" "footSteps" "[I", Cond.methodLink RX0 80 yX0_clear, Cond.static yX0_clear, Cond.code yX0_clear cX0_clear 3 none, Cond.methodLink RX0 87 yX0_spread, Cond.instanceMethod yX0_spread, Cond.selects RX0 yX0_spread yX0_spread, Cond.code yX0_spread cX0_spread 11 none, Cond.fieldLink RX0 49 "CanalCity$City" "waiting" "[I", Cond.fieldLink RX0 21 "CanalCity$City" "kinds" "[I", Cond.static yX1_neighbour, Cond.code yX1_neighbour cX1_neighbour 4 (some .int), Cond.static yX1_isWater, Cond.code yX1_isWater cX1_isWater 1 (some .boolean)]
def wsL_walk : List Cond := .codeWith yL_walk cL_walk 5 (some .int) [(0, 10, 13, 13), (0, 10, 17, 15)] :: ((wsL_walk_r1 ++ wsL_walk_r2) ++ wsX10 ++ wsX00 ++ (vx_atS RX1 31 "java/lang/IllegalStateException" ["java/lang/RuntimeException", "java/lang/Exception"]).filter goodWord ++ (vx_atS RX1 73 "java/lang/IndexOutOfBoundsException" ["java/lang/RuntimeException", "java/lang/Exception"]).filter goodWord)
def wsL_sail : List Cond := .codeWith yL_sail cL_sail 4 (some .int) [(0, 9, 12, 13), (0, 9, 15, 15)] :: ([.classLink RL 13 "java/lang/IndexOutOfBoundsException", .classLink RL 15 "java/lang/IllegalStateException", .methodLink RL 42 yX1_sail, .instanceMethod yX1_sail, .selects RX1 yX1_sail yX1_sail, .initialized RX1, .code yX1_sail cX1_sail 2 (some .int), .classLink RX1 27 "java/lang/IllegalStateException", .initialized "java/lang/IllegalStateException", .fieldLink RX1 10 "CanalCity" "now" "LCanalCity$City;", .methodLink RX1 82 yX1_checkNumber, .static yX1_checkNumber, .code yX1_checkNumber cX1_checkNumber 1 none, .classLink RX1 69 "java/lang/IndexOutOfBoundsException", .initialized "java/lang/IndexOutOfBoundsException", .methodLink RX1 136 yX1_isLot, .static yX1_isLot, .code yX1_isLot cX1_isLot 1 (some .boolean), .methodLink RX1 94 yX1_isWater, .static yX1_isWater, .code yX1_isWater cX1_isWater 1 (some .boolean)] ++ wsX10 ++ wsX00 ++ (vx_atS RX1 31 "java/lang/IllegalStateException" ["java/lang/RuntimeException", "java/lang/Exception"]).filter goodWord ++ (vx_atS RX1 73 "java/lang/IndexOutOfBoundsException" ["java/lang/RuntimeException", "java/lang/Exception"]).filter goodWord)
def wsL_pass_r1 : List Cond := [Cond.classLink RL 24 "java/lang/IllegalArgumentException", Cond.methodLink RL 45 yX1_pass, Cond.instanceMethod yX1_pass, Cond.selects RX1 yX1_pass yX1_pass, Cond.initialized RX1, Cond.code yX1_pass cX1_pass 2 (some .int), Cond.fieldLink RX1 10 "CanalCity" "now" "LCanalCity$City;", Cond.methodLink RX1 102 yX1_checkMonths, Cond.static yX1_checkMonths, Cond.code yX1_checkMonths cX1_checkMonths 1 none, Cond.classLink RX1 141 "java/lang/IllegalArgumentException", Cond.initialized "java/lang/IllegalArgumentException", Cond.methodLink RX1 105 yX0_live, Cond.instanceMethod yX0_live, Cond.selects RX0 yX0_live yX0_live, Cond.initialized RX0, Cond.code yX0_live cX0_live 5 (some .int), Cond.fieldLink RX0 15 "CanalCity$City" "coins" "I", Cond.fieldLink RX0 9 "CanalCity$City" "month" "I", Cond.methodLink RX0 59 yX0_duesOfAll, Cond.instanceMethod yX0_duesOfAll, Cond.selects RX0 yX0_duesOfAll yX0_duesOfAll, Cond.code yX0_duesOfAll cX0_duesOfAll 1 (some .int), Cond.fieldLink RX0 43 "CanalCity$City" "dues" "[I"]
def wsL_pass_r2 : List Cond := [Cond.methodLink RX0 136 yX0_sum, Cond.static yX0_sum, Cond.code yX0_sum cX0_sum 3 (some .int), Cond.methodLink RX0 63 yX0_leaveHouses, Cond.instanceMethod yX0_leaveHouses, Cond.selects RX0 yX0_leaveHouses yX0_leaveHouses, Cond.code yX0_leaveHouses cX0_leaveHouses 2 none, Cond.fieldLink RX0 21 "CanalCity$City" "kinds" "[I", Cond.fieldLink RX0 40 "CanalCity$City" "complaints" "[I", Cond.fieldLink RX0 18 "CanalCity$City" "left" "I", Cond.methodLink RX0 66 yX0_sinkLots, Cond.instanceMethod yX0_sinkLots, Cond.selects RX0 yX0_sinkLots yX0_sinkLots, Cond.code yX0_sinkLots cX0_sinkLots 4 none, Cond.fieldLink RX0 49 "CanalCity$City" "waiting" "[I", Cond.methodLink RX0 69 yX0_neighboursOfKind, Cond.instanceMethod yX0_neighboursOfKind, Cond.selects RX0 yX0_neighboursOfKind yX0_neighboursOfKind, Cond.code yX0_neighboursOfKind cX0_neighboursOfKind 6 (some .int), Cond.static yX1_neighbour, Cond.code yX1_neighbour cX1_neighbour 4 (some .int), Cond.static yX1_isLot, Cond.code yX1_isLot cX1_isLot 1 (some .boolean), Cond.methodLink RX0 52 yX0_survey]
def wsL_pass_r3 : List Cond := [Cond.instanceMethod yX0_survey, Cond.selects RX0 yX0_survey yX0_survey, Cond.code yX0_survey cX0_survey 2 none, Cond.fieldLink RX0 37 "CanalCity$City" "boatSteps" "[I", Cond.methodLink RX0 77 yX0_surveyQuarters, Cond.instanceMethod yX0_surveyQuarters, Cond.selects RX0 yX0_surveyQuarters yX0_surveyQuarters, Cond.code yX0_surveyQuarters cX0_surveyQuarters 2 none, Cond.fieldLink RX0 25 "CanalCity$City" "quarters" "[I", Cond.fieldLink RX0 28 "CanalCity$City" "lotsOf" "[I", Cond.fieldLink RX0 31 "CanalCity$City" "housesOf" "[I", Cond.fieldLink RX0 34 "CanalCity$City" "marketsOf" "[I", Cond.methodLink RX0 80 yX0_clear, Cond.static yX0_clear, Cond.code yX0_clear cX0_clear 3 none, Cond.static yX1_isLand, Cond.code yX1_isLand cX1_isLand 1 (some .boolean), Cond.methodLink RX0 87 yX0_spread, Cond.instanceMethod yX0_spread, Cond.selects RX0 yX0_spread yX0_spread, Cond.code yX0_spread cX0_spread 11 none, Cond.static yX1_isWater, Cond.code yX1_isWater cX1_isWater 1 (some .boolean), Cond.methodLink RX0 101 yX0_enter]
def wsL_pass_r4 : List Cond := [Cond.instanceMethod yX0_enter, Cond.selects RX0 yX0_enter yX0_enter, Cond.code yX0_enter cX0_enter 3 none, Cond.methodLink RX0 91 yX0_complaintsAt, Cond.instanceMethod yX0_complaintsAt, Cond.selects RX0 yX0_complaintsAt yX0_complaintsAt, Cond.code yX0_complaintsAt cX0_complaintsAt 4 (some .int), Cond.methodLink RX0 107 yX0_marketsInQuarter, Cond.instanceMethod yX0_marketsInQuarter, Cond.selects RX0 yX0_marketsInQuarter yX0_marketsInQuarter, Cond.code yX0_marketsInQuarter cX0_marketsInQuarter 3 (some .int), Cond.methodLink RX0 110 yX0_isByBoat, Cond.instanceMethod yX0_isByBoat, Cond.selects RX0 yX0_isByBoat yX0_isByBoat, Cond.code yX0_isByBoat cX0_isByBoat 5 (some .boolean), Cond.methodLink RX0 121 yX0_isOpenWater, Cond.instanceMethod yX0_isOpenWater, Cond.selects RX0 yX0_isOpenWater yX0_isOpenWater, Cond.code yX0_isOpenWater cX0_isOpenWater 2 (some .boolean), Cond.methodLink RX0 95 yX0_duesAt, Cond.instanceMethod yX0_duesAt, Cond.selects RX0 yX0_duesAt yX0_duesAt, Cond.code yX0_duesAt cX0_duesAt 2 (some .int), Cond.methodLink RX0 113 Lib.Math.max.name]
def wsL_pass_r5 : List Cond := [Cond.static Lib.Math.max.name, Cond.initialized "java/lang/Math", Cond.code Lib.Math.max.name Lib.Math.max.code 2 (some .int), Cond.methodLink RX0 118 yX0_housesInQuarter, Cond.instanceMethod yX0_housesInQuarter, Cond.selects RX0 yX0_housesInQuarter yX0_housesInQuarter, Cond.code yX0_housesInQuarter cX0_housesInQuarter 3 (some .int)]
def wsL_pass : List Cond := .codeWith yL_pass cL_pass 4 (some .int) [(0, 9, 12, 24)] :: ((wsL_pass_r1 ++ (wsL_pass_r2 ++ (wsL_pass_r3 ++ (wsL_pass_r4 ++ wsL_pass_r5)))) ++ wsX10 ++ wsX00 ++ (vx_atS RX1 145 "java/lang/IllegalArgumentException" ["java/lang/RuntimeException", "java/lang/Exception"]).filter goodWord)
def wsL_foresee_r1 : List Cond := [Cond.classLink RL 24 "java/lang/IllegalArgumentException", Cond.classLink RL 13 "java/lang/IndexOutOfBoundsException", Cond.methodLink RL 48 yX1_foresee, Cond.instanceMethod yX1_foresee, Cond.selects RX1 yX1_foresee yX1_foresee, Cond.initialized RX1, Cond.code yX1_foresee cX1_foresee 3 (some .int), Cond.classLink RX1 69 "java/lang/IndexOutOfBoundsException", Cond.initialized "java/lang/IndexOutOfBoundsException", Cond.fieldLink RX1 16 "CanalCity" "trial" "LCanalCity$City;", Cond.fieldLink RX1 10 "CanalCity" "now" "LCanalCity$City;", Cond.methodLink RX1 102 yX1_checkMonths, Cond.static yX1_checkMonths, Cond.code yX1_checkMonths cX1_checkMonths 1 none, Cond.classLink RX1 141 "java/lang/IllegalArgumentException", Cond.initialized "java/lang/IllegalArgumentException", Cond.methodLink RX1 110 yX0_become, Cond.instanceMethod yX0_become, Cond.selects RX0 yX0_become yX0_become, Cond.initialized RX0, Cond.code yX0_become cX0_become 3 none, Cond.fieldLink RX0 9 "CanalCity$City" "month" "I", Cond.fieldLink RX0 15 "CanalCity$City" "coins" "I", Cond.fieldLink RX0 18 "CanalCity$City" "left" "I"]
def wsL_foresee_r2 : List Cond := [Cond.fieldLink RX0 21 "CanalCity$City" "kinds" "[I", Cond.methodLink RX1 114 yX0_survey, Cond.instanceMethod yX0_survey, Cond.selects RX0 yX0_survey yX0_survey, Cond.code yX0_survey cX0_survey 2 none, Cond.fieldLink RX0 37 "CanalCity$City" "boatSteps" "[I", Cond.fieldLink RX0 40 "CanalCity$City" "complaints" "[I", Cond.fieldLink RX0 43 "CanalCity$City" "dues" "[I", Cond.methodLink RX0 77 yX0_surveyQuarters, Cond.instanceMethod yX0_surveyQuarters, Cond.selects RX0 yX0_surveyQuarters yX0_surveyQuarters, Cond.code yX0_surveyQuarters cX0_surveyQuarters 2 none, Cond.fieldLink RX0 25 "CanalCity$City" "quarters" "[I", Cond.fieldLink RX0 28 "CanalCity$City" "lotsOf" "[I", Cond.fieldLink RX0 31 "CanalCity$City" "housesOf" "[I", Cond.fieldLink RX0 34 "CanalCity$City" "marketsOf" "[I", Cond.methodLink RX0 80 yX0_clear, Cond.static yX0_clear, Cond.code yX0_clear cX0_clear 3 none, Cond.static yX1_isLand, Cond.code yX1_isLand cX1_isLand 1 (some .boolean), Cond.methodLink RX0 87 yX0_spread, Cond.instanceMethod yX0_spread, Cond.selects RX0 yX0_spread yX0_spread]
def wsL_foresee_r3 : List Cond := [Cond.code yX0_spread cX0_spread 11 none, Cond.fieldLink RX0 49 "CanalCity$City" "waiting" "[I", Cond.static yX1_isLot, Cond.code yX1_isLot cX1_isLot 1 (some .boolean), Cond.static yX1_neighbour, Cond.code yX1_neighbour cX1_neighbour 4 (some .int), Cond.static yX1_isWater, Cond.code yX1_isWater cX1_isWater 1 (some .boolean), Cond.methodLink RX0 101 yX0_enter, Cond.instanceMethod yX0_enter, Cond.selects RX0 yX0_enter yX0_enter, Cond.code yX0_enter cX0_enter 3 none, Cond.methodLink RX0 91 yX0_complaintsAt, Cond.instanceMethod yX0_complaintsAt, Cond.selects RX0 yX0_complaintsAt yX0_complaintsAt, Cond.code yX0_complaintsAt cX0_complaintsAt 4 (some .int), Cond.methodLink RX0 107 yX0_marketsInQuarter, Cond.instanceMethod yX0_marketsInQuarter, Cond.selects RX0 yX0_marketsInQuarter yX0_marketsInQuarter, Cond.code yX0_marketsInQuarter cX0_marketsInQuarter 3 (some .int), Cond.methodLink RX0 110 yX0_isByBoat, Cond.instanceMethod yX0_isByBoat, Cond.selects RX0 yX0_isByBoat yX0_isByBoat, Cond.code yX0_isByBoat cX0_isByBoat 5 (some .boolean)]
def wsL_foresee_r4 : List Cond := [Cond.methodLink RX0 121 yX0_isOpenWater, Cond.instanceMethod yX0_isOpenWater, Cond.selects RX0 yX0_isOpenWater yX0_isOpenWater, Cond.code yX0_isOpenWater cX0_isOpenWater 2 (some .boolean), Cond.methodLink RX0 69 yX0_neighboursOfKind, Cond.instanceMethod yX0_neighboursOfKind, Cond.selects RX0 yX0_neighboursOfKind yX0_neighboursOfKind, Cond.code yX0_neighboursOfKind cX0_neighboursOfKind 6 (some .int), Cond.methodLink RX0 95 yX0_duesAt, Cond.instanceMethod yX0_duesAt, Cond.selects RX0 yX0_duesAt yX0_duesAt, Cond.code yX0_duesAt cX0_duesAt 2 (some .int), Cond.methodLink RX0 113 Lib.Math.max.name, Cond.static Lib.Math.max.name, Cond.initialized "java/lang/Math", Cond.code Lib.Math.max.name Lib.Math.max.code 2 (some .int), Cond.methodLink RX0 118 yX0_housesInQuarter, Cond.instanceMethod yX0_housesInQuarter, Cond.selects RX0 yX0_housesInQuarter yX0_housesInQuarter, Cond.code yX0_housesInQuarter cX0_housesInQuarter 3 (some .int), Cond.methodLink RX1 105 yX0_live, Cond.instanceMethod yX0_live, Cond.selects RX0 yX0_live yX0_live, Cond.code yX0_live cX0_live 5 (some .int)]
def wsL_foresee_r5 : List Cond := [Cond.methodLink RX0 59 yX0_duesOfAll, Cond.instanceMethod yX0_duesOfAll, Cond.selects RX0 yX0_duesOfAll yX0_duesOfAll, Cond.code yX0_duesOfAll cX0_duesOfAll 1 (some .int), Cond.methodLink RX0 136 yX0_sum, Cond.static yX0_sum, Cond.code yX0_sum cX0_sum 3 (some .int), Cond.methodLink RX0 63 yX0_leaveHouses, Cond.instanceMethod yX0_leaveHouses, Cond.selects RX0 yX0_leaveHouses yX0_leaveHouses, Cond.code yX0_leaveHouses cX0_leaveHouses 2 none, Cond.methodLink RX0 66 yX0_sinkLots, Cond.instanceMethod yX0_sinkLots, Cond.selects RX0 yX0_sinkLots yX0_sinkLots, Cond.code yX0_sinkLots cX0_sinkLots 4 none, Cond.methodLink RX0 52 yX0_survey, Cond.methodLink RX1 79 yX0_total, Cond.instanceMethod yX0_total, Cond.selects RX0 yX0_total yX0_total, Cond.code yX0_total cX0_total 2 (some .int), Cond.methodLink RX0 127 yX0_quartersOfAll, Cond.instanceMethod yX0_quartersOfAll, Cond.selects RX0 yX0_quartersOfAll yX0_quartersOfAll, Cond.code yX0_quartersOfAll cX0_quartersOfAll 3 (some .int)]
def wsL_foresee_r6 : List Cond := [Cond.methodLink RX0 130 yX0_complaintsOfAll, Cond.instanceMethod yX0_complaintsOfAll, Cond.selects RX0 yX0_complaintsOfAll yX0_complaintsOfAll, Cond.code yX0_complaintsOfAll cX0_complaintsOfAll 1 (some .int), Cond.methodLink RX0 133 yX0_lotsOfKind, Cond.instanceMethod yX0_lotsOfKind, Cond.selects RX0 yX0_lotsOfKind yX0_lotsOfKind, Cond.code yX0_lotsOfKind cX0_lotsOfKind 4 (some .int)]
def wsL_foresee : List Cond := .codeWith yL_foresee cL_foresee 5 (some .int) [(0, 10, 13, 24), (0, 10, 17, 13)] :: ((wsL_foresee_r1 ++ (wsL_foresee_r2 ++ (wsL_foresee_r3 ++ (wsL_foresee_r4 ++ (wsL_foresee_r5 ++ wsL_foresee_r6))))) ++ wsX10 ++ wsX00 ++ (vx_atS RX1 73 "java/lang/IndexOutOfBoundsException" ["java/lang/RuntimeException", "java/lang/Exception"]).filter goodWord ++ (vx_atS RX1 145 "java/lang/IllegalArgumentException" ["java/lang/RuntimeException", "java/lang/Exception"]).filter goodWord)
def wsL_would_r1 : List Cond := [Cond.classLink RL 13 "java/lang/IndexOutOfBoundsException", Cond.classLink RL 24 "java/lang/IllegalArgumentException", Cond.classLink RL 15 "java/lang/IllegalStateException", Cond.methodLink RL 51 yX1_would, Cond.instanceMethod yX1_would, Cond.selects RX1 yX1_would yX1_would, Cond.initialized RX1, Cond.code yX1_would cX1_would 5 (some .int), Cond.fieldLink RX1 10 "CanalCity" "now" "LCanalCity$City;", Cond.methodLink RX1 19 yX1_checkedNumber, Cond.static yX1_checkedNumber, Cond.code yX1_checkedNumber cX1_checkedNumber 2 (some .int), Cond.classLink RX1 69 "java/lang/IndexOutOfBoundsException", Cond.initialized "java/lang/IndexOutOfBoundsException", Cond.methodLink RX1 48 yX1_checkBuilding, Cond.static yX1_checkBuilding, Cond.code yX1_checkBuilding cX1_checkBuilding 1 none, Cond.classLink RX1 141 "java/lang/IllegalArgumentException", Cond.initialized "java/lang/IllegalArgumentException", Cond.methodLink RX1 51 yX1_checkDrained, Cond.instanceMethod yX1_checkDrained, Cond.selects RX1 yX1_checkDrained yX1_checkDrained, Cond.code yX1_checkDrained cX1_checkDrained 2 none, Cond.classLink RX1 27 "java/lang/IllegalStateException"]
def wsL_would_r2 : List Cond := [Cond.initialized "java/lang/IllegalStateException", Cond.methodLink RX1 117 yX1_duesWith, Cond.instanceMethod yX1_duesWith, Cond.selects RX1 yX1_duesWith yX1_duesWith, Cond.code yX1_duesWith cX1_duesWith 3 (some .int), Cond.fieldLink RX1 16 "CanalCity" "trial" "LCanalCity$City;", Cond.methodLink RX1 110 yX0_become, Cond.instanceMethod yX0_become, Cond.selects RX0 yX0_become yX0_become, Cond.initialized RX0, Cond.code yX0_become cX0_become 3 none, Cond.fieldLink RX0 9 "CanalCity$City" "month" "I", Cond.fieldLink RX0 15 "CanalCity$City" "coins" "I", Cond.fieldLink RX0 18 "CanalCity$City" "left" "I", Cond.fieldLink RX0 21 "CanalCity$City" "kinds" "[I", Cond.methodLink RX1 65 yX0_change, Cond.instanceMethod yX0_change, Cond.selects RX0 yX0_change yX0_change, Cond.code yX0_change cX0_change 3 none, Cond.methodLink RX0 52 yX0_survey, Cond.instanceMethod yX0_survey, Cond.selects RX0 yX0_survey yX0_survey, Cond.code yX0_survey cX0_survey 2 none, Cond.fieldLink RX0 37 "CanalCity$City" "boatSteps" "[I"]
def wsL_would_r3 : List Cond := [Cond.fieldLink RX0 40 "CanalCity$City" "complaints" "[I", Cond.fieldLink RX0 43 "CanalCity$City" "dues" "[I", Cond.methodLink RX0 77 yX0_surveyQuarters, Cond.instanceMethod yX0_surveyQuarters, Cond.selects RX0 yX0_surveyQuarters yX0_surveyQuarters, Cond.code yX0_surveyQuarters cX0_surveyQuarters 2 none, Cond.fieldLink RX0 25 "CanalCity$City" "quarters" "[I", Cond.fieldLink RX0 28 "CanalCity$City" "lotsOf" "[I", Cond.fieldLink RX0 31 "CanalCity$City" "housesOf" "[I", Cond.fieldLink RX0 34 "CanalCity$City" "marketsOf" "[I", Cond.methodLink RX0 80 yX0_clear, Cond.static yX0_clear, Cond.code yX0_clear cX0_clear 3 none, Cond.static yX1_isLand, Cond.code yX1_isLand cX1_isLand 1 (some .boolean), Cond.methodLink RX0 87 yX0_spread, Cond.instanceMethod yX0_spread, Cond.selects RX0 yX0_spread yX0_spread, Cond.code yX0_spread cX0_spread 11 none, Cond.fieldLink RX0 49 "CanalCity$City" "waiting" "[I", Cond.static yX1_isLot, Cond.code yX1_isLot cX1_isLot 1 (some .boolean), Cond.static yX1_neighbour, Cond.code yX1_neighbour cX1_neighbour 4 (some .int)]
def wsL_would_r4 : List Cond := [Cond.static yX1_isWater, Cond.code yX1_isWater cX1_isWater 1 (some .boolean), Cond.methodLink RX0 101 yX0_enter, Cond.instanceMethod yX0_enter, Cond.selects RX0 yX0_enter yX0_enter, Cond.code yX0_enter cX0_enter 3 none, Cond.methodLink RX0 91 yX0_complaintsAt, Cond.instanceMethod yX0_complaintsAt, Cond.selects RX0 yX0_complaintsAt yX0_complaintsAt, Cond.code yX0_complaintsAt cX0_complaintsAt 4 (some .int), Cond.methodLink RX0 107 yX0_marketsInQuarter, Cond.instanceMethod yX0_marketsInQuarter, Cond.selects RX0 yX0_marketsInQuarter yX0_marketsInQuarter, Cond.code yX0_marketsInQuarter cX0_marketsInQuarter 3 (some .int), Cond.methodLink RX0 110 yX0_isByBoat, Cond.instanceMethod yX0_isByBoat, Cond.selects RX0 yX0_isByBoat yX0_isByBoat, Cond.code yX0_isByBoat cX0_isByBoat 5 (some .boolean), Cond.methodLink RX0 121 yX0_isOpenWater, Cond.instanceMethod yX0_isOpenWater, Cond.selects RX0 yX0_isOpenWater yX0_isOpenWater, Cond.code yX0_isOpenWater cX0_isOpenWater 2 (some .boolean), Cond.methodLink RX0 69 yX0_neighboursOfKind, Cond.instanceMethod yX0_neighboursOfKind]
def wsL_would_r5 : List Cond := [Cond.selects RX0 yX0_neighboursOfKind yX0_neighboursOfKind, Cond.code yX0_neighboursOfKind cX0_neighboursOfKind 6 (some .int), Cond.methodLink RX0 95 yX0_duesAt, Cond.instanceMethod yX0_duesAt, Cond.selects RX0 yX0_duesAt yX0_duesAt, Cond.code yX0_duesAt cX0_duesAt 2 (some .int), Cond.methodLink RX0 113 Lib.Math.max.name, Cond.static Lib.Math.max.name, Cond.initialized "java/lang/Math", Cond.code Lib.Math.max.name Lib.Math.max.code 2 (some .int), Cond.methodLink RX0 118 yX0_housesInQuarter, Cond.instanceMethod yX0_housesInQuarter, Cond.selects RX0 yX0_housesInQuarter yX0_housesInQuarter, Cond.code yX0_housesInQuarter cX0_housesInQuarter 3 (some .int), Cond.methodLink RX1 120 yX0_duesOfAll, Cond.instanceMethod yX0_duesOfAll, Cond.selects RX0 yX0_duesOfAll yX0_duesOfAll, Cond.code yX0_duesOfAll cX0_duesOfAll 1 (some .int), Cond.methodLink RX0 136 yX0_sum, Cond.static yX0_sum, Cond.code yX0_sum cX0_sum 3 (some .int)]
def wsL_would : List Cond := .codeWith yL_would cL_would 6 (some .int) [(0, 12, 15, 13), (0, 12, 19, 24), (0, 12, 23, 15)] :: ((wsL_would_r1 ++ (wsL_would_r2 ++ (wsL_would_r3 ++ (wsL_would_r4 ++ wsL_would_r5)))) ++ wsX10 ++ wsX00 ++ (vx_atS RX1 73 "java/lang/IndexOutOfBoundsException" ["java/lang/RuntimeException", "java/lang/Exception"]).filter goodWord ++ (vx_atS RX1 145 "java/lang/IllegalArgumentException" ["java/lang/RuntimeException", "java/lang/Exception"]).filter goodWord ++ (vx_atS RX1 31 "java/lang/IllegalStateException" ["java/lang/RuntimeException", "java/lang/Exception"]).filter goodWord)
def wsL_best_r1 : List Cond := [Cond.classLink RL 24 "java/lang/IllegalArgumentException", Cond.methodLink RL 54 yX1_best, Cond.instanceMethod yX1_best, Cond.selects RX1 yX1_best yX1_best, Cond.initialized RX1, Cond.code yX1_best cX1_best 6 (some .int), Cond.fieldLink RX1 10 "CanalCity" "now" "LCanalCity$City;", Cond.methodLink RX1 48 yX1_checkBuilding, Cond.static yX1_checkBuilding, Cond.code yX1_checkBuilding cX1_checkBuilding 1 none, Cond.classLink RX1 141 "java/lang/IllegalArgumentException", Cond.initialized "java/lang/IllegalArgumentException", Cond.methodLink RX1 117 yX1_duesWith, Cond.instanceMethod yX1_duesWith, Cond.selects RX1 yX1_duesWith yX1_duesWith, Cond.code yX1_duesWith cX1_duesWith 3 (some .int), Cond.fieldLink RX1 16 "CanalCity" "trial" "LCanalCity$City;", Cond.methodLink RX1 110 yX0_become, Cond.instanceMethod yX0_become, Cond.selects RX0 yX0_become yX0_become, Cond.initialized RX0, Cond.code yX0_become cX0_become 3 none, Cond.fieldLink RX0 9 "CanalCity$City" "month" "I", Cond.fieldLink RX0 15 "CanalCity$City" "coins" "I"]
def wsL_best_r2 : List Cond := [Cond.fieldLink RX0 18 "CanalCity$City" "left" "I", Cond.fieldLink RX0 21 "CanalCity$City" "kinds" "[I", Cond.methodLink RX1 65 yX0_change, Cond.instanceMethod yX0_change, Cond.selects RX0 yX0_change yX0_change, Cond.code yX0_change cX0_change 3 none, Cond.methodLink RX0 52 yX0_survey, Cond.instanceMethod yX0_survey, Cond.selects RX0 yX0_survey yX0_survey, Cond.code yX0_survey cX0_survey 2 none, Cond.fieldLink RX0 37 "CanalCity$City" "boatSteps" "[I", Cond.fieldLink RX0 40 "CanalCity$City" "complaints" "[I", Cond.fieldLink RX0 43 "CanalCity$City" "dues" "[I", Cond.methodLink RX0 77 yX0_surveyQuarters, Cond.instanceMethod yX0_surveyQuarters, Cond.selects RX0 yX0_surveyQuarters yX0_surveyQuarters, Cond.code yX0_surveyQuarters cX0_surveyQuarters 2 none, Cond.fieldLink RX0 25 "CanalCity$City" "quarters" "[I", Cond.fieldLink RX0 28 "CanalCity$City" "lotsOf" "[I", Cond.fieldLink RX0 31 "CanalCity$City" "housesOf" "[I", Cond.fieldLink RX0 34 "CanalCity$City" "marketsOf" "[I", Cond.methodLink RX0 80 yX0_clear, Cond.static yX0_clear, Cond.code yX0_clear cX0_clear 3 none]
def wsL_best_r3 : List Cond := [Cond.static yX1_isLand, Cond.code yX1_isLand cX1_isLand 1 (some .boolean), Cond.methodLink RX0 87 yX0_spread, Cond.instanceMethod yX0_spread, Cond.selects RX0 yX0_spread yX0_spread, Cond.code yX0_spread cX0_spread 11 none, Cond.fieldLink RX0 49 "CanalCity$City" "waiting" "[I", Cond.static yX1_isLot, Cond.code yX1_isLot cX1_isLot 1 (some .boolean), Cond.static yX1_neighbour, Cond.code yX1_neighbour cX1_neighbour 4 (some .int), Cond.static yX1_isWater, Cond.code yX1_isWater cX1_isWater 1 (some .boolean), Cond.methodLink RX0 101 yX0_enter, Cond.instanceMethod yX0_enter, Cond.selects RX0 yX0_enter yX0_enter, Cond.code yX0_enter cX0_enter 3 none, Cond.methodLink RX0 91 yX0_complaintsAt, Cond.instanceMethod yX0_complaintsAt, Cond.selects RX0 yX0_complaintsAt yX0_complaintsAt, Cond.code yX0_complaintsAt cX0_complaintsAt 4 (some .int), Cond.methodLink RX0 107 yX0_marketsInQuarter, Cond.instanceMethod yX0_marketsInQuarter, Cond.selects RX0 yX0_marketsInQuarter yX0_marketsInQuarter]
def wsL_best_r4 : List Cond := [Cond.code yX0_marketsInQuarter cX0_marketsInQuarter 3 (some .int), Cond.methodLink RX0 110 yX0_isByBoat, Cond.instanceMethod yX0_isByBoat, Cond.selects RX0 yX0_isByBoat yX0_isByBoat, Cond.code yX0_isByBoat cX0_isByBoat 5 (some .boolean), Cond.methodLink RX0 121 yX0_isOpenWater, Cond.instanceMethod yX0_isOpenWater, Cond.selects RX0 yX0_isOpenWater yX0_isOpenWater, Cond.code yX0_isOpenWater cX0_isOpenWater 2 (some .boolean), Cond.methodLink RX0 69 yX0_neighboursOfKind, Cond.instanceMethod yX0_neighboursOfKind, Cond.selects RX0 yX0_neighboursOfKind yX0_neighboursOfKind, Cond.code yX0_neighboursOfKind cX0_neighboursOfKind 6 (some .int), Cond.methodLink RX0 95 yX0_duesAt, Cond.instanceMethod yX0_duesAt, Cond.selects RX0 yX0_duesAt yX0_duesAt, Cond.code yX0_duesAt cX0_duesAt 2 (some .int), Cond.methodLink RX0 113 Lib.Math.max.name, Cond.static Lib.Math.max.name, Cond.initialized "java/lang/Math", Cond.code Lib.Math.max.name Lib.Math.max.code 2 (some .int), Cond.methodLink RX0 118 yX0_housesInQuarter, Cond.instanceMethod yX0_housesInQuarter, Cond.selects RX0 yX0_housesInQuarter yX0_housesInQuarter]
def wsL_best_r5 : List Cond := [Cond.code yX0_housesInQuarter cX0_housesInQuarter 3 (some .int), Cond.methodLink RX1 120 yX0_duesOfAll, Cond.instanceMethod yX0_duesOfAll, Cond.selects RX0 yX0_duesOfAll yX0_duesOfAll, Cond.code yX0_duesOfAll cX0_duesOfAll 1 (some .int), Cond.methodLink RX0 136 yX0_sum, Cond.static yX0_sum, Cond.code yX0_sum cX0_sum 3 (some .int)]
def wsL_best : List Cond := .codeWith yL_best cL_best 4 (some .int) [(0, 9, 12, 24)] :: ((wsL_best_r1 ++ (wsL_best_r2 ++ (wsL_best_r3 ++ (wsL_best_r4 ++ wsL_best_r5)))) ++ wsX10 ++ wsX00 ++ (vx_atS RX1 145 "java/lang/IllegalArgumentException" ["java/lang/RuntimeException", "java/lang/Exception"]).filter goodWord)
abbrev vwCl : List vw_C := [(RX0, TX0, 13), (RX1, TX1, 2), (RX2, TX2, 14)]
end
section
set_option maxRecDepth 20000 in
theorem ggX0_init_X0_survey : GoodIn wsX0_init wsX0_survey := goodIn_r _ [22, 13, 8, 14, 15, 23, 24, 25, 21, 26, 9, 10, 11, 12, 27, 28, 29, 30, 31, 32, 33, 34, 35, 36, 17, 37, 38, 39, 40, 41, 42, 43, 44, 45, 46, 47, 48, 49, 50, 51, 52, 53, 54, 55, 56, 57, 58, 59, 60, 61, 62, 63, 64, 65, 66, 67, 68, 69, 70, 71, 72, 73, 74, 75, 76, 77, 78, 79, 80, 81, 82, 83, 84, 85, 86, 87, 88, 89, 90, 91] (by decide +kernel) (by decide +kernel)
set_option maxRecDepth 20000 in
theorem gX0_init_X0_survey : GoodIn wsX0_init (wsV RX0 52 RX0 yX0_survey wsX0_survey) := goodIn_app (goodIn_of _ (by decide +kernel)) ggX0_init_X0_survey
theorem dX0_init_0 : decode cX0_init 0 = .ok (.aload_n 0, 1) := by decide +kernel
theorem dX0_init_1 : decode cX0_init 1 = .ok (.invokespecial 3, 3) := by decide +kernel
theorem dX0_init_4 : decode cX0_init 4 = .ok (.aload_n 0, 1) := by decide +kernel
theorem dX0_init_5 : decode cX0_init 5 = .ok (.iconst 0, 1) := by decide +kernel
theorem dX0_init_6 : decode cX0_init 6 = .ok (.putfield 9, 3) := by decide +kernel
theorem dX0_init_9 : decode cX0_init 9 = .ok (.aload_n 0, 1) := by decide +kernel
theorem dX0_init_10 : decode cX0_init 10 = .ok (.bipush 60, 2) := by decide +kernel
theorem dX0_init_12 : decode cX0_init 12 = .ok (.putfield 15, 3) := by decide +kernel
theorem dX0_init_15 : decode cX0_init 15 = .ok (.aload_n 0, 1) := by decide +kernel
theorem dX0_init_16 : decode cX0_init 16 = .ok (.iconst 0, 1) := by decide +kernel
theorem dX0_init_17 : decode cX0_init 17 = .ok (.putfield 18, 3) := by decide +kernel
theorem dX0_init_20 : decode cX0_init 20 = .ok (.aload_n 0, 1) := by decide +kernel
theorem dX0_init_21 : decode cX0_init 21 = .ok (.bipush 64, 2) := by decide +kernel
theorem dX0_init_23 : decode cX0_init 23 = .ok (.newarray .int, 2) := by decide +kernel
theorem dX0_init_25 : decode cX0_init 25 = .ok (.putfield 21, 3) := by decide +kernel
theorem dX0_init_28 : decode cX0_init 28 = .ok (.aload_n 0, 1) := by decide +kernel
theorem dX0_init_29 : decode cX0_init 29 = .ok (.bipush 64, 2) := by decide +kernel
theorem dX0_init_31 : decode cX0_init 31 = .ok (.newarray .int, 2) := by decide +kernel
theorem dX0_init_33 : decode cX0_init 33 = .ok (.putfield 25, 3) := by decide +kernel
theorem dX0_init_36 : decode cX0_init 36 = .ok (.aload_n 0, 1) := by decide +kernel
theorem dX0_init_37 : decode cX0_init 37 = .ok (.bipush 64, 2) := by decide +kernel
theorem dX0_init_39 : decode cX0_init 39 = .ok (.newarray .int, 2) := by decide +kernel
theorem dX0_init_41 : decode cX0_init 41 = .ok (.putfield 28, 3) := by decide +kernel
theorem dX0_init_44 : decode cX0_init 44 = .ok (.aload_n 0, 1) := by decide +kernel
theorem dX0_init_45 : decode cX0_init 45 = .ok (.bipush 64, 2) := by decide +kernel
theorem dX0_init_47 : decode cX0_init 47 = .ok (.newarray .int, 2) := by decide +kernel
theorem dX0_init_49 : decode cX0_init 49 = .ok (.putfield 31, 3) := by decide +kernel
theorem dX0_init_52 : decode cX0_init 52 = .ok (.aload_n 0, 1) := by decide +kernel
theorem dX0_init_53 : decode cX0_init 53 = .ok (.bipush 64, 2) := by decide +kernel
theorem dX0_init_55 : decode cX0_init 55 = .ok (.newarray .int, 2) := by decide +kernel
theorem dX0_init_57 : decode cX0_init 57 = .ok (.putfield 34, 3) := by decide +kernel
theorem dX0_init_60 : decode cX0_init 60 = .ok (.aload_n 0, 1) := by decide +kernel
theorem dX0_init_61 : decode cX0_init 61 = .ok (.bipush 64, 2) := by decide +kernel
theorem dX0_init_63 : decode cX0_init 63 = .ok (.newarray .int, 2) := by decide +kernel
theorem dX0_init_65 : decode cX0_init 65 = .ok (.putfield 37, 3) := by decide +kernel
theorem dX0_init_68 : decode cX0_init 68 = .ok (.aload_n 0, 1) := by decide +kernel
theorem dX0_init_69 : decode cX0_init 69 = .ok (.bipush 64, 2) := by decide +kernel
theorem dX0_init_71 : decode cX0_init 71 = .ok (.newarray .int, 2) := by decide +kernel
theorem dX0_init_73 : decode cX0_init 73 = .ok (.putfield 40, 3) := by decide +kernel
theorem dX0_init_76 : decode cX0_init 76 = .ok (.aload_n 0, 1) := by decide +kernel
theorem dX0_init_77 : decode cX0_init 77 = .ok (.bipush 64, 2) := by decide +kernel
theorem dX0_init_79 : decode cX0_init 79 = .ok (.newarray .int, 2) := by decide +kernel
theorem dX0_init_81 : decode cX0_init 81 = .ok (.putfield 43, 3) := by decide +kernel
theorem dX0_init_84 : decode cX0_init 84 = .ok (.aload_n 0, 1) := by decide +kernel
theorem dX0_init_85 : decode cX0_init 85 = .ok (.bipush 64, 2) := by decide +kernel
theorem dX0_init_87 : decode cX0_init 87 = .ok (.newarray .int, 2) := by decide +kernel
theorem dX0_init_89 : decode cX0_init 89 = .ok (.putfield 46, 3) := by decide +kernel
theorem dX0_init_92 : decode cX0_init 92 = .ok (.aload_n 0, 1) := by decide +kernel
theorem dX0_init_93 : decode cX0_init 93 = .ok (.bipush 64, 2) := by decide +kernel
theorem dX0_init_95 : decode cX0_init 95 = .ok (.newarray .int, 2) := by decide +kernel
theorem dX0_init_97 : decode cX0_init 97 = .ok (.putfield 49, 3) := by decide +kernel
theorem dX0_init_100 : decode cX0_init 100 = .ok (.iconst 0, 1) := by decide +kernel
theorem dX0_init_101 : decode cX0_init 101 = .ok (.istore_n 1, 1) := by decide +kernel
theorem dX0_init_102 : decode cX0_init 102 = .ok (.iload_n 1, 1) := by decide +kernel
theorem dX0_init_103 : decode cX0_init 103 = .ok (.bipush 8, 2) := by decide +kernel
theorem dX0_init_105 : decode cX0_init 105 = .ok (.if_icmp .ge 21, 3) := by decide +kernel
theorem dX0_init_108 : decode cX0_init 108 = .ok (.aload_n 0, 1) := by decide +kernel
theorem dX0_init_109 : decode cX0_init 109 = .ok (.getfield 21, 3) := by decide +kernel
theorem dX0_init_112 : decode cX0_init 112 = .ok (.bipush 8, 2) := by decide +kernel
theorem dX0_init_114 : decode cX0_init 114 = .ok (.iload_n 1, 1) := by decide +kernel
theorem dX0_init_115 : decode cX0_init 115 = .ok (.imul, 1) := by decide +kernel
theorem dX0_init_116 : decode cX0_init 116 = .ok (.iconst 3, 1) := by decide +kernel
theorem dX0_init_117 : decode cX0_init 117 = .ok (.iadd, 1) := by decide +kernel
theorem dX0_init_118 : decode cX0_init 118 = .ok (.iconst 1, 1) := by decide +kernel
theorem dX0_init_119 : decode cX0_init 119 = .ok (.iastore, 1) := by decide +kernel
theorem dX0_init_120 : decode cX0_init 120 = .ok (.iinc 1 1, 3) := by decide +kernel
theorem dX0_init_123 : decode cX0_init 123 = .ok (.goto (-21), 3) := by decide +kernel
theorem dX0_init_126 : decode cX0_init 126 = .ok (.aload_n 0, 1) := by decide +kernel
theorem dX0_init_127 : decode cX0_init 127 = .ok (.invokevirtual 52, 3) := by decide +kernel
theorem dX0_init_130 : decode cX0_init 130 = .ok (.return_, 1) := by decide +kernel
theorem dX0_become_0 : decode cX0_become 0 = .ok (.aload_n 0, 1) := by decide +kernel
theorem dX0_become_1 : decode cX0_become 1 = .ok (.aload_n 1, 1) := by decide +kernel
theorem dX0_become_2 : decode cX0_become 2 = .ok (.getfield 9, 3) := by decide +kernel
theorem dX0_become_5 : decode cX0_become 5 = .ok (.putfield 9, 3) := by decide +kernel
theorem dX0_become_8 : decode cX0_become 8 = .ok (.aload_n 0, 1) := by decide +kernel
theorem dX0_become_9 : decode cX0_become 9 = .ok (.aload_n 1, 1) := by decide +kernel
theorem dX0_become_10 : decode cX0_become 10 = .ok (.getfield 15, 3) := by decide +kernel
theorem dX0_become_13 : decode cX0_become 13 = .ok (.putfield 15, 3) := by decide +kernel
theorem dX0_become_16 : decode cX0_become 16 = .ok (.aload_n 0, 1) := by decide +kernel
theorem dX0_become_17 : decode cX0_become 17 = .ok (.aload_n 1, 1) := by decide +kernel
theorem dX0_become_18 : decode cX0_become 18 = .ok (.getfield 18, 3) := by decide +kernel
theorem dX0_become_21 : decode cX0_become 21 = .ok (.putfield 18, 3) := by decide +kernel
theorem dX0_become_24 : decode cX0_become 24 = .ok (.iconst 0, 1) := by decide +kernel
theorem dX0_become_25 : decode cX0_become 25 = .ok (.istore_n 2, 1) := by decide +kernel
theorem dX0_become_26 : decode cX0_become 26 = .ok (.iload_n 2, 1) := by decide +kernel
theorem dX0_become_27 : decode cX0_become 27 = .ok (.bipush 64, 2) := by decide +kernel
theorem dX0_become_29 : decode cX0_become 29 = .ok (.if_icmp .ge 21, 3) := by decide +kernel
theorem dX0_become_32 : decode cX0_become 32 = .ok (.aload_n 0, 1) := by decide +kernel
theorem dX0_become_33 : decode cX0_become 33 = .ok (.getfield 21, 3) := by decide +kernel
theorem dX0_become_36 : decode cX0_become 36 = .ok (.iload_n 2, 1) := by decide +kernel
theorem dX0_become_37 : decode cX0_become 37 = .ok (.aload_n 1, 1) := by decide +kernel
theorem dX0_become_38 : decode cX0_become 38 = .ok (.getfield 21, 3) := by decide +kernel
theorem dX0_become_41 : decode cX0_become 41 = .ok (.iload_n 2, 1) := by decide +kernel
theorem dX0_become_42 : decode cX0_become 42 = .ok (.iaload, 1) := by decide +kernel
theorem dX0_become_43 : decode cX0_become 43 = .ok (.iastore, 1) := by decide +kernel
theorem dX0_become_44 : decode cX0_become 44 = .ok (.iinc 2 1, 3) := by decide +kernel
theorem dX0_become_47 : decode cX0_become 47 = .ok (.goto (-21), 3) := by decide +kernel
theorem dX0_become_50 : decode cX0_become 50 = .ok (.return_, 1) := by decide +kernel
set_option maxRecDepth 20000 in
theorem ggX0_buy_X0_change : GoodIn wsX0_buy wsX0_change := goodIn_r _ [6, 7, 8, 9, 10, 5, 11, 12, 13, 14, 15, 16, 17, 18, 19, 20, 21, 22, 23, 24, 25, 26, 27, 28, 29, 30, 31, 32, 33, 34, 35, 36, 37, 38, 39, 40, 41, 42, 43, 44, 45, 46, 47, 48, 49, 50, 51, 52, 53, 54, 55, 56, 57, 58, 59, 60, 61, 62, 63, 64, 65, 66, 67, 68, 69, 70, 71, 72, 73, 74, 75, 76, 77, 78, 79, 80, 81, 82, 83, 84, 85, 86, 87, 88] (by decide +kernel) (by decide +kernel)
set_option maxRecDepth 20000 in
theorem gX0_buy_X0_change : GoodIn wsX0_buy (wsV RX0 55 RX0 yX0_change wsX0_change) := goodIn_app (goodIn_of _ (by decide +kernel)) ggX0_buy_X0_change
theorem dX0_buy_0 : decode cX0_buy 0 = .ok (.aload_n 0, 1) := by decide +kernel
theorem dX0_buy_1 : decode cX0_buy 1 = .ok (.dup, 1) := by decide +kernel
theorem dX0_buy_2 : decode cX0_buy 2 = .ok (.getfield 15, 3) := by decide +kernel
theorem dX0_buy_5 : decode cX0_buy 5 = .ok (.iload_n 3, 1) := by decide +kernel
theorem dX0_buy_6 : decode cX0_buy 6 = .ok (.isub, 1) := by decide +kernel
theorem dX0_buy_7 : decode cX0_buy 7 = .ok (.putfield 15, 3) := by decide +kernel
theorem dX0_buy_10 : decode cX0_buy 10 = .ok (.aload_n 0, 1) := by decide +kernel
theorem dX0_buy_11 : decode cX0_buy 11 = .ok (.iload_n 1, 1) := by decide +kernel
theorem dX0_buy_12 : decode cX0_buy 12 = .ok (.iload_n 2, 1) := by decide +kernel
theorem dX0_buy_13 : decode cX0_buy 13 = .ok (.invokevirtual 55, 3) := by decide +kernel
theorem dX0_buy_16 : decode cX0_buy 16 = .ok (.return_, 1) := by decide +kernel
set_option maxRecDepth 20000 in
theorem ggX0_change_X0_survey : GoodIn wsX0_change wsX0_survey := goodIn_r _ [6, 7, 1, 8, 9, 10, 11, 12, 5, 13, 14, 15, 16, 17, 18, 19, 20, 21, 22, 23, 24, 25, 26, 27, 28, 29, 30, 31, 32, 33, 34, 35, 36, 37, 38, 39, 40, 41, 42, 43, 44, 45, 46, 47, 48, 49, 50, 51, 52, 53, 54, 55, 56, 57, 58, 59, 60, 61, 62, 63, 64, 65, 66, 67, 68, 69, 70, 71, 72, 73, 74, 75, 76, 77, 78, 79, 80, 81, 82, 83] (by decide +kernel) (by decide +kernel)
set_option maxRecDepth 20000 in
theorem gX0_change_X0_survey : GoodIn wsX0_change (wsV RX0 52 RX0 yX0_survey wsX0_survey) := goodIn_app (goodIn_of _ (by decide +kernel)) ggX0_change_X0_survey
theorem dX0_change_0 : decode cX0_change 0 = .ok (.aload_n 0, 1) := by decide +kernel
theorem dX0_change_1 : decode cX0_change 1 = .ok (.getfield 21, 3) := by decide +kernel
theorem dX0_change_4 : decode cX0_change 4 = .ok (.iload_n 1, 1) := by decide +kernel
theorem dX0_change_5 : decode cX0_change 5 = .ok (.iload_n 2, 1) := by decide +kernel
theorem dX0_change_6 : decode cX0_change 6 = .ok (.iastore, 1) := by decide +kernel
theorem dX0_change_7 : decode cX0_change 7 = .ok (.aload_n 0, 1) := by decide +kernel
theorem dX0_change_8 : decode cX0_change 8 = .ok (.invokevirtual 52, 3) := by decide +kernel
theorem dX0_change_11 : decode cX0_change 11 = .ok (.return_, 1) := by decide +kernel
set_option maxRecDepth 20000 in
theorem ggX0_live_X0_duesOfAll : GoodIn wsX0_live wsX0_duesOfAll := goodIn_r _ [7, 8, 9, 10, 6, 11, 89, 90, 91, 92, 93, 94, 95, 96, 97, 98, 99, 100, 101] (by decide +kernel) (by decide +kernel)
set_option maxRecDepth 20000 in
theorem gX0_live_X0_duesOfAll : GoodIn wsX0_live (wsV RX0 59 RX0 yX0_duesOfAll wsX0_duesOfAll) := goodIn_app (goodIn_of _ (by decide +kernel)) ggX0_live_X0_duesOfAll
set_option maxRecDepth 20000 in
theorem ggX0_live_X0_leaveHouses : GoodIn wsX0_live wsX0_leaveHouses := goodIn_r _ [15, 16, 17, 18, 89, 90, 91, 92, 93, 94, 95, 96, 97, 98, 99, 100, 101] (by decide +kernel) (by decide +kernel)
set_option maxRecDepth 20000 in
theorem gX0_live_X0_leaveHouses : GoodIn wsX0_live (wsV RX0 63 RX0 yX0_leaveHouses wsX0_leaveHouses) := goodIn_app (goodIn_of _ (by decide +kernel)) ggX0_live_X0_leaveHouses
set_option maxRecDepth 20000 in
theorem ggX0_live_X0_sinkLots : GoodIn wsX0_live wsX0_sinkLots := goodIn_r _ [22, 16, 23, 24, 25, 26, 6, 27, 28, 29, 30, 31, 32, 89, 90, 91, 92, 93, 94, 95, 96, 97, 98, 99, 100, 101] (by decide +kernel) (by decide +kernel)
set_option maxRecDepth 20000 in
theorem gX0_live_X0_sinkLots : GoodIn wsX0_live (wsV RX0 66 RX0 yX0_sinkLots wsX0_sinkLots) := goodIn_app (goodIn_of _ (by decide +kernel)) ggX0_live_X0_sinkLots
set_option maxRecDepth 20000 in
theorem ggX0_live_X0_survey : GoodIn wsX0_live wsX0_survey := goodIn_r _ [36, 37, 16, 17, 8, 38, 39, 40, 6, 41, 42, 43, 44, 45, 46, 47, 48, 49, 29, 50, 51, 52, 53, 54, 23, 31, 32, 28, 30, 55, 56, 57, 58, 59, 60, 61, 62, 63, 64, 65, 66, 67, 68, 69, 70, 71, 72, 73, 74, 75, 76, 24, 25, 26, 27, 77, 78, 79, 80, 81, 82, 83, 84, 85, 86, 87, 88, 89, 90, 91, 92, 93, 94, 95, 96, 97, 98, 99, 100, 101] (by decide +kernel) (by decide +kernel)
set_option maxRecDepth 20000 in
theorem gX0_live_X0_survey : GoodIn wsX0_live (wsV RX0 52 RX0 yX0_survey wsX0_survey) := goodIn_app (goodIn_of _ (by decide +kernel)) ggX0_live_X0_survey
theorem dX0_live_0 : decode cX0_live 0 = .ok (.iconst 0, 1) := by decide +kernel
theorem dX0_live_1 : decode cX0_live 1 = .ok (.istore_n 2, 1) := by decide +kernel
theorem dX0_live_2 : decode cX0_live 2 = .ok (.iconst 0, 1) := by decide +kernel
theorem dX0_live_3 : decode cX0_live 3 = .ok (.istore_n 3, 1) := by decide +kernel
theorem dX0_live_4 : decode cX0_live 4 = .ok (.iload_n 3, 1) := by decide +kernel
theorem dX0_live_5 : decode cX0_live 5 = .ok (.iload_n 1, 1) := by decide +kernel
theorem dX0_live_6 : decode cX0_live 6 = .ok (.if_icmp .ge 53, 3) := by decide +kernel
theorem dX0_live_9 : decode cX0_live 9 = .ok (.aload_n 0, 1) := by decide +kernel
theorem dX0_live_10 : decode cX0_live 10 = .ok (.invokevirtual 59, 3) := by decide +kernel
theorem dX0_live_13 : decode cX0_live 13 = .ok (.istore 4, 2) := by decide +kernel
theorem dX0_live_15 : decode cX0_live 15 = .ok (.iload_n 2, 1) := by decide +kernel
theorem dX0_live_16 : decode cX0_live 16 = .ok (.iload 4, 2) := by decide +kernel
theorem dX0_live_18 : decode cX0_live 18 = .ok (.iadd, 1) := by decide +kernel
theorem dX0_live_19 : decode cX0_live 19 = .ok (.istore_n 2, 1) := by decide +kernel
theorem dX0_live_20 : decode cX0_live 20 = .ok (.aload_n 0, 1) := by decide +kernel
theorem dX0_live_21 : decode cX0_live 21 = .ok (.dup, 1) := by decide +kernel
theorem dX0_live_22 : decode cX0_live 22 = .ok (.getfield 15, 3) := by decide +kernel
theorem dX0_live_25 : decode cX0_live 25 = .ok (.iload 4, 2) := by decide +kernel
theorem dX0_live_27 : decode cX0_live 27 = .ok (.iadd, 1) := by decide +kernel
theorem dX0_live_28 : decode cX0_live 28 = .ok (.putfield 15, 3) := by decide +kernel
theorem dX0_live_31 : decode cX0_live 31 = .ok (.aload_n 0, 1) := by decide +kernel
theorem dX0_live_32 : decode cX0_live 32 = .ok (.invokevirtual 63, 3) := by decide +kernel
theorem dX0_live_35 : decode cX0_live 35 = .ok (.aload_n 0, 1) := by decide +kernel
theorem dX0_live_36 : decode cX0_live 36 = .ok (.invokevirtual 66, 3) := by decide +kernel
theorem dX0_live_39 : decode cX0_live 39 = .ok (.aload_n 0, 1) := by decide +kernel
theorem dX0_live_40 : decode cX0_live 40 = .ok (.invokevirtual 52, 3) := by decide +kernel
theorem dX0_live_43 : decode cX0_live 43 = .ok (.aload_n 0, 1) := by decide +kernel
theorem dX0_live_44 : decode cX0_live 44 = .ok (.dup, 1) := by decide +kernel
theorem dX0_live_45 : decode cX0_live 45 = .ok (.getfield 9, 3) := by decide +kernel
theorem dX0_live_48 : decode cX0_live 48 = .ok (.iconst 1, 1) := by decide +kernel
theorem dX0_live_49 : decode cX0_live 49 = .ok (.iadd, 1) := by decide +kernel
theorem dX0_live_50 : decode cX0_live 50 = .ok (.putfield 9, 3) := by decide +kernel
theorem dX0_live_53 : decode cX0_live 53 = .ok (.iinc 3 1, 3) := by decide +kernel
theorem dX0_live_56 : decode cX0_live 56 = .ok (.goto (-52), 3) := by decide +kernel
theorem dX0_live_59 : decode cX0_live 59 = .ok (.iload_n 2, 1) := by decide +kernel
theorem dX0_live_60 : decode cX0_live 60 = .ok (.ireturn, 1) := by decide +kernel
theorem dX0_leaveHouses_0 : decode cX0_leaveHouses 0 = .ok (.iconst 0, 1) := by decide +kernel
theorem dX0_leaveHouses_1 : decode cX0_leaveHouses 1 = .ok (.istore_n 1, 1) := by decide +kernel
theorem dX0_leaveHouses_2 : decode cX0_leaveHouses 2 = .ok (.iload_n 1, 1) := by decide +kernel
theorem dX0_leaveHouses_3 : decode cX0_leaveHouses 3 = .ok (.bipush 64, 2) := by decide +kernel
theorem dX0_leaveHouses_5 : decode cX0_leaveHouses 5 = .ok (.if_icmp .ge 46, 3) := by decide +kernel
theorem dX0_leaveHouses_8 : decode cX0_leaveHouses 8 = .ok (.aload_n 0, 1) := by decide +kernel
theorem dX0_leaveHouses_9 : decode cX0_leaveHouses 9 = .ok (.getfield 21, 3) := by decide +kernel
theorem dX0_leaveHouses_12 : decode cX0_leaveHouses 12 = .ok (.iload_n 1, 1) := by decide +kernel
theorem dX0_leaveHouses_13 : decode cX0_leaveHouses 13 = .ok (.iaload, 1) := by decide +kernel
theorem dX0_leaveHouses_14 : decode cX0_leaveHouses 14 = .ok (.iconst 3, 1) := by decide +kernel
theorem dX0_leaveHouses_15 : decode cX0_leaveHouses 15 = .ok (.if_icmp .ne 30, 3) := by decide +kernel
theorem dX0_leaveHouses_18 : decode cX0_leaveHouses 18 = .ok (.aload_n 0, 1) := by decide +kernel
theorem dX0_leaveHouses_19 : decode cX0_leaveHouses 19 = .ok (.getfield 40, 3) := by decide +kernel
theorem dX0_leaveHouses_22 : decode cX0_leaveHouses 22 = .ok (.iload_n 1, 1) := by decide +kernel
theorem dX0_leaveHouses_23 : decode cX0_leaveHouses 23 = .ok (.iaload, 1) := by decide +kernel
theorem dX0_leaveHouses_24 : decode cX0_leaveHouses 24 = .ok (.iconst 4, 1) := by decide +kernel
theorem dX0_leaveHouses_25 : decode cX0_leaveHouses 25 = .ok (.if_icmp .lt 20, 3) := by decide +kernel
theorem dX0_leaveHouses_28 : decode cX0_leaveHouses 28 = .ok (.aload_n 0, 1) := by decide +kernel
theorem dX0_leaveHouses_29 : decode cX0_leaveHouses 29 = .ok (.getfield 21, 3) := by decide +kernel
theorem dX0_leaveHouses_32 : decode cX0_leaveHouses 32 = .ok (.iload_n 1, 1) := by decide +kernel
theorem dX0_leaveHouses_33 : decode cX0_leaveHouses 33 = .ok (.iconst 2, 1) := by decide +kernel
theorem dX0_leaveHouses_34 : decode cX0_leaveHouses 34 = .ok (.iastore, 1) := by decide +kernel
theorem dX0_leaveHouses_35 : decode cX0_leaveHouses 35 = .ok (.aload_n 0, 1) := by decide +kernel
theorem dX0_leaveHouses_36 : decode cX0_leaveHouses 36 = .ok (.dup, 1) := by decide +kernel
theorem dX0_leaveHouses_37 : decode cX0_leaveHouses 37 = .ok (.getfield 18, 3) := by decide +kernel
theorem dX0_leaveHouses_40 : decode cX0_leaveHouses 40 = .ok (.iconst 1, 1) := by decide +kernel
theorem dX0_leaveHouses_41 : decode cX0_leaveHouses 41 = .ok (.iadd, 1) := by decide +kernel
theorem dX0_leaveHouses_42 : decode cX0_leaveHouses 42 = .ok (.putfield 18, 3) := by decide +kernel
theorem dX0_leaveHouses_45 : decode cX0_leaveHouses 45 = .ok (.iinc 1 1, 3) := by decide +kernel
theorem dX0_leaveHouses_48 : decode cX0_leaveHouses 48 = .ok (.goto (-46), 3) := by decide +kernel
theorem dX0_leaveHouses_51 : decode cX0_leaveHouses 51 = .ok (.return_, 1) := by decide +kernel
set_option maxRecDepth 20000 in
theorem ggX0_sinkLots_X0_neighboursOfKind : GoodIn wsX0_sinkLots wsX0_neighboursOfKind := goodIn_r _ [7, 1, 8, 9, 10, 11, 12, 13, 14, 15, 16, 17, 18, 19, 20, 21, 22, 23, 24, 25] (by decide +kernel) (by decide +kernel)
set_option maxRecDepth 20000 in
theorem gX0_sinkLots_X0_neighboursOfKind : GoodIn wsX0_sinkLots (wsV RX0 69 RX0 yX0_neighboursOfKind wsX0_neighboursOfKind) := goodIn_app (goodIn_of _ (by decide +kernel)) ggX0_sinkLots_X0_neighboursOfKind
set_option maxRecDepth 20000 in
theorem ggX0_sinkLots_X1_isLot : GoodIn wsX0_sinkLots wsX1_isLot := goodIn_r _ [12] (by decide +kernel) (by decide +kernel)
set_option maxRecDepth 20000 in
theorem gX0_sinkLots_X1_isLot_n73 : GoodIn wsX0_sinkLots (wsX1_isLot) := ggX0_sinkLots_X1_isLot
theorem dX0_sinkLots_0 : decode cX0_sinkLots 0 = .ok (.iconst 0, 1) := by decide +kernel
theorem dX0_sinkLots_1 : decode cX0_sinkLots 1 = .ok (.istore_n 1, 1) := by decide +kernel
theorem dX0_sinkLots_2 : decode cX0_sinkLots 2 = .ok (.iconst 0, 1) := by decide +kernel
theorem dX0_sinkLots_3 : decode cX0_sinkLots 3 = .ok (.istore_n 2, 1) := by decide +kernel
theorem dX0_sinkLots_4 : decode cX0_sinkLots 4 = .ok (.iload_n 2, 1) := by decide +kernel
theorem dX0_sinkLots_5 : decode cX0_sinkLots 5 = .ok (.bipush 64, 2) := by decide +kernel
theorem dX0_sinkLots_7 : decode cX0_sinkLots 7 = .ok (.if_icmp .ge 39, 3) := by decide +kernel
theorem dX0_sinkLots_10 : decode cX0_sinkLots 10 = .ok (.aload_n 0, 1) := by decide +kernel
theorem dX0_sinkLots_11 : decode cX0_sinkLots 11 = .ok (.getfield 21, 3) := by decide +kernel
theorem dX0_sinkLots_14 : decode cX0_sinkLots 14 = .ok (.iload_n 2, 1) := by decide +kernel
theorem dX0_sinkLots_15 : decode cX0_sinkLots 15 = .ok (.iaload, 1) := by decide +kernel
theorem dX0_sinkLots_16 : decode cX0_sinkLots 16 = .ok (.iconst 2, 1) := by decide +kernel
theorem dX0_sinkLots_17 : decode cX0_sinkLots 17 = .ok (.if_icmp .ne 23, 3) := by decide +kernel
theorem dX0_sinkLots_20 : decode cX0_sinkLots 20 = .ok (.aload_n 0, 1) := by decide +kernel
theorem dX0_sinkLots_21 : decode cX0_sinkLots 21 = .ok (.iload_n 2, 1) := by decide +kernel
theorem dX0_sinkLots_22 : decode cX0_sinkLots 22 = .ok (.iconst 0, 1) := by decide +kernel
theorem dX0_sinkLots_23 : decode cX0_sinkLots 23 = .ok (.invokevirtual 69, 3) := by decide +kernel
theorem dX0_sinkLots_26 : decode cX0_sinkLots 26 = .ok (.iconst 3, 1) := by decide +kernel
theorem dX0_sinkLots_27 : decode cX0_sinkLots 27 = .ok (.if_icmp .lt 13, 3) := by decide +kernel
theorem dX0_sinkLots_30 : decode cX0_sinkLots 30 = .ok (.aload_n 0, 1) := by decide +kernel
theorem dX0_sinkLots_31 : decode cX0_sinkLots 31 = .ok (.getfield 49, 3) := by decide +kernel
theorem dX0_sinkLots_34 : decode cX0_sinkLots 34 = .ok (.iload_n 1, 1) := by decide +kernel
theorem dX0_sinkLots_35 : decode cX0_sinkLots 35 = .ok (.iload_n 2, 1) := by decide +kernel
theorem dX0_sinkLots_36 : decode cX0_sinkLots 36 = .ok (.iastore, 1) := by decide +kernel
theorem dX0_sinkLots_37 : decode cX0_sinkLots 37 = .ok (.iinc 1 1, 3) := by decide +kernel
theorem dX0_sinkLots_40 : decode cX0_sinkLots 40 = .ok (.iinc 2 1, 3) := by decide +kernel
theorem dX0_sinkLots_43 : decode cX0_sinkLots 43 = .ok (.goto (-39), 3) := by decide +kernel
theorem dX0_sinkLots_46 : decode cX0_sinkLots 46 = .ok (.iconst 0, 1) := by decide +kernel
theorem dX0_sinkLots_47 : decode cX0_sinkLots 47 = .ok (.istore_n 2, 1) := by decide +kernel
theorem dX0_sinkLots_48 : decode cX0_sinkLots 48 = .ok (.iload_n 2, 1) := by decide +kernel
theorem dX0_sinkLots_49 : decode cX0_sinkLots 49 = .ok (.iload_n 1, 1) := by decide +kernel
theorem dX0_sinkLots_50 : decode cX0_sinkLots 50 = .ok (.if_icmp .ge 36, 3) := by decide +kernel
theorem dX0_sinkLots_53 : decode cX0_sinkLots 53 = .ok (.iload_n 2, 1) := by decide +kernel
theorem dX0_sinkLots_54 : decode cX0_sinkLots 54 = .ok (.bipush 64, 2) := by decide +kernel
theorem dX0_sinkLots_56 : decode cX0_sinkLots 56 = .ok (.if_icmp .ge 30, 3) := by decide +kernel
theorem dX0_sinkLots_59 : decode cX0_sinkLots 59 = .ok (.aload_n 0, 1) := by decide +kernel
theorem dX0_sinkLots_60 : decode cX0_sinkLots 60 = .ok (.getfield 49, 3) := by decide +kernel
theorem dX0_sinkLots_63 : decode cX0_sinkLots 63 = .ok (.iload_n 2, 1) := by decide +kernel
theorem dX0_sinkLots_64 : decode cX0_sinkLots 64 = .ok (.iaload, 1) := by decide +kernel
theorem dX0_sinkLots_65 : decode cX0_sinkLots 65 = .ok (.istore_n 3, 1) := by decide +kernel
theorem dX0_sinkLots_66 : decode cX0_sinkLots 66 = .ok (.iload_n 3, 1) := by decide +kernel
theorem dX0_sinkLots_67 : decode cX0_sinkLots 67 = .ok (.invokestatic 73, 3) := by decide +kernel
theorem dX0_sinkLots_70 : decode cX0_sinkLots 70 = .ok (.ifCond .eq 10, 3) := by decide +kernel
theorem dX0_sinkLots_73 : decode cX0_sinkLots 73 = .ok (.aload_n 0, 1) := by decide +kernel
theorem dX0_sinkLots_74 : decode cX0_sinkLots 74 = .ok (.getfield 21, 3) := by decide +kernel
theorem dX0_sinkLots_77 : decode cX0_sinkLots 77 = .ok (.iload_n 3, 1) := by decide +kernel
theorem dX0_sinkLots_78 : decode cX0_sinkLots 78 = .ok (.iconst 0, 1) := by decide +kernel
theorem dX0_sinkLots_79 : decode cX0_sinkLots 79 = .ok (.iastore, 1) := by decide +kernel
theorem dX0_sinkLots_80 : decode cX0_sinkLots 80 = .ok (.iinc 2 1, 3) := by decide +kernel
theorem dX0_sinkLots_83 : decode cX0_sinkLots 83 = .ok (.goto (-35), 3) := by decide +kernel
theorem dX0_sinkLots_86 : decode cX0_sinkLots 86 = .ok (.return_, 1) := by decide +kernel
set_option maxRecDepth 20000 in
theorem ggX0_survey_X0_surveyQuarters : GoodIn wsX0_survey wsX0_surveyQuarters := goodIn_r _ [9, 10, 11, 12, 13, 2, 14, 15, 8, 16, 17, 18, 19, 20, 21, 22, 23, 24, 25, 26, 27, 28, 29, 30, 31, 32, 33, 34, 67, 68, 69, 70, 71, 72, 73, 74, 75, 76, 77, 78, 79] (by decide +kernel) (by decide +kernel)
set_option maxRecDepth 20000 in
theorem gX0_survey_X0_surveyQuarters : GoodIn wsX0_survey (wsV RX0 77 RX0 yX0_surveyQuarters wsX0_surveyQuarters) := goodIn_app (goodIn_of _ (by decide +kernel)) ggX0_survey_X0_surveyQuarters
set_option maxRecDepth 20000 in
theorem ggX0_survey_X0_clear : GoodIn wsX0_survey wsX0_clear := goodIn_r _ [16] (by decide +kernel) (by decide +kernel)
set_option maxRecDepth 20000 in
theorem gX0_survey_X0_clear : GoodIn wsX0_survey (va_wsS RX0 80 yX0_clear wsX0_clear) := goodIn_app (goodIn_of _ (by decide +kernel)) ggX0_survey_X0_clear
set_option maxRecDepth 20000 in
theorem ggX0_survey_X1_isWater : GoodIn wsX0_survey wsX1_isWater := goodIn_r _ [30] (by decide +kernel) (by decide +kernel)
set_option maxRecDepth 20000 in
theorem gX0_survey_X1_isWater_n84 : GoodIn wsX0_survey (wsX1_isWater) := ggX0_survey_X1_isWater
set_option maxRecDepth 20000 in
theorem ggX0_survey_X0_spread : GoodIn wsX0_survey wsX0_spread := goodIn_r _ [23, 24, 2, 25, 18, 26, 27, 28, 17, 19, 29, 30, 67, 68, 69, 70, 71, 72, 73, 74, 75, 76, 77, 78, 79] (by decide +kernel) (by decide +kernel)
set_option maxRecDepth 20000 in
theorem gX0_survey_X0_spread : GoodIn wsX0_survey (wsV RX0 87 RX0 yX0_spread wsX0_spread) := goodIn_app (goodIn_of _ (by decide +kernel)) ggX0_survey_X0_spread
set_option maxRecDepth 20000 in
theorem ggX0_survey_X0_complaintsAt : GoodIn wsX0_survey wsX0_complaintsAt := goodIn_r _ [38, 2, 39, 40, 41, 8, 42, 10, 13, 25, 18, 26, 43, 44, 45, 46, 17, 19, 27, 28, 47, 48, 49, 50, 1, 51, 52, 53, 54, 67, 68, 69, 70, 71, 72, 73, 74, 75, 76, 77, 78, 79] (by decide +kernel) (by decide +kernel)
set_option maxRecDepth 20000 in
theorem gX0_survey_X0_complaintsAt : GoodIn wsX0_survey (wsV RX0 91 RX0 yX0_complaintsAt wsX0_complaintsAt) := goodIn_app (goodIn_of _ (by decide +kernel)) ggX0_survey_X0_complaintsAt
set_option maxRecDepth 20000 in
theorem ggX0_survey_X0_duesAt : GoodIn wsX0_survey wsX0_duesAt := goodIn_r _ [58, 2, 3, 59, 60, 61, 62, 43, 44, 45, 8, 46, 17, 18, 19, 27, 28, 25, 26, 47, 48, 49, 50, 1, 63, 64, 65, 66, 10, 12, 67, 68, 69, 70, 71, 72, 73, 74, 75, 76, 77, 78, 79] (by decide +kernel) (by decide +kernel)
set_option maxRecDepth 20000 in
theorem gX0_survey_X0_duesAt : GoodIn wsX0_survey (wsV RX0 95 RX0 yX0_duesAt wsX0_duesAt) := goodIn_app (goodIn_of _ (by decide +kernel)) ggX0_survey_X0_duesAt
theorem dX0_survey_0 : decode cX0_survey 0 = .ok (.aload_n 0, 1) := by decide +kernel
theorem dX0_survey_1 : decode cX0_survey 1 = .ok (.invokevirtual 77, 3) := by decide +kernel
theorem dX0_survey_4 : decode cX0_survey 4 = .ok (.aload_n 0, 1) := by decide +kernel
theorem dX0_survey_5 : decode cX0_survey 5 = .ok (.getfield 37, 3) := by decide +kernel
theorem dX0_survey_8 : decode cX0_survey 8 = .ok (.iconst (-1), 1) := by decide +kernel
theorem dX0_survey_9 : decode cX0_survey 9 = .ok (.invokestatic 80, 3) := by decide +kernel
theorem dX0_survey_12 : decode cX0_survey 12 = .ok (.aload_n 0, 1) := by decide +kernel
theorem dX0_survey_13 : decode cX0_survey 13 = .ok (.getfield 21, 3) := by decide +kernel
theorem dX0_survey_16 : decode cX0_survey 16 = .ok (.iconst 3, 1) := by decide +kernel
theorem dX0_survey_17 : decode cX0_survey 17 = .ok (.iaload, 1) := by decide +kernel
theorem dX0_survey_18 : decode cX0_survey 18 = .ok (.invokestatic 84, 3) := by decide +kernel
theorem dX0_survey_21 : decode cX0_survey 21 = .ok (.ifCond .eq 15, 3) := by decide +kernel
theorem dX0_survey_24 : decode cX0_survey 24 = .ok (.aload_n 0, 1) := by decide +kernel
theorem dX0_survey_25 : decode cX0_survey 25 = .ok (.aload_n 0, 1) := by decide +kernel
theorem dX0_survey_26 : decode cX0_survey 26 = .ok (.getfield 37, 3) := by decide +kernel
theorem dX0_survey_29 : decode cX0_survey 29 = .ok (.iconst 3, 1) := by decide +kernel
theorem dX0_survey_30 : decode cX0_survey 30 = .ok (.iconst 0, 1) := by decide +kernel
theorem dX0_survey_31 : decode cX0_survey 31 = .ok (.iconst 0, 1) := by decide +kernel
theorem dX0_survey_32 : decode cX0_survey 32 = .ok (.iconst 1, 1) := by decide +kernel
theorem dX0_survey_33 : decode cX0_survey 33 = .ok (.invokevirtual 87, 3) := by decide +kernel
theorem dX0_survey_36 : decode cX0_survey 36 = .ok (.iconst 0, 1) := by decide +kernel
theorem dX0_survey_37 : decode cX0_survey 37 = .ok (.istore_n 1, 1) := by decide +kernel
theorem dX0_survey_38 : decode cX0_survey 38 = .ok (.iload_n 1, 1) := by decide +kernel
theorem dX0_survey_39 : decode cX0_survey 39 = .ok (.bipush 64, 2) := by decide +kernel
theorem dX0_survey_41 : decode cX0_survey 41 = .ok (.if_icmp .ge 31, 3) := by decide +kernel
theorem dX0_survey_44 : decode cX0_survey 44 = .ok (.aload_n 0, 1) := by decide +kernel
theorem dX0_survey_45 : decode cX0_survey 45 = .ok (.getfield 40, 3) := by decide +kernel
theorem dX0_survey_48 : decode cX0_survey 48 = .ok (.iload_n 1, 1) := by decide +kernel
theorem dX0_survey_49 : decode cX0_survey 49 = .ok (.aload_n 0, 1) := by decide +kernel
theorem dX0_survey_50 : decode cX0_survey 50 = .ok (.iload_n 1, 1) := by decide +kernel
theorem dX0_survey_51 : decode cX0_survey 51 = .ok (.invokevirtual 91, 3) := by decide +kernel
theorem dX0_survey_54 : decode cX0_survey 54 = .ok (.iastore, 1) := by decide +kernel
theorem dX0_survey_55 : decode cX0_survey 55 = .ok (.aload_n 0, 1) := by decide +kernel
theorem dX0_survey_56 : decode cX0_survey 56 = .ok (.getfield 43, 3) := by decide +kernel
theorem dX0_survey_59 : decode cX0_survey 59 = .ok (.iload_n 1, 1) := by decide +kernel
theorem dX0_survey_60 : decode cX0_survey 60 = .ok (.aload_n 0, 1) := by decide +kernel
theorem dX0_survey_61 : decode cX0_survey 61 = .ok (.iload_n 1, 1) := by decide +kernel
theorem dX0_survey_62 : decode cX0_survey 62 = .ok (.invokevirtual 95, 3) := by decide +kernel
theorem dX0_survey_65 : decode cX0_survey 65 = .ok (.iastore, 1) := by decide +kernel
theorem dX0_survey_66 : decode cX0_survey 66 = .ok (.iinc 1 1, 3) := by decide +kernel
theorem dX0_survey_69 : decode cX0_survey 69 = .ok (.goto (-31), 3) := by decide +kernel
theorem dX0_survey_72 : decode cX0_survey 72 = .ok (.return_, 1) := by decide +kernel
set_option maxRecDepth 20000 in
theorem ggX0_surveyQuarters_X0_clear : GoodIn wsX0_surveyQuarters wsX0_clear := goodIn_r _ [9] (by decide +kernel) (by decide +kernel)
set_option maxRecDepth 20000 in
theorem gX0_surveyQuarters_X0_clear : GoodIn wsX0_surveyQuarters (va_wsS RX0 80 yX0_clear wsX0_clear) := goodIn_app (goodIn_of _ (by decide +kernel)) ggX0_surveyQuarters_X0_clear
set_option maxRecDepth 20000 in
theorem ggX0_surveyQuarters_X1_isLand : GoodIn wsX0_surveyQuarters wsX1_isLand := goodIn_r _ [12] (by decide +kernel) (by decide +kernel)
set_option maxRecDepth 20000 in
theorem gX0_surveyQuarters_X1_isLand_n98 : GoodIn wsX0_surveyQuarters (wsX1_isLand) := ggX0_surveyQuarters_X1_isLand
set_option maxRecDepth 20000 in
theorem ggX0_surveyQuarters_X0_spread : GoodIn wsX0_surveyQuarters wsX0_spread := goodIn_r _ [16, 17, 5, 18, 11, 19, 20, 21, 10, 12, 22, 23, 28, 29, 30, 31, 32, 33, 34, 35, 36, 37, 38, 39, 40] (by decide +kernel) (by decide +kernel)
set_option maxRecDepth 20000 in
theorem gX0_surveyQuarters_X0_spread : GoodIn wsX0_surveyQuarters (wsV RX0 87 RX0 yX0_spread wsX0_spread) := goodIn_app (goodIn_of _ (by decide +kernel)) ggX0_surveyQuarters_X0_spread
set_option maxRecDepth 20000 in
theorem ggX0_surveyQuarters_X0_enter : GoodIn wsX0_surveyQuarters wsX0_enter := goodIn_r _ [27, 2, 3, 4, 18, 11, 19, 28, 29, 30, 31, 32, 33, 34, 35, 36, 37, 38, 39, 40] (by decide +kernel) (by decide +kernel)
set_option maxRecDepth 20000 in
theorem gX0_surveyQuarters_X0_enter : GoodIn wsX0_surveyQuarters (wsV RX0 101 RX0 yX0_enter wsX0_enter) := goodIn_app (goodIn_of _ (by decide +kernel)) ggX0_surveyQuarters_X0_enter
theorem dX0_surveyQuarters_0 : decode cX0_surveyQuarters 0 = .ok (.aload_n 0, 1) := by decide +kernel
theorem dX0_surveyQuarters_1 : decode cX0_surveyQuarters 1 = .ok (.getfield 25, 3) := by decide +kernel
theorem dX0_surveyQuarters_4 : decode cX0_surveyQuarters 4 = .ok (.iconst (-1), 1) := by decide +kernel
theorem dX0_surveyQuarters_5 : decode cX0_surveyQuarters 5 = .ok (.invokestatic 80, 3) := by decide +kernel
theorem dX0_surveyQuarters_8 : decode cX0_surveyQuarters 8 = .ok (.aload_n 0, 1) := by decide +kernel
theorem dX0_surveyQuarters_9 : decode cX0_surveyQuarters 9 = .ok (.getfield 28, 3) := by decide +kernel
theorem dX0_surveyQuarters_12 : decode cX0_surveyQuarters 12 = .ok (.iconst 0, 1) := by decide +kernel
theorem dX0_surveyQuarters_13 : decode cX0_surveyQuarters 13 = .ok (.invokestatic 80, 3) := by decide +kernel
theorem dX0_surveyQuarters_16 : decode cX0_surveyQuarters 16 = .ok (.aload_n 0, 1) := by decide +kernel
theorem dX0_surveyQuarters_17 : decode cX0_surveyQuarters 17 = .ok (.getfield 31, 3) := by decide +kernel
theorem dX0_surveyQuarters_20 : decode cX0_surveyQuarters 20 = .ok (.iconst 0, 1) := by decide +kernel
theorem dX0_surveyQuarters_21 : decode cX0_surveyQuarters 21 = .ok (.invokestatic 80, 3) := by decide +kernel
theorem dX0_surveyQuarters_24 : decode cX0_surveyQuarters 24 = .ok (.aload_n 0, 1) := by decide +kernel
theorem dX0_surveyQuarters_25 : decode cX0_surveyQuarters 25 = .ok (.getfield 34, 3) := by decide +kernel
theorem dX0_surveyQuarters_28 : decode cX0_surveyQuarters 28 = .ok (.iconst 0, 1) := by decide +kernel
theorem dX0_surveyQuarters_29 : decode cX0_surveyQuarters 29 = .ok (.invokestatic 80, 3) := by decide +kernel
theorem dX0_surveyQuarters_32 : decode cX0_surveyQuarters 32 = .ok (.iconst 0, 1) := by decide +kernel
theorem dX0_surveyQuarters_33 : decode cX0_surveyQuarters 33 = .ok (.istore_n 1, 1) := by decide +kernel
theorem dX0_surveyQuarters_34 : decode cX0_surveyQuarters 34 = .ok (.iload_n 1, 1) := by decide +kernel
theorem dX0_surveyQuarters_35 : decode cX0_surveyQuarters 35 = .ok (.bipush 64, 2) := by decide +kernel
theorem dX0_surveyQuarters_37 : decode cX0_surveyQuarters 37 = .ok (.if_icmp .ge 58, 3) := by decide +kernel
theorem dX0_surveyQuarters_40 : decode cX0_surveyQuarters 40 = .ok (.aload_n 0, 1) := by decide +kernel
theorem dX0_surveyQuarters_41 : decode cX0_surveyQuarters 41 = .ok (.getfield 21, 3) := by decide +kernel
theorem dX0_surveyQuarters_44 : decode cX0_surveyQuarters 44 = .ok (.iload_n 1, 1) := by decide +kernel
theorem dX0_surveyQuarters_45 : decode cX0_surveyQuarters 45 = .ok (.iaload, 1) := by decide +kernel
theorem dX0_surveyQuarters_46 : decode cX0_surveyQuarters 46 = .ok (.invokestatic 98, 3) := by decide +kernel
theorem dX0_surveyQuarters_49 : decode cX0_surveyQuarters 49 = .ok (.ifCond .eq 40, 3) := by decide +kernel
theorem dX0_surveyQuarters_52 : decode cX0_surveyQuarters 52 = .ok (.aload_n 0, 1) := by decide +kernel
theorem dX0_surveyQuarters_53 : decode cX0_surveyQuarters 53 = .ok (.getfield 25, 3) := by decide +kernel
theorem dX0_surveyQuarters_56 : decode cX0_surveyQuarters 56 = .ok (.iload_n 1, 1) := by decide +kernel
theorem dX0_surveyQuarters_57 : decode cX0_surveyQuarters 57 = .ok (.iaload, 1) := by decide +kernel
theorem dX0_surveyQuarters_58 : decode cX0_surveyQuarters 58 = .ok (.ifCond .ge 15, 3) := by decide +kernel
theorem dX0_surveyQuarters_61 : decode cX0_surveyQuarters 61 = .ok (.aload_n 0, 1) := by decide +kernel
theorem dX0_surveyQuarters_62 : decode cX0_surveyQuarters 62 = .ok (.aload_n 0, 1) := by decide +kernel
theorem dX0_surveyQuarters_63 : decode cX0_surveyQuarters 63 = .ok (.getfield 25, 3) := by decide +kernel
theorem dX0_surveyQuarters_66 : decode cX0_surveyQuarters 66 = .ok (.iload_n 1, 1) := by decide +kernel
theorem dX0_surveyQuarters_67 : decode cX0_surveyQuarters 67 = .ok (.iconst 1, 1) := by decide +kernel
theorem dX0_surveyQuarters_68 : decode cX0_surveyQuarters 68 = .ok (.iload_n 1, 1) := by decide +kernel
theorem dX0_surveyQuarters_69 : decode cX0_surveyQuarters 69 = .ok (.iconst 0, 1) := by decide +kernel
theorem dX0_surveyQuarters_70 : decode cX0_surveyQuarters 70 = .ok (.invokevirtual 87, 3) := by decide +kernel
theorem dX0_surveyQuarters_73 : decode cX0_surveyQuarters 73 = .ok (.aload_n 0, 1) := by decide +kernel
theorem dX0_surveyQuarters_74 : decode cX0_surveyQuarters 74 = .ok (.aload_n 0, 1) := by decide +kernel
theorem dX0_surveyQuarters_75 : decode cX0_surveyQuarters 75 = .ok (.getfield 25, 3) := by decide +kernel
theorem dX0_surveyQuarters_78 : decode cX0_surveyQuarters 78 = .ok (.iload_n 1, 1) := by decide +kernel
theorem dX0_surveyQuarters_79 : decode cX0_surveyQuarters 79 = .ok (.iaload, 1) := by decide +kernel
theorem dX0_surveyQuarters_80 : decode cX0_surveyQuarters 80 = .ok (.aload_n 0, 1) := by decide +kernel
theorem dX0_surveyQuarters_81 : decode cX0_surveyQuarters 81 = .ok (.getfield 21, 3) := by decide +kernel
theorem dX0_surveyQuarters_84 : decode cX0_surveyQuarters 84 = .ok (.iload_n 1, 1) := by decide +kernel
theorem dX0_surveyQuarters_85 : decode cX0_surveyQuarters 85 = .ok (.iaload, 1) := by decide +kernel
theorem dX0_surveyQuarters_86 : decode cX0_surveyQuarters 86 = .ok (.invokevirtual 101, 3) := by decide +kernel
theorem dX0_surveyQuarters_89 : decode cX0_surveyQuarters 89 = .ok (.iinc 1 1, 3) := by decide +kernel
theorem dX0_surveyQuarters_92 : decode cX0_surveyQuarters 92 = .ok (.goto (-58), 3) := by decide +kernel
theorem dX0_surveyQuarters_95 : decode cX0_surveyQuarters 95 = .ok (.return_, 1) := by decide +kernel
set_option maxRecDepth 20000 in
theorem ggX0_enter_X1_isLot : GoodIn wsX0_enter wsX1_isLot := goodIn_r _ [6] (by decide +kernel) (by decide +kernel)
set_option maxRecDepth 20000 in
theorem gX0_enter_X1_isLot_n73 : GoodIn wsX0_enter (wsX1_isLot) := ggX0_enter_X1_isLot
theorem dX0_enter_0 : decode cX0_enter 0 = .ok (.iload_n 1, 1) := by decide +kernel
theorem dX0_enter_1 : decode cX0_enter 1 = .ok (.invokestatic 73, 3) := by decide +kernel
theorem dX0_enter_4 : decode cX0_enter 4 = .ok (.ifCond .ne 4, 3) := by decide +kernel
theorem dX0_enter_7 : decode cX0_enter 7 = .ok (.return_, 1) := by decide +kernel
theorem dX0_enter_8 : decode cX0_enter 8 = .ok (.aload_n 0, 1) := by decide +kernel
theorem dX0_enter_9 : decode cX0_enter 9 = .ok (.getfield 28, 3) := by decide +kernel
theorem dX0_enter_12 : decode cX0_enter 12 = .ok (.iload_n 1, 1) := by decide +kernel
theorem dX0_enter_13 : decode cX0_enter 13 = .ok (.dup2, 1) := by decide +kernel
theorem dX0_enter_14 : decode cX0_enter 14 = .ok (.iaload, 1) := by decide +kernel
theorem dX0_enter_15 : decode cX0_enter 15 = .ok (.iconst 1, 1) := by decide +kernel
theorem dX0_enter_16 : decode cX0_enter 16 = .ok (.iadd, 1) := by decide +kernel
theorem dX0_enter_17 : decode cX0_enter 17 = .ok (.iastore, 1) := by decide +kernel
theorem dX0_enter_18 : decode cX0_enter 18 = .ok (.iload_n 2, 1) := by decide +kernel
theorem dX0_enter_19 : decode cX0_enter 19 = .ok (.iconst 3, 1) := by decide +kernel
theorem dX0_enter_20 : decode cX0_enter 20 = .ok (.if_icmp .ne 16, 3) := by decide +kernel
theorem dX0_enter_23 : decode cX0_enter 23 = .ok (.aload_n 0, 1) := by decide +kernel
theorem dX0_enter_24 : decode cX0_enter 24 = .ok (.getfield 31, 3) := by decide +kernel
theorem dX0_enter_27 : decode cX0_enter 27 = .ok (.iload_n 1, 1) := by decide +kernel
theorem dX0_enter_28 : decode cX0_enter 28 = .ok (.dup2, 1) := by decide +kernel
theorem dX0_enter_29 : decode cX0_enter 29 = .ok (.iaload, 1) := by decide +kernel
theorem dX0_enter_30 : decode cX0_enter 30 = .ok (.iconst 1, 1) := by decide +kernel
theorem dX0_enter_31 : decode cX0_enter 31 = .ok (.iadd, 1) := by decide +kernel
theorem dX0_enter_32 : decode cX0_enter 32 = .ok (.iastore, 1) := by decide +kernel
theorem dX0_enter_33 : decode cX0_enter 33 = .ok (.goto 18, 3) := by decide +kernel
theorem dX0_enter_36 : decode cX0_enter 36 = .ok (.iload_n 2, 1) := by decide +kernel
theorem dX0_enter_37 : decode cX0_enter 37 = .ok (.iconst 5, 1) := by decide +kernel
theorem dX0_enter_38 : decode cX0_enter 38 = .ok (.if_icmp .ne 13, 3) := by decide +kernel
theorem dX0_enter_41 : decode cX0_enter 41 = .ok (.aload_n 0, 1) := by decide +kernel
theorem dX0_enter_42 : decode cX0_enter 42 = .ok (.getfield 34, 3) := by decide +kernel
theorem dX0_enter_45 : decode cX0_enter 45 = .ok (.iload_n 1, 1) := by decide +kernel
theorem dX0_enter_46 : decode cX0_enter 46 = .ok (.dup2, 1) := by decide +kernel
theorem dX0_enter_47 : decode cX0_enter 47 = .ok (.iaload, 1) := by decide +kernel
theorem dX0_enter_48 : decode cX0_enter 48 = .ok (.iconst 1, 1) := by decide +kernel
theorem dX0_enter_49 : decode cX0_enter 49 = .ok (.iadd, 1) := by decide +kernel
theorem dX0_enter_50 : decode cX0_enter 50 = .ok (.iastore, 1) := by decide +kernel
theorem dX0_enter_51 : decode cX0_enter 51 = .ok (.return_, 1) := by decide +kernel
theorem dX0_clear_0 : decode cX0_clear 0 = .ok (.iconst 0, 1) := by decide +kernel
theorem dX0_clear_1 : decode cX0_clear 1 = .ok (.istore_n 2, 1) := by decide +kernel
theorem dX0_clear_2 : decode cX0_clear 2 = .ok (.iload_n 2, 1) := by decide +kernel
theorem dX0_clear_3 : decode cX0_clear 3 = .ok (.aload_n 0, 1) := by decide +kernel
theorem dX0_clear_4 : decode cX0_clear 4 = .ok (.arraylength, 1) := by decide +kernel
theorem dX0_clear_5 : decode cX0_clear 5 = .ok (.if_icmp .ge 13, 3) := by decide +kernel
theorem dX0_clear_8 : decode cX0_clear 8 = .ok (.aload_n 0, 1) := by decide +kernel
theorem dX0_clear_9 : decode cX0_clear 9 = .ok (.iload_n 2, 1) := by decide +kernel
theorem dX0_clear_10 : decode cX0_clear 10 = .ok (.iload_n 1, 1) := by decide +kernel
theorem dX0_clear_11 : decode cX0_clear 11 = .ok (.iastore, 1) := by decide +kernel
theorem dX0_clear_12 : decode cX0_clear 12 = .ok (.iinc 2 1, 3) := by decide +kernel
theorem dX0_clear_15 : decode cX0_clear 15 = .ok (.goto (-13), 3) := by decide +kernel
theorem dX0_clear_18 : decode cX0_clear 18 = .ok (.return_, 1) := by decide +kernel
set_option maxRecDepth 20000 in
theorem ggX0_spread_X1_isLot : GoodIn wsX0_spread wsX1_isLot := goodIn_r _ [5] (by decide +kernel) (by decide +kernel)
set_option maxRecDepth 20000 in
theorem gX0_spread_X1_isLot_n73 : GoodIn wsX0_spread (wsX1_isLot) := ggX0_spread_X1_isLot
set_option maxRecDepth 20000 in
theorem ggX0_spread_X1_neighbour : GoodIn wsX0_spread wsX1_neighbour := goodIn_r _ [7] (by decide +kernel) (by decide +kernel)
set_option maxRecDepth 20000 in
theorem gX0_spread_X1_neighbour_n104 : GoodIn wsX0_spread (wsX1_neighbour) := ggX0_spread_X1_neighbour
set_option maxRecDepth 20000 in
theorem ggX0_spread_X1_isLand : GoodIn wsX0_spread wsX1_isLand := goodIn_r _ [9] (by decide +kernel) (by decide +kernel)
set_option maxRecDepth 20000 in
theorem gX0_spread_X1_isLand_n98 : GoodIn wsX0_spread (wsX1_isLand) := ggX0_spread_X1_isLand
set_option maxRecDepth 20000 in
theorem ggX0_spread_X1_isWater : GoodIn wsX0_spread wsX1_isWater := goodIn_r _ [11] (by decide +kernel) (by decide +kernel)
set_option maxRecDepth 20000 in
theorem gX0_spread_X1_isWater_n84 : GoodIn wsX0_spread (wsX1_isWater) := ggX0_spread_X1_isWater
theorem dX0_spread_0 : decode cX0_spread 0 = .ok (.aload_n 1, 1) := by decide +kernel
theorem dX0_spread_1 : decode cX0_spread 1 = .ok (.iload_n 2, 1) := by decide +kernel
theorem dX0_spread_2 : decode cX0_spread 2 = .ok (.iload 4, 2) := by decide +kernel
theorem dX0_spread_4 : decode cX0_spread 4 = .ok (.iastore, 1) := by decide +kernel
theorem dX0_spread_5 : decode cX0_spread 5 = .ok (.aload_n 0, 1) := by decide +kernel
theorem dX0_spread_6 : decode cX0_spread 6 = .ok (.getfield 49, 3) := by decide +kernel
theorem dX0_spread_9 : decode cX0_spread 9 = .ok (.iconst 0, 1) := by decide +kernel
theorem dX0_spread_10 : decode cX0_spread 10 = .ok (.iload_n 2, 1) := by decide +kernel
theorem dX0_spread_11 : decode cX0_spread 11 = .ok (.iastore, 1) := by decide +kernel
theorem dX0_spread_12 : decode cX0_spread 12 = .ok (.iconst 1, 1) := by decide +kernel
theorem dX0_spread_13 : decode cX0_spread 13 = .ok (.istore 6, 2) := by decide +kernel
theorem dX0_spread_15 : decode cX0_spread 15 = .ok (.iconst 0, 1) := by decide +kernel
theorem dX0_spread_16 : decode cX0_spread 16 = .ok (.istore 7, 2) := by decide +kernel
theorem dX0_spread_18 : decode cX0_spread 18 = .ok (.iload 7, 2) := by decide +kernel
theorem dX0_spread_20 : decode cX0_spread 20 = .ok (.iload 6, 2) := by decide +kernel
theorem dX0_spread_22 : decode cX0_spread 22 = .ok (.if_icmp .ge 135, 3) := by decide +kernel
theorem dX0_spread_25 : decode cX0_spread 25 = .ok (.iload 7, 2) := by decide +kernel
theorem dX0_spread_27 : decode cX0_spread 27 = .ok (.bipush 64, 2) := by decide +kernel
theorem dX0_spread_29 : decode cX0_spread 29 = .ok (.if_icmp .ge 128, 3) := by decide +kernel
theorem dX0_spread_32 : decode cX0_spread 32 = .ok (.aload_n 0, 1) := by decide +kernel
theorem dX0_spread_33 : decode cX0_spread 33 = .ok (.getfield 49, 3) := by decide +kernel
theorem dX0_spread_36 : decode cX0_spread 36 = .ok (.iload 7, 2) := by decide +kernel
theorem dX0_spread_38 : decode cX0_spread 38 = .ok (.iaload, 1) := by decide +kernel
theorem dX0_spread_39 : decode cX0_spread 39 = .ok (.istore 8, 2) := by decide +kernel
theorem dX0_spread_41 : decode cX0_spread 41 = .ok (.iconst 0, 1) := by decide +kernel
theorem dX0_spread_42 : decode cX0_spread 42 = .ok (.istore 9, 2) := by decide +kernel
theorem dX0_spread_44 : decode cX0_spread 44 = .ok (.iload 8, 2) := by decide +kernel
theorem dX0_spread_46 : decode cX0_spread 46 = .ok (.invokestatic 73, 3) := by decide +kernel
theorem dX0_spread_49 : decode cX0_spread 49 = .ok (.ifCond .eq 102, 3) := by decide +kernel
theorem dX0_spread_52 : decode cX0_spread 52 = .ok (.iload 9, 2) := by decide +kernel
theorem dX0_spread_54 : decode cX0_spread 54 = .ok (.iconst 4, 1) := by decide +kernel
theorem dX0_spread_55 : decode cX0_spread 55 = .ok (.if_icmp .ge 96, 3) := by decide +kernel
theorem dX0_spread_58 : decode cX0_spread 58 = .ok (.iload 8, 2) := by decide +kernel
theorem dX0_spread_60 : decode cX0_spread 60 = .ok (.iload 9, 2) := by decide +kernel
theorem dX0_spread_62 : decode cX0_spread 62 = .ok (.invokestatic 104, 3) := by decide +kernel
theorem dX0_spread_65 : decode cX0_spread 65 = .ok (.istore 10, 2) := by decide +kernel
theorem dX0_spread_67 : decode cX0_spread 67 = .ok (.iload 10, 2) := by decide +kernel
theorem dX0_spread_69 : decode cX0_spread 69 = .ok (.invokestatic 73, 3) := by decide +kernel
theorem dX0_spread_72 : decode cX0_spread 72 = .ok (.ifCond .eq 73, 3) := by decide +kernel
theorem dX0_spread_75 : decode cX0_spread 75 = .ok (.aload_n 1, 1) := by decide +kernel
theorem dX0_spread_76 : decode cX0_spread 76 = .ok (.iload 10, 2) := by decide +kernel
theorem dX0_spread_78 : decode cX0_spread 78 = .ok (.iaload, 1) := by decide +kernel
theorem dX0_spread_79 : decode cX0_spread 79 = .ok (.ifCond .ge 66, 3) := by decide +kernel
theorem dX0_spread_82 : decode cX0_spread 82 = .ok (.iload 6, 2) := by decide +kernel
theorem dX0_spread_84 : decode cX0_spread 84 = .ok (.bipush 64, 2) := by decide +kernel
theorem dX0_spread_86 : decode cX0_spread 86 = .ok (.if_icmp .ge 59, 3) := by decide +kernel
theorem dX0_spread_89 : decode cX0_spread 89 = .ok (.iload_n 3, 1) := by decide +kernel
theorem dX0_spread_90 : decode cX0_spread 90 = .ok (.ifCond .eq 19, 3) := by decide +kernel
theorem dX0_spread_93 : decode cX0_spread 93 = .ok (.aload_n 0, 1) := by decide +kernel
theorem dX0_spread_94 : decode cX0_spread 94 = .ok (.getfield 21, 3) := by decide +kernel
theorem dX0_spread_97 : decode cX0_spread 97 = .ok (.iload 10, 2) := by decide +kernel
theorem dX0_spread_99 : decode cX0_spread 99 = .ok (.iaload, 1) := by decide +kernel
theorem dX0_spread_100 : decode cX0_spread 100 = .ok (.invokestatic 98, 3) := by decide +kernel
theorem dX0_spread_103 : decode cX0_spread 103 = .ok (.ifCond .eq 42, 3) := by decide +kernel
theorem dX0_spread_106 : decode cX0_spread 106 = .ok (.goto 16, 3) := by decide +kernel
theorem dX0_spread_109 : decode cX0_spread 109 = .ok (.aload_n 0, 1) := by decide +kernel
theorem dX0_spread_110 : decode cX0_spread 110 = .ok (.getfield 21, 3) := by decide +kernel
theorem dX0_spread_113 : decode cX0_spread 113 = .ok (.iload 10, 2) := by decide +kernel
theorem dX0_spread_115 : decode cX0_spread 115 = .ok (.iaload, 1) := by decide +kernel
theorem dX0_spread_116 : decode cX0_spread 116 = .ok (.invokestatic 84, 3) := by decide +kernel
theorem dX0_spread_119 : decode cX0_spread 119 = .ok (.ifCond .eq 26, 3) := by decide +kernel
theorem dX0_spread_122 : decode cX0_spread 122 = .ok (.aload_n 1, 1) := by decide +kernel
theorem dX0_spread_123 : decode cX0_spread 123 = .ok (.iload 10, 2) := by decide +kernel
theorem dX0_spread_125 : decode cX0_spread 125 = .ok (.aload_n 1, 1) := by decide +kernel
theorem dX0_spread_126 : decode cX0_spread 126 = .ok (.iload 8, 2) := by decide +kernel
theorem dX0_spread_128 : decode cX0_spread 128 = .ok (.iaload, 1) := by decide +kernel
theorem dX0_spread_129 : decode cX0_spread 129 = .ok (.iload 5, 2) := by decide +kernel
theorem dX0_spread_131 : decode cX0_spread 131 = .ok (.iadd, 1) := by decide +kernel
theorem dX0_spread_132 : decode cX0_spread 132 = .ok (.iastore, 1) := by decide +kernel
theorem dX0_spread_133 : decode cX0_spread 133 = .ok (.aload_n 0, 1) := by decide +kernel
theorem dX0_spread_134 : decode cX0_spread 134 = .ok (.getfield 49, 3) := by decide +kernel
theorem dX0_spread_137 : decode cX0_spread 137 = .ok (.iload 6, 2) := by decide +kernel
theorem dX0_spread_139 : decode cX0_spread 139 = .ok (.iload 10, 2) := by decide +kernel
theorem dX0_spread_141 : decode cX0_spread 141 = .ok (.iastore, 1) := by decide +kernel
theorem dX0_spread_142 : decode cX0_spread 142 = .ok (.iinc 6 1, 3) := by decide +kernel
theorem dX0_spread_145 : decode cX0_spread 145 = .ok (.iinc 9 1, 3) := by decide +kernel
theorem dX0_spread_148 : decode cX0_spread 148 = .ok (.goto (-104), 3) := by decide +kernel
theorem dX0_spread_151 : decode cX0_spread 151 = .ok (.iinc 7 1, 3) := by decide +kernel
theorem dX0_spread_154 : decode cX0_spread 154 = .ok (.goto (-136), 3) := by decide +kernel
theorem dX0_spread_157 : decode cX0_spread 157 = .ok (.return_, 1) := by decide +kernel
set_option maxRecDepth 20000 in
theorem ggX0_complaintsAt_X0_marketsInQuarter : GoodIn wsX0_complaintsAt wsX0_marketsInQuarter := goodIn_r _ [6, 7, 8, 9, 10, 11, 29, 30, 31, 32, 33, 34, 35, 36, 37, 38, 39, 40, 41] (by decide +kernel) (by decide +kernel)
set_option maxRecDepth 20000 in
theorem gX0_complaintsAt_X0_marketsInQuarter : GoodIn wsX0_complaintsAt (wsV RX0 107 RX0 yX0_marketsInQuarter wsX0_marketsInQuarter) := goodIn_app (goodIn_of _ (by decide +kernel)) ggX0_complaintsAt_X0_marketsInQuarter
set_option maxRecDepth 20000 in
theorem ggX0_complaintsAt_X0_isByBoat : GoodIn wsX0_complaintsAt wsX0_isByBoat := goodIn_r _ [15, 1, 16, 10, 17, 18, 19, 9, 11, 20, 21, 22, 5, 23, 24, 29, 30, 31, 32, 33, 34, 35, 36, 37, 38, 39, 40, 41] (by decide +kernel) (by decide +kernel)
set_option maxRecDepth 20000 in
theorem gX0_complaintsAt_X0_isByBoat : GoodIn wsX0_complaintsAt (wsV RX0 110 RX0 yX0_isByBoat wsX0_isByBoat) := goodIn_app (goodIn_of _ (by decide +kernel)) ggX0_complaintsAt_X0_isByBoat
set_option maxRecDepth 20000 in
theorem ggX0_complaintsAt_X0_neighboursOfKind : GoodIn wsX0_complaintsAt wsX0_neighboursOfKind := goodIn_r _ [28, 1, 18, 10, 19, 9, 11, 29, 30, 31, 32, 33, 34, 35, 36, 37, 38, 39, 40, 41] (by decide +kernel) (by decide +kernel)
set_option maxRecDepth 20000 in
theorem gX0_complaintsAt_X0_neighboursOfKind : GoodIn wsX0_complaintsAt (wsV RX0 69 RX0 yX0_neighboursOfKind wsX0_neighboursOfKind) := goodIn_app (goodIn_of _ (by decide +kernel)) ggX0_complaintsAt_X0_neighboursOfKind
theorem dX0_complaintsAt_0 : decode cX0_complaintsAt 0 = .ok (.aload_n 0, 1) := by decide +kernel
theorem dX0_complaintsAt_1 : decode cX0_complaintsAt 1 = .ok (.getfield 21, 3) := by decide +kernel
theorem dX0_complaintsAt_4 : decode cX0_complaintsAt 4 = .ok (.iload_n 1, 1) := by decide +kernel
theorem dX0_complaintsAt_5 : decode cX0_complaintsAt 5 = .ok (.iaload, 1) := by decide +kernel
theorem dX0_complaintsAt_6 : decode cX0_complaintsAt 6 = .ok (.iconst 3, 1) := by decide +kernel
theorem dX0_complaintsAt_7 : decode cX0_complaintsAt 7 = .ok (.if_icmp .eq 5, 3) := by decide +kernel
theorem dX0_complaintsAt_10 : decode cX0_complaintsAt 10 = .ok (.iconst 0, 1) := by decide +kernel
theorem dX0_complaintsAt_11 : decode cX0_complaintsAt 11 = .ok (.ireturn, 1) := by decide +kernel
theorem dX0_complaintsAt_12 : decode cX0_complaintsAt 12 = .ok (.aload_n 0, 1) := by decide +kernel
theorem dX0_complaintsAt_13 : decode cX0_complaintsAt 13 = .ok (.iload_n 1, 1) := by decide +kernel
theorem dX0_complaintsAt_14 : decode cX0_complaintsAt 14 = .ok (.invokevirtual 107, 3) := by decide +kernel
theorem dX0_complaintsAt_17 : decode cX0_complaintsAt 17 = .ok (.ifCond .ne 7, 3) := by decide +kernel
theorem dX0_complaintsAt_20 : decode cX0_complaintsAt 20 = .ok (.iconst 2, 1) := by decide +kernel
theorem dX0_complaintsAt_21 : decode cX0_complaintsAt 21 = .ok (.goto 4, 3) := by decide +kernel
theorem dX0_complaintsAt_24 : decode cX0_complaintsAt 24 = .ok (.iconst 0, 1) := by decide +kernel
theorem dX0_complaintsAt_25 : decode cX0_complaintsAt 25 = .ok (.istore_n 2, 1) := by decide +kernel
theorem dX0_complaintsAt_26 : decode cX0_complaintsAt 26 = .ok (.aload_n 0, 1) := by decide +kernel
theorem dX0_complaintsAt_27 : decode cX0_complaintsAt 27 = .ok (.iload_n 1, 1) := by decide +kernel
theorem dX0_complaintsAt_28 : decode cX0_complaintsAt 28 = .ok (.invokevirtual 110, 3) := by decide +kernel
theorem dX0_complaintsAt_31 : decode cX0_complaintsAt 31 = .ok (.ifCond .eq 7, 3) := by decide +kernel
theorem dX0_complaintsAt_34 : decode cX0_complaintsAt 34 = .ok (.iconst 0, 1) := by decide +kernel
theorem dX0_complaintsAt_35 : decode cX0_complaintsAt 35 = .ok (.goto 4, 3) := by decide +kernel
theorem dX0_complaintsAt_38 : decode cX0_complaintsAt 38 = .ok (.iconst 1, 1) := by decide +kernel
theorem dX0_complaintsAt_39 : decode cX0_complaintsAt 39 = .ok (.istore_n 3, 1) := by decide +kernel
theorem dX0_complaintsAt_40 : decode cX0_complaintsAt 40 = .ok (.iload_n 2, 1) := by decide +kernel
theorem dX0_complaintsAt_41 : decode cX0_complaintsAt 41 = .ok (.aload_n 0, 1) := by decide +kernel
theorem dX0_complaintsAt_42 : decode cX0_complaintsAt 42 = .ok (.iload_n 1, 1) := by decide +kernel
theorem dX0_complaintsAt_43 : decode cX0_complaintsAt 43 = .ok (.iconst 4, 1) := by decide +kernel
theorem dX0_complaintsAt_44 : decode cX0_complaintsAt 44 = .ok (.invokevirtual 69, 3) := by decide +kernel
theorem dX0_complaintsAt_47 : decode cX0_complaintsAt 47 = .ok (.iadd, 1) := by decide +kernel
theorem dX0_complaintsAt_48 : decode cX0_complaintsAt 48 = .ok (.iload_n 3, 1) := by decide +kernel
theorem dX0_complaintsAt_49 : decode cX0_complaintsAt 49 = .ok (.iadd, 1) := by decide +kernel
theorem dX0_complaintsAt_50 : decode cX0_complaintsAt 50 = .ok (.ireturn, 1) := by decide +kernel
set_option maxRecDepth 20000 in
theorem ggX0_duesAt_X0_isByBoat : GoodIn wsX0_duesAt wsX0_isByBoat := goodIn_r _ [11, 1, 12, 13, 14, 15, 16, 17, 18, 19, 20, 21, 10, 22, 23, 30, 31, 32, 33, 34, 35, 36, 37, 38, 39, 40, 41, 42] (by decide +kernel) (by decide +kernel)
set_option maxRecDepth 20000 in
theorem gX0_duesAt_X0_isByBoat : GoodIn wsX0_duesAt (wsV RX0 110 RX0 yX0_isByBoat wsX0_isByBoat) := goodIn_app (goodIn_of _ (by decide +kernel)) ggX0_duesAt_X0_isByBoat
set_option maxRecDepth 20000 in
theorem ggX0_duesAt_X0_housesInQuarter : GoodIn wsX0_duesAt wsX0_housesInQuarter := goodIn_r _ [27, 28, 29, 17, 13, 18, 30, 31, 32, 33, 34, 35, 36, 37, 38, 39, 40, 41, 42] (by decide +kernel) (by decide +kernel)
set_option maxRecDepth 20000 in
theorem gX0_duesAt_X0_housesInQuarter : GoodIn wsX0_duesAt (wsV RX0 118 RX0 yX0_housesInQuarter wsX0_housesInQuarter) := goodIn_app (goodIn_of _ (by decide +kernel)) ggX0_duesAt_X0_housesInQuarter
theorem dX0_duesAt_0 : decode cX0_duesAt 0 = .ok (.aload_n 0, 1) := by decide +kernel
theorem dX0_duesAt_1 : decode cX0_duesAt 1 = .ok (.getfield 21, 3) := by decide +kernel
theorem dX0_duesAt_4 : decode cX0_duesAt 4 = .ok (.iload_n 1, 1) := by decide +kernel
theorem dX0_duesAt_5 : decode cX0_duesAt 5 = .ok (.iaload, 1) := by decide +kernel
theorem dX0_duesAt_6 : decode cX0_duesAt 6 = .ok (.tableswitch 61 3 5 #[26, 39, 53], 26) := by decide +kernel
theorem dX0_duesAt_32 : decode cX0_duesAt 32 = .ok (.iconst 0, 1) := by decide +kernel
theorem dX0_duesAt_33 : decode cX0_duesAt 33 = .ok (.iconst 4, 1) := by decide +kernel
theorem dX0_duesAt_34 : decode cX0_duesAt 34 = .ok (.aload_n 0, 1) := by decide +kernel
theorem dX0_duesAt_35 : decode cX0_duesAt 35 = .ok (.getfield 40, 3) := by decide +kernel
theorem dX0_duesAt_38 : decode cX0_duesAt 38 = .ok (.iload_n 1, 1) := by decide +kernel
theorem dX0_duesAt_39 : decode cX0_duesAt 39 = .ok (.iaload, 1) := by decide +kernel
theorem dX0_duesAt_40 : decode cX0_duesAt 40 = .ok (.isub, 1) := by decide +kernel
theorem dX0_duesAt_41 : decode cX0_duesAt 41 = .ok (.invokestatic 113, 3) := by decide +kernel
theorem dX0_duesAt_44 : decode cX0_duesAt 44 = .ok (.ireturn, 1) := by decide +kernel
theorem dX0_duesAt_45 : decode cX0_duesAt 45 = .ok (.aload_n 0, 1) := by decide +kernel
theorem dX0_duesAt_46 : decode cX0_duesAt 46 = .ok (.iload_n 1, 1) := by decide +kernel
theorem dX0_duesAt_47 : decode cX0_duesAt 47 = .ok (.invokevirtual 110, 3) := by decide +kernel
theorem dX0_duesAt_50 : decode cX0_duesAt 50 = .ok (.ifCond .eq 7, 3) := by decide +kernel
theorem dX0_duesAt_53 : decode cX0_duesAt 53 = .ok (.iconst 5, 1) := by decide +kernel
theorem dX0_duesAt_54 : decode cX0_duesAt 54 = .ok (.goto 4, 3) := by decide +kernel
theorem dX0_duesAt_57 : decode cX0_duesAt 57 = .ok (.iconst 2, 1) := by decide +kernel
theorem dX0_duesAt_58 : decode cX0_duesAt 58 = .ok (.ireturn, 1) := by decide +kernel
theorem dX0_duesAt_59 : decode cX0_duesAt 59 = .ok (.aload_n 0, 1) := by decide +kernel
theorem dX0_duesAt_60 : decode cX0_duesAt 60 = .ok (.iload_n 1, 1) := by decide +kernel
theorem dX0_duesAt_61 : decode cX0_duesAt 61 = .ok (.invokevirtual 118, 3) := by decide +kernel
theorem dX0_duesAt_64 : decode cX0_duesAt 64 = .ok (.iconst 2, 1) := by decide +kernel
theorem dX0_duesAt_65 : decode cX0_duesAt 65 = .ok (.idiv, 1) := by decide +kernel
theorem dX0_duesAt_66 : decode cX0_duesAt 66 = .ok (.ireturn, 1) := by decide +kernel
theorem dX0_duesAt_67 : decode cX0_duesAt 67 = .ok (.iconst 0, 1) := by decide +kernel
theorem dX0_duesAt_68 : decode cX0_duesAt 68 = .ok (.ireturn, 1) := by decide +kernel
set_option maxRecDepth 20000 in
theorem ggX0_lotsOfQuarter_X1_isLot : GoodIn wsX0_lotsOfQuarter wsX1_isLot := goodIn_r _ [5] (by decide +kernel) (by decide +kernel)
set_option maxRecDepth 20000 in
theorem gX0_lotsOfQuarter_X1_isLot_n73 : GoodIn wsX0_lotsOfQuarter (wsX1_isLot) := ggX0_lotsOfQuarter_X1_isLot
theorem dX0_lotsOfQuarter_0 : decode cX0_lotsOfQuarter 0 = .ok (.aload_n 0, 1) := by decide +kernel
theorem dX0_lotsOfQuarter_1 : decode cX0_lotsOfQuarter 1 = .ok (.getfield 25, 3) := by decide +kernel
theorem dX0_lotsOfQuarter_4 : decode cX0_lotsOfQuarter 4 = .ok (.iload_n 1, 1) := by decide +kernel
theorem dX0_lotsOfQuarter_5 : decode cX0_lotsOfQuarter 5 = .ok (.iaload, 1) := by decide +kernel
theorem dX0_lotsOfQuarter_6 : decode cX0_lotsOfQuarter 6 = .ok (.istore_n 2, 1) := by decide +kernel
theorem dX0_lotsOfQuarter_7 : decode cX0_lotsOfQuarter 7 = .ok (.iload_n 2, 1) := by decide +kernel
theorem dX0_lotsOfQuarter_8 : decode cX0_lotsOfQuarter 8 = .ok (.invokestatic 73, 3) := by decide +kernel
theorem dX0_lotsOfQuarter_11 : decode cX0_lotsOfQuarter 11 = .ok (.ifCond .eq 12, 3) := by decide +kernel
theorem dX0_lotsOfQuarter_14 : decode cX0_lotsOfQuarter 14 = .ok (.aload_n 0, 1) := by decide +kernel
theorem dX0_lotsOfQuarter_15 : decode cX0_lotsOfQuarter 15 = .ok (.getfield 28, 3) := by decide +kernel
theorem dX0_lotsOfQuarter_18 : decode cX0_lotsOfQuarter 18 = .ok (.iload_n 2, 1) := by decide +kernel
theorem dX0_lotsOfQuarter_19 : decode cX0_lotsOfQuarter 19 = .ok (.iaload, 1) := by decide +kernel
theorem dX0_lotsOfQuarter_20 : decode cX0_lotsOfQuarter 20 = .ok (.goto 4, 3) := by decide +kernel
theorem dX0_lotsOfQuarter_23 : decode cX0_lotsOfQuarter 23 = .ok (.iconst 0, 1) := by decide +kernel
theorem dX0_lotsOfQuarter_24 : decode cX0_lotsOfQuarter 24 = .ok (.ireturn, 1) := by decide +kernel
set_option maxRecDepth 20000 in
theorem ggX0_housesInQuarter_X1_isLot : GoodIn wsX0_housesInQuarter wsX1_isLot := goodIn_r _ [5] (by decide +kernel) (by decide +kernel)
set_option maxRecDepth 20000 in
theorem gX0_housesInQuarter_X1_isLot_n73 : GoodIn wsX0_housesInQuarter (wsX1_isLot) := ggX0_housesInQuarter_X1_isLot
theorem dX0_housesInQuarter_0 : decode cX0_housesInQuarter 0 = .ok (.aload_n 0, 1) := by decide +kernel
theorem dX0_housesInQuarter_1 : decode cX0_housesInQuarter 1 = .ok (.getfield 25, 3) := by decide +kernel
theorem dX0_housesInQuarter_4 : decode cX0_housesInQuarter 4 = .ok (.iload_n 1, 1) := by decide +kernel
theorem dX0_housesInQuarter_5 : decode cX0_housesInQuarter 5 = .ok (.iaload, 1) := by decide +kernel
theorem dX0_housesInQuarter_6 : decode cX0_housesInQuarter 6 = .ok (.istore_n 2, 1) := by decide +kernel
theorem dX0_housesInQuarter_7 : decode cX0_housesInQuarter 7 = .ok (.iload_n 2, 1) := by decide +kernel
theorem dX0_housesInQuarter_8 : decode cX0_housesInQuarter 8 = .ok (.invokestatic 73, 3) := by decide +kernel
theorem dX0_housesInQuarter_11 : decode cX0_housesInQuarter 11 = .ok (.ifCond .eq 12, 3) := by decide +kernel
theorem dX0_housesInQuarter_14 : decode cX0_housesInQuarter 14 = .ok (.aload_n 0, 1) := by decide +kernel
theorem dX0_housesInQuarter_15 : decode cX0_housesInQuarter 15 = .ok (.getfield 31, 3) := by decide +kernel
theorem dX0_housesInQuarter_18 : decode cX0_housesInQuarter 18 = .ok (.iload_n 2, 1) := by decide +kernel
theorem dX0_housesInQuarter_19 : decode cX0_housesInQuarter 19 = .ok (.iaload, 1) := by decide +kernel
theorem dX0_housesInQuarter_20 : decode cX0_housesInQuarter 20 = .ok (.goto 4, 3) := by decide +kernel
theorem dX0_housesInQuarter_23 : decode cX0_housesInQuarter 23 = .ok (.iconst 0, 1) := by decide +kernel
theorem dX0_housesInQuarter_24 : decode cX0_housesInQuarter 24 = .ok (.ireturn, 1) := by decide +kernel
set_option maxRecDepth 20000 in
theorem ggX0_marketsInQuarter_X1_isLot : GoodIn wsX0_marketsInQuarter wsX1_isLot := goodIn_r _ [5] (by decide +kernel) (by decide +kernel)
set_option maxRecDepth 20000 in
theorem gX0_marketsInQuarter_X1_isLot_n73 : GoodIn wsX0_marketsInQuarter (wsX1_isLot) := ggX0_marketsInQuarter_X1_isLot
theorem dX0_marketsInQuarter_0 : decode cX0_marketsInQuarter 0 = .ok (.aload_n 0, 1) := by decide +kernel
theorem dX0_marketsInQuarter_1 : decode cX0_marketsInQuarter 1 = .ok (.getfield 25, 3) := by decide +kernel
theorem dX0_marketsInQuarter_4 : decode cX0_marketsInQuarter 4 = .ok (.iload_n 1, 1) := by decide +kernel
theorem dX0_marketsInQuarter_5 : decode cX0_marketsInQuarter 5 = .ok (.iaload, 1) := by decide +kernel
theorem dX0_marketsInQuarter_6 : decode cX0_marketsInQuarter 6 = .ok (.istore_n 2, 1) := by decide +kernel
theorem dX0_marketsInQuarter_7 : decode cX0_marketsInQuarter 7 = .ok (.iload_n 2, 1) := by decide +kernel
theorem dX0_marketsInQuarter_8 : decode cX0_marketsInQuarter 8 = .ok (.invokestatic 73, 3) := by decide +kernel
theorem dX0_marketsInQuarter_11 : decode cX0_marketsInQuarter 11 = .ok (.ifCond .eq 12, 3) := by decide +kernel
theorem dX0_marketsInQuarter_14 : decode cX0_marketsInQuarter 14 = .ok (.aload_n 0, 1) := by decide +kernel
theorem dX0_marketsInQuarter_15 : decode cX0_marketsInQuarter 15 = .ok (.getfield 34, 3) := by decide +kernel
theorem dX0_marketsInQuarter_18 : decode cX0_marketsInQuarter 18 = .ok (.iload_n 2, 1) := by decide +kernel
theorem dX0_marketsInQuarter_19 : decode cX0_marketsInQuarter 19 = .ok (.iaload, 1) := by decide +kernel
theorem dX0_marketsInQuarter_20 : decode cX0_marketsInQuarter 20 = .ok (.goto 4, 3) := by decide +kernel
theorem dX0_marketsInQuarter_23 : decode cX0_marketsInQuarter 23 = .ok (.iconst 0, 1) := by decide +kernel
theorem dX0_marketsInQuarter_24 : decode cX0_marketsInQuarter 24 = .ok (.ireturn, 1) := by decide +kernel
theorem dX0_isOpenWater_0 : decode cX0_isOpenWater 0 = .ok (.aload_n 0, 1) := by decide +kernel
theorem dX0_isOpenWater_1 : decode cX0_isOpenWater 1 = .ok (.getfield 37, 3) := by decide +kernel
theorem dX0_isOpenWater_4 : decode cX0_isOpenWater 4 = .ok (.iload_n 1, 1) := by decide +kernel
theorem dX0_isOpenWater_5 : decode cX0_isOpenWater 5 = .ok (.iaload, 1) := by decide +kernel
theorem dX0_isOpenWater_6 : decode cX0_isOpenWater 6 = .ok (.ifCond .lt 7, 3) := by decide +kernel
theorem dX0_isOpenWater_9 : decode cX0_isOpenWater 9 = .ok (.iconst 1, 1) := by decide +kernel
theorem dX0_isOpenWater_10 : decode cX0_isOpenWater 10 = .ok (.goto 4, 3) := by decide +kernel
theorem dX0_isOpenWater_13 : decode cX0_isOpenWater 13 = .ok (.iconst 0, 1) := by decide +kernel
theorem dX0_isOpenWater_14 : decode cX0_isOpenWater 14 = .ok (.ireturn, 1) := by decide +kernel
set_option maxRecDepth 20000 in
theorem ggX0_isByBoat_X1_isLand : GoodIn wsX0_isByBoat wsX1_isLand := goodIn_r _ [4] (by decide +kernel) (by decide +kernel)
set_option maxRecDepth 20000 in
theorem gX0_isByBoat_X1_isLand_n98 : GoodIn wsX0_isByBoat (wsX1_isLand) := ggX0_isByBoat_X1_isLand
set_option maxRecDepth 20000 in
theorem ggX0_isByBoat_X1_neighbour : GoodIn wsX0_isByBoat wsX1_neighbour := goodIn_r _ [6] (by decide +kernel) (by decide +kernel)
set_option maxRecDepth 20000 in
theorem gX0_isByBoat_X1_neighbour_n104 : GoodIn wsX0_isByBoat (wsX1_neighbour) := ggX0_isByBoat_X1_neighbour
set_option maxRecDepth 20000 in
theorem ggX0_isByBoat_X1_isLot : GoodIn wsX0_isByBoat wsX1_isLot := goodIn_r _ [8] (by decide +kernel) (by decide +kernel)
set_option maxRecDepth 20000 in
theorem gX0_isByBoat_X1_isLot_n73 : GoodIn wsX0_isByBoat (wsX1_isLot) := ggX0_isByBoat_X1_isLot
set_option maxRecDepth 20000 in
theorem ggX0_isByBoat_X0_isOpenWater : GoodIn wsX0_isByBoat wsX0_isOpenWater := goodIn_r _ [13, 14, 15, 16, 17, 18, 19, 20, 21, 22, 23, 24, 25, 26, 27] (by decide +kernel) (by decide +kernel)
set_option maxRecDepth 20000 in
theorem gX0_isByBoat_X0_isOpenWater : GoodIn wsX0_isByBoat (wsV RX0 121 RX0 yX0_isOpenWater wsX0_isOpenWater) := goodIn_app (goodIn_of _ (by decide +kernel)) ggX0_isByBoat_X0_isOpenWater
theorem dX0_isByBoat_0 : decode cX0_isByBoat 0 = .ok (.aload_n 0, 1) := by decide +kernel
theorem dX0_isByBoat_1 : decode cX0_isByBoat 1 = .ok (.getfield 21, 3) := by decide +kernel
theorem dX0_isByBoat_4 : decode cX0_isByBoat 4 = .ok (.iload_n 1, 1) := by decide +kernel
theorem dX0_isByBoat_5 : decode cX0_isByBoat 5 = .ok (.iaload, 1) := by decide +kernel
theorem dX0_isByBoat_6 : decode cX0_isByBoat 6 = .ok (.istore_n 2, 1) := by decide +kernel
theorem dX0_isByBoat_7 : decode cX0_isByBoat 7 = .ok (.iload_n 2, 1) := by decide +kernel
theorem dX0_isByBoat_8 : decode cX0_isByBoat 8 = .ok (.invokestatic 98, 3) := by decide +kernel
theorem dX0_isByBoat_11 : decode cX0_isByBoat 11 = .ok (.ifCond .eq 9, 3) := by decide +kernel
theorem dX0_isByBoat_14 : decode cX0_isByBoat 14 = .ok (.iload_n 2, 1) := by decide +kernel
theorem dX0_isByBoat_15 : decode cX0_isByBoat 15 = .ok (.bipush 6, 2) := by decide +kernel
theorem dX0_isByBoat_17 : decode cX0_isByBoat 17 = .ok (.if_icmp .ne 5, 3) := by decide +kernel
theorem dX0_isByBoat_20 : decode cX0_isByBoat 20 = .ok (.iconst 0, 1) := by decide +kernel
theorem dX0_isByBoat_21 : decode cX0_isByBoat 21 = .ok (.ireturn, 1) := by decide +kernel
theorem dX0_isByBoat_22 : decode cX0_isByBoat 22 = .ok (.iconst 0, 1) := by decide +kernel
theorem dX0_isByBoat_23 : decode cX0_isByBoat 23 = .ok (.istore_n 3, 1) := by decide +kernel
theorem dX0_isByBoat_24 : decode cX0_isByBoat 24 = .ok (.iload_n 3, 1) := by decide +kernel
theorem dX0_isByBoat_25 : decode cX0_isByBoat 25 = .ok (.iconst 4, 1) := by decide +kernel
theorem dX0_isByBoat_26 : decode cX0_isByBoat 26 = .ok (.if_icmp .ge 35, 3) := by decide +kernel
theorem dX0_isByBoat_29 : decode cX0_isByBoat 29 = .ok (.iload_n 1, 1) := by decide +kernel
theorem dX0_isByBoat_30 : decode cX0_isByBoat 30 = .ok (.iload_n 3, 1) := by decide +kernel
theorem dX0_isByBoat_31 : decode cX0_isByBoat 31 = .ok (.invokestatic 104, 3) := by decide +kernel
theorem dX0_isByBoat_34 : decode cX0_isByBoat 34 = .ok (.istore 4, 2) := by decide +kernel
theorem dX0_isByBoat_36 : decode cX0_isByBoat 36 = .ok (.iload 4, 2) := by decide +kernel
theorem dX0_isByBoat_38 : decode cX0_isByBoat 38 = .ok (.invokestatic 73, 3) := by decide +kernel
theorem dX0_isByBoat_41 : decode cX0_isByBoat 41 = .ok (.ifCond .eq 14, 3) := by decide +kernel
theorem dX0_isByBoat_44 : decode cX0_isByBoat 44 = .ok (.aload_n 0, 1) := by decide +kernel
theorem dX0_isByBoat_45 : decode cX0_isByBoat 45 = .ok (.iload 4, 2) := by decide +kernel
theorem dX0_isByBoat_47 : decode cX0_isByBoat 47 = .ok (.invokevirtual 121, 3) := by decide +kernel
theorem dX0_isByBoat_50 : decode cX0_isByBoat 50 = .ok (.ifCond .eq 5, 3) := by decide +kernel
theorem dX0_isByBoat_53 : decode cX0_isByBoat 53 = .ok (.iconst 1, 1) := by decide +kernel
theorem dX0_isByBoat_54 : decode cX0_isByBoat 54 = .ok (.ireturn, 1) := by decide +kernel
theorem dX0_isByBoat_55 : decode cX0_isByBoat 55 = .ok (.iinc 3 1, 3) := by decide +kernel
theorem dX0_isByBoat_58 : decode cX0_isByBoat 58 = .ok (.goto (-34), 3) := by decide +kernel
theorem dX0_isByBoat_61 : decode cX0_isByBoat 61 = .ok (.iconst 0, 1) := by decide +kernel
theorem dX0_isByBoat_62 : decode cX0_isByBoat 62 = .ok (.ireturn, 1) := by decide +kernel
set_option maxRecDepth 20000 in
theorem ggX0_neighboursOfKind_X1_neighbour : GoodIn wsX0_neighboursOfKind wsX1_neighbour := goodIn_r _ [4] (by decide +kernel) (by decide +kernel)
set_option maxRecDepth 20000 in
theorem gX0_neighboursOfKind_X1_neighbour_n104 : GoodIn wsX0_neighboursOfKind (wsX1_neighbour) := ggX0_neighboursOfKind_X1_neighbour
set_option maxRecDepth 20000 in
theorem ggX0_neighboursOfKind_X1_isLot : GoodIn wsX0_neighboursOfKind wsX1_isLot := goodIn_r _ [6] (by decide +kernel) (by decide +kernel)
set_option maxRecDepth 20000 in
theorem gX0_neighboursOfKind_X1_isLot_n73 : GoodIn wsX0_neighboursOfKind (wsX1_isLot) := ggX0_neighboursOfKind_X1_isLot
theorem dX0_neighboursOfKind_0 : decode cX0_neighboursOfKind 0 = .ok (.iconst 0, 1) := by decide +kernel
theorem dX0_neighboursOfKind_1 : decode cX0_neighboursOfKind 1 = .ok (.istore_n 3, 1) := by decide +kernel
theorem dX0_neighboursOfKind_2 : decode cX0_neighboursOfKind 2 = .ok (.iconst 0, 1) := by decide +kernel
theorem dX0_neighboursOfKind_3 : decode cX0_neighboursOfKind 3 = .ok (.istore 4, 2) := by decide +kernel
theorem dX0_neighboursOfKind_5 : decode cX0_neighboursOfKind 5 = .ok (.iload 4, 2) := by decide +kernel
theorem dX0_neighboursOfKind_7 : decode cX0_neighboursOfKind 7 = .ok (.iconst 4, 1) := by decide +kernel
theorem dX0_neighboursOfKind_8 : decode cX0_neighboursOfKind 8 = .ok (.if_icmp .ge 39, 3) := by decide +kernel
theorem dX0_neighboursOfKind_11 : decode cX0_neighboursOfKind 11 = .ok (.iload_n 1, 1) := by decide +kernel
theorem dX0_neighboursOfKind_12 : decode cX0_neighboursOfKind 12 = .ok (.iload 4, 2) := by decide +kernel
theorem dX0_neighboursOfKind_14 : decode cX0_neighboursOfKind 14 = .ok (.invokestatic 104, 3) := by decide +kernel
theorem dX0_neighboursOfKind_17 : decode cX0_neighboursOfKind 17 = .ok (.istore 5, 2) := by decide +kernel
theorem dX0_neighboursOfKind_19 : decode cX0_neighboursOfKind 19 = .ok (.iload 5, 2) := by decide +kernel
theorem dX0_neighboursOfKind_21 : decode cX0_neighboursOfKind 21 = .ok (.invokestatic 73, 3) := by decide +kernel
theorem dX0_neighboursOfKind_24 : decode cX0_neighboursOfKind 24 = .ok (.ifCond .eq 17, 3) := by decide +kernel
theorem dX0_neighboursOfKind_27 : decode cX0_neighboursOfKind 27 = .ok (.aload_n 0, 1) := by decide +kernel
theorem dX0_neighboursOfKind_28 : decode cX0_neighboursOfKind 28 = .ok (.getfield 21, 3) := by decide +kernel
theorem dX0_neighboursOfKind_31 : decode cX0_neighboursOfKind 31 = .ok (.iload 5, 2) := by decide +kernel
theorem dX0_neighboursOfKind_33 : decode cX0_neighboursOfKind 33 = .ok (.iaload, 1) := by decide +kernel
theorem dX0_neighboursOfKind_34 : decode cX0_neighboursOfKind 34 = .ok (.iload_n 2, 1) := by decide +kernel
theorem dX0_neighboursOfKind_35 : decode cX0_neighboursOfKind 35 = .ok (.if_icmp .ne 6, 3) := by decide +kernel
theorem dX0_neighboursOfKind_38 : decode cX0_neighboursOfKind 38 = .ok (.iinc 3 1, 3) := by decide +kernel
theorem dX0_neighboursOfKind_41 : decode cX0_neighboursOfKind 41 = .ok (.iinc 4 1, 3) := by decide +kernel
theorem dX0_neighboursOfKind_44 : decode cX0_neighboursOfKind 44 = .ok (.goto (-39), 3) := by decide +kernel
theorem dX0_neighboursOfKind_47 : decode cX0_neighboursOfKind 47 = .ok (.iload_n 3, 1) := by decide +kernel
theorem dX0_neighboursOfKind_48 : decode cX0_neighboursOfKind 48 = .ok (.ireturn, 1) := by decide +kernel
set_option maxRecDepth 20000 in
theorem ggX0_stepsOnFoot_X0_clear : GoodIn wsX0_stepsOnFoot wsX0_clear := goodIn_r _ [5] (by decide +kernel) (by decide +kernel)
set_option maxRecDepth 20000 in
theorem gX0_stepsOnFoot_X0_clear : GoodIn wsX0_stepsOnFoot (va_wsS RX0 80 yX0_clear wsX0_clear) := goodIn_app (goodIn_of _ (by decide +kernel)) ggX0_stepsOnFoot_X0_clear
set_option maxRecDepth 20000 in
theorem ggX0_stepsOnFoot_X0_spread : GoodIn wsX0_stepsOnFoot wsX0_spread := goodIn_r _ [9, 10, 11, 12, 13, 14, 15, 16, 17, 18, 19, 20, 21, 22, 23, 24, 25, 26, 27, 28, 29, 30, 31, 32, 33] (by decide +kernel) (by decide +kernel)
set_option maxRecDepth 20000 in
theorem gX0_stepsOnFoot_X0_spread : GoodIn wsX0_stepsOnFoot (wsV RX0 87 RX0 yX0_spread wsX0_spread) := goodIn_app (goodIn_of _ (by decide +kernel)) ggX0_stepsOnFoot_X0_spread
theorem dX0_stepsOnFoot_0 : decode cX0_stepsOnFoot 0 = .ok (.aload_n 0, 1) := by decide +kernel
theorem dX0_stepsOnFoot_1 : decode cX0_stepsOnFoot 1 = .ok (.getfield 46, 3) := by decide +kernel
theorem dX0_stepsOnFoot_4 : decode cX0_stepsOnFoot 4 = .ok (.iconst (-1), 1) := by decide +kernel
theorem dX0_stepsOnFoot_5 : decode cX0_stepsOnFoot 5 = .ok (.invokestatic 80, 3) := by decide +kernel
theorem dX0_stepsOnFoot_8 : decode cX0_stepsOnFoot 8 = .ok (.aload_n 0, 1) := by decide +kernel
theorem dX0_stepsOnFoot_9 : decode cX0_stepsOnFoot 9 = .ok (.aload_n 0, 1) := by decide +kernel
theorem dX0_stepsOnFoot_10 : decode cX0_stepsOnFoot 10 = .ok (.getfield 46, 3) := by decide +kernel
theorem dX0_stepsOnFoot_13 : decode cX0_stepsOnFoot 13 = .ok (.iload_n 1, 1) := by decide +kernel
theorem dX0_stepsOnFoot_14 : decode cX0_stepsOnFoot 14 = .ok (.iconst 1, 1) := by decide +kernel
theorem dX0_stepsOnFoot_15 : decode cX0_stepsOnFoot 15 = .ok (.iconst 0, 1) := by decide +kernel
theorem dX0_stepsOnFoot_16 : decode cX0_stepsOnFoot 16 = .ok (.iconst 1, 1) := by decide +kernel
theorem dX0_stepsOnFoot_17 : decode cX0_stepsOnFoot 17 = .ok (.invokevirtual 87, 3) := by decide +kernel
theorem dX0_stepsOnFoot_20 : decode cX0_stepsOnFoot 20 = .ok (.aload_n 0, 1) := by decide +kernel
theorem dX0_stepsOnFoot_21 : decode cX0_stepsOnFoot 21 = .ok (.getfield 46, 3) := by decide +kernel
theorem dX0_stepsOnFoot_24 : decode cX0_stepsOnFoot 24 = .ok (.iload_n 2, 1) := by decide +kernel
theorem dX0_stepsOnFoot_25 : decode cX0_stepsOnFoot 25 = .ok (.iaload, 1) := by decide +kernel
theorem dX0_stepsOnFoot_26 : decode cX0_stepsOnFoot 26 = .ok (.ireturn, 1) := by decide +kernel
set_option maxRecDepth 20000 in
theorem ggX0_factOf_X0_lotsOfQuarter : GoodIn wsX0_factOf wsX0_lotsOfQuarter := goodIn_r _ [9, 2, 10, 11, 12, 13, 27, 28, 29, 30, 31, 32, 33, 34, 35, 36, 37, 38, 39] (by decide +kernel) (by decide +kernel)
set_option maxRecDepth 20000 in
theorem gX0_factOf_X0_lotsOfQuarter : GoodIn wsX0_factOf (wsV RX0 124 RX0 yX0_lotsOfQuarter wsX0_lotsOfQuarter) := goodIn_app (goodIn_of _ (by decide +kernel)) ggX0_factOf_X0_lotsOfQuarter
set_option maxRecDepth 20000 in
theorem ggX0_factOf_X0_isByBoat : GoodIn wsX0_factOf wsX0_isByBoat := goodIn_r _ [17, 1, 18, 12, 19, 20, 21, 11, 13, 22, 23, 24, 8, 25, 26, 27, 28, 29, 30, 31, 32, 33, 34, 35, 36, 37, 38, 39] (by decide +kernel) (by decide +kernel)
set_option maxRecDepth 20000 in
theorem gX0_factOf_X0_isByBoat : GoodIn wsX0_factOf (wsV RX0 110 RX0 yX0_isByBoat wsX0_isByBoat) := goodIn_app (goodIn_of _ (by decide +kernel)) ggX0_factOf_X0_isByBoat
set_option maxRecDepth 20000 in
theorem ggX0_factOf_X0_isOpenWater : GoodIn wsX0_factOf wsX0_isOpenWater := goodIn_r _ [25, 26, 27, 28, 29, 30, 31, 32, 33, 34, 35, 36, 37, 38, 39] (by decide +kernel) (by decide +kernel)
set_option maxRecDepth 20000 in
theorem gX0_factOf_X0_isOpenWater : GoodIn wsX0_factOf (wsV RX0 121 RX0 yX0_isOpenWater wsX0_isOpenWater) := goodIn_app (goodIn_of _ (by decide +kernel)) ggX0_factOf_X0_isOpenWater
theorem dX0_factOf_0 : decode cX0_factOf 0 = .ok (.iload_n 2, 1) := by decide +kernel
theorem dX0_factOf_1 : decode cX0_factOf 1 = .ok (.tableswitch 84 0 4 #[35, 42, 49, 55, 77], 35) := by decide +kernel
theorem dX0_factOf_36 : decode cX0_factOf 36 = .ok (.aload_n 0, 1) := by decide +kernel
theorem dX0_factOf_37 : decode cX0_factOf 37 = .ok (.getfield 21, 3) := by decide +kernel
theorem dX0_factOf_40 : decode cX0_factOf 40 = .ok (.iload_n 1, 1) := by decide +kernel
theorem dX0_factOf_41 : decode cX0_factOf 41 = .ok (.iaload, 1) := by decide +kernel
theorem dX0_factOf_42 : decode cX0_factOf 42 = .ok (.ireturn, 1) := by decide +kernel
theorem dX0_factOf_43 : decode cX0_factOf 43 = .ok (.aload_n 0, 1) := by decide +kernel
theorem dX0_factOf_44 : decode cX0_factOf 44 = .ok (.getfield 25, 3) := by decide +kernel
theorem dX0_factOf_47 : decode cX0_factOf 47 = .ok (.iload_n 1, 1) := by decide +kernel
theorem dX0_factOf_48 : decode cX0_factOf 48 = .ok (.iaload, 1) := by decide +kernel
theorem dX0_factOf_49 : decode cX0_factOf 49 = .ok (.ireturn, 1) := by decide +kernel
theorem dX0_factOf_50 : decode cX0_factOf 50 = .ok (.aload_n 0, 1) := by decide +kernel
theorem dX0_factOf_51 : decode cX0_factOf 51 = .ok (.iload_n 1, 1) := by decide +kernel
theorem dX0_factOf_52 : decode cX0_factOf 52 = .ok (.invokevirtual 124, 3) := by decide +kernel
theorem dX0_factOf_55 : decode cX0_factOf 55 = .ok (.ireturn, 1) := by decide +kernel
theorem dX0_factOf_56 : decode cX0_factOf 56 = .ok (.aload_n 0, 1) := by decide +kernel
theorem dX0_factOf_57 : decode cX0_factOf 57 = .ok (.iload_n 1, 1) := by decide +kernel
theorem dX0_factOf_58 : decode cX0_factOf 58 = .ok (.invokevirtual 110, 3) := by decide +kernel
theorem dX0_factOf_61 : decode cX0_factOf 61 = .ok (.ifCond .ne 11, 3) := by decide +kernel
theorem dX0_factOf_64 : decode cX0_factOf 64 = .ok (.aload_n 0, 1) := by decide +kernel
theorem dX0_factOf_65 : decode cX0_factOf 65 = .ok (.iload_n 1, 1) := by decide +kernel
theorem dX0_factOf_66 : decode cX0_factOf 66 = .ok (.invokevirtual 121, 3) := by decide +kernel
theorem dX0_factOf_69 : decode cX0_factOf 69 = .ok (.ifCond .eq 7, 3) := by decide +kernel
theorem dX0_factOf_72 : decode cX0_factOf 72 = .ok (.iconst 1, 1) := by decide +kernel
theorem dX0_factOf_73 : decode cX0_factOf 73 = .ok (.goto 4, 3) := by decide +kernel
theorem dX0_factOf_76 : decode cX0_factOf 76 = .ok (.iconst 0, 1) := by decide +kernel
theorem dX0_factOf_77 : decode cX0_factOf 77 = .ok (.ireturn, 1) := by decide +kernel
theorem dX0_factOf_78 : decode cX0_factOf 78 = .ok (.aload_n 0, 1) := by decide +kernel
theorem dX0_factOf_79 : decode cX0_factOf 79 = .ok (.getfield 40, 3) := by decide +kernel
theorem dX0_factOf_82 : decode cX0_factOf 82 = .ok (.iload_n 1, 1) := by decide +kernel
theorem dX0_factOf_83 : decode cX0_factOf 83 = .ok (.iaload, 1) := by decide +kernel
theorem dX0_factOf_84 : decode cX0_factOf 84 = .ok (.ireturn, 1) := by decide +kernel
theorem dX0_factOf_85 : decode cX0_factOf 85 = .ok (.aload_n 0, 1) := by decide +kernel
theorem dX0_factOf_86 : decode cX0_factOf 86 = .ok (.getfield 43, 3) := by decide +kernel
theorem dX0_factOf_89 : decode cX0_factOf 89 = .ok (.iload_n 1, 1) := by decide +kernel
theorem dX0_factOf_90 : decode cX0_factOf 90 = .ok (.iaload, 1) := by decide +kernel
theorem dX0_factOf_91 : decode cX0_factOf 91 = .ok (.ireturn, 1) := by decide +kernel
set_option maxRecDepth 20000 in
theorem ggX0_total_X0_quartersOfAll : GoodIn wsX0_total wsX0_quartersOfAll := goodIn_r _ [8, 9, 28, 29, 30, 31, 32, 33, 34, 35, 36, 37, 38, 39, 40] (by decide +kernel) (by decide +kernel)
set_option maxRecDepth 20000 in
theorem gX0_total_X0_quartersOfAll : GoodIn wsX0_total (wsV RX0 127 RX0 yX0_quartersOfAll wsX0_quartersOfAll) := goodIn_app (goodIn_of _ (by decide +kernel)) ggX0_total_X0_quartersOfAll
set_option maxRecDepth 20000 in
theorem ggX0_total_X0_complaintsOfAll : GoodIn wsX0_total wsX0_complaintsOfAll := goodIn_r _ [13, 14, 15, 16, 7, 17, 28, 29, 30, 31, 32, 33, 34, 35, 36, 37, 38, 39, 40] (by decide +kernel) (by decide +kernel)
set_option maxRecDepth 20000 in
theorem gX0_total_X0_complaintsOfAll : GoodIn wsX0_total (wsV RX0 130 RX0 yX0_complaintsOfAll wsX0_complaintsOfAll) := goodIn_app (goodIn_of _ (by decide +kernel)) ggX0_total_X0_complaintsOfAll
set_option maxRecDepth 20000 in
theorem ggX0_total_X0_duesOfAll : GoodIn wsX0_total wsX0_duesOfAll := goodIn_r _ [21, 22, 15, 16, 7, 17, 28, 29, 30, 31, 32, 33, 34, 35, 36, 37, 38, 39, 40] (by decide +kernel) (by decide +kernel)
set_option maxRecDepth 20000 in
theorem gX0_total_X0_duesOfAll : GoodIn wsX0_total (wsV RX0 59 RX0 yX0_duesOfAll wsX0_duesOfAll) := goodIn_app (goodIn_of _ (by decide +kernel)) ggX0_total_X0_duesOfAll
set_option maxRecDepth 20000 in
theorem ggX0_total_X0_lotsOfKind : GoodIn wsX0_total wsX0_lotsOfKind := goodIn_r _ [26, 27, 28, 29, 30, 31, 32, 33, 34, 35, 36, 37, 38, 39, 40] (by decide +kernel) (by decide +kernel)
set_option maxRecDepth 20000 in
theorem gX0_total_X0_lotsOfKind : GoodIn wsX0_total (wsV RX0 133 RX0 yX0_lotsOfKind wsX0_lotsOfKind) := goodIn_app (goodIn_of _ (by decide +kernel)) ggX0_total_X0_lotsOfKind
theorem dX0_total_0 : decode cX0_total 0 = .ok (.iload_n 1, 1) := by decide +kernel
theorem dX0_total_1 : decode cX0_total 1 = .ok (.tableswitch 97 0 12 #[67, 72, 97, 97, 97, 97, 97, 97, 97, 77, 82, 87, 92], 67) := by decide +kernel
theorem dX0_total_68 : decode cX0_total 68 = .ok (.aload_n 0, 1) := by decide +kernel
theorem dX0_total_69 : decode cX0_total 69 = .ok (.getfield 9, 3) := by decide +kernel
theorem dX0_total_72 : decode cX0_total 72 = .ok (.ireturn, 1) := by decide +kernel
theorem dX0_total_73 : decode cX0_total 73 = .ok (.aload_n 0, 1) := by decide +kernel
theorem dX0_total_74 : decode cX0_total 74 = .ok (.getfield 15, 3) := by decide +kernel
theorem dX0_total_77 : decode cX0_total 77 = .ok (.ireturn, 1) := by decide +kernel
theorem dX0_total_78 : decode cX0_total 78 = .ok (.aload_n 0, 1) := by decide +kernel
theorem dX0_total_79 : decode cX0_total 79 = .ok (.invokevirtual 127, 3) := by decide +kernel
theorem dX0_total_82 : decode cX0_total 82 = .ok (.ireturn, 1) := by decide +kernel
theorem dX0_total_83 : decode cX0_total 83 = .ok (.aload_n 0, 1) := by decide +kernel
theorem dX0_total_84 : decode cX0_total 84 = .ok (.invokevirtual 130, 3) := by decide +kernel
theorem dX0_total_87 : decode cX0_total 87 = .ok (.ireturn, 1) := by decide +kernel
theorem dX0_total_88 : decode cX0_total 88 = .ok (.aload_n 0, 1) := by decide +kernel
theorem dX0_total_89 : decode cX0_total 89 = .ok (.invokevirtual 59, 3) := by decide +kernel
theorem dX0_total_92 : decode cX0_total 92 = .ok (.ireturn, 1) := by decide +kernel
theorem dX0_total_93 : decode cX0_total 93 = .ok (.aload_n 0, 1) := by decide +kernel
theorem dX0_total_94 : decode cX0_total 94 = .ok (.getfield 18, 3) := by decide +kernel
theorem dX0_total_97 : decode cX0_total 97 = .ok (.ireturn, 1) := by decide +kernel
theorem dX0_total_98 : decode cX0_total 98 = .ok (.aload_n 0, 1) := by decide +kernel
theorem dX0_total_99 : decode cX0_total 99 = .ok (.iload_n 1, 1) := by decide +kernel
theorem dX0_total_100 : decode cX0_total 100 = .ok (.iconst 2, 1) := by decide +kernel
theorem dX0_total_101 : decode cX0_total 101 = .ok (.isub, 1) := by decide +kernel
theorem dX0_total_102 : decode cX0_total 102 = .ok (.invokevirtual 133, 3) := by decide +kernel
theorem dX0_total_105 : decode cX0_total 105 = .ok (.ireturn, 1) := by decide +kernel
theorem dX0_lotsOfKind_0 : decode cX0_lotsOfKind 0 = .ok (.iconst 0, 1) := by decide +kernel
theorem dX0_lotsOfKind_1 : decode cX0_lotsOfKind 1 = .ok (.istore_n 2, 1) := by decide +kernel
theorem dX0_lotsOfKind_2 : decode cX0_lotsOfKind 2 = .ok (.iconst 0, 1) := by decide +kernel
theorem dX0_lotsOfKind_3 : decode cX0_lotsOfKind 3 = .ok (.istore_n 3, 1) := by decide +kernel
theorem dX0_lotsOfKind_4 : decode cX0_lotsOfKind 4 = .ok (.iload_n 3, 1) := by decide +kernel
theorem dX0_lotsOfKind_5 : decode cX0_lotsOfKind 5 = .ok (.bipush 64, 2) := by decide +kernel
theorem dX0_lotsOfKind_7 : decode cX0_lotsOfKind 7 = .ok (.if_icmp .ge 22, 3) := by decide +kernel
theorem dX0_lotsOfKind_10 : decode cX0_lotsOfKind 10 = .ok (.aload_n 0, 1) := by decide +kernel
theorem dX0_lotsOfKind_11 : decode cX0_lotsOfKind 11 = .ok (.getfield 21, 3) := by decide +kernel
theorem dX0_lotsOfKind_14 : decode cX0_lotsOfKind 14 = .ok (.iload_n 3, 1) := by decide +kernel
theorem dX0_lotsOfKind_15 : decode cX0_lotsOfKind 15 = .ok (.iaload, 1) := by decide +kernel
theorem dX0_lotsOfKind_16 : decode cX0_lotsOfKind 16 = .ok (.iload_n 1, 1) := by decide +kernel
theorem dX0_lotsOfKind_17 : decode cX0_lotsOfKind 17 = .ok (.if_icmp .ne 6, 3) := by decide +kernel
theorem dX0_lotsOfKind_20 : decode cX0_lotsOfKind 20 = .ok (.iinc 2 1, 3) := by decide +kernel
theorem dX0_lotsOfKind_23 : decode cX0_lotsOfKind 23 = .ok (.iinc 3 1, 3) := by decide +kernel
theorem dX0_lotsOfKind_26 : decode cX0_lotsOfKind 26 = .ok (.goto (-22), 3) := by decide +kernel
theorem dX0_lotsOfKind_29 : decode cX0_lotsOfKind 29 = .ok (.iload_n 2, 1) := by decide +kernel
theorem dX0_lotsOfKind_30 : decode cX0_lotsOfKind 30 = .ok (.ireturn, 1) := by decide +kernel
theorem dX0_quartersOfAll_0 : decode cX0_quartersOfAll 0 = .ok (.iconst 0, 1) := by decide +kernel
theorem dX0_quartersOfAll_1 : decode cX0_quartersOfAll 1 = .ok (.istore_n 1, 1) := by decide +kernel
theorem dX0_quartersOfAll_2 : decode cX0_quartersOfAll 2 = .ok (.iconst 0, 1) := by decide +kernel
theorem dX0_quartersOfAll_3 : decode cX0_quartersOfAll 3 = .ok (.istore_n 2, 1) := by decide +kernel
theorem dX0_quartersOfAll_4 : decode cX0_quartersOfAll 4 = .ok (.iload_n 2, 1) := by decide +kernel
theorem dX0_quartersOfAll_5 : decode cX0_quartersOfAll 5 = .ok (.bipush 64, 2) := by decide +kernel
theorem dX0_quartersOfAll_7 : decode cX0_quartersOfAll 7 = .ok (.if_icmp .ge 22, 3) := by decide +kernel
theorem dX0_quartersOfAll_10 : decode cX0_quartersOfAll 10 = .ok (.aload_n 0, 1) := by decide +kernel
theorem dX0_quartersOfAll_11 : decode cX0_quartersOfAll 11 = .ok (.getfield 25, 3) := by decide +kernel
theorem dX0_quartersOfAll_14 : decode cX0_quartersOfAll 14 = .ok (.iload_n 2, 1) := by decide +kernel
theorem dX0_quartersOfAll_15 : decode cX0_quartersOfAll 15 = .ok (.iaload, 1) := by decide +kernel
theorem dX0_quartersOfAll_16 : decode cX0_quartersOfAll 16 = .ok (.iload_n 2, 1) := by decide +kernel
theorem dX0_quartersOfAll_17 : decode cX0_quartersOfAll 17 = .ok (.if_icmp .ne 6, 3) := by decide +kernel
theorem dX0_quartersOfAll_20 : decode cX0_quartersOfAll 20 = .ok (.iinc 1 1, 3) := by decide +kernel
theorem dX0_quartersOfAll_23 : decode cX0_quartersOfAll 23 = .ok (.iinc 2 1, 3) := by decide +kernel
theorem dX0_quartersOfAll_26 : decode cX0_quartersOfAll 26 = .ok (.goto (-22), 3) := by decide +kernel
theorem dX0_quartersOfAll_29 : decode cX0_quartersOfAll 29 = .ok (.iload_n 1, 1) := by decide +kernel
theorem dX0_quartersOfAll_30 : decode cX0_quartersOfAll 30 = .ok (.ireturn, 1) := by decide +kernel
set_option maxRecDepth 20000 in
theorem ggX0_complaintsOfAll_X0_sum : GoodIn wsX0_complaintsOfAll wsX0_sum := goodIn_r _ [5] (by decide +kernel) (by decide +kernel)
set_option maxRecDepth 20000 in
theorem gX0_complaintsOfAll_X0_sum : GoodIn wsX0_complaintsOfAll (va_wsS RX0 136 yX0_sum wsX0_sum) := goodIn_app (goodIn_of _ (by decide +kernel)) ggX0_complaintsOfAll_X0_sum
theorem dX0_complaintsOfAll_0 : decode cX0_complaintsOfAll 0 = .ok (.aload_n 0, 1) := by decide +kernel
theorem dX0_complaintsOfAll_1 : decode cX0_complaintsOfAll 1 = .ok (.getfield 40, 3) := by decide +kernel
theorem dX0_complaintsOfAll_4 : decode cX0_complaintsOfAll 4 = .ok (.invokestatic 136, 3) := by decide +kernel
theorem dX0_complaintsOfAll_7 : decode cX0_complaintsOfAll 7 = .ok (.ireturn, 1) := by decide +kernel
set_option maxRecDepth 20000 in
theorem ggX0_duesOfAll_X0_sum : GoodIn wsX0_duesOfAll wsX0_sum := goodIn_r _ [5] (by decide +kernel) (by decide +kernel)
set_option maxRecDepth 20000 in
theorem gX0_duesOfAll_X0_sum : GoodIn wsX0_duesOfAll (va_wsS RX0 136 yX0_sum wsX0_sum) := goodIn_app (goodIn_of _ (by decide +kernel)) ggX0_duesOfAll_X0_sum
theorem dX0_duesOfAll_0 : decode cX0_duesOfAll 0 = .ok (.aload_n 0, 1) := by decide +kernel
theorem dX0_duesOfAll_1 : decode cX0_duesOfAll 1 = .ok (.getfield 43, 3) := by decide +kernel
theorem dX0_duesOfAll_4 : decode cX0_duesOfAll 4 = .ok (.invokestatic 136, 3) := by decide +kernel
theorem dX0_duesOfAll_7 : decode cX0_duesOfAll 7 = .ok (.ireturn, 1) := by decide +kernel
theorem dX0_sum_0 : decode cX0_sum 0 = .ok (.iconst 0, 1) := by decide +kernel
theorem dX0_sum_1 : decode cX0_sum 1 = .ok (.istore_n 1, 1) := by decide +kernel
theorem dX0_sum_2 : decode cX0_sum 2 = .ok (.iconst 0, 1) := by decide +kernel
theorem dX0_sum_3 : decode cX0_sum 3 = .ok (.istore_n 2, 1) := by decide +kernel
theorem dX0_sum_4 : decode cX0_sum 4 = .ok (.iload_n 2, 1) := by decide +kernel
theorem dX0_sum_5 : decode cX0_sum 5 = .ok (.aload_n 0, 1) := by decide +kernel
theorem dX0_sum_6 : decode cX0_sum 6 = .ok (.arraylength, 1) := by decide +kernel
theorem dX0_sum_7 : decode cX0_sum 7 = .ok (.if_icmp .ge 15, 3) := by decide +kernel
theorem dX0_sum_10 : decode cX0_sum 10 = .ok (.iload_n 1, 1) := by decide +kernel
theorem dX0_sum_11 : decode cX0_sum 11 = .ok (.aload_n 0, 1) := by decide +kernel
theorem dX0_sum_12 : decode cX0_sum 12 = .ok (.iload_n 2, 1) := by decide +kernel
theorem dX0_sum_13 : decode cX0_sum 13 = .ok (.iaload, 1) := by decide +kernel
theorem dX0_sum_14 : decode cX0_sum 14 = .ok (.iadd, 1) := by decide +kernel
theorem dX0_sum_15 : decode cX0_sum 15 = .ok (.istore_n 1, 1) := by decide +kernel
theorem dX0_sum_16 : decode cX0_sum 16 = .ok (.iinc 2 1, 3) := by decide +kernel
theorem dX0_sum_19 : decode cX0_sum 19 = .ok (.goto (-15), 3) := by decide +kernel
theorem dX0_sum_22 : decode cX0_sum 22 = .ok (.iload_n 1, 1) := by decide +kernel
theorem dX0_sum_23 : decode cX0_sum 23 = .ok (.ireturn, 1) := by decide +kernel
set_option maxRecDepth 20000 in
theorem ggX1_init_X0_init : GoodIn wsX1_init wsX0_init := goodIn_r _ [11, 12, 2, 3, 13, 14, 15, 16, 17, 18, 19, 20, 21, 22, 23, 24, 25, 26, 27, 28, 29, 6, 30, 31, 32, 33, 34, 35, 36, 37, 38, 39, 40, 41, 42, 43, 44, 45, 46, 47, 48, 49, 50, 51, 52, 53, 54, 55, 56, 57, 58, 59, 60, 61, 62, 63, 64, 65, 66, 67, 68, 69, 70, 71, 72, 73, 74, 75, 76, 77, 78, 79, 80, 81, 82, 83, 84, 85, 86, 87, 88, 89, 90, 91, 92, 93, 94, 95, 96, 97, 98, 99] (by decide +kernel) (by decide +kernel)
set_option maxRecDepth 20000 in
theorem gX1_init_X0_init : GoodIn wsX1_init (wsX0_init) := ggX1_init_X0_init
theorem dX1_init_0 : decode cX1_init 0 = .ok (.aload_n 0, 1) := by decide +kernel
theorem dX1_init_1 : decode cX1_init 1 = .ok (.invokespecial 1, 3) := by decide +kernel
theorem dX1_init_4 : decode cX1_init 4 = .ok (.aload_n 0, 1) := by decide +kernel
theorem dX1_init_5 : decode cX1_init 5 = .ok (.new 7, 3) := by decide +kernel
theorem dX1_init_8 : decode cX1_init 8 = .ok (.dup, 1) := by decide +kernel
theorem dX1_init_9 : decode cX1_init 9 = .ok (.invokespecial 9, 3) := by decide +kernel
theorem dX1_init_12 : decode cX1_init 12 = .ok (.putfield 10, 3) := by decide +kernel
theorem dX1_init_15 : decode cX1_init 15 = .ok (.aload_n 0, 1) := by decide +kernel
theorem dX1_init_16 : decode cX1_init 16 = .ok (.new 7, 3) := by decide +kernel
theorem dX1_init_19 : decode cX1_init 19 = .ok (.dup, 1) := by decide +kernel
theorem dX1_init_20 : decode cX1_init 20 = .ok (.invokespecial 9, 3) := by decide +kernel
theorem dX1_init_23 : decode cX1_init 23 = .ok (.putfield 16, 3) := by decide +kernel
theorem dX1_init_26 : decode cX1_init 26 = .ok (.return_, 1) := by decide +kernel
set_option maxRecDepth 20000 in
theorem ggX1_drain_X1_checkedNumber : GoodIn wsX1_drain wsX1_checkedNumber := goodIn_ca (goodIn_r _ [7, 8, 9] (by decide +kernel) (by decide +kernel)) (goodIn_sub (fun _ h => List.mem_cons_of_mem _ (List.mem_append_right _ h)) (by decide +kernel))
set_option maxRecDepth 20000 in
theorem gX1_drain_X1_checkedNumber : GoodIn wsX1_drain (va_wsS RX1 19 yX1_checkedNumber wsX1_checkedNumber) := goodIn_app (goodIn_of _ (by decide +kernel)) ggX1_drain_X1_checkedNumber
set_option maxRecDepth 20000 in
theorem ggX1_drain_X1_checkCoins : GoodIn wsX1_drain wsX1_checkCoins := goodIn_ca (goodIn_r _ [13, 1, 2, 3, 92, 93, 94, 95, 96, 97, 98, 99, 100, 101, 102, 103, 104, 105, 106] (by decide +kernel) (by decide +kernel)) (goodIn_sub (fun _ h => List.mem_cons_of_mem _ (List.mem_append_left _ (List.mem_append_right _ h))) (by decide +kernel))
set_option maxRecDepth 20000 in
theorem gX1_drain_X1_checkCoins : GoodIn wsX1_drain (wsV RX1 34 RX1 yX1_checkCoins wsX1_checkCoins) := goodIn_app (goodIn_of _ (by decide +kernel)) ggX1_drain_X1_checkCoins
set_option maxRecDepth 20000 in
theorem ggX1_drain_X0_buy : GoodIn wsX1_drain wsX0_buy := goodIn_r _ [18, 19, 20, 21, 22, 17, 23, 24, 25, 26, 27, 28, 29, 30, 31, 32, 33, 34, 35, 36, 37, 38, 39, 40, 41, 42, 43, 6, 44, 45, 46, 47, 48, 49, 50, 51, 52, 53, 54, 55, 56, 57, 58, 59, 60, 61, 62, 63, 64, 65, 66, 67, 68, 69, 70, 71, 72, 73, 74, 75, 76, 77, 78, 79, 80, 81, 82, 83, 84, 85, 86, 87, 88, 89, 90, 91, 94, 95, 96, 97, 98, 99, 100, 101, 102, 103, 104, 105, 106] (by decide +kernel) (by decide +kernel)
set_option maxRecDepth 20000 in
theorem gX1_drain_X0_buy : GoodIn wsX1_drain (wsV RX1 38 RX0 yX0_buy wsX0_buy) := goodIn_app (goodIn_of _ (by decide +kernel)) ggX1_drain_X0_buy
theorem dX1_drain_0 : decode cX1_drain 0 = .ok (.iload_n 1, 1) := by decide +kernel
theorem dX1_drain_1 : decode cX1_drain 1 = .ok (.iload_n 2, 1) := by decide +kernel
theorem dX1_drain_2 : decode cX1_drain 2 = .ok (.invokestatic 19, 3) := by decide +kernel
theorem dX1_drain_5 : decode cX1_drain 5 = .ok (.istore_n 3, 1) := by decide +kernel
theorem dX1_drain_6 : decode cX1_drain 6 = .ok (.aload_n 0, 1) := by decide +kernel
theorem dX1_drain_7 : decode cX1_drain 7 = .ok (.getfield 10, 3) := by decide +kernel
theorem dX1_drain_10 : decode cX1_drain 10 = .ok (.getfield 23, 3) := by decide +kernel
theorem dX1_drain_13 : decode cX1_drain 13 = .ok (.iload_n 3, 1) := by decide +kernel
theorem dX1_drain_14 : decode cX1_drain 14 = .ok (.iaload, 1) := by decide +kernel
theorem dX1_drain_15 : decode cX1_drain 15 = .ok (.ifCond .eq 13, 3) := by decide +kernel
theorem dX1_drain_18 : decode cX1_drain 18 = .ok (.new 27, 3) := by decide +kernel
theorem dX1_drain_21 : decode cX1_drain 21 = .ok (.dup, 1) := by decide +kernel
theorem dX1_drain_22 : decode cX1_drain 22 = .ok (.ldc 29, 2) := by decide +kernel
theorem dX1_drain_24 : decode cX1_drain 24 = .ok (.invokespecial 31, 3) := by decide +kernel
theorem dX1_drain_27 : decode cX1_drain 27 = .ok (.athrow, 1) := by decide +kernel
theorem dX1_drain_28 : decode cX1_drain 28 = .ok (.aload_n 0, 1) := by decide +kernel
theorem dX1_drain_29 : decode cX1_drain 29 = .ok (.iconst 2, 1) := by decide +kernel
theorem dX1_drain_30 : decode cX1_drain 30 = .ok (.invokevirtual 34, 3) := by decide +kernel
theorem dX1_drain_33 : decode cX1_drain 33 = .ok (.aload_n 0, 1) := by decide +kernel
theorem dX1_drain_34 : decode cX1_drain 34 = .ok (.getfield 10, 3) := by decide +kernel
theorem dX1_drain_37 : decode cX1_drain 37 = .ok (.iload_n 3, 1) := by decide +kernel
theorem dX1_drain_38 : decode cX1_drain 38 = .ok (.iconst 2, 1) := by decide +kernel
theorem dX1_drain_39 : decode cX1_drain 39 = .ok (.iconst 2, 1) := by decide +kernel
theorem dX1_drain_40 : decode cX1_drain 40 = .ok (.invokevirtual 38, 3) := by decide +kernel
theorem dX1_drain_43 : decode cX1_drain 43 = .ok (.aload_n 0, 1) := by decide +kernel
theorem dX1_drain_44 : decode cX1_drain 44 = .ok (.getfield 10, 3) := by decide +kernel
theorem dX1_drain_47 : decode cX1_drain 47 = .ok (.getfield 42, 3) := by decide +kernel
theorem dX1_drain_50 : decode cX1_drain 50 = .ok (.ireturn, 1) := by decide +kernel
set_option maxRecDepth 20000 in
theorem ggX1_dig_X1_checkedNumber : GoodIn wsX1_dig wsX1_checkedNumber := goodIn_ca (goodIn_r _ [7, 8, 9] (by decide +kernel) (by decide +kernel)) (goodIn_sub (fun _ h => List.mem_cons_of_mem _ (List.mem_append_right _ h)) (by decide +kernel))
set_option maxRecDepth 20000 in
theorem gX1_dig_X1_checkedNumber : GoodIn wsX1_dig (va_wsS RX1 19 yX1_checkedNumber wsX1_checkedNumber) := goodIn_app (goodIn_of _ (by decide +kernel)) ggX1_dig_X1_checkedNumber
set_option maxRecDepth 20000 in
theorem ggX1_dig_X1_checkCoins : GoodIn wsX1_dig wsX1_checkCoins := goodIn_ca (goodIn_r _ [13, 1, 2, 3, 92, 93, 94, 95, 96, 97, 98, 99, 100, 101, 102, 103, 104, 105, 106] (by decide +kernel) (by decide +kernel)) (goodIn_sub (fun _ h => List.mem_cons_of_mem _ (List.mem_append_left _ (List.mem_append_right _ h))) (by decide +kernel))
set_option maxRecDepth 20000 in
theorem gX1_dig_X1_checkCoins : GoodIn wsX1_dig (wsV RX1 34 RX1 yX1_checkCoins wsX1_checkCoins) := goodIn_app (goodIn_of _ (by decide +kernel)) ggX1_dig_X1_checkCoins
set_option maxRecDepth 20000 in
theorem ggX1_dig_X0_buy : GoodIn wsX1_dig wsX0_buy := goodIn_r _ [18, 19, 20, 21, 22, 17, 23, 24, 25, 26, 27, 28, 29, 30, 31, 32, 33, 34, 35, 36, 37, 38, 39, 40, 41, 42, 43, 6, 44, 45, 46, 47, 48, 49, 50, 51, 52, 53, 54, 55, 56, 57, 58, 59, 60, 61, 62, 63, 64, 65, 66, 67, 68, 69, 70, 71, 72, 73, 74, 75, 76, 77, 78, 79, 80, 81, 82, 83, 84, 85, 86, 87, 88, 89, 90, 91, 94, 95, 96, 97, 98, 99, 100, 101, 102, 103, 104, 105, 106] (by decide +kernel) (by decide +kernel)
set_option maxRecDepth 20000 in
theorem gX1_dig_X0_buy : GoodIn wsX1_dig (wsV RX1 38 RX0 yX0_buy wsX0_buy) := goodIn_app (goodIn_of _ (by decide +kernel)) ggX1_dig_X0_buy
theorem dX1_dig_0 : decode cX1_dig 0 = .ok (.iload_n 1, 1) := by decide +kernel
theorem dX1_dig_1 : decode cX1_dig 1 = .ok (.iload_n 2, 1) := by decide +kernel
theorem dX1_dig_2 : decode cX1_dig 2 = .ok (.invokestatic 19, 3) := by decide +kernel
theorem dX1_dig_5 : decode cX1_dig 5 = .ok (.istore_n 3, 1) := by decide +kernel
theorem dX1_dig_6 : decode cX1_dig 6 = .ok (.aload_n 0, 1) := by decide +kernel
theorem dX1_dig_7 : decode cX1_dig 7 = .ok (.getfield 10, 3) := by decide +kernel
theorem dX1_dig_10 : decode cX1_dig 10 = .ok (.getfield 23, 3) := by decide +kernel
theorem dX1_dig_13 : decode cX1_dig 13 = .ok (.iload_n 3, 1) := by decide +kernel
theorem dX1_dig_14 : decode cX1_dig 14 = .ok (.iaload, 1) := by decide +kernel
theorem dX1_dig_15 : decode cX1_dig 15 = .ok (.istore 4, 2) := by decide +kernel
theorem dX1_dig_17 : decode cX1_dig 17 = .ok (.iload 4, 2) := by decide +kernel
theorem dX1_dig_19 : decode cX1_dig 19 = .ok (.ifCond .eq 19, 3) := by decide +kernel
theorem dX1_dig_22 : decode cX1_dig 22 = .ok (.iload 4, 2) := by decide +kernel
theorem dX1_dig_24 : decode cX1_dig 24 = .ok (.iconst 2, 1) := by decide +kernel
theorem dX1_dig_25 : decode cX1_dig 25 = .ok (.if_icmp .eq 13, 3) := by decide +kernel
theorem dX1_dig_28 : decode cX1_dig 28 = .ok (.new 27, 3) := by decide +kernel
theorem dX1_dig_31 : decode cX1_dig 31 = .ok (.dup, 1) := by decide +kernel
theorem dX1_dig_32 : decode cX1_dig 32 = .ok (.ldc 46, 2) := by decide +kernel
theorem dX1_dig_34 : decode cX1_dig 34 = .ok (.invokespecial 31, 3) := by decide +kernel
theorem dX1_dig_37 : decode cX1_dig 37 = .ok (.athrow, 1) := by decide +kernel
theorem dX1_dig_38 : decode cX1_dig 38 = .ok (.aload_n 0, 1) := by decide +kernel
theorem dX1_dig_39 : decode cX1_dig 39 = .ok (.iconst 3, 1) := by decide +kernel
theorem dX1_dig_40 : decode cX1_dig 40 = .ok (.invokevirtual 34, 3) := by decide +kernel
theorem dX1_dig_43 : decode cX1_dig 43 = .ok (.aload_n 0, 1) := by decide +kernel
theorem dX1_dig_44 : decode cX1_dig 44 = .ok (.getfield 10, 3) := by decide +kernel
theorem dX1_dig_47 : decode cX1_dig 47 = .ok (.iload_n 3, 1) := by decide +kernel
theorem dX1_dig_48 : decode cX1_dig 48 = .ok (.iconst 1, 1) := by decide +kernel
theorem dX1_dig_49 : decode cX1_dig 49 = .ok (.iconst 3, 1) := by decide +kernel
theorem dX1_dig_50 : decode cX1_dig 50 = .ok (.invokevirtual 38, 3) := by decide +kernel
theorem dX1_dig_53 : decode cX1_dig 53 = .ok (.aload_n 0, 1) := by decide +kernel
theorem dX1_dig_54 : decode cX1_dig 54 = .ok (.getfield 10, 3) := by decide +kernel
theorem dX1_dig_57 : decode cX1_dig 57 = .ok (.getfield 42, 3) := by decide +kernel
theorem dX1_dig_60 : decode cX1_dig 60 = .ok (.ireturn, 1) := by decide +kernel
set_option maxRecDepth 20000 in
theorem ggX1_build_X1_checkedNumber : GoodIn wsX1_build wsX1_checkedNumber := goodIn_ca (goodIn_r _ [5, 6, 7] (by decide +kernel) (by decide +kernel)) (goodIn_sub (fun _ h => List.mem_cons_of_mem _ (List.mem_append_left _ (List.mem_append_left _ (List.mem_append_right _ h)))) (by decide +kernel))
set_option maxRecDepth 20000 in
theorem gX1_build_X1_checkedNumber : GoodIn wsX1_build (va_wsS RX1 19 yX1_checkedNumber wsX1_checkedNumber) := goodIn_app (goodIn_of _ (by decide +kernel)) ggX1_build_X1_checkedNumber
set_option maxRecDepth 20000 in
theorem ggX1_build_X1_checkBuilding : GoodIn wsX1_build wsX1_checkBuilding := goodIn_ca (goodIn_r _ [10, 11, 12] (by decide +kernel) (by decide +kernel)) (goodIn_sub (fun _ h => List.mem_cons_of_mem _ (List.mem_append_left _ (List.mem_append_right _ h))) (by decide +kernel))
set_option maxRecDepth 20000 in
theorem gX1_build_X1_checkBuilding : GoodIn wsX1_build (va_wsS RX1 48 yX1_checkBuilding wsX1_checkBuilding) := goodIn_app (goodIn_of _ (by decide +kernel)) ggX1_build_X1_checkBuilding
set_option maxRecDepth 20000 in
theorem ggX1_build_X1_checkDrained : GoodIn wsX1_build wsX1_checkDrained := goodIn_ca (goodIn_r _ [16, 17, 18, 1, 104, 105, 106, 107, 108, 109, 110, 111, 112, 113, 114, 115, 116, 117, 118] (by decide +kernel) (by decide +kernel)) (goodIn_sub (fun _ h => List.mem_cons_of_mem _ (List.mem_append_right _ h)) (by decide +kernel))
set_option maxRecDepth 20000 in
theorem gX1_build_X1_checkDrained : GoodIn wsX1_build (wsV RX1 51 RX1 yX1_checkDrained wsX1_checkDrained) := goodIn_app (goodIn_of _ (by decide +kernel)) ggX1_build_X1_checkDrained
set_option maxRecDepth 20000 in
theorem ggX1_build_X1_costOf : GoodIn wsX1_build wsX1_costOf := goodIn_r _ [21] (by decide +kernel) (by decide +kernel)
set_option maxRecDepth 20000 in
theorem gX1_build_X1_costOf : GoodIn wsX1_build (va_wsS RX1 54 yX1_costOf wsX1_costOf) := goodIn_app (goodIn_of _ (by decide +kernel)) ggX1_build_X1_costOf
set_option maxRecDepth 20000 in
theorem ggX1_build_X1_checkCoins : GoodIn wsX1_build wsX1_checkCoins := goodIn_ca (goodIn_r _ [25, 17, 18, 1, 104, 105, 106, 107, 108, 109, 110, 111, 112, 113, 114, 115, 116, 117, 118] (by decide +kernel) (by decide +kernel)) (goodIn_sub (fun _ h => List.mem_cons_of_mem _ (List.mem_append_right _ h)) (by decide +kernel))
set_option maxRecDepth 20000 in
theorem gX1_build_X1_checkCoins : GoodIn wsX1_build (wsV RX1 34 RX1 yX1_checkCoins wsX1_checkCoins) := goodIn_app (goodIn_of _ (by decide +kernel)) ggX1_build_X1_checkCoins
set_option maxRecDepth 20000 in
theorem ggX1_build_X0_buy : GoodIn wsX1_build wsX0_buy := goodIn_r _ [30, 31, 32, 33, 34, 29, 35, 36, 37, 38, 39, 40, 41, 42, 43, 44, 45, 46, 47, 48, 49, 50, 51, 52, 53, 54, 55, 4, 56, 57, 58, 59, 60, 61, 62, 63, 64, 65, 66, 67, 68, 69, 70, 71, 72, 73, 74, 75, 76, 77, 78, 79, 80, 81, 82, 83, 84, 85, 86, 87, 88, 89, 90, 91, 92, 93, 94, 95, 96, 97, 98, 99, 100, 101, 102, 103, 106, 107, 108, 109, 110, 111, 112, 113, 114, 115, 116, 117, 118] (by decide +kernel) (by decide +kernel)
set_option maxRecDepth 20000 in
theorem gX1_build_X0_buy : GoodIn wsX1_build (wsV RX1 38 RX0 yX0_buy wsX0_buy) := goodIn_app (goodIn_of _ (by decide +kernel)) ggX1_build_X0_buy
theorem dX1_build_0 : decode cX1_build 0 = .ok (.iload_n 1, 1) := by decide +kernel
theorem dX1_build_1 : decode cX1_build 1 = .ok (.iload_n 2, 1) := by decide +kernel
theorem dX1_build_2 : decode cX1_build 2 = .ok (.invokestatic 19, 3) := by decide +kernel
theorem dX1_build_5 : decode cX1_build 5 = .ok (.istore 4, 2) := by decide +kernel
theorem dX1_build_7 : decode cX1_build 7 = .ok (.iload_n 3, 1) := by decide +kernel
theorem dX1_build_8 : decode cX1_build 8 = .ok (.invokestatic 48, 3) := by decide +kernel
theorem dX1_build_11 : decode cX1_build 11 = .ok (.aload_n 0, 1) := by decide +kernel
theorem dX1_build_12 : decode cX1_build 12 = .ok (.iload 4, 2) := by decide +kernel
theorem dX1_build_14 : decode cX1_build 14 = .ok (.invokevirtual 51, 3) := by decide +kernel
theorem dX1_build_17 : decode cX1_build 17 = .ok (.iload_n 3, 1) := by decide +kernel
theorem dX1_build_18 : decode cX1_build 18 = .ok (.invokestatic 54, 3) := by decide +kernel
theorem dX1_build_21 : decode cX1_build 21 = .ok (.istore 5, 2) := by decide +kernel
theorem dX1_build_23 : decode cX1_build 23 = .ok (.aload_n 0, 1) := by decide +kernel
theorem dX1_build_24 : decode cX1_build 24 = .ok (.iload 5, 2) := by decide +kernel
theorem dX1_build_26 : decode cX1_build 26 = .ok (.invokevirtual 34, 3) := by decide +kernel
theorem dX1_build_29 : decode cX1_build 29 = .ok (.aload_n 0, 1) := by decide +kernel
theorem dX1_build_30 : decode cX1_build 30 = .ok (.getfield 10, 3) := by decide +kernel
theorem dX1_build_33 : decode cX1_build 33 = .ok (.iload 4, 2) := by decide +kernel
theorem dX1_build_35 : decode cX1_build 35 = .ok (.iload_n 3, 1) := by decide +kernel
theorem dX1_build_36 : decode cX1_build 36 = .ok (.iload 5, 2) := by decide +kernel
theorem dX1_build_38 : decode cX1_build 38 = .ok (.invokevirtual 38, 3) := by decide +kernel
theorem dX1_build_41 : decode cX1_build 41 = .ok (.aload_n 0, 1) := by decide +kernel
theorem dX1_build_42 : decode cX1_build 42 = .ok (.getfield 10, 3) := by decide +kernel
theorem dX1_build_45 : decode cX1_build 45 = .ok (.getfield 42, 3) := by decide +kernel
theorem dX1_build_48 : decode cX1_build 48 = .ok (.ireturn, 1) := by decide +kernel
set_option maxRecDepth 20000 in
theorem ggX1_bridge_X1_checkedNumber : GoodIn wsX1_bridge wsX1_checkedNumber := goodIn_ca (goodIn_r _ [7, 8, 9] (by decide +kernel) (by decide +kernel)) (goodIn_sub (fun _ h => List.mem_cons_of_mem _ (List.mem_append_right _ h)) (by decide +kernel))
set_option maxRecDepth 20000 in
theorem gX1_bridge_X1_checkedNumber : GoodIn wsX1_bridge (va_wsS RX1 19 yX1_checkedNumber wsX1_checkedNumber) := goodIn_app (goodIn_of _ (by decide +kernel)) ggX1_bridge_X1_checkedNumber
set_option maxRecDepth 20000 in
theorem ggX1_bridge_X1_checkCoins : GoodIn wsX1_bridge wsX1_checkCoins := goodIn_ca (goodIn_r _ [13, 1, 2, 3, 96, 97, 98, 99, 100, 101, 102, 103, 104, 105, 106, 107, 108, 109, 110] (by decide +kernel) (by decide +kernel)) (goodIn_sub (fun _ h => List.mem_cons_of_mem _ (List.mem_append_left _ (List.mem_append_right _ h))) (by decide +kernel))
set_option maxRecDepth 20000 in
theorem gX1_bridge_X1_checkCoins : GoodIn wsX1_bridge (wsV RX1 34 RX1 yX1_checkCoins wsX1_checkCoins) := goodIn_app (goodIn_of _ (by decide +kernel)) ggX1_bridge_X1_checkCoins
set_option maxRecDepth 20000 in
theorem ggX1_bridge_X0_buy : GoodIn wsX1_bridge wsX0_buy := goodIn_r _ [18, 19, 20, 21, 22, 17, 23, 24, 25, 26, 27, 28, 29, 30, 31, 32, 33, 34, 35, 36, 37, 38, 39, 40, 41, 42, 43, 6, 44, 45, 46, 47, 48, 49, 50, 51, 52, 53, 54, 55, 56, 57, 58, 59, 60, 61, 62, 63, 64, 65, 66, 67, 68, 69, 70, 71, 72, 73, 74, 75, 76, 77, 78, 79, 80, 81, 82, 83, 84, 85, 86, 87, 88, 89, 90, 91, 98, 99, 100, 101, 102, 103, 104, 105, 106, 107, 108, 109, 110] (by decide +kernel) (by decide +kernel)
set_option maxRecDepth 20000 in
theorem gX1_bridge_X0_buy : GoodIn wsX1_bridge (wsV RX1 38 RX0 yX0_buy wsX0_buy) := goodIn_app (goodIn_of _ (by decide +kernel)) ggX1_bridge_X0_buy
set_option maxRecDepth 20000 in
theorem ggX1_bridge_X0_lotsOfQuarter : GoodIn wsX1_bridge wsX0_lotsOfQuarter := goodIn_r _ [95, 36, 37, 50, 6, 51, 98, 99, 100, 101, 102, 103, 104, 105, 106, 107, 108, 109, 110] (by decide +kernel) (by decide +kernel)
set_option maxRecDepth 20000 in
theorem gX1_bridge_X0_lotsOfQuarter : GoodIn wsX1_bridge (wsV RX1 60 RX0 yX0_lotsOfQuarter wsX0_lotsOfQuarter) := goodIn_app (goodIn_of _ (by decide +kernel)) ggX1_bridge_X0_lotsOfQuarter
theorem dX1_bridge_0 : decode cX1_bridge 0 = .ok (.iload_n 1, 1) := by decide +kernel
theorem dX1_bridge_1 : decode cX1_bridge 1 = .ok (.iload_n 2, 1) := by decide +kernel
theorem dX1_bridge_2 : decode cX1_bridge 2 = .ok (.invokestatic 19, 3) := by decide +kernel
theorem dX1_bridge_5 : decode cX1_bridge 5 = .ok (.istore_n 3, 1) := by decide +kernel
theorem dX1_bridge_6 : decode cX1_bridge 6 = .ok (.aload_n 0, 1) := by decide +kernel
theorem dX1_bridge_7 : decode cX1_bridge 7 = .ok (.getfield 10, 3) := by decide +kernel
theorem dX1_bridge_10 : decode cX1_bridge 10 = .ok (.getfield 23, 3) := by decide +kernel
theorem dX1_bridge_13 : decode cX1_bridge 13 = .ok (.iload_n 3, 1) := by decide +kernel
theorem dX1_bridge_14 : decode cX1_bridge 14 = .ok (.iaload, 1) := by decide +kernel
theorem dX1_bridge_15 : decode cX1_bridge 15 = .ok (.iconst 1, 1) := by decide +kernel
theorem dX1_bridge_16 : decode cX1_bridge 16 = .ok (.if_icmp .eq 13, 3) := by decide +kernel
theorem dX1_bridge_19 : decode cX1_bridge 19 = .ok (.new 27, 3) := by decide +kernel
theorem dX1_bridge_22 : decode cX1_bridge 22 = .ok (.dup, 1) := by decide +kernel
theorem dX1_bridge_23 : decode cX1_bridge 23 = .ok (.ldc 58, 2) := by decide +kernel
theorem dX1_bridge_25 : decode cX1_bridge 25 = .ok (.invokespecial 31, 3) := by decide +kernel
theorem dX1_bridge_28 : decode cX1_bridge 28 = .ok (.athrow, 1) := by decide +kernel
theorem dX1_bridge_29 : decode cX1_bridge 29 = .ok (.aload_n 0, 1) := by decide +kernel
theorem dX1_bridge_30 : decode cX1_bridge 30 = .ok (.bipush 7, 2) := by decide +kernel
theorem dX1_bridge_32 : decode cX1_bridge 32 = .ok (.invokevirtual 34, 3) := by decide +kernel
theorem dX1_bridge_35 : decode cX1_bridge 35 = .ok (.aload_n 0, 1) := by decide +kernel
theorem dX1_bridge_36 : decode cX1_bridge 36 = .ok (.getfield 10, 3) := by decide +kernel
theorem dX1_bridge_39 : decode cX1_bridge 39 = .ok (.iload_n 3, 1) := by decide +kernel
theorem dX1_bridge_40 : decode cX1_bridge 40 = .ok (.bipush 6, 2) := by decide +kernel
theorem dX1_bridge_42 : decode cX1_bridge 42 = .ok (.bipush 7, 2) := by decide +kernel
theorem dX1_bridge_44 : decode cX1_bridge 44 = .ok (.invokevirtual 38, 3) := by decide +kernel
theorem dX1_bridge_47 : decode cX1_bridge 47 = .ok (.aload_n 0, 1) := by decide +kernel
theorem dX1_bridge_48 : decode cX1_bridge 48 = .ok (.getfield 10, 3) := by decide +kernel
theorem dX1_bridge_51 : decode cX1_bridge 51 = .ok (.iload_n 3, 1) := by decide +kernel
theorem dX1_bridge_52 : decode cX1_bridge 52 = .ok (.invokevirtual 60, 3) := by decide +kernel
theorem dX1_bridge_55 : decode cX1_bridge 55 = .ok (.ireturn, 1) := by decide +kernel
set_option maxRecDepth 20000 in
theorem ggX1_raze_X1_checkedNumber : GoodIn wsX1_raze wsX1_checkedNumber := goodIn_ca (goodIn_r _ [7, 8, 9] (by decide +kernel) (by decide +kernel)) (goodIn_sub (fun _ h => List.mem_cons_of_mem _ (List.mem_append_right _ h)) (by decide +kernel))
set_option maxRecDepth 20000 in
theorem gX1_raze_X1_checkedNumber : GoodIn wsX1_raze (va_wsS RX1 19 yX1_checkedNumber wsX1_checkedNumber) := goodIn_app (goodIn_of _ (by decide +kernel)) ggX1_raze_X1_checkedNumber
set_option maxRecDepth 20000 in
theorem ggX1_raze_X0_change : GoodIn wsX1_raze wsX0_change := goodIn_r _ [14, 15, 16, 17, 18, 13, 19, 20, 21, 22, 23, 24, 25, 26, 27, 28, 29, 30, 31, 32, 33, 34, 6, 35, 36, 37, 38, 39, 40, 41, 42, 43, 44, 45, 46, 47, 48, 49, 50, 51, 52, 53, 54, 55, 56, 57, 58, 59, 60, 61, 62, 63, 64, 65, 66, 67, 68, 69, 70, 71, 72, 73, 74, 75, 76, 77, 78, 79, 80, 81, 82, 85, 86, 87, 88, 89, 90, 91, 92, 93, 94, 95, 96, 97] (by decide +kernel) (by decide +kernel)
set_option maxRecDepth 20000 in
theorem gX1_raze_X0_change : GoodIn wsX1_raze (wsV RX1 65 RX0 yX0_change wsX0_change) := goodIn_app (goodIn_of _ (by decide +kernel)) ggX1_raze_X0_change
theorem dX1_raze_0 : decode cX1_raze 0 = .ok (.iload_n 1, 1) := by decide +kernel
theorem dX1_raze_1 : decode cX1_raze 1 = .ok (.iload_n 2, 1) := by decide +kernel
theorem dX1_raze_2 : decode cX1_raze 2 = .ok (.invokestatic 19, 3) := by decide +kernel
theorem dX1_raze_5 : decode cX1_raze 5 = .ok (.istore_n 3, 1) := by decide +kernel
theorem dX1_raze_6 : decode cX1_raze 6 = .ok (.aload_n 0, 1) := by decide +kernel
theorem dX1_raze_7 : decode cX1_raze 7 = .ok (.getfield 10, 3) := by decide +kernel
theorem dX1_raze_10 : decode cX1_raze 10 = .ok (.getfield 23, 3) := by decide +kernel
theorem dX1_raze_13 : decode cX1_raze 13 = .ok (.iload_n 3, 1) := by decide +kernel
theorem dX1_raze_14 : decode cX1_raze 14 = .ok (.iaload, 1) := by decide +kernel
theorem dX1_raze_15 : decode cX1_raze 15 = .ok (.istore 4, 2) := by decide +kernel
theorem dX1_raze_17 : decode cX1_raze 17 = .ok (.iload 4, 2) := by decide +kernel
theorem dX1_raze_19 : decode cX1_raze 19 = .ok (.iconst 3, 1) := by decide +kernel
theorem dX1_raze_20 : decode cX1_raze 20 = .ok (.if_icmp .lt 10, 3) := by decide +kernel
theorem dX1_raze_23 : decode cX1_raze 23 = .ok (.iload 4, 2) := by decide +kernel
theorem dX1_raze_25 : decode cX1_raze 25 = .ok (.bipush 6, 2) := by decide +kernel
theorem dX1_raze_27 : decode cX1_raze 27 = .ok (.if_icmp .le 13, 3) := by decide +kernel
theorem dX1_raze_30 : decode cX1_raze 30 = .ok (.new 27, 3) := by decide +kernel
theorem dX1_raze_33 : decode cX1_raze 33 = .ok (.dup, 1) := by decide +kernel
theorem dX1_raze_34 : decode cX1_raze 34 = .ok (.ldc 63, 2) := by decide +kernel
theorem dX1_raze_36 : decode cX1_raze 36 = .ok (.invokespecial 31, 3) := by decide +kernel
theorem dX1_raze_39 : decode cX1_raze 39 = .ok (.athrow, 1) := by decide +kernel
theorem dX1_raze_40 : decode cX1_raze 40 = .ok (.aload_n 0, 1) := by decide +kernel
theorem dX1_raze_41 : decode cX1_raze 41 = .ok (.getfield 10, 3) := by decide +kernel
theorem dX1_raze_44 : decode cX1_raze 44 = .ok (.iload_n 3, 1) := by decide +kernel
theorem dX1_raze_45 : decode cX1_raze 45 = .ok (.iload 4, 2) := by decide +kernel
theorem dX1_raze_47 : decode cX1_raze 47 = .ok (.bipush 6, 2) := by decide +kernel
theorem dX1_raze_49 : decode cX1_raze 49 = .ok (.if_icmp .ne 7, 3) := by decide +kernel
theorem dX1_raze_52 : decode cX1_raze 52 = .ok (.iconst 1, 1) := by decide +kernel
theorem dX1_raze_53 : decode cX1_raze 53 = .ok (.goto 4, 3) := by decide +kernel
theorem dX1_raze_56 : decode cX1_raze 56 = .ok (.iconst 2, 1) := by decide +kernel
theorem dX1_raze_57 : decode cX1_raze 57 = .ok (.invokevirtual 65, 3) := by decide +kernel
theorem dX1_raze_60 : decode cX1_raze 60 = .ok (.iload 4, 2) := by decide +kernel
theorem dX1_raze_62 : decode cX1_raze 62 = .ok (.ireturn, 1) := by decide +kernel
set_option maxRecDepth 20000 in
theorem ggX1_lot_X1_checkedNumber : GoodIn wsX1_lot wsX1_checkedNumber := goodIn_ca (goodIn_r _ [7, 1, 2] (by decide +kernel) (by decide +kernel)) (goodIn_sub (fun _ h => List.mem_cons_of_mem _ (List.mem_append_right _ h)) (by decide +kernel))
set_option maxRecDepth 20000 in
theorem gX1_lot_X1_checkedNumber : GoodIn wsX1_lot (va_wsS RX1 19 yX1_checkedNumber wsX1_checkedNumber) := goodIn_app (goodIn_of _ (by decide +kernel)) ggX1_lot_X1_checkedNumber
set_option maxRecDepth 20000 in
theorem ggX1_lot_X0_factOf : GoodIn wsX1_lot wsX0_factOf := goodIn_r _ [12, 13, 14, 15, 16, 17, 18, 19, 11, 20, 21, 22, 6, 23, 24, 25, 26, 27, 28, 29, 30, 31, 32, 33, 34, 35, 36, 39, 40, 41, 42, 43, 44, 45, 46, 47, 48, 49, 50, 51] (by decide +kernel) (by decide +kernel)
set_option maxRecDepth 20000 in
theorem gX1_lot_X0_factOf : GoodIn wsX1_lot (wsV RX1 74 RX0 yX0_factOf wsX0_factOf) := goodIn_app (goodIn_of _ (by decide +kernel)) ggX1_lot_X0_factOf
theorem dX1_lot_0 : decode cX1_lot 0 = .ok (.iload_n 1, 1) := by decide +kernel
theorem dX1_lot_1 : decode cX1_lot 1 = .ok (.iload_n 2, 1) := by decide +kernel
theorem dX1_lot_2 : decode cX1_lot 2 = .ok (.invokestatic 19, 3) := by decide +kernel
theorem dX1_lot_5 : decode cX1_lot 5 = .ok (.istore 4, 2) := by decide +kernel
theorem dX1_lot_7 : decode cX1_lot 7 = .ok (.iload_n 3, 1) := by decide +kernel
theorem dX1_lot_8 : decode cX1_lot 8 = .ok (.ifCond .lt 8, 3) := by decide +kernel
theorem dX1_lot_11 : decode cX1_lot 11 = .ok (.iload_n 3, 1) := by decide +kernel
theorem dX1_lot_12 : decode cX1_lot 12 = .ok (.iconst 5, 1) := by decide +kernel
theorem dX1_lot_13 : decode cX1_lot 13 = .ok (.if_icmp .le 13, 3) := by decide +kernel
theorem dX1_lot_16 : decode cX1_lot 16 = .ok (.new 69, 3) := by decide +kernel
theorem dX1_lot_19 : decode cX1_lot 19 = .ok (.dup, 1) := by decide +kernel
theorem dX1_lot_20 : decode cX1_lot 20 = .ok (.ldc 71, 2) := by decide +kernel
theorem dX1_lot_22 : decode cX1_lot 22 = .ok (.invokespecial 73, 3) := by decide +kernel
theorem dX1_lot_25 : decode cX1_lot 25 = .ok (.athrow, 1) := by decide +kernel
theorem dX1_lot_26 : decode cX1_lot 26 = .ok (.aload_n 0, 1) := by decide +kernel
theorem dX1_lot_27 : decode cX1_lot 27 = .ok (.getfield 10, 3) := by decide +kernel
theorem dX1_lot_30 : decode cX1_lot 30 = .ok (.iload 4, 2) := by decide +kernel
theorem dX1_lot_32 : decode cX1_lot 32 = .ok (.iload_n 3, 1) := by decide +kernel
theorem dX1_lot_33 : decode cX1_lot 33 = .ok (.invokevirtual 74, 3) := by decide +kernel
theorem dX1_lot_36 : decode cX1_lot 36 = .ok (.ireturn, 1) := by decide +kernel
set_option maxRecDepth 20000 in
theorem ggX1_count_X0_total : GoodIn wsX1_count wsX0_total := goodIn_r _ [8, 9, 10, 11, 12, 13, 14, 7, 15, 16, 17, 18, 19, 20, 21, 22, 23, 24, 25, 26, 27, 28, 29, 30, 31, 32, 33, 34, 37, 38, 39, 40, 41, 42, 43, 44, 45, 46, 47, 48, 49] (by decide +kernel) (by decide +kernel)
set_option maxRecDepth 20000 in
theorem gX1_count_X0_total : GoodIn wsX1_count (wsV RX1 79 RX0 yX0_total wsX0_total) := goodIn_app (goodIn_of _ (by decide +kernel)) ggX1_count_X0_total
theorem dX1_count_0 : decode cX1_count 0 = .ok (.iload_n 1, 1) := by decide +kernel
theorem dX1_count_1 : decode cX1_count 1 = .ok (.ifCond .lt 9, 3) := by decide +kernel
theorem dX1_count_4 : decode cX1_count 4 = .ok (.iload_n 1, 1) := by decide +kernel
theorem dX1_count_5 : decode cX1_count 5 = .ok (.bipush 12, 2) := by decide +kernel
theorem dX1_count_7 : decode cX1_count 7 = .ok (.if_icmp .le 13, 3) := by decide +kernel
theorem dX1_count_10 : decode cX1_count 10 = .ok (.new 69, 3) := by decide +kernel
theorem dX1_count_13 : decode cX1_count 13 = .ok (.dup, 1) := by decide +kernel
theorem dX1_count_14 : decode cX1_count 14 = .ok (.ldc 77, 2) := by decide +kernel
theorem dX1_count_16 : decode cX1_count 16 = .ok (.invokespecial 73, 3) := by decide +kernel
theorem dX1_count_19 : decode cX1_count 19 = .ok (.athrow, 1) := by decide +kernel
theorem dX1_count_20 : decode cX1_count 20 = .ok (.aload_n 0, 1) := by decide +kernel
theorem dX1_count_21 : decode cX1_count 21 = .ok (.getfield 10, 3) := by decide +kernel
theorem dX1_count_24 : decode cX1_count 24 = .ok (.iload_n 1, 1) := by decide +kernel
theorem dX1_count_25 : decode cX1_count 25 = .ok (.invokevirtual 79, 3) := by decide +kernel
theorem dX1_count_28 : decode cX1_count 28 = .ok (.ireturn, 1) := by decide +kernel
set_option maxRecDepth 20000 in
theorem ggX1_walk_X1_checkNumber : GoodIn wsX1_walk wsX1_checkNumber := goodIn_ca (goodIn_r _ [7, 8, 9, 10, 11, 6, 12] (by decide +kernel) (by decide +kernel)) (goodIn_sub (fun _ h => List.mem_cons_of_mem _ (List.mem_append_right _ h)) (by decide +kernel))
set_option maxRecDepth 20000 in
theorem gX1_walk_X1_checkNumber : GoodIn wsX1_walk (va_wsS RX1 82 yX1_checkNumber wsX1_checkNumber) := goodIn_app (goodIn_of _ (by decide +kernel)) ggX1_walk_X1_checkNumber
set_option maxRecDepth 20000 in
theorem ggX1_walk_X1_isLand : GoodIn wsX1_walk wsX1_isLand := goodIn_r _ [15] (by decide +kernel) (by decide +kernel)
set_option maxRecDepth 20000 in
theorem gX1_walk_X1_isLand : GoodIn wsX1_walk (va_wsS RX1 85 yX1_isLand wsX1_isLand) := goodIn_app (goodIn_of _ (by decide +kernel)) ggX1_walk_X1_isLand
set_option maxRecDepth 20000 in
theorem ggX1_walk_X0_stepsOnFoot : GoodIn wsX1_walk wsX0_stepsOnFoot := goodIn_r _ [20, 21, 22, 23, 19, 24, 25, 26, 27, 28, 29, 30, 11, 6, 12, 31, 32, 14, 15, 33, 34, 37, 38, 39, 40, 41, 42, 43, 44, 45, 46, 47, 48, 49] (by decide +kernel) (by decide +kernel)
set_option maxRecDepth 20000 in
theorem gX1_walk_X0_stepsOnFoot : GoodIn wsX1_walk (wsV RX1 91 RX0 yX0_stepsOnFoot wsX0_stepsOnFoot) := goodIn_app (goodIn_of _ (by decide +kernel)) ggX1_walk_X0_stepsOnFoot
theorem dX1_walk_0 : decode cX1_walk 0 = .ok (.iload_n 1, 1) := by decide +kernel
theorem dX1_walk_1 : decode cX1_walk 1 = .ok (.invokestatic 82, 3) := by decide +kernel
theorem dX1_walk_4 : decode cX1_walk 4 = .ok (.iload_n 2, 1) := by decide +kernel
theorem dX1_walk_5 : decode cX1_walk 5 = .ok (.invokestatic 82, 3) := by decide +kernel
theorem dX1_walk_8 : decode cX1_walk 8 = .ok (.aload_n 0, 1) := by decide +kernel
theorem dX1_walk_9 : decode cX1_walk 9 = .ok (.getfield 10, 3) := by decide +kernel
theorem dX1_walk_12 : decode cX1_walk 12 = .ok (.getfield 23, 3) := by decide +kernel
theorem dX1_walk_15 : decode cX1_walk 15 = .ok (.iload_n 1, 1) := by decide +kernel
theorem dX1_walk_16 : decode cX1_walk 16 = .ok (.iaload, 1) := by decide +kernel
theorem dX1_walk_17 : decode cX1_walk 17 = .ok (.invokestatic 85, 3) := by decide +kernel
theorem dX1_walk_20 : decode cX1_walk 20 = .ok (.ifCond .eq 18, 3) := by decide +kernel
theorem dX1_walk_23 : decode cX1_walk 23 = .ok (.aload_n 0, 1) := by decide +kernel
theorem dX1_walk_24 : decode cX1_walk 24 = .ok (.getfield 10, 3) := by decide +kernel
theorem dX1_walk_27 : decode cX1_walk 27 = .ok (.getfield 23, 3) := by decide +kernel
theorem dX1_walk_30 : decode cX1_walk 30 = .ok (.iload_n 2, 1) := by decide +kernel
theorem dX1_walk_31 : decode cX1_walk 31 = .ok (.iaload, 1) := by decide +kernel
theorem dX1_walk_32 : decode cX1_walk 32 = .ok (.invokestatic 85, 3) := by decide +kernel
theorem dX1_walk_35 : decode cX1_walk 35 = .ok (.ifCond .ne 13, 3) := by decide +kernel
theorem dX1_walk_38 : decode cX1_walk 38 = .ok (.new 27, 3) := by decide +kernel
theorem dX1_walk_41 : decode cX1_walk 41 = .ok (.dup, 1) := by decide +kernel
theorem dX1_walk_42 : decode cX1_walk 42 = .ok (.ldc 89, 2) := by decide +kernel
theorem dX1_walk_44 : decode cX1_walk 44 = .ok (.invokespecial 31, 3) := by decide +kernel
theorem dX1_walk_47 : decode cX1_walk 47 = .ok (.athrow, 1) := by decide +kernel
theorem dX1_walk_48 : decode cX1_walk 48 = .ok (.aload_n 0, 1) := by decide +kernel
theorem dX1_walk_49 : decode cX1_walk 49 = .ok (.getfield 10, 3) := by decide +kernel
theorem dX1_walk_52 : decode cX1_walk 52 = .ok (.iload_n 1, 1) := by decide +kernel
theorem dX1_walk_53 : decode cX1_walk 53 = .ok (.iload_n 2, 1) := by decide +kernel
theorem dX1_walk_54 : decode cX1_walk 54 = .ok (.invokevirtual 91, 3) := by decide +kernel
theorem dX1_walk_57 : decode cX1_walk 57 = .ok (.ireturn, 1) := by decide +kernel
set_option maxRecDepth 20000 in
theorem ggX1_sail_X1_checkNumber : GoodIn wsX1_sail wsX1_checkNumber := goodIn_ca (goodIn_r _ [7, 8, 9, 10, 11, 6, 12] (by decide +kernel) (by decide +kernel)) (goodIn_sub (fun _ h => List.mem_cons_of_mem _ (List.mem_append_right _ h)) (by decide +kernel))
set_option maxRecDepth 20000 in
theorem gX1_sail_X1_checkNumber : GoodIn wsX1_sail (va_wsS RX1 82 yX1_checkNumber wsX1_checkNumber) := goodIn_app (goodIn_of _ (by decide +kernel)) ggX1_sail_X1_checkNumber
set_option maxRecDepth 20000 in
theorem ggX1_sail_X1_isWater : GoodIn wsX1_sail wsX1_isWater := goodIn_r _ [15] (by decide +kernel) (by decide +kernel)
set_option maxRecDepth 20000 in
theorem gX1_sail_X1_isWater : GoodIn wsX1_sail (va_wsS RX1 94 yX1_isWater wsX1_isWater) := goodIn_app (goodIn_of _ (by decide +kernel)) ggX1_sail_X1_isWater
theorem dX1_sail_0 : decode cX1_sail 0 = .ok (.iload_n 1, 1) := by decide +kernel
theorem dX1_sail_1 : decode cX1_sail 1 = .ok (.invokestatic 82, 3) := by decide +kernel
theorem dX1_sail_4 : decode cX1_sail 4 = .ok (.aload_n 0, 1) := by decide +kernel
theorem dX1_sail_5 : decode cX1_sail 5 = .ok (.getfield 10, 3) := by decide +kernel
theorem dX1_sail_8 : decode cX1_sail 8 = .ok (.getfield 23, 3) := by decide +kernel
theorem dX1_sail_11 : decode cX1_sail 11 = .ok (.iload_n 1, 1) := by decide +kernel
theorem dX1_sail_12 : decode cX1_sail 12 = .ok (.iaload, 1) := by decide +kernel
theorem dX1_sail_13 : decode cX1_sail 13 = .ok (.invokestatic 94, 3) := by decide +kernel
theorem dX1_sail_16 : decode cX1_sail 16 = .ok (.ifCond .ne 13, 3) := by decide +kernel
theorem dX1_sail_19 : decode cX1_sail 19 = .ok (.new 27, 3) := by decide +kernel
theorem dX1_sail_22 : decode cX1_sail 22 = .ok (.dup, 1) := by decide +kernel
theorem dX1_sail_23 : decode cX1_sail 23 = .ok (.ldc 97, 2) := by decide +kernel
theorem dX1_sail_25 : decode cX1_sail 25 = .ok (.invokespecial 31, 3) := by decide +kernel
theorem dX1_sail_28 : decode cX1_sail 28 = .ok (.athrow, 1) := by decide +kernel
theorem dX1_sail_29 : decode cX1_sail 29 = .ok (.aload_n 0, 1) := by decide +kernel
theorem dX1_sail_30 : decode cX1_sail 30 = .ok (.getfield 10, 3) := by decide +kernel
theorem dX1_sail_33 : decode cX1_sail 33 = .ok (.getfield 99, 3) := by decide +kernel
theorem dX1_sail_36 : decode cX1_sail 36 = .ok (.iload_n 1, 1) := by decide +kernel
theorem dX1_sail_37 : decode cX1_sail 37 = .ok (.iaload, 1) := by decide +kernel
theorem dX1_sail_38 : decode cX1_sail 38 = .ok (.ireturn, 1) := by decide +kernel
set_option maxRecDepth 20000 in
theorem ggX1_pass_X1_checkMonths : GoodIn wsX1_pass wsX1_checkMonths := goodIn_ca (goodIn_r _ [5, 6, 7] (by decide +kernel) (by decide +kernel)) (goodIn_sub (fun _ h => List.mem_cons_of_mem _ (List.mem_append_right _ h)) (by decide +kernel))
set_option maxRecDepth 20000 in
theorem gX1_pass_X1_checkMonths : GoodIn wsX1_pass (va_wsS RX1 102 yX1_checkMonths wsX1_checkMonths) := goodIn_app (goodIn_of _ (by decide +kernel)) ggX1_pass_X1_checkMonths
set_option maxRecDepth 20000 in
theorem ggX1_pass_X0_live : GoodIn wsX1_pass wsX0_live := goodIn_r _ [12, 13, 14, 15, 16, 17, 11, 18, 19, 20, 21, 22, 23, 24, 25, 26, 27, 28, 29, 30, 31, 32, 33, 34, 35, 36, 37, 38, 39, 4, 40, 41, 42, 43, 44, 45, 46, 47, 48, 49, 50, 51, 52, 53, 54, 55, 56, 57, 58, 59, 60, 61, 62, 63, 64, 65, 66, 67, 68, 69, 70, 71, 72, 73, 74, 75, 76, 77, 78, 79, 80, 81, 82, 83, 84, 85, 86, 87, 88, 89, 90, 91, 92, 93, 94, 95, 96, 97, 98, 101, 102, 103, 104, 105, 106, 107, 108, 109, 110, 111, 112, 113] (by decide +kernel) (by decide +kernel)
set_option maxRecDepth 20000 in
theorem gX1_pass_X0_live : GoodIn wsX1_pass (wsV RX1 105 RX0 yX0_live wsX0_live) := goodIn_app (goodIn_of _ (by decide +kernel)) ggX1_pass_X0_live
theorem dX1_pass_0 : decode cX1_pass 0 = .ok (.iload_n 1, 1) := by decide +kernel
theorem dX1_pass_1 : decode cX1_pass 1 = .ok (.invokestatic 102, 3) := by decide +kernel
theorem dX1_pass_4 : decode cX1_pass 4 = .ok (.aload_n 0, 1) := by decide +kernel
theorem dX1_pass_5 : decode cX1_pass 5 = .ok (.getfield 10, 3) := by decide +kernel
theorem dX1_pass_8 : decode cX1_pass 8 = .ok (.iload_n 1, 1) := by decide +kernel
theorem dX1_pass_9 : decode cX1_pass 9 = .ok (.invokevirtual 105, 3) := by decide +kernel
theorem dX1_pass_12 : decode cX1_pass 12 = .ok (.ireturn, 1) := by decide +kernel
set_option maxRecDepth 20000 in
theorem ggX1_foresee_X1_checkMonths : GoodIn wsX1_foresee wsX1_checkMonths := goodIn_ca (goodIn_r _ [8, 9, 10] (by decide +kernel) (by decide +kernel)) (goodIn_sub (fun _ h => List.mem_cons_of_mem _ (List.mem_append_right _ h)) (by decide +kernel))
set_option maxRecDepth 20000 in
theorem gX1_foresee_X1_checkMonths : GoodIn wsX1_foresee (va_wsS RX1 102 yX1_checkMonths wsX1_checkMonths) := goodIn_app (goodIn_of _ (by decide +kernel)) ggX1_foresee_X1_checkMonths
set_option maxRecDepth 20000 in
theorem ggX1_foresee_X0_become : GoodIn wsX1_foresee wsX0_become := goodIn_r _ [15, 16, 17, 18, 19, 125, 126, 127, 128, 129, 130, 131, 132, 133, 134, 135, 136, 137] (by decide +kernel) (by decide +kernel)
set_option maxRecDepth 20000 in
theorem gX1_foresee_X0_become : GoodIn wsX1_foresee (wsV RX1 110 RX0 yX0_become wsX0_become) := goodIn_app (goodIn_of _ (by decide +kernel)) ggX1_foresee_X0_become
set_option maxRecDepth 20000 in
theorem ggX1_foresee_X0_survey : GoodIn wsX1_foresee wsX0_survey := goodIn_r _ [23, 24, 19, 25, 26, 27, 28, 29, 14, 30, 31, 32, 33, 34, 35, 36, 37, 38, 7, 39, 40, 41, 42, 43, 44, 45, 46, 47, 48, 49, 50, 51, 52, 53, 54, 55, 56, 57, 58, 59, 60, 61, 62, 63, 64, 65, 66, 67, 68, 69, 70, 71, 72, 73, 74, 75, 76, 77, 78, 79, 80, 81, 82, 83, 84, 85, 86, 125, 126, 127, 128, 129, 130, 131, 132, 133, 134, 135, 136, 137] (by decide +kernel) (by decide +kernel)
set_option maxRecDepth 20000 in
theorem gX1_foresee_X0_survey : GoodIn wsX1_foresee (wsV RX1 114 RX0 yX0_survey wsX0_survey) := goodIn_app (goodIn_of _ (by decide +kernel)) ggX1_foresee_X0_survey
set_option maxRecDepth 20000 in
theorem ggX1_foresee_X0_live : GoodIn wsX1_foresee wsX0_live := goodIn_r _ [90, 17, 16, 91, 92, 93, 14, 94, 26, 95, 96, 97, 98, 99, 100, 101, 19, 25, 18, 102, 103, 104, 105, 44, 71, 72, 73, 74, 47, 7, 48, 45, 46, 106, 21, 22, 23, 24, 27, 28, 29, 30, 31, 32, 33, 34, 35, 36, 37, 38, 39, 40, 41, 42, 43, 49, 50, 51, 52, 53, 54, 55, 56, 57, 58, 59, 60, 61, 62, 63, 64, 65, 66, 67, 68, 69, 70, 75, 76, 77, 78, 79, 80, 81, 82, 83, 84, 85, 86, 125, 126, 127, 128, 129, 130, 131, 132, 133, 134, 135, 136, 137] (by decide +kernel) (by decide +kernel)
set_option maxRecDepth 20000 in
theorem gX1_foresee_X0_live : GoodIn wsX1_foresee (wsV RX1 105 RX0 yX0_live wsX0_live) := goodIn_app (goodIn_of _ (by decide +kernel)) ggX1_foresee_X0_live
set_option maxRecDepth 20000 in
theorem ggX1_foresee_X0_total : GoodIn wsX1_foresee wsX0_total := goodIn_r _ [110, 16, 17, 18, 111, 112, 113, 14, 114, 31, 115, 116, 117, 118, 25, 95, 96, 97, 91, 92, 93, 94, 26, 119, 120, 121, 122, 19, 125, 126, 127, 128, 129, 130, 131, 132, 133, 134, 135, 136, 137] (by decide +kernel) (by decide +kernel)
set_option maxRecDepth 20000 in
theorem gX1_foresee_X0_total : GoodIn wsX1_foresee (wsV RX1 79 RX0 yX0_total wsX0_total) := goodIn_app (goodIn_of _ (by decide +kernel)) ggX1_foresee_X0_total
theorem dX1_foresee_0 : decode cX1_foresee 0 = .ok (.iload_n 1, 1) := by decide +kernel
theorem dX1_foresee_1 : decode cX1_foresee 1 = .ok (.invokestatic 102, 3) := by decide +kernel
theorem dX1_foresee_4 : decode cX1_foresee 4 = .ok (.iload_n 2, 1) := by decide +kernel
theorem dX1_foresee_5 : decode cX1_foresee 5 = .ok (.iconst 1, 1) := by decide +kernel
theorem dX1_foresee_6 : decode cX1_foresee 6 = .ok (.if_icmp .lt 9, 3) := by decide +kernel
theorem dX1_foresee_9 : decode cX1_foresee 9 = .ok (.iload_n 2, 1) := by decide +kernel
theorem dX1_foresee_10 : decode cX1_foresee 10 = .ok (.bipush 12, 2) := by decide +kernel
theorem dX1_foresee_12 : decode cX1_foresee 12 = .ok (.if_icmp .le 13, 3) := by decide +kernel
theorem dX1_foresee_15 : decode cX1_foresee 15 = .ok (.new 69, 3) := by decide +kernel
theorem dX1_foresee_18 : decode cX1_foresee 18 = .ok (.dup, 1) := by decide +kernel
theorem dX1_foresee_19 : decode cX1_foresee 19 = .ok (.ldc 108, 2) := by decide +kernel
theorem dX1_foresee_21 : decode cX1_foresee 21 = .ok (.invokespecial 73, 3) := by decide +kernel
theorem dX1_foresee_24 : decode cX1_foresee 24 = .ok (.athrow, 1) := by decide +kernel
theorem dX1_foresee_25 : decode cX1_foresee 25 = .ok (.aload_n 0, 1) := by decide +kernel
theorem dX1_foresee_26 : decode cX1_foresee 26 = .ok (.getfield 16, 3) := by decide +kernel
theorem dX1_foresee_29 : decode cX1_foresee 29 = .ok (.aload_n 0, 1) := by decide +kernel
theorem dX1_foresee_30 : decode cX1_foresee 30 = .ok (.getfield 10, 3) := by decide +kernel
theorem dX1_foresee_33 : decode cX1_foresee 33 = .ok (.invokevirtual 110, 3) := by decide +kernel
theorem dX1_foresee_36 : decode cX1_foresee 36 = .ok (.aload_n 0, 1) := by decide +kernel
theorem dX1_foresee_37 : decode cX1_foresee 37 = .ok (.getfield 16, 3) := by decide +kernel
theorem dX1_foresee_40 : decode cX1_foresee 40 = .ok (.invokevirtual 114, 3) := by decide +kernel
theorem dX1_foresee_43 : decode cX1_foresee 43 = .ok (.aload_n 0, 1) := by decide +kernel
theorem dX1_foresee_44 : decode cX1_foresee 44 = .ok (.getfield 16, 3) := by decide +kernel
theorem dX1_foresee_47 : decode cX1_foresee 47 = .ok (.iload_n 1, 1) := by decide +kernel
theorem dX1_foresee_48 : decode cX1_foresee 48 = .ok (.invokevirtual 105, 3) := by decide +kernel
theorem dX1_foresee_51 : decode cX1_foresee 51 = .ok (.pop, 1) := by decide +kernel
theorem dX1_foresee_52 : decode cX1_foresee 52 = .ok (.aload_n 0, 1) := by decide +kernel
theorem dX1_foresee_53 : decode cX1_foresee 53 = .ok (.getfield 16, 3) := by decide +kernel
theorem dX1_foresee_56 : decode cX1_foresee 56 = .ok (.iload_n 2, 1) := by decide +kernel
theorem dX1_foresee_57 : decode cX1_foresee 57 = .ok (.invokevirtual 79, 3) := by decide +kernel
theorem dX1_foresee_60 : decode cX1_foresee 60 = .ok (.ireturn, 1) := by decide +kernel
set_option maxRecDepth 20000 in
theorem ggX1_would_X1_checkedNumber : GoodIn wsX1_would wsX1_checkedNumber := goodIn_ca (goodIn_r _ [5, 6, 7] (by decide +kernel) (by decide +kernel)) (goodIn_sub (fun _ h => List.mem_cons_of_mem _ (List.mem_append_left _ (List.mem_append_left _ (List.mem_append_right _ h)))) (by decide +kernel))
set_option maxRecDepth 20000 in
theorem gX1_would_X1_checkedNumber : GoodIn wsX1_would (va_wsS RX1 19 yX1_checkedNumber wsX1_checkedNumber) := goodIn_app (goodIn_of _ (by decide +kernel)) ggX1_would_X1_checkedNumber
set_option maxRecDepth 20000 in
theorem ggX1_would_X1_checkBuilding : GoodIn wsX1_would wsX1_checkBuilding := goodIn_ca (goodIn_r _ [10, 11, 12] (by decide +kernel) (by decide +kernel)) (goodIn_sub (fun _ h => List.mem_cons_of_mem _ (List.mem_append_left _ (List.mem_append_right _ h))) (by decide +kernel))
set_option maxRecDepth 20000 in
theorem gX1_would_X1_checkBuilding : GoodIn wsX1_would (va_wsS RX1 48 yX1_checkBuilding wsX1_checkBuilding) := goodIn_app (goodIn_of _ (by decide +kernel)) ggX1_would_X1_checkBuilding
set_option maxRecDepth 20000 in
theorem ggX1_would_X1_checkDrained : GoodIn wsX1_would wsX1_checkDrained := goodIn_ca (goodIn_r _ [16, 17, 18, 1, 111, 112, 113, 114, 115, 116, 117, 118, 119, 120, 121, 122, 123, 124, 125] (by decide +kernel) (by decide +kernel)) (goodIn_sub (fun _ h => List.mem_cons_of_mem _ (List.mem_append_right _ h)) (by decide +kernel))
set_option maxRecDepth 20000 in
theorem gX1_would_X1_checkDrained : GoodIn wsX1_would (wsV RX1 51 RX1 yX1_checkDrained wsX1_checkDrained) := goodIn_app (goodIn_of _ (by decide +kernel)) ggX1_would_X1_checkDrained
set_option maxRecDepth 20000 in
theorem ggX1_would_X1_duesWith : GoodIn wsX1_would wsX1_duesWith := goodIn_r _ [22, 23, 1, 24, 25, 26, 27, 28, 29, 30, 31, 32, 33, 34, 35, 36, 37, 38, 39, 40, 41, 42, 43, 44, 45, 46, 47, 48, 49, 50, 51, 52, 53, 54, 55, 4, 56, 57, 58, 59, 60, 61, 62, 63, 64, 65, 66, 67, 68, 69, 70, 71, 72, 73, 74, 75, 76, 77, 78, 79, 80, 81, 82, 83, 84, 85, 86, 87, 88, 89, 90, 91, 92, 93, 94, 95, 96, 97, 98, 99, 100, 101, 102, 103, 104, 105, 106, 107, 108, 109, 110, 111, 112, 113, 114, 115, 116, 117, 118, 119, 120, 121, 122, 123, 124, 125] (by decide +kernel) (by decide +kernel)
set_option maxRecDepth 20000 in
theorem gX1_would_X1_duesWith : GoodIn wsX1_would (wsV RX1 117 RX1 yX1_duesWith wsX1_duesWith) := goodIn_app (goodIn_of _ (by decide +kernel)) ggX1_would_X1_duesWith
set_option maxRecDepth 20000 in
theorem ggX1_would_X0_duesOfAll : GoodIn wsX1_would wsX0_duesOfAll := goodIn_r _ [107, 43, 108, 109, 27, 110, 113, 114, 115, 116, 117, 118, 119, 120, 121, 122, 123, 124, 125] (by decide +kernel) (by decide +kernel)
set_option maxRecDepth 20000 in
theorem gX1_would_X0_duesOfAll : GoodIn wsX1_would (wsV RX1 120 RX0 yX0_duesOfAll wsX0_duesOfAll) := goodIn_app (goodIn_of _ (by decide +kernel)) ggX1_would_X0_duesOfAll
theorem dX1_would_0 : decode cX1_would 0 = .ok (.iload_n 1, 1) := by decide +kernel
theorem dX1_would_1 : decode cX1_would 1 = .ok (.iload_n 2, 1) := by decide +kernel
theorem dX1_would_2 : decode cX1_would 2 = .ok (.invokestatic 19, 3) := by decide +kernel
theorem dX1_would_5 : decode cX1_would 5 = .ok (.istore 4, 2) := by decide +kernel
theorem dX1_would_7 : decode cX1_would 7 = .ok (.iload_n 3, 1) := by decide +kernel
theorem dX1_would_8 : decode cX1_would 8 = .ok (.invokestatic 48, 3) := by decide +kernel
theorem dX1_would_11 : decode cX1_would 11 = .ok (.aload_n 0, 1) := by decide +kernel
theorem dX1_would_12 : decode cX1_would 12 = .ok (.iload 4, 2) := by decide +kernel
theorem dX1_would_14 : decode cX1_would 14 = .ok (.invokevirtual 51, 3) := by decide +kernel
theorem dX1_would_17 : decode cX1_would 17 = .ok (.aload_n 0, 1) := by decide +kernel
theorem dX1_would_18 : decode cX1_would 18 = .ok (.iload 4, 2) := by decide +kernel
theorem dX1_would_20 : decode cX1_would 20 = .ok (.iload_n 3, 1) := by decide +kernel
theorem dX1_would_21 : decode cX1_would 21 = .ok (.invokevirtual 117, 3) := by decide +kernel
theorem dX1_would_24 : decode cX1_would 24 = .ok (.aload_n 0, 1) := by decide +kernel
theorem dX1_would_25 : decode cX1_would 25 = .ok (.getfield 10, 3) := by decide +kernel
theorem dX1_would_28 : decode cX1_would 28 = .ok (.invokevirtual 120, 3) := by decide +kernel
theorem dX1_would_31 : decode cX1_would 31 = .ok (.isub, 1) := by decide +kernel
theorem dX1_would_32 : decode cX1_would 32 = .ok (.ireturn, 1) := by decide +kernel
set_option maxRecDepth 20000 in
theorem ggX1_best_X1_checkBuilding : GoodIn wsX1_best wsX1_checkBuilding := goodIn_ca (goodIn_r _ [5, 6, 7] (by decide +kernel) (by decide +kernel)) (goodIn_sub (fun _ h => List.mem_cons_of_mem _ (List.mem_append_right _ h)) (by decide +kernel))
set_option maxRecDepth 20000 in
theorem gX1_best_X1_checkBuilding : GoodIn wsX1_best (va_wsS RX1 48 yX1_checkBuilding wsX1_checkBuilding) := goodIn_app (goodIn_of _ (by decide +kernel)) ggX1_best_X1_checkBuilding
set_option maxRecDepth 20000 in
theorem ggX1_best_X1_duesWith : GoodIn wsX1_best wsX1_duesWith := goodIn_r _ [11, 12, 1, 13, 14, 15, 16, 17, 18, 19, 20, 21, 22, 23, 24, 25, 26, 27, 28, 29, 30, 31, 32, 33, 34, 35, 36, 37, 38, 39, 40, 41, 42, 43, 44, 4, 45, 46, 47, 48, 49, 50, 51, 52, 53, 54, 55, 56, 57, 58, 59, 60, 61, 62, 63, 64, 65, 66, 67, 68, 69, 70, 71, 72, 73, 74, 75, 76, 77, 78, 79, 80, 81, 82, 83, 84, 85, 86, 87, 88, 89, 90, 91, 92, 93, 94, 95, 96, 97, 98, 99, 100, 101, 102, 103, 104, 105, 106, 107, 108, 109, 110, 111, 112, 113, 114] (by decide +kernel) (by decide +kernel)
set_option maxRecDepth 20000 in
theorem gX1_best_X1_duesWith : GoodIn wsX1_best (wsV RX1 117 RX1 yX1_duesWith wsX1_duesWith) := goodIn_app (goodIn_of _ (by decide +kernel)) ggX1_best_X1_duesWith
theorem dX1_best_0 : decode cX1_best 0 = .ok (.iload_n 1, 1) := by decide +kernel
theorem dX1_best_1 : decode cX1_best 1 = .ok (.invokestatic 48, 3) := by decide +kernel
theorem dX1_best_4 : decode cX1_best 4 = .ok (.iconst (-1), 1) := by decide +kernel
theorem dX1_best_5 : decode cX1_best 5 = .ok (.istore_n 2, 1) := by decide +kernel
theorem dX1_best_6 : decode cX1_best 6 = .ok (.iconst 0, 1) := by decide +kernel
theorem dX1_best_7 : decode cX1_best 7 = .ok (.istore_n 3, 1) := by decide +kernel
theorem dX1_best_8 : decode cX1_best 8 = .ok (.iconst 0, 1) := by decide +kernel
theorem dX1_best_9 : decode cX1_best 9 = .ok (.istore 4, 2) := by decide +kernel
theorem dX1_best_11 : decode cX1_best 11 = .ok (.iload 4, 2) := by decide +kernel
theorem dX1_best_13 : decode cX1_best 13 = .ok (.bipush 64, 2) := by decide +kernel
theorem dX1_best_15 : decode cX1_best 15 = .ok (.if_icmp .ge 48, 3) := by decide +kernel
theorem dX1_best_18 : decode cX1_best 18 = .ok (.aload_n 0, 1) := by decide +kernel
theorem dX1_best_19 : decode cX1_best 19 = .ok (.getfield 10, 3) := by decide +kernel
theorem dX1_best_22 : decode cX1_best 22 = .ok (.getfield 23, 3) := by decide +kernel
theorem dX1_best_25 : decode cX1_best 25 = .ok (.iload 4, 2) := by decide +kernel
theorem dX1_best_27 : decode cX1_best 27 = .ok (.iaload, 1) := by decide +kernel
theorem dX1_best_28 : decode cX1_best 28 = .ok (.iconst 2, 1) := by decide +kernel
theorem dX1_best_29 : decode cX1_best 29 = .ok (.if_icmp .ne 28, 3) := by decide +kernel
theorem dX1_best_32 : decode cX1_best 32 = .ok (.aload_n 0, 1) := by decide +kernel
theorem dX1_best_33 : decode cX1_best 33 = .ok (.iload 4, 2) := by decide +kernel
theorem dX1_best_35 : decode cX1_best 35 = .ok (.iload_n 1, 1) := by decide +kernel
theorem dX1_best_36 : decode cX1_best 36 = .ok (.invokevirtual 117, 3) := by decide +kernel
theorem dX1_best_39 : decode cX1_best 39 = .ok (.istore 5, 2) := by decide +kernel
theorem dX1_best_41 : decode cX1_best 41 = .ok (.iload_n 2, 1) := by decide +kernel
theorem dX1_best_42 : decode cX1_best 42 = .ok (.ifCond .lt 9, 3) := by decide +kernel
theorem dX1_best_45 : decode cX1_best 45 = .ok (.iload 5, 2) := by decide +kernel
theorem dX1_best_47 : decode cX1_best 47 = .ok (.iload_n 3, 1) := by decide +kernel
theorem dX1_best_48 : decode cX1_best 48 = .ok (.if_icmp .le 9, 3) := by decide +kernel
theorem dX1_best_51 : decode cX1_best 51 = .ok (.iload 4, 2) := by decide +kernel
theorem dX1_best_53 : decode cX1_best 53 = .ok (.istore_n 2, 1) := by decide +kernel
theorem dX1_best_54 : decode cX1_best 54 = .ok (.iload 5, 2) := by decide +kernel
theorem dX1_best_56 : decode cX1_best 56 = .ok (.istore_n 3, 1) := by decide +kernel
theorem dX1_best_57 : decode cX1_best 57 = .ok (.iinc 4 1, 3) := by decide +kernel
theorem dX1_best_60 : decode cX1_best 60 = .ok (.goto (-49), 3) := by decide +kernel
theorem dX1_best_63 : decode cX1_best 63 = .ok (.iload_n 2, 1) := by decide +kernel
theorem dX1_best_64 : decode cX1_best 64 = .ok (.ireturn, 1) := by decide +kernel
set_option maxRecDepth 20000 in
theorem ggX1_mean_X0_lotsOfKind : GoodIn wsX1_mean wsX0_lotsOfKind := goodIn_r _ [6, 7, 18, 19, 20, 21, 22, 23, 24, 25, 26, 27, 28, 29, 30] (by decide +kernel) (by decide +kernel)
set_option maxRecDepth 20000 in
theorem gX1_mean_X0_lotsOfKind : GoodIn wsX1_mean (wsV RX1 124 RX0 yX0_lotsOfKind wsX0_lotsOfKind) := goodIn_app (goodIn_of _ (by decide +kernel)) ggX1_mean_X0_lotsOfKind
set_option maxRecDepth 20000 in
theorem ggX1_mean_X0_complaintsOfAll : GoodIn wsX1_mean wsX0_complaintsOfAll := goodIn_r _ [11, 12, 13, 14, 5, 15, 18, 19, 20, 21, 22, 23, 24, 25, 26, 27, 28, 29, 30] (by decide +kernel) (by decide +kernel)
set_option maxRecDepth 20000 in
theorem gX1_mean_X0_complaintsOfAll : GoodIn wsX1_mean (wsV RX1 127 RX0 yX0_complaintsOfAll wsX0_complaintsOfAll) := goodIn_app (goodIn_of _ (by decide +kernel)) ggX1_mean_X0_complaintsOfAll
theorem dX1_mean_0 : decode cX1_mean 0 = .ok (.aload_n 0, 1) := by decide +kernel
theorem dX1_mean_1 : decode cX1_mean 1 = .ok (.getfield 10, 3) := by decide +kernel
theorem dX1_mean_4 : decode cX1_mean 4 = .ok (.iconst 3, 1) := by decide +kernel
theorem dX1_mean_5 : decode cX1_mean 5 = .ok (.invokevirtual 124, 3) := by decide +kernel
theorem dX1_mean_8 : decode cX1_mean 8 = .ok (.istore_n 1, 1) := by decide +kernel
theorem dX1_mean_9 : decode cX1_mean 9 = .ok (.iload_n 1, 1) := by decide +kernel
theorem dX1_mean_10 : decode cX1_mean 10 = .ok (.ifCond .ne 5, 3) := by decide +kernel
theorem dX1_mean_13 : decode cX1_mean 13 = .ok (.dconst 0, 1) := by decide +kernel
theorem dX1_mean_14 : decode cX1_mean 14 = .ok (.dreturn, 1) := by decide +kernel
theorem dX1_mean_15 : decode cX1_mean 15 = .ok (.aload_n 0, 1) := by decide +kernel
theorem dX1_mean_16 : decode cX1_mean 16 = .ok (.getfield 10, 3) := by decide +kernel
theorem dX1_mean_19 : decode cX1_mean 19 = .ok (.invokevirtual 127, 3) := by decide +kernel
theorem dX1_mean_22 : decode cX1_mean 22 = .ok (.i2d, 1) := by decide +kernel
theorem dX1_mean_23 : decode cX1_mean 23 = .ok (.iload_n 1, 1) := by decide +kernel
theorem dX1_mean_24 : decode cX1_mean 24 = .ok (.i2d, 1) := by decide +kernel
theorem dX1_mean_25 : decode cX1_mean 25 = .ok (.ddiv, 1) := by decide +kernel
theorem dX1_mean_26 : decode cX1_mean 26 = .ok (.dreturn, 1) := by decide +kernel
set_option maxRecDepth 20000 in
theorem ggX1_digest_X0_total : GoodIn wsX1_digest wsX0_total := goodIn_r _ [8, 9, 10, 11, 12, 13, 14, 7, 15, 16, 17, 18, 19, 20, 21, 22, 23, 24, 25, 26, 27, 28, 29, 30, 31, 32, 33, 34, 62, 63, 64, 65, 66, 67, 68, 69, 70, 71, 72, 73, 74] (by decide +kernel) (by decide +kernel)
set_option maxRecDepth 20000 in
theorem gX1_digest_X0_total : GoodIn wsX1_digest (wsV RX1 79 RX0 yX0_total wsX0_total) := goodIn_app (goodIn_of _ (by decide +kernel)) ggX1_digest_X0_total
set_option maxRecDepth 20000 in
theorem ggX1_digest_X0_factOf : GoodIn wsX1_digest wsX0_factOf := goodIn_r _ [38, 34, 16, 21, 29, 39, 40, 41, 7, 42, 43, 44, 45, 46, 47, 48, 49, 50, 51, 52, 53, 54, 55, 56, 57, 58, 59, 62, 63, 64, 65, 66, 67, 68, 69, 70, 71, 72, 73, 74] (by decide +kernel) (by decide +kernel)
set_option maxRecDepth 20000 in
theorem gX1_digest_X0_factOf : GoodIn wsX1_digest (wsV RX1 74 RX0 yX0_factOf wsX0_factOf) := goodIn_app (goodIn_of _ (by decide +kernel)) ggX1_digest_X0_factOf
theorem dX1_digest_0 : decode cX1_digest 0 = .ok (.ldc2_w 130, 3) := by decide +kernel
theorem dX1_digest_3 : decode cX1_digest 3 = .ok (.lstore_n 1, 1) := by decide +kernel
theorem dX1_digest_4 : decode cX1_digest 4 = .ok (.iconst 0, 1) := by decide +kernel
theorem dX1_digest_5 : decode cX1_digest 5 = .ok (.istore_n 3, 1) := by decide +kernel
theorem dX1_digest_6 : decode cX1_digest 6 = .ok (.iload_n 3, 1) := by decide +kernel
theorem dX1_digest_7 : decode cX1_digest 7 = .ok (.bipush 12, 2) := by decide +kernel
theorem dX1_digest_9 : decode cX1_digest 9 = .ok (.if_icmp .gt 25, 3) := by decide +kernel
theorem dX1_digest_12 : decode cX1_digest 12 = .ok (.lload_n 1, 1) := by decide +kernel
theorem dX1_digest_13 : decode cX1_digest 13 = .ok (.ldc2_w 132, 3) := by decide +kernel
theorem dX1_digest_16 : decode cX1_digest 16 = .ok (.lmul, 1) := by decide +kernel
theorem dX1_digest_17 : decode cX1_digest 17 = .ok (.aload_n 0, 1) := by decide +kernel
theorem dX1_digest_18 : decode cX1_digest 18 = .ok (.getfield 10, 3) := by decide +kernel
theorem dX1_digest_21 : decode cX1_digest 21 = .ok (.iload_n 3, 1) := by decide +kernel
theorem dX1_digest_22 : decode cX1_digest 22 = .ok (.invokevirtual 79, 3) := by decide +kernel
theorem dX1_digest_25 : decode cX1_digest 25 = .ok (.i2l, 1) := by decide +kernel
theorem dX1_digest_26 : decode cX1_digest 26 = .ok (.ladd, 1) := by decide +kernel
theorem dX1_digest_27 : decode cX1_digest 27 = .ok (.lstore_n 1, 1) := by decide +kernel
theorem dX1_digest_28 : decode cX1_digest 28 = .ok (.iinc 3 1, 3) := by decide +kernel
theorem dX1_digest_31 : decode cX1_digest 31 = .ok (.goto (-25), 3) := by decide +kernel
theorem dX1_digest_34 : decode cX1_digest 34 = .ok (.iconst 0, 1) := by decide +kernel
theorem dX1_digest_35 : decode cX1_digest 35 = .ok (.istore_n 3, 1) := by decide +kernel
theorem dX1_digest_36 : decode cX1_digest 36 = .ok (.iload_n 3, 1) := by decide +kernel
theorem dX1_digest_37 : decode cX1_digest 37 = .ok (.bipush 64, 2) := by decide +kernel
theorem dX1_digest_39 : decode cX1_digest 39 = .ok (.if_icmp .ge 42, 3) := by decide +kernel
theorem dX1_digest_42 : decode cX1_digest 42 = .ok (.iconst 0, 1) := by decide +kernel
theorem dX1_digest_43 : decode cX1_digest 43 = .ok (.istore 4, 2) := by decide +kernel
theorem dX1_digest_45 : decode cX1_digest 45 = .ok (.iload 4, 2) := by decide +kernel
theorem dX1_digest_47 : decode cX1_digest 47 = .ok (.iconst 5, 1) := by decide +kernel
theorem dX1_digest_48 : decode cX1_digest 48 = .ok (.if_icmp .gt 27, 3) := by decide +kernel
theorem dX1_digest_51 : decode cX1_digest 51 = .ok (.lload_n 1, 1) := by decide +kernel
theorem dX1_digest_52 : decode cX1_digest 52 = .ok (.ldc2_w 132, 3) := by decide +kernel
theorem dX1_digest_55 : decode cX1_digest 55 = .ok (.lmul, 1) := by decide +kernel
theorem dX1_digest_56 : decode cX1_digest 56 = .ok (.aload_n 0, 1) := by decide +kernel
theorem dX1_digest_57 : decode cX1_digest 57 = .ok (.getfield 10, 3) := by decide +kernel
theorem dX1_digest_60 : decode cX1_digest 60 = .ok (.iload_n 3, 1) := by decide +kernel
theorem dX1_digest_61 : decode cX1_digest 61 = .ok (.iload 4, 2) := by decide +kernel
theorem dX1_digest_63 : decode cX1_digest 63 = .ok (.invokevirtual 74, 3) := by decide +kernel
theorem dX1_digest_66 : decode cX1_digest 66 = .ok (.i2l, 1) := by decide +kernel
theorem dX1_digest_67 : decode cX1_digest 67 = .ok (.ladd, 1) := by decide +kernel
theorem dX1_digest_68 : decode cX1_digest 68 = .ok (.lstore_n 1, 1) := by decide +kernel
theorem dX1_digest_69 : decode cX1_digest 69 = .ok (.iinc 4 1, 3) := by decide +kernel
theorem dX1_digest_72 : decode cX1_digest 72 = .ok (.goto (-27), 3) := by decide +kernel
theorem dX1_digest_75 : decode cX1_digest 75 = .ok (.iinc 3 1, 3) := by decide +kernel
theorem dX1_digest_78 : decode cX1_digest 78 = .ok (.goto (-42), 3) := by decide +kernel
theorem dX1_digest_81 : decode cX1_digest 81 = .ok (.lload_n 1, 1) := by decide +kernel
theorem dX1_digest_82 : decode cX1_digest 82 = .ok (.lreturn, 1) := by decide +kernel
set_option maxRecDepth 20000 in
theorem ggX1_duesWith_X0_become : GoodIn wsX1_duesWith wsX0_become := goodIn_r _ [7, 8, 9, 10, 11, 93, 94, 95, 96, 97, 98, 99, 100, 101, 102, 103, 104, 105] (by decide +kernel) (by decide +kernel)
set_option maxRecDepth 20000 in
theorem gX1_duesWith_X0_become : GoodIn wsX1_duesWith (wsV RX1 110 RX0 yX0_become wsX0_become) := goodIn_app (goodIn_of _ (by decide +kernel)) ggX1_duesWith_X0_become
set_option maxRecDepth 20000 in
theorem ggX1_duesWith_X0_change : GoodIn wsX1_duesWith wsX0_change := goodIn_r _ [15, 11, 16, 17, 18, 6, 19, 20, 21, 22, 23, 24, 25, 26, 27, 28, 29, 30, 31, 32, 33, 34, 35, 36, 37, 38, 39, 40, 41, 42, 43, 44, 45, 46, 47, 48, 49, 50, 51, 52, 53, 54, 55, 56, 57, 58, 59, 60, 61, 62, 63, 64, 65, 66, 67, 68, 69, 70, 71, 72, 73, 74, 75, 76, 77, 78, 79, 80, 81, 82, 83, 93, 94, 95, 96, 97, 98, 99, 100, 101, 102, 103, 104, 105] (by decide +kernel) (by decide +kernel)
set_option maxRecDepth 20000 in
theorem gX1_duesWith_X0_change : GoodIn wsX1_duesWith (wsV RX1 65 RX0 yX0_change wsX0_change) := goodIn_app (goodIn_of _ (by decide +kernel)) ggX1_duesWith_X0_change
set_option maxRecDepth 20000 in
theorem ggX1_duesWith_X0_duesOfAll : GoodIn wsX1_duesWith wsX0_duesOfAll := goodIn_r _ [87, 22, 88, 89, 6, 90, 93, 94, 95, 96, 97, 98, 99, 100, 101, 102, 103, 104, 105] (by decide +kernel) (by decide +kernel)
set_option maxRecDepth 20000 in
theorem gX1_duesWith_X0_duesOfAll : GoodIn wsX1_duesWith (wsV RX1 120 RX0 yX0_duesOfAll wsX0_duesOfAll) := goodIn_app (goodIn_of _ (by decide +kernel)) ggX1_duesWith_X0_duesOfAll
theorem dX1_duesWith_0 : decode cX1_duesWith 0 = .ok (.aload_n 0, 1) := by decide +kernel
theorem dX1_duesWith_1 : decode cX1_duesWith 1 = .ok (.getfield 16, 3) := by decide +kernel
theorem dX1_duesWith_4 : decode cX1_duesWith 4 = .ok (.aload_n 0, 1) := by decide +kernel
theorem dX1_duesWith_5 : decode cX1_duesWith 5 = .ok (.getfield 10, 3) := by decide +kernel
theorem dX1_duesWith_8 : decode cX1_duesWith 8 = .ok (.invokevirtual 110, 3) := by decide +kernel
theorem dX1_duesWith_11 : decode cX1_duesWith 11 = .ok (.aload_n 0, 1) := by decide +kernel
theorem dX1_duesWith_12 : decode cX1_duesWith 12 = .ok (.getfield 16, 3) := by decide +kernel
theorem dX1_duesWith_15 : decode cX1_duesWith 15 = .ok (.iload_n 1, 1) := by decide +kernel
theorem dX1_duesWith_16 : decode cX1_duesWith 16 = .ok (.iload_n 2, 1) := by decide +kernel
theorem dX1_duesWith_17 : decode cX1_duesWith 17 = .ok (.invokevirtual 65, 3) := by decide +kernel
theorem dX1_duesWith_20 : decode cX1_duesWith 20 = .ok (.aload_n 0, 1) := by decide +kernel
theorem dX1_duesWith_21 : decode cX1_duesWith 21 = .ok (.getfield 16, 3) := by decide +kernel
theorem dX1_duesWith_24 : decode cX1_duesWith 24 = .ok (.invokevirtual 120, 3) := by decide +kernel
theorem dX1_duesWith_27 : decode cX1_duesWith 27 = .ok (.ireturn, 1) := by decide +kernel
theorem dX1_checkedNumber_0 : decode cX1_checkedNumber 0 = .ok (.iload_n 0, 1) := by decide +kernel
theorem dX1_checkedNumber_1 : decode cX1_checkedNumber 1 = .ok (.ifCond .lt 19, 3) := by decide +kernel
theorem dX1_checkedNumber_4 : decode cX1_checkedNumber 4 = .ok (.iload_n 0, 1) := by decide +kernel
theorem dX1_checkedNumber_5 : decode cX1_checkedNumber 5 = .ok (.bipush 8, 2) := by decide +kernel
theorem dX1_checkedNumber_7 : decode cX1_checkedNumber 7 = .ok (.if_icmp .ge 13, 3) := by decide +kernel
theorem dX1_checkedNumber_10 : decode cX1_checkedNumber 10 = .ok (.iload_n 1, 1) := by decide +kernel
theorem dX1_checkedNumber_11 : decode cX1_checkedNumber 11 = .ok (.ifCond .lt 9, 3) := by decide +kernel
theorem dX1_checkedNumber_14 : decode cX1_checkedNumber 14 = .ok (.iload_n 1, 1) := by decide +kernel
theorem dX1_checkedNumber_15 : decode cX1_checkedNumber 15 = .ok (.bipush 8, 2) := by decide +kernel
theorem dX1_checkedNumber_17 : decode cX1_checkedNumber 17 = .ok (.if_icmp .lt 13, 3) := by decide +kernel
theorem dX1_checkedNumber_20 : decode cX1_checkedNumber 20 = .ok (.new 69, 3) := by decide +kernel
theorem dX1_checkedNumber_23 : decode cX1_checkedNumber 23 = .ok (.dup, 1) := by decide +kernel
theorem dX1_checkedNumber_24 : decode cX1_checkedNumber 24 = .ok (.ldc 134, 2) := by decide +kernel
theorem dX1_checkedNumber_26 : decode cX1_checkedNumber 26 = .ok (.invokespecial 73, 3) := by decide +kernel
theorem dX1_checkedNumber_29 : decode cX1_checkedNumber 29 = .ok (.athrow, 1) := by decide +kernel
theorem dX1_checkedNumber_30 : decode cX1_checkedNumber 30 = .ok (.bipush 8, 2) := by decide +kernel
theorem dX1_checkedNumber_32 : decode cX1_checkedNumber 32 = .ok (.iload_n 1, 1) := by decide +kernel
theorem dX1_checkedNumber_33 : decode cX1_checkedNumber 33 = .ok (.imul, 1) := by decide +kernel
theorem dX1_checkedNumber_34 : decode cX1_checkedNumber 34 = .ok (.iload_n 0, 1) := by decide +kernel
theorem dX1_checkedNumber_35 : decode cX1_checkedNumber 35 = .ok (.iadd, 1) := by decide +kernel
theorem dX1_checkedNumber_36 : decode cX1_checkedNumber 36 = .ok (.ireturn, 1) := by decide +kernel
set_option maxRecDepth 20000 in
theorem ggX1_checkNumber_X1_isLot : GoodIn wsX1_checkNumber wsX1_isLot := goodIn_r _ [6] (by decide +kernel) (by decide +kernel)
set_option maxRecDepth 20000 in
theorem gX1_checkNumber_X1_isLot : GoodIn wsX1_checkNumber (va_wsS RX1 136 yX1_isLot wsX1_isLot) := goodIn_app (goodIn_of _ (by decide +kernel)) ggX1_checkNumber_X1_isLot
theorem dX1_checkNumber_0 : decode cX1_checkNumber 0 = .ok (.iload_n 0, 1) := by decide +kernel
theorem dX1_checkNumber_1 : decode cX1_checkNumber 1 = .ok (.invokestatic 136, 3) := by decide +kernel
theorem dX1_checkNumber_4 : decode cX1_checkNumber 4 = .ok (.ifCond .ne 13, 3) := by decide +kernel
theorem dX1_checkNumber_7 : decode cX1_checkNumber 7 = .ok (.new 69, 3) := by decide +kernel
theorem dX1_checkNumber_10 : decode cX1_checkNumber 10 = .ok (.dup, 1) := by decide +kernel
theorem dX1_checkNumber_11 : decode cX1_checkNumber 11 = .ok (.ldc 139, 2) := by decide +kernel
theorem dX1_checkNumber_13 : decode cX1_checkNumber 13 = .ok (.invokespecial 73, 3) := by decide +kernel
theorem dX1_checkNumber_16 : decode cX1_checkNumber 16 = .ok (.athrow, 1) := by decide +kernel
theorem dX1_checkNumber_17 : decode cX1_checkNumber 17 = .ok (.return_, 1) := by decide +kernel
theorem dX1_checkBuilding_0 : decode cX1_checkBuilding 0 = .ok (.iload_n 0, 1) := by decide +kernel
theorem dX1_checkBuilding_1 : decode cX1_checkBuilding 1 = .ok (.iconst 3, 1) := by decide +kernel
theorem dX1_checkBuilding_2 : decode cX1_checkBuilding 2 = .ok (.if_icmp .lt 8, 3) := by decide +kernel
theorem dX1_checkBuilding_5 : decode cX1_checkBuilding 5 = .ok (.iload_n 0, 1) := by decide +kernel
theorem dX1_checkBuilding_6 : decode cX1_checkBuilding 6 = .ok (.iconst 5, 1) := by decide +kernel
theorem dX1_checkBuilding_7 : decode cX1_checkBuilding 7 = .ok (.if_icmp .le 13, 3) := by decide +kernel
theorem dX1_checkBuilding_10 : decode cX1_checkBuilding 10 = .ok (.new 141, 3) := by decide +kernel
theorem dX1_checkBuilding_13 : decode cX1_checkBuilding 13 = .ok (.dup, 1) := by decide +kernel
theorem dX1_checkBuilding_14 : decode cX1_checkBuilding 14 = .ok (.ldc 143, 2) := by decide +kernel
theorem dX1_checkBuilding_16 : decode cX1_checkBuilding 16 = .ok (.invokespecial 145, 3) := by decide +kernel
theorem dX1_checkBuilding_19 : decode cX1_checkBuilding 19 = .ok (.athrow, 1) := by decide +kernel
theorem dX1_checkBuilding_20 : decode cX1_checkBuilding 20 = .ok (.return_, 1) := by decide +kernel
theorem dX1_checkMonths_0 : decode cX1_checkMonths 0 = .ok (.iload_n 0, 1) := by decide +kernel
theorem dX1_checkMonths_1 : decode cX1_checkMonths 1 = .ok (.iconst 1, 1) := by decide +kernel
theorem dX1_checkMonths_2 : decode cX1_checkMonths 2 = .ok (.if_icmp .lt 9, 3) := by decide +kernel
theorem dX1_checkMonths_5 : decode cX1_checkMonths 5 = .ok (.iload_n 0, 1) := by decide +kernel
theorem dX1_checkMonths_6 : decode cX1_checkMonths 6 = .ok (.bipush 60, 2) := by decide +kernel
theorem dX1_checkMonths_8 : decode cX1_checkMonths 8 = .ok (.if_icmp .le 13, 3) := by decide +kernel
theorem dX1_checkMonths_11 : decode cX1_checkMonths 11 = .ok (.new 141, 3) := by decide +kernel
theorem dX1_checkMonths_14 : decode cX1_checkMonths 14 = .ok (.dup, 1) := by decide +kernel
theorem dX1_checkMonths_15 : decode cX1_checkMonths 15 = .ok (.ldc 146, 2) := by decide +kernel
theorem dX1_checkMonths_17 : decode cX1_checkMonths 17 = .ok (.invokespecial 145, 3) := by decide +kernel
theorem dX1_checkMonths_20 : decode cX1_checkMonths 20 = .ok (.athrow, 1) := by decide +kernel
theorem dX1_checkMonths_21 : decode cX1_checkMonths 21 = .ok (.return_, 1) := by decide +kernel
theorem dX1_checkDrained_0 : decode cX1_checkDrained 0 = .ok (.aload_n 0, 1) := by decide +kernel
theorem dX1_checkDrained_1 : decode cX1_checkDrained 1 = .ok (.getfield 10, 3) := by decide +kernel
theorem dX1_checkDrained_4 : decode cX1_checkDrained 4 = .ok (.getfield 23, 3) := by decide +kernel
theorem dX1_checkDrained_7 : decode cX1_checkDrained 7 = .ok (.iload_n 1, 1) := by decide +kernel
theorem dX1_checkDrained_8 : decode cX1_checkDrained 8 = .ok (.iaload, 1) := by decide +kernel
theorem dX1_checkDrained_9 : decode cX1_checkDrained 9 = .ok (.iconst 2, 1) := by decide +kernel
theorem dX1_checkDrained_10 : decode cX1_checkDrained 10 = .ok (.if_icmp .eq 13, 3) := by decide +kernel
theorem dX1_checkDrained_13 : decode cX1_checkDrained 13 = .ok (.new 27, 3) := by decide +kernel
theorem dX1_checkDrained_16 : decode cX1_checkDrained 16 = .ok (.dup, 1) := by decide +kernel
theorem dX1_checkDrained_17 : decode cX1_checkDrained 17 = .ok (.ldc 148, 2) := by decide +kernel
theorem dX1_checkDrained_19 : decode cX1_checkDrained 19 = .ok (.invokespecial 31, 3) := by decide +kernel
theorem dX1_checkDrained_22 : decode cX1_checkDrained 22 = .ok (.athrow, 1) := by decide +kernel
theorem dX1_checkDrained_23 : decode cX1_checkDrained 23 = .ok (.return_, 1) := by decide +kernel
theorem dX1_checkCoins_0 : decode cX1_checkCoins 0 = .ok (.aload_n 0, 1) := by decide +kernel
theorem dX1_checkCoins_1 : decode cX1_checkCoins 1 = .ok (.getfield 10, 3) := by decide +kernel
theorem dX1_checkCoins_4 : decode cX1_checkCoins 4 = .ok (.getfield 42, 3) := by decide +kernel
theorem dX1_checkCoins_7 : decode cX1_checkCoins 7 = .ok (.iload_n 1, 1) := by decide +kernel
theorem dX1_checkCoins_8 : decode cX1_checkCoins 8 = .ok (.if_icmp .ge 13, 3) := by decide +kernel
theorem dX1_checkCoins_11 : decode cX1_checkCoins 11 = .ok (.new 27, 3) := by decide +kernel
theorem dX1_checkCoins_14 : decode cX1_checkCoins 14 = .ok (.dup, 1) := by decide +kernel
theorem dX1_checkCoins_15 : decode cX1_checkCoins 15 = .ok (.ldc 150, 2) := by decide +kernel
theorem dX1_checkCoins_17 : decode cX1_checkCoins 17 = .ok (.invokespecial 31, 3) := by decide +kernel
theorem dX1_checkCoins_20 : decode cX1_checkCoins 20 = .ok (.athrow, 1) := by decide +kernel
theorem dX1_checkCoins_21 : decode cX1_checkCoins 21 = .ok (.return_, 1) := by decide +kernel
theorem dX1_isLot_0 : decode cX1_isLot 0 = .ok (.iload_n 0, 1) := by decide +kernel
theorem dX1_isLot_1 : decode cX1_isLot 1 = .ok (.ifCond .lt 13, 3) := by decide +kernel
theorem dX1_isLot_4 : decode cX1_isLot 4 = .ok (.iload_n 0, 1) := by decide +kernel
theorem dX1_isLot_5 : decode cX1_isLot 5 = .ok (.bipush 64, 2) := by decide +kernel
theorem dX1_isLot_7 : decode cX1_isLot 7 = .ok (.if_icmp .ge 7, 3) := by decide +kernel
theorem dX1_isLot_10 : decode cX1_isLot 10 = .ok (.iconst 1, 1) := by decide +kernel
theorem dX1_isLot_11 : decode cX1_isLot 11 = .ok (.goto 4, 3) := by decide +kernel
theorem dX1_isLot_14 : decode cX1_isLot 14 = .ok (.iconst 0, 1) := by decide +kernel
theorem dX1_isLot_15 : decode cX1_isLot 15 = .ok (.ireturn, 1) := by decide +kernel
theorem dX1_costOf_0 : decode cX1_costOf 0 = .ok (.iload_n 0, 1) := by decide +kernel
theorem dX1_costOf_1 : decode cX1_costOf 1 = .ok (.lookupswitch 32 #[(3, 27), (4, 29)], 27) := by decide +kernel
theorem dX1_costOf_28 : decode cX1_costOf 28 = .ok (.iconst 4, 1) := by decide +kernel
theorem dX1_costOf_29 : decode cX1_costOf 29 = .ok (.ireturn, 1) := by decide +kernel
theorem dX1_costOf_30 : decode cX1_costOf 30 = .ok (.bipush 6, 2) := by decide +kernel
theorem dX1_costOf_32 : decode cX1_costOf 32 = .ok (.ireturn, 1) := by decide +kernel
theorem dX1_costOf_33 : decode cX1_costOf 33 = .ok (.iconst 5, 1) := by decide +kernel
theorem dX1_costOf_34 : decode cX1_costOf 34 = .ok (.ireturn, 1) := by decide +kernel
theorem dX1_isLand_0 : decode cX1_isLand 0 = .ok (.iload_n 0, 1) := by decide +kernel
theorem dX1_isLand_1 : decode cX1_isLand 1 = .ok (.iconst 2, 1) := by decide +kernel
theorem dX1_isLand_2 : decode cX1_isLand 2 = .ok (.if_icmp .lt 13, 3) := by decide +kernel
theorem dX1_isLand_5 : decode cX1_isLand 5 = .ok (.iload_n 0, 1) := by decide +kernel
theorem dX1_isLand_6 : decode cX1_isLand 6 = .ok (.bipush 6, 2) := by decide +kernel
theorem dX1_isLand_8 : decode cX1_isLand 8 = .ok (.if_icmp .gt 7, 3) := by decide +kernel
theorem dX1_isLand_11 : decode cX1_isLand 11 = .ok (.iconst 1, 1) := by decide +kernel
theorem dX1_isLand_12 : decode cX1_isLand 12 = .ok (.goto 4, 3) := by decide +kernel
theorem dX1_isLand_15 : decode cX1_isLand 15 = .ok (.iconst 0, 1) := by decide +kernel
theorem dX1_isLand_16 : decode cX1_isLand 16 = .ok (.ireturn, 1) := by decide +kernel
theorem dX1_isWater_0 : decode cX1_isWater 0 = .ok (.iload_n 0, 1) := by decide +kernel
theorem dX1_isWater_1 : decode cX1_isWater 1 = .ok (.iconst 1, 1) := by decide +kernel
theorem dX1_isWater_2 : decode cX1_isWater 2 = .ok (.if_icmp .eq 9, 3) := by decide +kernel
theorem dX1_isWater_5 : decode cX1_isWater 5 = .ok (.iload_n 0, 1) := by decide +kernel
theorem dX1_isWater_6 : decode cX1_isWater 6 = .ok (.bipush 6, 2) := by decide +kernel
theorem dX1_isWater_8 : decode cX1_isWater 8 = .ok (.if_icmp .ne 7, 3) := by decide +kernel
theorem dX1_isWater_11 : decode cX1_isWater 11 = .ok (.iconst 1, 1) := by decide +kernel
theorem dX1_isWater_12 : decode cX1_isWater 12 = .ok (.goto 4, 3) := by decide +kernel
theorem dX1_isWater_15 : decode cX1_isWater 15 = .ok (.iconst 0, 1) := by decide +kernel
theorem dX1_isWater_16 : decode cX1_isWater 16 = .ok (.ireturn, 1) := by decide +kernel
theorem dX1_neighbour_0 : decode cX1_neighbour 0 = .ok (.iload_n 0, 1) := by decide +kernel
theorem dX1_neighbour_1 : decode cX1_neighbour 1 = .ok (.bipush 8, 2) := by decide +kernel
theorem dX1_neighbour_3 : decode cX1_neighbour 3 = .ok (.irem, 1) := by decide +kernel
theorem dX1_neighbour_4 : decode cX1_neighbour 4 = .ok (.istore_n 2, 1) := by decide +kernel
theorem dX1_neighbour_5 : decode cX1_neighbour 5 = .ok (.iload_n 0, 1) := by decide +kernel
theorem dX1_neighbour_6 : decode cX1_neighbour 6 = .ok (.bipush 8, 2) := by decide +kernel
theorem dX1_neighbour_8 : decode cX1_neighbour 8 = .ok (.idiv, 1) := by decide +kernel
theorem dX1_neighbour_9 : decode cX1_neighbour 9 = .ok (.istore_n 3, 1) := by decide +kernel
theorem dX1_neighbour_10 : decode cX1_neighbour 10 = .ok (.iload_n 1, 1) := by decide +kernel
theorem dX1_neighbour_11 : decode cX1_neighbour 11 = .ok (.tableswitch 64 0 2 #[25, 38, 50], 25) := by decide +kernel
theorem dX1_neighbour_36 : decode cX1_neighbour 36 = .ok (.iload_n 3, 1) := by decide +kernel
theorem dX1_neighbour_37 : decode cX1_neighbour 37 = .ok (.ifCond .le 10, 3) := by decide +kernel
theorem dX1_neighbour_40 : decode cX1_neighbour 40 = .ok (.iload_n 0, 1) := by decide +kernel
theorem dX1_neighbour_41 : decode cX1_neighbour 41 = .ok (.bipush 8, 2) := by decide +kernel
theorem dX1_neighbour_43 : decode cX1_neighbour 43 = .ok (.isub, 1) := by decide +kernel
theorem dX1_neighbour_44 : decode cX1_neighbour 44 = .ok (.goto 4, 3) := by decide +kernel
theorem dX1_neighbour_47 : decode cX1_neighbour 47 = .ok (.iconst (-1), 1) := by decide +kernel
theorem dX1_neighbour_48 : decode cX1_neighbour 48 = .ok (.ireturn, 1) := by decide +kernel
theorem dX1_neighbour_49 : decode cX1_neighbour 49 = .ok (.iload_n 2, 1) := by decide +kernel
theorem dX1_neighbour_50 : decode cX1_neighbour 50 = .ok (.ifCond .le 9, 3) := by decide +kernel
theorem dX1_neighbour_53 : decode cX1_neighbour 53 = .ok (.iload_n 0, 1) := by decide +kernel
theorem dX1_neighbour_54 : decode cX1_neighbour 54 = .ok (.iconst 1, 1) := by decide +kernel
theorem dX1_neighbour_55 : decode cX1_neighbour 55 = .ok (.isub, 1) := by decide +kernel
theorem dX1_neighbour_56 : decode cX1_neighbour 56 = .ok (.goto 4, 3) := by decide +kernel
theorem dX1_neighbour_59 : decode cX1_neighbour 59 = .ok (.iconst (-1), 1) := by decide +kernel
theorem dX1_neighbour_60 : decode cX1_neighbour 60 = .ok (.ireturn, 1) := by decide +kernel
theorem dX1_neighbour_61 : decode cX1_neighbour 61 = .ok (.iload_n 2, 1) := by decide +kernel
theorem dX1_neighbour_62 : decode cX1_neighbour 62 = .ok (.bipush 7, 2) := by decide +kernel
theorem dX1_neighbour_64 : decode cX1_neighbour 64 = .ok (.if_icmp .ge 9, 3) := by decide +kernel
theorem dX1_neighbour_67 : decode cX1_neighbour 67 = .ok (.iload_n 0, 1) := by decide +kernel
theorem dX1_neighbour_68 : decode cX1_neighbour 68 = .ok (.iconst 1, 1) := by decide +kernel
theorem dX1_neighbour_69 : decode cX1_neighbour 69 = .ok (.iadd, 1) := by decide +kernel
theorem dX1_neighbour_70 : decode cX1_neighbour 70 = .ok (.goto 4, 3) := by decide +kernel
theorem dX1_neighbour_73 : decode cX1_neighbour 73 = .ok (.iconst (-1), 1) := by decide +kernel
theorem dX1_neighbour_74 : decode cX1_neighbour 74 = .ok (.ireturn, 1) := by decide +kernel
theorem dX1_neighbour_75 : decode cX1_neighbour 75 = .ok (.iload_n 3, 1) := by decide +kernel
theorem dX1_neighbour_76 : decode cX1_neighbour 76 = .ok (.bipush 7, 2) := by decide +kernel
theorem dX1_neighbour_78 : decode cX1_neighbour 78 = .ok (.if_icmp .ge 10, 3) := by decide +kernel
theorem dX1_neighbour_81 : decode cX1_neighbour 81 = .ok (.iload_n 0, 1) := by decide +kernel
theorem dX1_neighbour_82 : decode cX1_neighbour 82 = .ok (.bipush 8, 2) := by decide +kernel
theorem dX1_neighbour_84 : decode cX1_neighbour 84 = .ok (.iadd, 1) := by decide +kernel
theorem dX1_neighbour_85 : decode cX1_neighbour 85 = .ok (.goto 4, 3) := by decide +kernel
theorem dX1_neighbour_88 : decode cX1_neighbour 88 = .ok (.iconst (-1), 1) := by decide +kernel
theorem dX1_neighbour_89 : decode cX1_neighbour 89 = .ok (.ireturn, 1) := by decide +kernel
end
section
/-! the words of links between nest mates -/
def NWl : List Cond := [.fieldLinkNest RX1 42 "CanalCity$City" "coins" "I" "CanalCity", .fieldLinkNest RX1 23 "CanalCity$City" "kinds" "[I" "CanalCity", .fieldLinkNest RX1 99 "CanalCity$City" "boatSteps" "[I" "CanalCity", .methodLinkNest RX0 73 yX1_isLot "CanalCity", .methodLinkNest RX0 84 yX1_isWater "CanalCity", .methodLinkNest RX0 98 yX1_isLand "CanalCity", .methodLinkNest RX0 104 yX1_neighbour "CanalCity"]
def NW (U : State) : Prop := ∀ w ∈ NWl, va_Nw w U
theorem NW_on : ∀ w ∈ NWl, w.onTables = true := List.all_eq_true.mp (by decide +kernel)
theorem NW_at {U : State} (h : NW U) (i : Nat) {w : Cond} (hw : NWl[i]? = some w) : va_Nw w U := h w (List.mem_of_getElem? hw)
theorem NW_same {u U : State} (hv : u.vm = U.vm) (h : NW u) : NW U := fun w hw => va_Nw.same (NW_on w hw) hv (h w hw)
theorem NW_warm {s U : State} (hW : s.WarmedH U.vm) (h : NW s) : NW U := by
  intro w hw
  have h0 := h w hw
  simp only [NWl, List.mem_cons, List.not_mem_nil, or_false] at hw
  rcases hw with rfl | rfl | rfl | rfl | rfl | rfl | rfl
  · exact va_Nw.warmF hW h0
  · exact va_Nw.warmF hW h0
  · exact va_Nw.warmF hW h0
  · exact va_Nw.warmM hW h0
  · exact va_Nw.warmM hW h0
  · exact va_Nw.warmM hW h0
  · exact va_Nw.warmM hW h0
/-! worlds -/
abbrev oC (a : Nat → Nat) (mo co le : Int32) : va_E := .inr (0, [.int mo, .int co, .int le, .ref (a 3), .ref (a 4), .ref (a 5), .ref (a 6), .ref (a 7), .ref (a 8), .ref (a 9), .ref (a 10), .ref (a 11), .ref (a 12)])
abbrev iA (cI : ClassId) (f : Nat → Int32) : va_E := .inl (cI, 64, .inl f)
abbrev wC (cI : ClassId) (a : Nat → Nat) (mo co le : Int32) (K Q L Ho Ma B C D Fo Wa : Nat → Int32) : va_W := [(a 0, oC a mo co le), (a 3, iA cI K), (a 4, iA cI Q), (a 5, iA cI L), (a 6, iA cI Ho), (a 7, iA cI Ma), (a 8, iA cI B), (a 9, iA cI C), (a 10, iA cI D), (a 11, iA cI Fo), (a 12, iA cI Wa)]
abbrev TY (cI : ClassId) : List (ClassId × FieldType) := [(cI, .int)]
/-! what only reads: a world as it stands at the call, the answer v, no cell of before changed -/
def RdP (G : va_G) (cI : ClassId) (ws : va_W) : State → Prop := fun U => va_P G vwCl ws U.heap ∧ va_K G vwCl (TY cI) U ∧ NW U
abbrev RdQ (v : Int32) : Array Value → State → Outcome → State → Prop := va_Qi (fun (r : Int32) (_ : Unit) => r = v) (fun _ _ => True) (fun _ => False)
abbrev No : Nat → Prop := fun _ => False
theorem RdP_calling {G : va_G} {cI : ClassId} {ws : va_W} {U : State} {g : JFrame} {mk : MethodId} {a : Array Value} (h : RdP G cI ws U) : RdP G cI ws (U.calling g mk a) :=
  ⟨h.1, va_K.moved (u := U) (U := U.calling g mk a) (Vm.Alike.refl U.vm) h.2.1, NW_same (u := U) (U := U.calling g mk a) rfl h.2.2⟩
theorem RdP_blind {G : va_G} {cI : ClassId} {ws : va_W} {av : List Value} : FrameBlind (va_Pc av (RdP G cI ws)) := fun _ _ _ _ q => ⟨q.1, RdP_calling q.2⟩
theorem rdV {s : State} {H : Heap} {G : va_G} {cI : ClassId} {ws ws' : va_W} {C : String} {T : u_T} {N ci q0 b : Nat} {fs As : List Value} (hK : va_K G vwCl (TY cI) s) (hP : va_P G vwCl ws H) (hN : NW s) (is : List Nat) (hs : is.filterMap (fun i => ws[i]?) = ws') (hc : vwCl[ci]? = some (C, T, N)) (he : ws[q0]? = some (b, .inr (ci, fs))) : PreV s H C b (va_Pc (.ref b :: As) (RdP G cI ws')) As :=
  ⟨RdP_blind, va_recv hK hP hc he, fun U hU hW => ⟨rfl, by rw [hU]; exact hP.sub is hs, va_K.moved hW.alike hK, NW_warm hW hN⟩⟩
theorem rdS {s : State} {H : Heap} {G : va_G} {cI : ClassId} {ws ws' : va_W} {As : List Value} (hK : va_K G vwCl (TY cI) s) (hP : va_P G vwCl ws H) (hN : NW s) (is : List Nat) (hs : is.filterMap (fun i => ws[i]?) = ws') : PreS s H (va_Pc As (RdP G cI ws')) As :=
  ⟨RdP_blind, fun U hU hW => ⟨rfl, by rw [hU]; exact hP.sub is hs, va_K.moved hW.alike hK, NW_warm hW hN⟩⟩
theorem puS {s : State} {H : Heap} {As : List Value} : PreS s H (va_Pc As (fun _ => True)) As := ⟨fun _ _ _ _ q => q, fun _ _ _ => ⟨rfl, trivial⟩⟩
section Rw
variable {p : Program} {l : Launch} {e : Env} {R : Room} {s : State} {m : MethodId} {args : Array Value} {below : List Frame} {meth : Method} {c : Code} {H : Heap} {locs : List Loc} {cells slots : Nat} {Q : State → Prop}
variable {cc : ByteArray} {pc : Nat} {ls : Array Slot} {rest st0 : List Value} {A0 : Nat → Prop} {H0 : Heap} {a : Array Value} {G : va_G} {ws : va_W}
/-- the top of the stack, by another name -/
theorem tpi {x x' : Int32} (h : x = x') (k : W p l e R s m args below meth c H locs cells slots Q (F0 m pc ls (.int x' :: rest))) : W p l e R s m args below meth c H locs cells slots Q (F0 m pc ls (.int x :: rest)) := h ▸ k
theorem tpl {x x' : Int64} (h : x = x') (k : W p l e R s m args below meth c H locs cells slots Q (F0 m pc ls (.long x' :: rest))) : W p l e R s m args below meth c H locs cells slots Q (F0 m pc ls (.long x :: rest)) := h ▸ k
/-- the end that is owed, as a variable -/
theorem wq {Q0 : State → Prop} {g : JFrame} (h : ∀ Q, Q = Q0 → W p l e R s m args below meth c H locs cells slots Q g) : W p l e R s m args below meth c H locs cells slots Q0 g := h Q0 rfl
/-- behind a call of what only reads -/
theorem cr_i {v : Int32} (hr : va_Run p l e R s m args below meth c H locs cells slots 0 0 (F0 m pc ls st0) rest (RdQ v a) No) (hS : va_S A0 H0 H locs) (hP : va_P G vwCl ws H)
    (kk : ∀ (H1 : Heap) (locs1 : List Loc), va_P G vwCl ws H1 → va_S A0 H0 H1 locs1 → W p l e R s m args below meth c H1 locs1 cells slots Q (F0 m (pc + 3) ls (.int v :: rest))) : W p l e R s m args below meth c H locs cells slots Q (F0 m pc ls st0) := by
  refine va_calli hr hS (fun q _ h => h.elim) (fun q h => h.elim) (fun r u t H1 locs1 ht hvm hw hB hz1 hk1 hS1 => ?_)
  have hw : r = v := hw
  subst hw
  exact kk H1 locs1 (hP.kept (fun k x hx => hk1 x.1 ((hP k x hx).lt) (fun h => h))) hS1
theorem cr_p {v : Int32} (hr : va_Run p l e R s m args below meth c H locs cells slots 0 0 (F0 m pc ls st0) rest (RdQ v a) No) (hS : va_S A0 H0 H locs)
    (kk : ∀ (H1 : Heap) (locs1 : List Loc), va_S A0 H0 H1 locs1 → W p l e R s m args below meth c H1 locs1 cells slots Q (F0 m (pc + 3) ls (.int v :: rest))) : W p l e R s m args below meth c H locs cells slots Q (F0 m pc ls st0) := by
  refine va_calli hr hS (fun q _ h => h.elim) (fun q h => h.elim) (fun r u t H1 locs1 ht hvm hw hB hz1 hk1 hS1 => ?_)
  have hw : r = v := hw
  subst hw
  exact kk H1 locs1 hS1
/-- the end of what only reads -/
theorem rd_i {v v' : Int32} (hvv : v' = v) (hexec : p.tables.exec = Jvm.exec) (hb : c.code = cc) (hr : meth.sig.returnType = some .int) (hS : va_S No s.heap H locs) (hlocks : meth.locks = false) (hdg : decode cc pc = .ok (.ireturn, 1)) : W p l e R s m args below meth c H locs cells slots (MQ below (RdQ v) args s cells slots No) (F0 m pc ls [.int v']) := by
  subst hvv
  exact W.iret (v := v') hexec hb hr (fun t ht hW => ⟨⟨v', (), rfl, rfl, trivial⟩, hS.F ht⟩) hS.2.2 hdg hlocks
theorem rd_z {v v' : Int32} (hvv : v' = v) (hexec : p.tables.exec = Jvm.exec) (hb : c.code = cc) (hr : meth.sig.returnType = some .boolean) (hn : narrow .boolean (.int v) = .int v) (hS : va_S No s.heap H locs) (hlocks : meth.locks = false) (hdg : decode cc pc = .ok (.ireturn, 1)) : W p l e R s m args below meth c H locs cells slots (MQ below (RdQ v) args s cells slots No) (F0 m pc ls [.int v']) := by
  subst hvv
  exact W.zret (v := v') hexec hb hr hn (fun t ht hW => ⟨⟨v', (), rfl, rfl, trivial⟩, hS.F ht⟩) hS.2.2 hdg hlocks
end Rw
/-! what writes: the cells ws of the call are W' u behind it, at the same or new addresses -/
def WrP (G : va_G) (cI : ClassId) (ws : va_W) (sz : Nat) : State → Prop := fun U => U.heap.size = sz ∧ va_P G vwCl ws U.heap ∧ va_K G vwCl (TY cI) U ∧ va_D (fun _ => True) ws ∧ NW U
def WrB {S : Type} (G : va_G) (ws : va_W) (sz : Nat) (W' : S → va_W) : S → State → Prop := fun u t => va_P G vwCl (W' u) t.heap ∧ va_D (va_A ws sz) (W' u)
theorem WrP_blind {G : va_G} {cI : ClassId} {ws : va_W} {sz : Nat} {av : List Value} : FrameBlind (va_Pc av (WrP G cI ws sz)) := fun _ U g mk q => ⟨q.1, q.2.1, q.2.2.1, va_K.moved (u := U) (U := U.calling g mk _) (Vm.Alike.refl U.vm) q.2.2.2.1, q.2.2.2.2.1, NW_same (u := U) (U := U.calling g mk _) rfl q.2.2.2.2.2⟩
theorem wrV {s : State} {H : Heap} {G : va_G} {cI : ClassId} {ws ws' : va_W} {C : String} {T : u_T} {N ci q0 b : Nat} {fs As : List Value} {A : Nat → Prop} (hK : va_K G vwCl (TY cI) s) (hP : va_P G vwCl ws H) (hD : va_D A ws) (hN : NW s) (is : List Nat) (hn : va_nd is = true) (hs : is.map (fun i => ws[i]?) = ws'.map some) (hf : is.filterMap (fun i => ws[i]?) = ws') (hc : vwCl[ci]? = some (C, T, N)) (he : ws[q0]? = some (b, .inr (ci, fs))) : PreV s H C b (va_Pc (.ref b :: As) (WrP G cI ws' H.size)) As :=
  ⟨WrP_blind, va_recv hK hP hc he, fun U hU hW => ⟨rfl, by rw [hU], by rw [hU]; exact hP.sub is hf, va_K.moved hW.alike hK, (hD.sub is hn hs).weaken (fun _ _ _ _ => trivial), NW_warm hW hN⟩⟩
theorem wrS {s : State} {H : Heap} {G : va_G} {cI : ClassId} {ws ws' : va_W} {As : List Value} {A : Nat → Prop} (hK : va_K G vwCl (TY cI) s) (hP : va_P G vwCl ws H) (hD : va_D A ws) (hN : NW s) (is : List Nat) (hn : va_nd is = true) (hs : is.map (fun i => ws[i]?) = ws'.map some) (hf : is.filterMap (fun i => ws[i]?) = ws') : PreS s H (va_Pc As (WrP G cI ws' H.size)) As :=
  ⟨WrP_blind, fun U hU hW => ⟨rfl, by rw [hU], by rw [hU]; exact hP.sub is hf, va_K.moved hW.alike hK, (hD.sub is hn hs).weaken (fun _ _ _ _ => trivial), NW_warm hW hN⟩⟩
section Ww
variable {p : Program} {l : Launch} {e : Env} {R : Room} {s : State} {m : MethodId} {args : Array Value} {below : List Frame} {meth : Method} {c : Code} {H : Heap} {locs : List Loc} {cells slots mc ms : Nat} {Q : State → Prop}
variable {cc : ByteArray} {pc : Nat} {ls : Array Slot} {rest st0 : List Value} {A0 : Nat → Prop} {H0 : Heap} {a : Array Value} {G : va_G} {ws wc wr : va_W} {S : Type} {W' : S → va_W}
theorem cw_v {post : S → Prop} (hr : va_Run p l e R s m args below meth c H locs cells slots mc ms (F0 m pc ls st0) rest (va_Qv post (WrB G wc H.size W') (va_A wc H.size) a) (va_A wc H.size)) (hS : va_S A0 H0 H locs) (hP : va_P G vwCl ws H) (hD : va_D A0 ws) (hA : ∀ q, H0.size ≤ q → A0 q)
    (isC isR : List Nat) (hC : isC.map (fun i => ws[i]?) = wc.map some) (hR : isR.map (fun i => ws[i]?) = wr.map some) (hn : va_nd isR = true) (hdis : ∀ i ∈ isR, i ∉ isC)
    (kk : ∀ (u : S) (H1 : Heap) (locs1 : List Loc), post u → va_P G vwCl (wr ++ W' u) H1 → va_D A0 (wr ++ W' u) → va_S A0 H0 H1 locs1 → W p l e R s m args below meth c H1 locs1 (cells + mc) (slots + ms) Q (F0 m (pc + 3) ls rest)) : W p l e R s m args below meth c H locs cells slots Q (F0 m pc ls st0) := by
  have hF := va_free (wc := wc) hD hS hA isC hC
  refine va_callv hr hS (fun q _ h => hF q h) hF (fun u t H1 locs1 ht hvm hw hB hz1 hk1 hS1 => ?_)
  obtain ⟨hP1, hD1⟩ := hB
  rw [ht] at hP1
  obtain ⟨hP2, hD2⟩ := va_join hP hD isC isR hC hR hn hdis hk1 hF hP1 hD1
  exact kk u H1 locs1 hw hP2 hD2 hS1
theorem cw_i {post : Int32 → S → Prop} (hr : va_Run p l e R s m args below meth c H locs cells slots mc ms (F0 m pc ls st0) rest (va_Qi post (WrB G wc H.size W') (va_A wc H.size) a) (va_A wc H.size)) (hS : va_S A0 H0 H locs) (hP : va_P G vwCl ws H) (hD : va_D A0 ws) (hA : ∀ q, H0.size ≤ q → A0 q)
    (isC isR : List Nat) (hC : isC.map (fun i => ws[i]?) = wc.map some) (hR : isR.map (fun i => ws[i]?) = wr.map some) (hn : va_nd isR = true) (hdis : ∀ i ∈ isR, i ∉ isC)
    (kk : ∀ (r : Int32) (u : S) (H1 : Heap) (locs1 : List Loc), post r u → va_P G vwCl (wr ++ W' u) H1 → va_D A0 (wr ++ W' u) → va_S A0 H0 H1 locs1 → W p l e R s m args below meth c H1 locs1 (cells + mc) (slots + ms) Q (F0 m (pc + 3) ls (.int r :: rest))) : W p l e R s m args below meth c H locs cells slots Q (F0 m pc ls st0) := by
  have hF := va_free (wc := wc) hD hS hA isC hC
  refine va_calli hr hS (fun q _ h => hF q h) hF (fun r u t H1 locs1 ht hvm hw hB hz1 hk1 hS1 => ?_)
  obtain ⟨hP1, hD1⟩ := hB
  rw [ht] at hP1
  obtain ⟨hP2, hD2⟩ := va_join hP hD isC isR hC hR hn hdis hk1 hF hP1 hD1
  exact kk r u H1 locs1 hw hP2 hD2 hS1
theorem wr_v {post : S → Prop} (u : S) (hu : post u) {sz : Nat} (hexec : p.tables.exec = Jvm.exec) (hb : c.code = cc) (hr : meth.sig.returnType = none) (hP : va_P G vwCl (W' u) H) (hD : va_D (va_A wc sz) (W' u)) (hS : va_S (va_A wc sz) s.heap H locs) (hlocks : meth.locks = false) (hdg : decode cc pc = .ok (.return_, 1)) : W p l e R s m args below meth c H locs cells slots (MQ below (va_Qv post (WrB G wc sz W') (va_A wc sz)) args s cells slots (va_A wc sz)) (F0 m pc ls []) :=
  W.vret hexec hb hr (fun t ht hW => ⟨⟨u, rfl, hu, by rw [ht]; exact hP, hD⟩, hS.F ht⟩) hS.2.2 hdg hlocks
theorem wr_i {post : Int32 → S → Prop} {v : Int32} (u : S) (hu : post v u) {sz : Nat} (hexec : p.tables.exec = Jvm.exec) (hb : c.code = cc) (hr : meth.sig.returnType = some .int) (hP : va_P G vwCl (W' u) H) (hD : va_D (va_A wc sz) (W' u)) (hS : va_S (va_A wc sz) s.heap H locs) (hlocks : meth.locks = false) (hdg : decode cc pc = .ok (.ireturn, 1)) : W p l e R s m args below meth c H locs cells slots (MQ below (va_Qi post (WrB G wc sz W') (va_A wc sz)) args s cells slots (va_A wc sz)) (F0 m pc ls [.int v]) :=
  W.iret hexec hb hr (fun t ht hW => ⟨⟨v, u, rfl, hu, by rw [ht]; exact hP, hD⟩, hS.F ht⟩) hS.2.2 hdg hlocks
end Ww

theorem opo4 {k : Nat → Int32} {pt sd : Nat} (h : sd < 4) : opo k (nbC pt sd) = true → (opo k (nbC pt 0) || opo k (nbC pt 1) || opo k (nbC pt 2) || opo k (nbC pt 3)) = true :=
  four (P := fun sd => opo k (nbC pt sd) = true → (opo k (nbC pt 0) || opo k (nbC pt 1) || opo k (nbC pt 2) || opo k (nbC pt 3)) = true) h (fun e => by simp [e]) (fun e => by simp [e]) (fun e => by simp [e]) (fun e => by simp [e])
theorem ne_int {x n : Int32} {z : Int} (h : ¬ x = n) (hz : n.toInt = z) : x.toInt ≠ z := fun e => h (Int32.toInt_inj.mp (e.trans hz.symm))
theorem tbl345 {x : Int32} (h3 : ¬ x = 3) (h4 : ¬ x = 4) (h5 : ¬ x = 5) : x.toInt < 3 ∨ 5 < x.toInt := by
  have a3 := ne_int (z := 3) h3 (by decide)
  have a4 := ne_int (z := 4) h4 (by decide)
  have a5 := ne_int (z := 5) h5 (by decide)
  omega
theorem tbl04 {x : Int32} (h0 : ¬ x = 0) (h1 : ¬ x = 1) (h2 : ¬ x = 2) (h3 : ¬ x = 3) (h4 : ¬ x = 4) : x.toInt < 0 ∨ 4 < x.toInt := by
  have a0 := ne_int (z := 0) h0 (by decide)
  have a1 := ne_int (z := 1) h1 (by decide)
  have a2 := ne_int (z := 2) h2 (by decide)
  have a3 := ne_int (z := 3) h3 (by decide)
  have a4 := ne_int (z := 4) h4 (by decide)
  omega
theorem toI_eq {o : Option Nat} {i : Nat} (h : ∀ q, o = some q → q < 64) (hi : i < 64) (e : toI o = nI i) : o = some i := by
  cases o with
  | none =>
    have e : (-1 : Int32) = nI i := e
    have h9 : nI i < 0 := by rw [← e]; decide
    exact absurd h9 (nI_pos (by omega))
  | some q =>
    have e : nI q = nI i := e
    have := h q rfl
    rw [(nI_eq (by omega) (by omega)).mp e]
theorem tbl_tot {p : Program} {l : Launch} {e : Env} {R : Room} {s : State} {m : MethodId} {args : Array Value} {below : List Frame} {meth : Method} {c : Code} {H : Heap} {locs : List Loc} {cells slots : Nat} {Q : State → Prop} {cc : ByteArray} {pc : Nat} {ls : Array Slot} {rest : List Value} {x : Int32} {len : Nat} (hexec : p.tables.exec = Jvm.exec) (hb : c.code = cc)
    (hdg : decode cc pc = .ok (.tableswitch 97 0 12 #[67, 72, 97, 97, 97, 97, 97, 97, 97, 77, 82, 87, 92], len)) (hp : pc = 1) (w0 : ¬ x = 0) (w1 : ¬ x = 1) (w9 : ¬ x = 9) (w10 : ¬ x = 10) (w11 : ¬ x = 11) (w12 : ¬ x = 12)
    (k : W p l e R s m args below meth c H locs cells slots Q (F0 m 98 ls rest)) : W p l e R s m args below meth c H locs cells slots Q (F0 m pc ls (.int x :: rest)) := by
  subst hp
  have a0 := ne_int (z := 0) w0 (by decide)
  have a1 := ne_int (z := 1) w1 (by decide)
  have a2 := ne_int (z := 9) w9 (by decide)
  have a3 := ne_int (z := 10) w10 (by decide)
  have a4 := ne_int (z := 11) w11 (by decide)
  have a5 := ne_int (z := 12) w12 (by decide)
  by_cases h : x.toInt < 0 ∨ 12 < x.toInt
  · exact lv_tableOut (tgt := 98) hexec hb hdg h (by decide) k
  · refine lv_tableIn (off := 97) (tgt := 98) hexec hb hdg (by omega) (by omega) ?_ (by decide) k
    have e9 : x.toInt = 2 ∨ x.toInt = 3 ∨ x.toInt = 4 ∨ x.toInt = 5 ∨ x.toInt = 6 ∨ x.toInt = 7 ∨ x.toInt = 8 := by omega
    rcases e9 with q | q | q | q | q | q | q <;> (rw [q]; rfl)
end
section
def rmX1_isLot : Room := { frames := 0, cells := 0, slots := 0, locals := 0 }
set_option maxHeartbeats 4000000 in
set_option maxRecDepth 100000 in
/-- a number of a lot -/
theorem c_X1_isLot (l : Launch) (x : Int32)  : Met l yX1_isLot wsX1_isLot rmX1_isLot (va_Pc [.int x] (fun _ => True)) (RdQ (b2i (decide (0 ≤ x) && decide (x < 64)))) 0 0 No := by
  refine Met.ofW (cc := cX1_isLot) (maxL := 1) (ret := (some .boolean)) (by decide) rfl ?_
  intro p e s m args below meth c s₁ B hml hv
  obtain ⟨rfl, -⟩ := hv
  have hx := B.exec
  have hb := B.bytes
  have hr := B.returns
  have hlocks := B.notSynchronized
  have hts := atoms_spec (ws := wsX1_isLot) B.pre
  have hown : s.vm.findClass RX1 = some m.cls := findClass_of_methodNamed B.named
  have hS : va_S No s.heap s.heap [] := va_S.rf
  have FX : CallFix p m c cX1_isLot 1 s ([.int x] : List Value).toArray wsX1_isLot RX1 := ⟨hx, hb, hml, hown, hts⟩
  have hl := lv_entry ([.int x]) (n := 1) (Nat.le_of_ble_eq_true rfl)
  rw [lg_entry_eq]
  generalize (lg_sl ([.int x]) ++ List.replicate (1 - (lg_sl ([.int x])).length) Slot.unset).toArray = ls at hl ⊢
  have hl : lv_has ls 1 [(0, .int x)] := hl
  refine wq (fun Q hQ => ?_)
  have hzc : 0 + 0 ≤ (headSpec wsX1_isLot rmX1_isLot).room.cells := Nat.zero_le _
  have hzs : 0 + 0 ≤ (headSpec wsX1_isLot rmX1_isLot).room.slots := Nat.zero_le _
  refine lv_iload_n hx hb dX1_isLot_0 rfl (lv_at hl 0 rfl) ?_
  refine lv_if_lt (tgt := 14) hx hb dX1_isLot_1 (by decide) (fun c1 => ?_) (fun c1 => ?_)
  · skip
    refine lv_iconst (v := 0) hx hb dX1_isLot_14 (by decide) ?_
    subst hQ
    exact rd_z (by rw [show decide (0 ≤ x) = false from decide_eq_false (Int32.not_le.mpr c1)]; rfl) hx hb hr (b2i_nar _) hS hlocks dX1_isLot_15
  · skip
    refine lv_iload_n hx hb dX1_isLot_4 rfl (lv_at hl 0 rfl) ?_
    refine lv_bipush (v := 64) hx hb dX1_isLot_5 (by decide) ?_
    refine lv_icmp_ge (tgt := 14) hx hb dX1_isLot_7 (by decide) (fun c2 => ?_) (fun c2 => ?_)
    · skip
      refine lv_iconst (v := 0) hx hb dX1_isLot_14 (by decide) ?_
      subst hQ
      exact rd_z (by rw [show decide (x < 64) = false from decide_eq_false (Int32.not_lt.mpr c2), Bool.and_false]; rfl) hx hb hr (b2i_nar _) hS hlocks dX1_isLot_15
    · skip
      refine lv_iconst (v := 1) hx hb dX1_isLot_10 (by decide) ?_
      refine lv_goto (tgt := 15) hx hb dX1_isLot_11 (by decide) ?_
      subst hQ
      exact rd_z (by rw [show decide (x < 64) = true from decide_eq_true (Int32.not_le.mp c2), show decide (0 ≤ x) = true from decide_eq_true (Int32.not_lt.mp c1)]; rfl) hx hb hr (b2i_nar _) hS hlocks dX1_isLot_15

def rmX1_isLand : Room := { frames := 0, cells := 0, slots := 0, locals := 0 }
set_option maxHeartbeats 4000000 in
set_option maxRecDepth 100000 in
/-- land -/
theorem c_X1_isLand (l : Launch) (x : Int32)  : Met l yX1_isLand wsX1_isLand rmX1_isLand (va_Pc [.int x] (fun _ => True)) (RdQ (b2i (lnd x))) 0 0 No := by
  refine Met.ofW (cc := cX1_isLand) (maxL := 1) (ret := (some .boolean)) (by decide) rfl ?_
  intro p e s m args below meth c s₁ B hml hv
  obtain ⟨rfl, -⟩ := hv
  have hx := B.exec
  have hb := B.bytes
  have hr := B.returns
  have hlocks := B.notSynchronized
  have hts := atoms_spec (ws := wsX1_isLand) B.pre
  have hown : s.vm.findClass RX1 = some m.cls := findClass_of_methodNamed B.named
  have hS : va_S No s.heap s.heap [] := va_S.rf
  have FX : CallFix p m c cX1_isLand 1 s ([.int x] : List Value).toArray wsX1_isLand RX1 := ⟨hx, hb, hml, hown, hts⟩
  have hl := lv_entry ([.int x]) (n := 1) (Nat.le_of_ble_eq_true rfl)
  rw [lg_entry_eq]
  generalize (lg_sl ([.int x]) ++ List.replicate (1 - (lg_sl ([.int x])).length) Slot.unset).toArray = ls at hl ⊢
  have hl : lv_has ls 1 [(0, .int x)] := hl
  refine wq (fun Q hQ => ?_)
  have hzc : 0 + 0 ≤ (headSpec wsX1_isLand rmX1_isLand).room.cells := Nat.zero_le _
  have hzs : 0 + 0 ≤ (headSpec wsX1_isLand rmX1_isLand).room.slots := Nat.zero_le _
  refine lv_iload_n hx hb dX1_isLand_0 rfl (lv_at hl 0 rfl) ?_
  refine lv_iconst (v := 2) hx hb dX1_isLand_1 (by decide) ?_
  refine lv_icmp_lt (tgt := 15) hx hb dX1_isLand_2 (by decide) (fun c1 => ?_) (fun c1 => ?_)
  · skip
    refine lv_iconst (v := 0) hx hb dX1_isLand_15 (by decide) ?_
    subst hQ
    exact rd_z (by unfold lnd; rw [show decide (2 ≤ x) = false from decide_eq_false (Int32.not_le.mpr c1)]; rfl) hx hb hr (b2i_nar _) hS hlocks dX1_isLand_16
  · skip
    refine lv_iload_n hx hb dX1_isLand_5 rfl (lv_at hl 0 rfl) ?_
    refine lv_bipush (v := 6) hx hb dX1_isLand_6 (by decide) ?_
    refine lv_icmp_gt (tgt := 15) hx hb dX1_isLand_8 (by decide) (fun c2 => ?_) (fun c2 => ?_)
    · skip
      refine lv_iconst (v := 0) hx hb dX1_isLand_15 (by decide) ?_
      subst hQ
      exact rd_z (by unfold lnd; rw [show decide (x ≤ 6) = false from decide_eq_false (Int32.not_le.mpr c2), Bool.and_false]; rfl) hx hb hr (b2i_nar _) hS hlocks dX1_isLand_16
    · skip
      refine lv_iconst (v := 1) hx hb dX1_isLand_11 (by decide) ?_
      refine lv_goto (tgt := 16) hx hb dX1_isLand_12 (by decide) ?_
      subst hQ
      exact rd_z (by unfold lnd; rw [show decide (x ≤ 6) = true from decide_eq_true (Int32.not_lt.mp c2), show decide (2 ≤ x) = true from decide_eq_true (Int32.not_lt.mp c1)]; rfl) hx hb hr (b2i_nar _) hS hlocks dX1_isLand_16

def rmX1_isWater : Room := { frames := 0, cells := 0, slots := 0, locals := 0 }
set_option maxHeartbeats 4000000 in
set_option maxRecDepth 100000 in
/-- water -/
theorem c_X1_isWater (l : Launch) (x : Int32)  : Met l yX1_isWater wsX1_isWater rmX1_isWater (va_Pc [.int x] (fun _ => True)) (RdQ (b2i (wtr x))) 0 0 No := by
  refine Met.ofW (cc := cX1_isWater) (maxL := 1) (ret := (some .boolean)) (by decide) rfl ?_
  intro p e s m args below meth c s₁ B hml hv
  obtain ⟨rfl, -⟩ := hv
  have hx := B.exec
  have hb := B.bytes
  have hr := B.returns
  have hlocks := B.notSynchronized
  have hts := atoms_spec (ws := wsX1_isWater) B.pre
  have hown : s.vm.findClass RX1 = some m.cls := findClass_of_methodNamed B.named
  have hS : va_S No s.heap s.heap [] := va_S.rf
  have FX : CallFix p m c cX1_isWater 1 s ([.int x] : List Value).toArray wsX1_isWater RX1 := ⟨hx, hb, hml, hown, hts⟩
  have hl := lv_entry ([.int x]) (n := 1) (Nat.le_of_ble_eq_true rfl)
  rw [lg_entry_eq]
  generalize (lg_sl ([.int x]) ++ List.replicate (1 - (lg_sl ([.int x])).length) Slot.unset).toArray = ls at hl ⊢
  have hl : lv_has ls 1 [(0, .int x)] := hl
  refine wq (fun Q hQ => ?_)
  have hzc : 0 + 0 ≤ (headSpec wsX1_isWater rmX1_isWater).room.cells := Nat.zero_le _
  have hzs : 0 + 0 ≤ (headSpec wsX1_isWater rmX1_isWater).room.slots := Nat.zero_le _
  refine lv_iload_n hx hb dX1_isWater_0 rfl (lv_at hl 0 rfl) ?_
  refine lv_iconst (v := 1) hx hb dX1_isWater_1 (by decide) ?_
  refine lv_icmp_eq (tgt := 11) hx hb dX1_isWater_2 (by decide) (fun c1 => ?_) (fun c1 => ?_)
  · skip
    refine lv_iconst (v := 1) hx hb dX1_isWater_11 (by decide) ?_
    refine lv_goto (tgt := 16) hx hb dX1_isWater_12 (by decide) ?_
    subst hQ
    exact rd_z (by unfold wtr; rw [show decide (x = 1) = true from decide_eq_true c1]; rfl) hx hb hr (b2i_nar _) hS hlocks dX1_isWater_16
  · skip
    refine lv_iload_n hx hb dX1_isWater_5 rfl (lv_at hl 0 rfl) ?_
    refine lv_bipush (v := 6) hx hb dX1_isWater_6 (by decide) ?_
    refine lv_icmp_ne (tgt := 15) hx hb dX1_isWater_8 (by decide) (fun c2 => ?_) (fun c2 => ?_)
    · skip
      refine lv_iconst (v := 0) hx hb dX1_isWater_15 (by decide) ?_
      subst hQ
      exact rd_z (by unfold wtr; rw [show decide (x = 6) = false from decide_eq_false c2, show decide (x = 1) = false from decide_eq_false c1]; rfl) hx hb hr (b2i_nar _) hS hlocks dX1_isWater_16
    · skip
      refine lv_iconst (v := 1) hx hb dX1_isWater_11 (by decide) ?_
      refine lv_goto (tgt := 16) hx hb dX1_isWater_12 (by decide) ?_
      subst hQ
      exact rd_z (by unfold wtr; rw [show decide (x = 6) = true from decide_eq_true c2, Bool.or_true]; rfl) hx hb hr (b2i_nar _) hS hlocks dX1_isWater_16

def rmX1_neighbour : Room := { frames := 0, cells := 0, slots := 0, locals := 0 }
set_option maxHeartbeats 4000000 in
set_option maxRecDepth 100000 in
/-- the neighbour on a side -/
theorem c_X1_neighbour (l : Launch) (pt sd : Nat) (hpt : pt < 64) (hsd : sd < 4) : Met l yX1_neighbour wsX1_neighbour rmX1_neighbour (va_Pc [.int (nI pt), .int (nI sd)] (fun _ => True)) (RdQ (toI (nbC pt sd))) 0 0 No := by
  refine Met.ofW (cc := cX1_neighbour) (maxL := 4) (ret := (some .int)) (by decide) rfl ?_
  intro p e s m args below meth c s₁ B hml hv
  obtain ⟨rfl, -⟩ := hv
  have hx := B.exec
  have hb := B.bytes
  have hr := B.returns
  have hlocks := B.notSynchronized
  have hts := atoms_spec (ws := wsX1_neighbour) B.pre
  have hown : s.vm.findClass RX1 = some m.cls := findClass_of_methodNamed B.named
  have hS : va_S No s.heap s.heap [] := va_S.rf
  have FX : CallFix p m c cX1_neighbour 4 s ([.int (nI pt), .int (nI sd)] : List Value).toArray wsX1_neighbour RX1 := ⟨hx, hb, hml, hown, hts⟩
  have hl := lv_entry ([.int (nI pt), .int (nI sd)]) (n := 4) (Nat.le_of_ble_eq_true rfl)
  rw [lg_entry_eq]
  generalize (lg_sl ([.int (nI pt), .int (nI sd)]) ++ List.replicate (4 - (lg_sl ([.int (nI pt), .int (nI sd)])).length) Slot.unset).toArray = ls at hl ⊢
  have hl : lv_has ls 4 [(0, .int (nI pt)), (1, .int (nI sd))] := hl
  refine wq (fun Q hQ => ?_)
  have hzc : 0 + 0 ≤ (headSpec wsX1_neighbour rmX1_neighbour).room.cells := Nat.zero_le _
  have hzs : 0 + 0 ≤ (headSpec wsX1_neighbour rmX1_neighbour).room.slots := Nat.zero_le _
  refine lv_iload_n hx hb dX1_neighbour_0 rfl (lv_at hl 0 rfl) ?_
  refine lv_bipush (v := 8) hx hb dX1_neighbour_1 (by decide) ?_
  refine lv_irem hx hb dX1_neighbour_3 (by decide) ?_
  refine tpi (x' := nI (pt % 8)) (pk_rem (a := pt) (d := 8) (by omega) (by omega) (by omega)) ?_
  refine lv_istore_n (lv' := [(2, .int (nI (pt % 8))), (0, .int (nI pt)), (1, .int (nI sd))]) hx hb dX1_neighbour_4 rfl hl (by decide) rfl (fun ls hl => ?_)
  refine lv_iload_n hx hb dX1_neighbour_5 rfl (lv_at hl 1 rfl) ?_
  refine lv_bipush (v := 8) hx hb dX1_neighbour_6 (by decide) ?_
  refine lv_idiv hx hb dX1_neighbour_8 (by decide) ?_
  refine tpi (x' := nI (pt / 8)) (pk_div (a := pt) (d := 8) (by omega) (by omega) (by omega)) ?_
  refine lv_istore_n (lv' := [(3, .int (nI (pt / 8))), (2, .int (nI (pt % 8))), (0, .int (nI pt)), (1, .int (nI sd))]) hx hb dX1_neighbour_9 rfl hl (by decide) rfl (fun ls hl => ?_)
  refine lv_iload_n hx hb dX1_neighbour_10 rfl (lv_at hl 3 rfl) ?_
  rcases (show sd = 0 ∨ sd = 1 ∨ sd = 2 ∨ sd = 3 by omega) with rfl | rfl | rfl | rfl
  · skip
    refine lv_tableIn (off := 25) (tgt := 36) hx hb dX1_neighbour_11 (by decide +kernel) (by decide +kernel) (by decide +kernel) (by decide) ?_
    refine lv_iload_n hx hb dX1_neighbour_36 rfl (lv_at hl 0 rfl) ?_
    rcases Nat.eq_zero_or_pos (pt / 8) with g | g
    · skip
      refine lv_if_le (tgt := 47) hx hb dX1_neighbour_37 (by decide) (fun _ => ?_) (fun c => absurd (by rw [g]; decide) c)
      refine lv_iconst (v := (-1)) hx hb dX1_neighbour_47 (by decide) ?_
      subst hQ
      exact rd_i (by simp only [nbC]; rw [if_neg (by omega)]; rfl) hx hb hr hS hlocks dX1_neighbour_48
    · skip
      refine lv_if_le (tgt := 47) hx hb dX1_neighbour_37 (by decide) (fun c => absurd c (nI_nle g (by omega))) (fun _ => ?_)
      refine lv_iload_n hx hb dX1_neighbour_40 rfl (lv_at hl 2 rfl) ?_
      refine lv_bipush (v := 8) hx hb dX1_neighbour_41 (by decide) ?_
      refine lv_isub hx hb dX1_neighbour_43 ?_
      refine lv_goto (tgt := 48) hx hb dX1_neighbour_44 (by decide) ?_
      subst hQ
      exact rd_i (by simp only [nbC]; rw [if_pos (by omega)]; exact pk_sub (b := 8) (by omega)) hx hb hr hS hlocks dX1_neighbour_48
  · skip
    refine lv_tableIn (off := 38) (tgt := 49) hx hb dX1_neighbour_11 (by decide +kernel) (by decide +kernel) (by decide +kernel) (by decide) ?_
    refine lv_iload_n hx hb dX1_neighbour_49 rfl (lv_at hl 1 rfl) ?_
    rcases Nat.eq_zero_or_pos (pt % 8) with g | g
    · skip
      refine lv_if_le (tgt := 59) hx hb dX1_neighbour_50 (by decide) (fun _ => ?_) (fun c => absurd (by rw [g]; decide) c)
      refine lv_iconst (v := (-1)) hx hb dX1_neighbour_59 (by decide) ?_
      subst hQ
      exact rd_i (by simp only [nbC]; rw [if_neg (by omega)]; rfl) hx hb hr hS hlocks dX1_neighbour_60
    · skip
      refine lv_if_le (tgt := 59) hx hb dX1_neighbour_50 (by decide) (fun c => absurd c (nI_nle g (by omega))) (fun _ => ?_)
      refine lv_iload_n hx hb dX1_neighbour_53 rfl (lv_at hl 2 rfl) ?_
      refine lv_iconst (v := 1) hx hb dX1_neighbour_54 (by decide) ?_
      refine lv_isub hx hb dX1_neighbour_55 ?_
      refine lv_goto (tgt := 60) hx hb dX1_neighbour_56 (by decide) ?_
      subst hQ
      exact rd_i (by simp only [nbC]; rw [if_pos (by omega)]; exact pk_sub (b := 1) (by omega)) hx hb hr hS hlocks dX1_neighbour_60
  · skip
    refine lv_tableIn (off := 50) (tgt := 61) hx hb dX1_neighbour_11 (by decide +kernel) (by decide +kernel) (by decide +kernel) (by decide) ?_
    refine lv_iload_n hx hb dX1_neighbour_61 rfl (lv_at hl 1 rfl) ?_
    refine lv_bipush (v := 7) hx hb dX1_neighbour_62 (by decide) ?_
    rcases Nat.lt_or_ge (pt % 8) 7 with g | g
    · skip
      refine lv_icmp_ge (tgt := 73) hx hb dX1_neighbour_64 (by decide) (fun c => absurd c (lt_n (n := 7) g (by decide))) (fun _ => ?_)
      refine lv_iload_n hx hb dX1_neighbour_67 rfl (lv_at hl 2 rfl) ?_
      refine lv_iconst (v := 1) hx hb dX1_neighbour_68 (by decide) ?_
      refine lv_iadd hx hb dX1_neighbour_69 ?_
      refine lv_goto (tgt := 74) hx hb dX1_neighbour_70 (by decide) ?_
      subst hQ
      exact rd_i (by simp only [nbC]; rw [if_pos (by omega)]; exact nI_1 pt) hx hb hr hS hlocks dX1_neighbour_74
    · skip
      refine lv_icmp_ge (tgt := 73) hx hb dX1_neighbour_64 (by decide) (fun _ => ?_) (fun c => absurd (le_n g (by omega)) c)
      refine lv_iconst (v := (-1)) hx hb dX1_neighbour_73 (by decide) ?_
      subst hQ
      exact rd_i (by simp only [nbC]; rw [if_neg (by omega)]; rfl) hx hb hr hS hlocks dX1_neighbour_74
  · skip
    refine lv_tableOut (tgt := 75) hx hb dX1_neighbour_11 (by decide +kernel) (by decide) ?_
    refine lv_iload_n hx hb dX1_neighbour_75 rfl (lv_at hl 0 rfl) ?_
    refine lv_bipush (v := 7) hx hb dX1_neighbour_76 (by decide) ?_
    rcases Nat.lt_or_ge (pt / 8) 7 with g | g
    · skip
      refine lv_icmp_ge (tgt := 88) hx hb dX1_neighbour_78 (by decide) (fun c => absurd c (lt_n (n := 7) g (by decide))) (fun _ => ?_)
      refine lv_iload_n hx hb dX1_neighbour_81 rfl (lv_at hl 2 rfl) ?_
      refine lv_bipush (v := 8) hx hb dX1_neighbour_82 (by decide) ?_
      refine lv_iadd hx hb dX1_neighbour_84 ?_
      refine lv_goto (tgt := 89) hx hb dX1_neighbour_85 (by decide) ?_
      subst hQ
      exact rd_i (by simp only [nbC]; rw [if_pos (by omega)]; exact nI_add pt 8) hx hb hr hS hlocks dX1_neighbour_89
    · skip
      refine lv_icmp_ge (tgt := 88) hx hb dX1_neighbour_78 (by decide) (fun _ => ?_) (fun c => absurd (le_n g (by omega)) c)
      refine lv_iconst (v := (-1)) hx hb dX1_neighbour_88 (by decide) ?_
      subst hQ
      exact rd_i (by simp only [nbC]; rw [if_neg (by omega)]; rfl) hx hb hr hS hlocks dX1_neighbour_89

def rmX1_costOf : Room := { frames := 0, cells := 0, slots := 0, locals := 0 }
set_option maxHeartbeats 4000000 in
set_option maxRecDepth 100000 in
/-- what building costs -/
theorem c_X1_costOf (l : Launch) (x : Int32)  : Met l yX1_costOf wsX1_costOf rmX1_costOf (va_Pc [.int x] (fun _ => True)) (RdQ (cst x)) 0 0 No := by
  refine Met.ofW (cc := cX1_costOf) (maxL := 1) (ret := (some .int)) (by decide) rfl ?_
  intro p e s m args below meth c s₁ B hml hv
  obtain ⟨rfl, -⟩ := hv
  have hx := B.exec
  have hb := B.bytes
  have hr := B.returns
  have hlocks := B.notSynchronized
  have hts := atoms_spec (ws := wsX1_costOf) B.pre
  have hown : s.vm.findClass RX1 = some m.cls := findClass_of_methodNamed B.named
  have hS : va_S No s.heap s.heap [] := va_S.rf
  have FX : CallFix p m c cX1_costOf 1 s ([.int x] : List Value).toArray wsX1_costOf RX1 := ⟨hx, hb, hml, hown, hts⟩
  have hl := lv_entry ([.int x]) (n := 1) (Nat.le_of_ble_eq_true rfl)
  rw [lg_entry_eq]
  generalize (lg_sl ([.int x]) ++ List.replicate (1 - (lg_sl ([.int x])).length) Slot.unset).toArray = ls at hl ⊢
  have hl : lv_has ls 1 [(0, .int x)] := hl
  refine wq (fun Q hQ => ?_)
  have hzc : 0 + 0 ≤ (headSpec wsX1_costOf rmX1_costOf).room.cells := Nat.zero_le _
  have hzs : 0 + 0 ≤ (headSpec wsX1_costOf rmX1_costOf).room.slots := Nat.zero_le _
  refine lv_iload_n hx hb dX1_costOf_0 rfl (lv_at hl 0 rfl) ?_
  rcases (show x = 3 ∨ x = 4 ∨ (x ≠ 3 ∧ x ≠ 4) by by_cases h3 : x = 3; exact Or.inl h3; by_cases h4 : x = 4; exact Or.inr (Or.inl h4); exact Or.inr (Or.inr ⟨h3, h4⟩)) with rfl | rfl | ⟨h3, h4⟩
  · skip
    refine lv_lookup (off := 27) (tgt := 28) hx hb dX1_costOf_1 (by decide) (by decide) (by decide) ?_
    refine lv_iconst (v := 4) hx hb dX1_costOf_28 (by decide) ?_
    subst hQ
    exact rd_i (by decide) hx hb hr hS hlocks dX1_costOf_29
  · skip
    refine lv_lookup (off := 29) (tgt := 30) hx hb dX1_costOf_1 (by decide) (by decide) (by decide) ?_
    refine lv_bipush (v := 6) hx hb dX1_costOf_30 (by decide) ?_
    subst hQ
    exact rd_i (by decide) hx hb hr hS hlocks dX1_costOf_32
  · skip
    refine lv_lookup (off := 32) (tgt := 33) hx hb dX1_costOf_1 (by decide) ((lv_osw h3 (by decide)).trans ((lv_osw h4 (by decide)).trans rfl)) (by decide) ?_
    refine lv_iconst (v := 5) hx hb dX1_costOf_33 (by decide) ?_
    subst hQ
    exact rd_i (by unfold cst; rw [if_neg h3, if_neg h4]) hx hb hr hS hlocks dX1_costOf_34

def rmX0_neighboursOfKind : Room := { frames := 1, cells := 0, slots := 0, locals := 23 }
set_option maxHeartbeats 4000000 in
set_option maxRecDepth 100000 in
/-- how many neighbours are of a kind -/
theorem c_X0_neighboursOfKind (l : Launch) (G : va_G) (cI : ClassId) (a : Nat → Nat) (mo co le : Int32) (K Qa La Ha Ma Ba Ca Da Fa Wa k : Nat → Int32) (pt : Nat) (v : Int32) (hk : eqK K k) (hpt : pt < 64) : Met l yX0_neighboursOfKind wsX0_neighboursOfKind rmX0_neighboursOfKind (va_Pc [.ref (a 0), .int (nI pt), .int v] (RdP G cI [((a 0), oC a mo co le), ((a 3), iA cI K), ((a 4), iA cI Qa), ((a 5), iA cI La), ((a 6), iA cI Ha), ((a 7), iA cI Ma), ((a 8), iA cI Ba), ((a 9), iA cI Ca), ((a 10), iA cI Da), ((a 11), iA cI Fa), ((a 12), iA cI Wa)])) (RdQ (nbk k v pt)) 0 0 No := by
  refine Met.ofW (cc := cX0_neighboursOfKind) (maxL := 6) (ret := (some .int)) (by decide) rfl ?_
  intro p e s m args below meth c s₁ B hml hv
  obtain ⟨rfl, hP, hK, hN⟩ := hv
  have hx := B.exec
  have hb := B.bytes
  have hr := B.returns
  have hlocks := B.notSynchronized
  have hts := atoms_spec (ws := wsX0_neighboursOfKind) B.pre
  have hown : s.vm.findClass RX0 = some m.cls := findClass_of_methodNamed B.named
  have hS : va_S No s.heap s.heap [] := va_S.rf
  have FX : CallFix p m c cX0_neighboursOfKind 6 s ([.ref (a 0), .int (nI pt), .int v] : List Value).toArray wsX0_neighboursOfKind RX0 := ⟨hx, hb, hml, hown, hts⟩
  have hl := lv_entry ([.ref (a 0), .int (nI pt), .int v]) (n := 6) (Nat.le_of_ble_eq_true rfl)
  rw [lg_entry_eq]
  generalize (lg_sl ([.ref (a 0), .int (nI pt), .int v]) ++ List.replicate (6 - (lg_sl ([.ref (a 0), .int (nI pt), .int v])).length) Slot.unset).toArray = ls at hl ⊢
  have hl : lv_has ls 6 [(0, .ref (a 0)), (1, .int (nI pt)), (2, .int v)] := hl
  refine wq (fun Q hQ => ?_)
  have hzc : 0 + 0 ≤ (headSpec wsX0_neighboursOfKind rmX0_neighboursOfKind).room.cells := Nat.zero_le _
  have hzs : 0 + 0 ≤ (headSpec wsX0_neighboursOfKind rmX0_neighboursOfKind).room.slots := Nat.zero_le _
  have hf21 := hts (.fieldLink RX0 21 "CanalCity$City" "kinds" "[I") (by decide +kernel)
  have hinX0 : ∀ w ∈ u_ws RX0 TX0 13, w ∈ wsX0_neighboursOfKind := by decide +kernel
  have hiniX1 := hts (.initialized RX1) (by decide +kernel)
  have hstX1_isLot := hts (.static yX1_isLot) (by decide +kernel)
  have hstX1_neighbour := hts (.static yX1_neighbour) (by decide +kernel)
  refine lv_iconst (v := 0) hx hb dX0_neighboursOfKind_0 (by decide) ?_
  refine lv_istore_n (lv' := [(3, .int 0), (0, .ref (a 0)), (1, .int (nI pt)), (2, .int v)]) hx hb dX0_neighboursOfKind_1 rfl hl (by decide) rfl (fun ls hl => ?_)
  refine lv_iconst (v := 0) hx hb dX0_neighboursOfKind_2 (by decide) ?_
  refine lv_istore (lv' := [(4, .int 0), (3, .int 0), (0, .ref (a 0)), (1, .int (nI pt)), (2, .int v)]) hx hb dX0_neighboursOfKind_3 hl (by decide) rfl (fun ls hl => ?_)
  have lp : ∀ (n : Nat) (sd : Nat), (hsd : sd ≤ 4) → (4 - sd) < n → ∀ (H : Heap) (locs : List Loc) (ls : Array Slot), va_P G vwCl [((a 0), oC a mo co le), ((a 3), iA cI K), ((a 4), iA cI Qa), ((a 5), iA cI La), ((a 6), iA cI Ha), ((a 7), iA cI Ma), ((a 8), iA cI Ba), ((a 9), iA cI Ca), ((a 10), iA cI Da), ((a 11), iA cI Fa), ((a 12), iA cI Wa)] H → va_S No s.heap H locs → lv_has ls 6 [(0, .ref (a 0)), (1, .int (nI pt)), (2, .int v), (3, .int (nbS nbC k v pt sd)), (4, .int (nI sd))] → W p l e (headSpec wsX0_neighboursOfKind rmX0_neighboursOfKind).room s m ([.ref (a 0), .int (nI pt), .int v] : List Value).toArray below meth c H locs 0 0 Q (F0 m 5 ls []) := by
    intro n
    induction n with
    | zero => intro sd hsd hn; exact absurd hn (by omega)
    | succ n ih_lp =>
      intro sd hsd hn H locs ls hP hS hl
      refine lv_iload hx hb dX0_neighboursOfKind_5 (lv_at hl 4 rfl) ?_
      refine lv_iconst (v := 4) hx hb dX0_neighboursOfKind_7 (by decide) ?_
      rcases Nat.lt_or_ge sd 4 with g | g
      · skip
        refine lv_icmp_ge (tgt := 47) hx hb dX0_neighboursOfKind_8 (by decide) (fun c => absurd c (lt_n (n := 4) g (by decide))) (fun _ => ?_)
        refine lv_iload_n hx hb dX0_neighboursOfKind_11 rfl (lv_at hl 1 rfl) ?_
        refine lv_iload hx hb dX0_neighboursOfKind_12 (lv_at hl 4 rfl) ?_
        refine cr_i (va_runSN (As := [.int (nI pt), .int (nI sd)]) (rest := []) FX (c_X1_neighbour l pt sd hpt g) ⟨va_cnB 2 hts gX0_neighboursOfKind_X1_neighbour_n104 rfl rfl rfl (NW_at hN 6 rfl) hiniX1 (by decide +kernel) ⟨Nat.le_of_ble_eq_true rfl, Nat.le_of_ble_eq_true rfl⟩, hstX1_neighbour, trivial⟩ puS rfl rfl hl.1 rfl (lv_room (Nat.le_of_ble_eq_true rfl)) dX0_neighboursOfKind_14 ⟨hzc, hzs⟩) hS hP (fun H locs hP hS => ?_)
        rcases hn : nbC pt sd with _ | q
        · skip
          refine tpi (x' := -1) (rfl) ?_
          refine lv_istore (lv' := [(5, .int (-1)), (0, .ref (a 0)), (1, .int (nI pt)), (2, .int v), (3, .int (nbS nbC k v pt sd)), (4, .int (nI sd))]) hx hb dX0_neighboursOfKind_17 hl (by decide) rfl (fun ls hl => ?_)
          refine lv_iload hx hb dX0_neighboursOfKind_19 (lv_at hl 0 rfl) ?_
          refine cr_i (va_runSN (As := [.int (-1)]) (rest := []) FX (c_X1_isLot l (-1)) ⟨va_cnB 1 hts gX0_neighboursOfKind_X1_isLot_n73 rfl rfl rfl (NW_at hN 3 rfl) hiniX1 (by decide +kernel) ⟨Nat.le_of_ble_eq_true rfl, Nat.le_of_ble_eq_true rfl⟩, hstX1_isLot, trivial⟩ puS rfl rfl hl.1 rfl (lv_room (Nat.le_of_ble_eq_true rfl)) dX0_neighboursOfKind_21 ⟨hzc, hzs⟩) hS hP (fun H locs hP hS => ?_)
          refine tpi (x' := 0) (by decide) ?_
          refine lv_if_eq (tgt := 41) hx hb dX0_neighboursOfKind_24 (by decide) (fun _ => ?_) (fun c => absurd (rfl) c)
          refine lv_iinc (v := nI (sd + 1)) (lv' := [(4, .int (nI (sd + 1))), (5, .int (-1)), (0, .ref (a 0)), (1, .int (nI pt)), (2, .int v), (3, .int (nbS nbC k v pt sd))]) hx hb dX0_neighboursOfKind_41 hl (k := 5) rfl (nI_inc sd) (by decide) rfl (fun ls hl => ?_)
          refine lv_goto (tgt := 5) hx hb dX0_neighboursOfKind_44 (by decide) ?_
          exact ih_lp (sd + 1) (by omega) (by omega) _ _ _ hP hS (lv_sub hl [2, 3, 4, 5, 0] (by rw [show nbS nbC k v pt (sd + 1) = nbS nbC k v pt sd from by show nbS nbC k v pt sd + tel k v (nbC pt sd) = _; rw [hn]; exact Int32.add_zero _]; rfl))
        · skip
          have hq : q < 64 := nbC_lt hpt hn
          refine tpi (x' := nI q) (rfl) ?_
          refine lv_istore (lv' := [(5, .int (nI q)), (0, .ref (a 0)), (1, .int (nI pt)), (2, .int v), (3, .int (nbS nbC k v pt sd)), (4, .int (nI sd))]) hx hb dX0_neighboursOfKind_17 hl (by decide) rfl (fun ls hl => ?_)
          refine lv_iload hx hb dX0_neighboursOfKind_19 (lv_at hl 0 rfl) ?_
          refine cr_i (va_runSN (As := [.int (nI q)]) (rest := []) FX (c_X1_isLot l (nI q)) ⟨va_cnB 1 hts gX0_neighboursOfKind_X1_isLot_n73 rfl rfl rfl (NW_at hN 3 rfl) hiniX1 (by decide +kernel) ⟨Nat.le_of_ble_eq_true rfl, Nat.le_of_ble_eq_true rfl⟩, hstX1_isLot, trivial⟩ puS rfl rfl hl.1 rfl (lv_room (Nat.le_of_ble_eq_true rfl)) dX0_neighboursOfKind_21 ⟨hzc, hzs⟩) hS hP (fun H locs hP hS => ?_)
          refine tpi (x' := 1) (isLot_1 hq) ?_
          refine lv_if_eq (tgt := 41) hx hb dX0_neighboursOfKind_24 (by decide) (fun c => absurd c (by decide)) (fun _ => ?_)
          refine lv_aload_n hx hb dX0_neighboursOfKind_27 rfl (lv_at hl 1 rfl) ?_
          refine va_get (D := G) (ci := 0) (v := .ref (a 3)) (C := RX0) (T := TX0) (N := 13) hx hb hts hinX0 hown hK hP 0 rfl rfl 3 (by decide) hf21 (fun _ h9 => h9) rfl dX0_neighboursOfKind_28 ?_
          refine lv_iload hx hb dX0_neighboursOfKind_31 (lv_at hl 0 rfl) ?_
          refine va_iald hx hb hK hP 1 0 rfl rfl (vp_in_nI hq (by decide)) dX0_neighboursOfKind_33 ?_
          refine tpi (x' := K q) (congrArg K (nI_clamp (by omega))) ?_
          refine tpi (x' := k q) (hk q hq) ?_
          refine lv_iload_n hx hb dX0_neighboursOfKind_34 rfl (lv_at hl 3 rfl) ?_
          refine lv_icmp_ne (tgt := 41) hx hb dX0_neighboursOfKind_35 (by decide) (fun c9 => ?_) (fun c9 => ?_)
          · skip
            refine lv_iinc (v := nI (sd + 1)) (lv' := [(4, .int (nI (sd + 1))), (5, .int (nI q)), (0, .ref (a 0)), (1, .int (nI pt)), (2, .int v), (3, .int (nbS nbC k v pt sd))]) hx hb dX0_neighboursOfKind_41 hl (k := 5) rfl (nI_inc sd) (by decide) rfl (fun ls hl => ?_)
            refine lv_goto (tgt := 5) hx hb dX0_neighboursOfKind_44 (by decide) ?_
            exact ih_lp (sd + 1) (by omega) (by omega) _ _ _ hP hS (lv_sub hl [2, 3, 4, 5, 0] (by rw [show nbS nbC k v pt (sd + 1) = nbS nbC k v pt sd from by show nbS nbC k v pt sd + tel k v (nbC pt sd) = _; rw [hn]; show nbS nbC k v pt sd + (if k q = v then 1 else 0) = _; rw [if_neg c9]; exact Int32.add_zero _]; rfl))
          · skip
            refine lv_iinc (v := nbS nbC k v pt sd + 1) (lv' := [(3, .int (nbS nbC k v pt sd + 1)), (5, .int (nI q)), (0, .ref (a 0)), (1, .int (nI pt)), (2, .int v), (4, .int (nI sd))]) hx hb dX0_neighboursOfKind_38 hl (k := 4) rfl (inc1 _) (by decide) rfl (fun ls hl => ?_)
            refine lv_iinc (v := nI (sd + 1)) (lv' := [(4, .int (nI (sd + 1))), (3, .int (nbS nbC k v pt sd + 1)), (5, .int (nI q)), (0, .ref (a 0)), (1, .int (nI pt)), (2, .int v)]) hx hb dX0_neighboursOfKind_41 hl (k := 5) rfl (nI_inc sd) (by decide) rfl (fun ls hl => ?_)
            refine lv_goto (tgt := 5) hx hb dX0_neighboursOfKind_44 (by decide) ?_
            exact ih_lp (sd + 1) (by omega) (by omega) _ _ _ hP hS (lv_sub hl [3, 4, 5, 1, 0] (by rw [show nbS nbC k v pt (sd + 1) = nbS nbC k v pt sd + 1 from by show nbS nbC k v pt sd + tel k v (nbC pt sd) = _; rw [hn]; show nbS nbC k v pt sd + (if k q = v then 1 else 0) = _; rw [if_pos c9]]; rfl))
      · skip
        have g : sd = 4 := by omega
        subst g
        refine lv_icmp_ge (tgt := 47) hx hb dX0_neighboursOfKind_8 (by decide) (fun _ => ?_) (fun c => absurd (le_n (n := 4) (i := 4) (by decide) (by decide)) c)
        refine lv_iload_n hx hb dX0_neighboursOfKind_47 rfl (lv_at hl 3 rfl) ?_
        subst hQ
        exact rd_i (rfl) hx hb hr hS hlocks dX0_neighboursOfKind_48
  exact lp (_ + 1) 0 (by omega) (Nat.lt_succ_self _) _ _ _ hP hS (lv_sub hl [2, 3, 4, 1, 0] rfl)

def rmX0_isOpenWater : Room := { frames := 0, cells := 0, slots := 0, locals := 0 }
set_option maxHeartbeats 4000000 in
set_option maxRecDepth 100000 in
/-- open water -/
theorem c_X0_isOpenWater (l : Launch) (G : va_G) (cI : ClassId) (a : Nat → Nat) (mo co le : Int32) (K Qa La Ha Ma Ba Ca Da Fa Wa k : Nat → Int32) (pt : Nat) (hBa : hatB k Ba) (hpt : pt < 64) : Met l yX0_isOpenWater wsX0_isOpenWater rmX0_isOpenWater (va_Pc [.ref (a 0), .int (nI pt)] (RdP G cI [((a 0), oC a mo co le), ((a 3), iA cI K), ((a 4), iA cI Qa), ((a 5), iA cI La), ((a 6), iA cI Ha), ((a 7), iA cI Ma), ((a 8), iA cI Ba), ((a 9), iA cI Ca), ((a 10), iA cI Da), ((a 11), iA cI Fa), ((a 12), iA cI Wa)])) (RdQ (b2i (opn k pt))) 0 0 No := by
  refine Met.ofW (cc := cX0_isOpenWater) (maxL := 2) (ret := (some .boolean)) (by decide) rfl ?_
  intro p e s m args below meth c s₁ B hml hv
  obtain ⟨rfl, hP, hK, hN⟩ := hv
  have hx := B.exec
  have hb := B.bytes
  have hr := B.returns
  have hlocks := B.notSynchronized
  have hts := atoms_spec (ws := wsX0_isOpenWater) B.pre
  have hown : s.vm.findClass RX0 = some m.cls := findClass_of_methodNamed B.named
  have hS : va_S No s.heap s.heap [] := va_S.rf
  have FX : CallFix p m c cX0_isOpenWater 2 s ([.ref (a 0), .int (nI pt)] : List Value).toArray wsX0_isOpenWater RX0 := ⟨hx, hb, hml, hown, hts⟩
  have hl := lv_entry ([.ref (a 0), .int (nI pt)]) (n := 2) (Nat.le_of_ble_eq_true rfl)
  rw [lg_entry_eq]
  generalize (lg_sl ([.ref (a 0), .int (nI pt)]) ++ List.replicate (2 - (lg_sl ([.ref (a 0), .int (nI pt)])).length) Slot.unset).toArray = ls at hl ⊢
  have hl : lv_has ls 2 [(0, .ref (a 0)), (1, .int (nI pt))] := hl
  refine wq (fun Q hQ => ?_)
  have hzc : 0 + 0 ≤ (headSpec wsX0_isOpenWater rmX0_isOpenWater).room.cells := Nat.zero_le _
  have hzs : 0 + 0 ≤ (headSpec wsX0_isOpenWater rmX0_isOpenWater).room.slots := Nat.zero_le _
  have hf37 := hts (.fieldLink RX0 37 "CanalCity$City" "boatSteps" "[I") (by decide +kernel)
  have hinX0 : ∀ w ∈ u_ws RX0 TX0 13, w ∈ wsX0_isOpenWater := by decide +kernel
  refine lv_aload_n hx hb dX0_isOpenWater_0 rfl (lv_at hl 0 rfl) ?_
  refine va_get (D := G) (ci := 0) (v := .ref (a 8)) (C := RX0) (T := TX0) (N := 13) hx hb hts hinX0 hown hK hP 0 rfl rfl 8 (by decide) hf37 (fun _ h9 => h9) rfl dX0_isOpenWater_1 ?_
  refine lv_iload_n hx hb dX0_isOpenWater_4 rfl (lv_at hl 1 rfl) ?_
  refine va_iald hx hb hK hP 6 0 rfl rfl (vp_in_nI hpt (by decide)) dX0_isOpenWater_5 ?_
  refine tpi (x' := Ba pt) (congrArg Ba (nI_clamp (by omega))) ?_
  refine tpi (x' := toI (dst (PB false k) 3 pt)) (hBa pt hpt) ?_
  rcases hd : dst (PB false k) 3 pt with _ | d
  · skip
    refine lv_if_lt (tgt := 13) hx hb dX0_isOpenWater_6 (by decide) (fun _ => ?_) (fun c => absurd (by decide) c)
    refine lv_iconst (v := 0) hx hb dX0_isOpenWater_13 (by decide) ?_
    subst hQ
    exact rd_z (by unfold opn; rw [hd]; rfl) hx hb hr (b2i_nar _) hS hlocks dX0_isOpenWater_14
  · skip
    have hd64 := dst_lt (by decide) hd
    refine lv_if_lt (tgt := 13) hx hb dX0_isOpenWater_6 (by decide) (fun c => absurd c (nI_pos (n := d) (by omega))) (fun _ => ?_)
    refine lv_iconst (v := 1) hx hb dX0_isOpenWater_9 (by decide) ?_
    refine lv_goto (tgt := 14) hx hb dX0_isOpenWater_10 (by decide) ?_
    subst hQ
    exact rd_z (by unfold opn; rw [hd]; rfl) hx hb hr (b2i_nar _) hS hlocks dX0_isOpenWater_14
end
section
def rmX0_isByBoat : Room := { frames := 1, cells := 0, slots := 0, locals := 23 }
set_option maxHeartbeats 4000000 in
set_option maxRecDepth 100000 in
/-- by boat -/
theorem c_X0_isByBoat (l : Launch) (G : va_G) (cI : ClassId) (a : Nat → Nat) (mo co le : Int32) (K Qa La Ha Ma Ba Ca Da Fa Wa k : Nat → Int32) (pt : Nat) (hk : eqK K k) (hBa : hatB k Ba) (hpt : pt < 64) : Met l yX0_isByBoat wsX0_isByBoat rmX0_isByBoat (va_Pc [.ref (a 0), .int (nI pt)] (RdP G cI [((a 0), oC a mo co le), ((a 3), iA cI K), ((a 4), iA cI Qa), ((a 5), iA cI La), ((a 6), iA cI Ha), ((a 7), iA cI Ma), ((a 8), iA cI Ba), ((a 9), iA cI Ca), ((a 10), iA cI Da), ((a 11), iA cI Fa), ((a 12), iA cI Wa)])) (RdQ (b2i (byB k pt))) 0 0 No := by
  refine Met.ofW (cc := cX0_isByBoat) (maxL := 5) (ret := (some .boolean)) (by decide) rfl ?_
  intro p e s m args below meth c s₁ B hml hv
  obtain ⟨rfl, hP, hK, hN⟩ := hv
  have hx := B.exec
  have hb := B.bytes
  have hr := B.returns
  have hlocks := B.notSynchronized
  have hts := atoms_spec (ws := wsX0_isByBoat) B.pre
  have hown : s.vm.findClass RX0 = some m.cls := findClass_of_methodNamed B.named
  have hS : va_S No s.heap s.heap [] := va_S.rf
  have FX : CallFix p m c cX0_isByBoat 5 s ([.ref (a 0), .int (nI pt)] : List Value).toArray wsX0_isByBoat RX0 := ⟨hx, hb, hml, hown, hts⟩
  have hl := lv_entry ([.ref (a 0), .int (nI pt)]) (n := 5) (Nat.le_of_ble_eq_true rfl)
  rw [lg_entry_eq]
  generalize (lg_sl ([.ref (a 0), .int (nI pt)]) ++ List.replicate (5 - (lg_sl ([.ref (a 0), .int (nI pt)])).length) Slot.unset).toArray = ls at hl ⊢
  have hl : lv_has ls 5 [(0, .ref (a 0)), (1, .int (nI pt))] := hl
  refine wq (fun Q hQ => ?_)
  have hzc : 0 + 0 ≤ (headSpec wsX0_isByBoat rmX0_isByBoat).room.cells := Nat.zero_le _
  have hzs : 0 + 0 ≤ (headSpec wsX0_isByBoat rmX0_isByBoat).room.slots := Nat.zero_le _
  have hf21 := hts (.fieldLink RX0 21 "CanalCity$City" "kinds" "[I") (by decide +kernel)
  have hinX0 : ∀ w ∈ u_ws RX0 TX0 13, w ∈ wsX0_isByBoat := by decide +kernel
  have hiniX1 := hts (.initialized RX1) (by decide +kernel)
  have hstX1_isLand := hts (.static yX1_isLand) (by decide +kernel)
  have hstX1_isLot := hts (.static yX1_isLot) (by decide +kernel)
  have hstX1_neighbour := hts (.static yX1_neighbour) (by decide +kernel)
  refine lv_aload_n hx hb dX0_isByBoat_0 rfl (lv_at hl 0 rfl) ?_
  refine va_get (D := G) (ci := 0) (v := .ref (a 3)) (C := RX0) (T := TX0) (N := 13) hx hb hts hinX0 hown hK hP 0 rfl rfl 3 (by decide) hf21 (fun _ h9 => h9) rfl dX0_isByBoat_1 ?_
  refine lv_iload_n hx hb dX0_isByBoat_4 rfl (lv_at hl 1 rfl) ?_
  refine va_iald hx hb hK hP 1 0 rfl rfl (vp_in_nI hpt (by decide)) dX0_isByBoat_5 ?_
  refine tpi (x' := K pt) (congrArg K (nI_clamp (by omega))) ?_
  refine tpi (x' := k pt) (hk pt hpt) ?_
  refine lv_istore_n (lv' := [(2, .int (k pt)), (0, .ref (a 0)), (1, .int (nI pt))]) hx hb dX0_isByBoat_6 rfl hl (by decide) rfl (fun ls hl => ?_)
  refine lv_iload_n hx hb dX0_isByBoat_7 rfl (lv_at hl 0 rfl) ?_
  refine cr_i (va_runSN (As := [.int (k pt)]) (rest := []) FX (c_X1_isLand l (k pt)) ⟨va_cnB 1 hts gX0_isByBoat_X1_isLand_n98 rfl rfl rfl (NW_at hN 5 rfl) hiniX1 (by decide +kernel) ⟨Nat.le_of_ble_eq_true rfl, Nat.le_of_ble_eq_true rfl⟩, hstX1_isLand, trivial⟩ puS rfl rfl hl.1 rfl (lv_room (Nat.le_of_ble_eq_true rfl)) dX0_isByBoat_8 ⟨hzc, hzs⟩) hS hP (fun H locs hP hS => ?_)
  rcases hln : lnd (k pt) with _ | _
  · skip
    refine tpi (x' := 0) (rfl) ?_
    refine lv_if_eq (tgt := 20) hx hb dX0_isByBoat_11 (by decide) (fun _ => ?_) (fun c => absurd (rfl) c)
    refine lv_iconst (v := 0) hx hb dX0_isByBoat_20 (by decide) ?_
    subst hQ
    exact rd_z (by unfold byB; rw [hln]; rfl) hx hb hr (b2i_nar _) hS hlocks dX0_isByBoat_21
  · skip
    refine tpi (x' := 1) (rfl) ?_
    refine lv_if_eq (tgt := 20) hx hb dX0_isByBoat_11 (by decide) (fun c => absurd c (by decide)) (fun _ => ?_)
    refine lv_iload_n hx hb dX0_isByBoat_14 rfl (lv_at hl 0 rfl) ?_
    refine lv_bipush (v := 6) hx hb dX0_isByBoat_15 (by decide) ?_
    refine lv_icmp_ne (tgt := 22) hx hb dX0_isByBoat_17 (by decide) (fun c6 => ?_) (fun c6 => ?_)
    · skip
      refine lv_iconst (v := 0) hx hb dX0_isByBoat_22 (by decide) ?_
      refine lv_istore_n (lv' := [(3, .int 0), (2, .int (k pt)), (0, .ref (a 0)), (1, .int (nI pt))]) hx hb dX0_isByBoat_23 rfl hl (by decide) rfl (fun ls hl => ?_)
      have lp : ∀ (n : Nat) (sd : Nat), (hsd : sd ≤ 4) → (hno : ∀ s, s < sd → opo k (nbC pt s) = false) → (4 - sd) < n → ∀ (H : Heap) (locs : List Loc) (ls : Array Slot), va_P G vwCl [((a 0), oC a mo co le), ((a 3), iA cI K), ((a 4), iA cI Qa), ((a 5), iA cI La), ((a 6), iA cI Ha), ((a 7), iA cI Ma), ((a 8), iA cI Ba), ((a 9), iA cI Ca), ((a 10), iA cI Da), ((a 11), iA cI Fa), ((a 12), iA cI Wa)] H → va_S No s.heap H locs → lv_has ls 5 [(0, .ref (a 0)), (1, .int (nI pt)), (2, .int (k pt)), (3, .int (nI sd))] → W p l e (headSpec wsX0_isByBoat rmX0_isByBoat).room s m ([.ref (a 0), .int (nI pt)] : List Value).toArray below meth c H locs 0 0 Q (F0 m 24 ls []) := by
        intro n
        induction n with
        | zero => intro sd hsd hno hn; exact absurd hn (by omega)
        | succ n ih_lp =>
          intro sd hsd hno hn H locs ls hP hS hl
          refine lv_iload_n hx hb dX0_isByBoat_24 rfl (lv_at hl 3 rfl) ?_
          refine lv_iconst (v := 4) hx hb dX0_isByBoat_25 (by decide) ?_
          rcases Nat.lt_or_ge sd 4 with g | g
          · skip
            refine lv_icmp_ge (tgt := 61) hx hb dX0_isByBoat_26 (by decide) (fun c => absurd c (lt_n (n := 4) g (by decide))) (fun _ => ?_)
            refine lv_iload_n hx hb dX0_isByBoat_29 rfl (lv_at hl 1 rfl) ?_
            refine lv_iload_n hx hb dX0_isByBoat_30 rfl (lv_at hl 3 rfl) ?_
            refine cr_i (va_runSN (As := [.int (nI pt), .int (nI sd)]) (rest := []) FX (c_X1_neighbour l pt sd hpt g) ⟨va_cnB 2 hts gX0_isByBoat_X1_neighbour_n104 rfl rfl rfl (NW_at hN 6 rfl) hiniX1 (by decide +kernel) ⟨Nat.le_of_ble_eq_true rfl, Nat.le_of_ble_eq_true rfl⟩, hstX1_neighbour, trivial⟩ puS rfl rfl hl.1 rfl (lv_room (Nat.le_of_ble_eq_true rfl)) dX0_isByBoat_31 ⟨hzc, hzs⟩) hS hP (fun H locs hP hS => ?_)
            rcases hn : nbC pt sd with _ | q
            · skip
              refine tpi (x' := -1) (rfl) ?_
              refine lv_istore (lv' := [(4, .int (-1)), (0, .ref (a 0)), (1, .int (nI pt)), (2, .int (k pt)), (3, .int (nI sd))]) hx hb dX0_isByBoat_34 hl (by decide) rfl (fun ls hl => ?_)
              refine lv_iload hx hb dX0_isByBoat_36 (lv_at hl 0 rfl) ?_
              refine cr_i (va_runSN (As := [.int (-1)]) (rest := []) FX (c_X1_isLot l (-1)) ⟨va_cnB 1 hts gX0_isByBoat_X1_isLot_n73 rfl rfl rfl (NW_at hN 3 rfl) hiniX1 (by decide +kernel) ⟨Nat.le_of_ble_eq_true rfl, Nat.le_of_ble_eq_true rfl⟩, hstX1_isLot, trivial⟩ puS rfl rfl hl.1 rfl (lv_room (Nat.le_of_ble_eq_true rfl)) dX0_isByBoat_38 ⟨hzc, hzs⟩) hS hP (fun H locs hP hS => ?_)
              refine tpi (x' := 0) (by decide) ?_
              refine lv_if_eq (tgt := 55) hx hb dX0_isByBoat_41 (by decide) (fun _ => ?_) (fun c => absurd (rfl) c)
              refine lv_iinc (v := nI (sd + 1)) (lv' := [(3, .int (nI (sd + 1))), (4, .int (-1)), (0, .ref (a 0)), (1, .int (nI pt)), (2, .int (k pt))]) hx hb dX0_isByBoat_55 hl (k := 4) rfl (nI_inc sd) (by decide) rfl (fun ls hl => ?_)
              refine lv_goto (tgt := 24) hx hb dX0_isByBoat_58 (by decide) ?_
              exact ih_lp (sd + 1) (by omega) (fun s hs => by rcases Nat.lt_or_ge s sd with g1 | g1; exact hno s g1; rw [show s = sd by omega, hn]; rfl) (by omega) _ _ _ hP hS (lv_sub hl [2, 3, 4, 0] (rfl))
            · skip
              have hq : q < 64 := nbC_lt hpt hn
              refine tpi (x' := nI q) (rfl) ?_
              refine lv_istore (lv' := [(4, .int (nI q)), (0, .ref (a 0)), (1, .int (nI pt)), (2, .int (k pt)), (3, .int (nI sd))]) hx hb dX0_isByBoat_34 hl (by decide) rfl (fun ls hl => ?_)
              refine lv_iload hx hb dX0_isByBoat_36 (lv_at hl 0 rfl) ?_
              refine cr_i (va_runSN (As := [.int (nI q)]) (rest := []) FX (c_X1_isLot l (nI q)) ⟨va_cnB 1 hts gX0_isByBoat_X1_isLot_n73 rfl rfl rfl (NW_at hN 3 rfl) hiniX1 (by decide +kernel) ⟨Nat.le_of_ble_eq_true rfl, Nat.le_of_ble_eq_true rfl⟩, hstX1_isLot, trivial⟩ puS rfl rfl hl.1 rfl (lv_room (Nat.le_of_ble_eq_true rfl)) dX0_isByBoat_38 ⟨hzc, hzs⟩) hS hP (fun H locs hP hS => ?_)
              refine tpi (x' := 1) (isLot_1 hq) ?_
              refine lv_if_eq (tgt := 55) hx hb dX0_isByBoat_41 (by decide) (fun c => absurd c (by decide)) (fun _ => ?_)
              refine lv_aload_n hx hb dX0_isByBoat_44 rfl (lv_at hl 1 rfl) ?_
              refine lv_iload hx hb dX0_isByBoat_45 (lv_at hl 0 rfl) ?_
              refine cr_i (va_runV (As := [.int (nI q)]) (rest := []) FX (c_X0_isOpenWater l G cI a mo co le K Qa La Ha Ma Ba Ca Da Fa Wa k q hBa hq) (cwV 1 hts gX0_isByBoat_X0_isOpenWater rfl rfl rfl (by decide +kernel) ⟨Nat.le_of_ble_eq_true rfl, Nat.le_of_ble_eq_true rfl⟩) (rdV hK hP hN [0, 1, 2, 3, 4, 5, 6, 7, 8, 9, 10] rfl (ci := 0) (q0 := 0) rfl rfl) rfl rfl hl.1 rfl (lv_room (Nat.le_of_ble_eq_true rfl)) dX0_isByBoat_47 ⟨hzc, hzs⟩) hS hP (fun H locs hP hS => ?_)
              rcases ho : opn k q with _ | _
              · skip
                refine tpi (x' := 0) (rfl) ?_
                refine lv_if_eq (tgt := 55) hx hb dX0_isByBoat_50 (by decide) (fun _ => ?_) (fun c => absurd (rfl) c)
                refine lv_iinc (v := nI (sd + 1)) (lv' := [(3, .int (nI (sd + 1))), (4, .int (nI q)), (0, .ref (a 0)), (1, .int (nI pt)), (2, .int (k pt))]) hx hb dX0_isByBoat_55 hl (k := 4) rfl (nI_inc sd) (by decide) rfl (fun ls hl => ?_)
                refine lv_goto (tgt := 24) hx hb dX0_isByBoat_58 (by decide) ?_
                exact ih_lp (sd + 1) (by omega) (fun s hs => by rcases Nat.lt_or_ge s sd with g1 | g1; exact hno s g1; rw [show s = sd by omega, hn]; exact ho) (by omega) _ _ _ hP hS (lv_sub hl [2, 3, 4, 0] (rfl))
              · skip
                refine tpi (x' := 1) (rfl) ?_
                refine lv_if_eq (tgt := 55) hx hb dX0_isByBoat_50 (by decide) (fun c => absurd c (by decide)) (fun _ => ?_)
                refine lv_iconst (v := 1) hx hb dX0_isByBoat_53 (by decide) ?_
                subst hQ
                exact rd_z (by unfold byB; rw [hln, decide_eq_false c6, opo4 g (by rw [hn]; exact ho)]; rfl) hx hb hr (b2i_nar _) hS hlocks dX0_isByBoat_54
          · skip
            have g : sd = 4 := by omega
            subst g
            refine lv_icmp_ge (tgt := 61) hx hb dX0_isByBoat_26 (by decide) (fun _ => ?_) (fun c => absurd (le_n (n := 4) (i := 4) (by decide) (by decide)) c)
            refine lv_iconst (v := 0) hx hb dX0_isByBoat_61 (by decide) ?_
            subst hQ
            exact rd_z (by unfold byB; rw [hno 0 (by decide), hno 1 (by decide), hno 2 (by decide), hno 3 (by decide)]; cases (lnd (k pt) && !decide (k pt = 6)) <;> rfl) hx hb hr (b2i_nar _) hS hlocks dX0_isByBoat_62
      exact lp (_ + 1) 0 (by omega) (fun s hs => absurd hs (Nat.not_lt_zero _)) (Nat.lt_succ_self _) _ _ _ hP hS (lv_sub hl [2, 3, 1, 0] rfl)
    · skip
      refine lv_iconst (v := 0) hx hb dX0_isByBoat_20 (by decide) ?_
      subst hQ
      exact rd_z (by unfold byB; rw [show decide (k pt = 6) = true from decide_eq_true c6, hln]; rfl) hx hb hr (b2i_nar _) hS hlocks dX0_isByBoat_21

def rmX0_lotsOfQuarter : Room := { frames := 1, cells := 0, slots := 0, locals := 20 }
set_option maxHeartbeats 4000000 in
set_option maxRecDepth 100000 in
/-- lots of a quarter -/
theorem c_X0_lotsOfQuarter (l : Launch) (G : va_G) (cI : ClassId) (a : Nat → Nat) (mo co le : Int32) (K Qa La Ha Ma Ba Ca Da Fa Wa k : Nat → Int32) (pt : Nat) (hQa : hatQ k Qa) (hLa : hatL k La) (hpt : pt < 64) : Met l yX0_lotsOfQuarter wsX0_lotsOfQuarter rmX0_lotsOfQuarter (va_Pc [.ref (a 0), .int (nI pt)] (RdP G cI [((a 0), oC a mo co le), ((a 3), iA cI K), ((a 4), iA cI Qa), ((a 5), iA cI La), ((a 6), iA cI Ha), ((a 7), iA cI Ma), ((a 8), iA cI Ba), ((a 9), iA cI Ca), ((a 10), iA cI Da), ((a 11), iA cI Fa), ((a 12), iA cI Wa)])) (RdQ (lotsQ k pt)) 0 0 No := by
  refine Met.ofW (cc := cX0_lotsOfQuarter) (maxL := 3) (ret := (some .int)) (by decide) rfl ?_
  intro p e s m args below meth c s₁ B hml hv
  obtain ⟨rfl, hP, hK, hN⟩ := hv
  have hx := B.exec
  have hb := B.bytes
  have hr := B.returns
  have hlocks := B.notSynchronized
  have hts := atoms_spec (ws := wsX0_lotsOfQuarter) B.pre
  have hown : s.vm.findClass RX0 = some m.cls := findClass_of_methodNamed B.named
  have hS : va_S No s.heap s.heap [] := va_S.rf
  have FX : CallFix p m c cX0_lotsOfQuarter 3 s ([.ref (a 0), .int (nI pt)] : List Value).toArray wsX0_lotsOfQuarter RX0 := ⟨hx, hb, hml, hown, hts⟩
  have hl := lv_entry ([.ref (a 0), .int (nI pt)]) (n := 3) (Nat.le_of_ble_eq_true rfl)
  rw [lg_entry_eq]
  generalize (lg_sl ([.ref (a 0), .int (nI pt)]) ++ List.replicate (3 - (lg_sl ([.ref (a 0), .int (nI pt)])).length) Slot.unset).toArray = ls at hl ⊢
  have hl : lv_has ls 3 [(0, .ref (a 0)), (1, .int (nI pt))] := hl
  refine wq (fun Q hQ => ?_)
  have hzc : 0 + 0 ≤ (headSpec wsX0_lotsOfQuarter rmX0_lotsOfQuarter).room.cells := Nat.zero_le _
  have hzs : 0 + 0 ≤ (headSpec wsX0_lotsOfQuarter rmX0_lotsOfQuarter).room.slots := Nat.zero_le _
  have hf25 := hts (.fieldLink RX0 25 "CanalCity$City" "quarters" "[I") (by decide +kernel)
  have hf28 := hts (.fieldLink RX0 28 "CanalCity$City" "lotsOf" "[I") (by decide +kernel)
  have hinX0 : ∀ w ∈ u_ws RX0 TX0 13, w ∈ wsX0_lotsOfQuarter := by decide +kernel
  have hiniX1 := hts (.initialized RX1) (by decide +kernel)
  have hstX1_isLot := hts (.static yX1_isLot) (by decide +kernel)
  refine lv_aload_n hx hb dX0_lotsOfQuarter_0 rfl (lv_at hl 0 rfl) ?_
  refine va_get (D := G) (ci := 0) (v := .ref (a 4)) (C := RX0) (T := TX0) (N := 13) hx hb hts hinX0 hown hK hP 0 rfl rfl 4 (by decide) hf25 (fun _ h9 => h9) rfl dX0_lotsOfQuarter_1 ?_
  refine lv_iload_n hx hb dX0_lotsOfQuarter_4 rfl (lv_at hl 1 rfl) ?_
  refine va_iald hx hb hK hP 2 0 rfl rfl (vp_in_nI hpt (by decide)) dX0_lotsOfQuarter_5 ?_
  refine tpi (x' := Qa pt) (congrArg Qa (nI_clamp (by omega))) ?_
  refine tpi (x' := toI (qrt k pt)) (hQa pt hpt) ?_
  rcases hq : qrt k pt with _ | j
  · skip
    refine tpi (x' := -1) (rfl) ?_
    refine lv_istore_n (lv' := [(2, .int (-1)), (0, .ref (a 0)), (1, .int (nI pt))]) hx hb dX0_lotsOfQuarter_6 rfl hl (by decide) rfl (fun ls hl => ?_)
    refine lv_iload_n hx hb dX0_lotsOfQuarter_7 rfl (lv_at hl 0 rfl) ?_
    refine cr_i (va_runSN (As := [.int (-1)]) (rest := []) FX (c_X1_isLot l (-1)) ⟨va_cnB 1 hts gX0_lotsOfQuarter_X1_isLot_n73 rfl rfl rfl (NW_at hN 3 rfl) hiniX1 (by decide +kernel) ⟨Nat.le_of_ble_eq_true rfl, Nat.le_of_ble_eq_true rfl⟩, hstX1_isLot, trivial⟩ puS rfl rfl hl.1 rfl (lv_room (Nat.le_of_ble_eq_true rfl)) dX0_lotsOfQuarter_8 ⟨hzc, hzs⟩) hS hP (fun H locs hP hS => ?_)
    refine tpi (x' := 0) (by decide) ?_
    refine lv_if_eq (tgt := 23) hx hb dX0_lotsOfQuarter_11 (by decide) (fun _ => ?_) (fun c => absurd (rfl) c)
    refine lv_iconst (v := 0) hx hb dX0_lotsOfQuarter_23 (by decide) ?_
    subst hQ
    exact rd_i (by unfold lotsQ; rw [hq]) hx hb hr hS hlocks dX0_lotsOfQuarter_24
  · skip
    have hj : j < 64 := Nat.lt_of_le_of_lt (qrt_le hq) hpt
    refine tpi (x' := nI j) (rfl) ?_
    refine lv_istore_n (lv' := [(2, .int (nI j)), (0, .ref (a 0)), (1, .int (nI pt))]) hx hb dX0_lotsOfQuarter_6 rfl hl (by decide) rfl (fun ls hl => ?_)
    refine lv_iload_n hx hb dX0_lotsOfQuarter_7 rfl (lv_at hl 0 rfl) ?_
    refine cr_i (va_runSN (As := [.int (nI j)]) (rest := []) FX (c_X1_isLot l (nI j)) ⟨va_cnB 1 hts gX0_lotsOfQuarter_X1_isLot_n73 rfl rfl rfl (NW_at hN 3 rfl) hiniX1 (by decide +kernel) ⟨Nat.le_of_ble_eq_true rfl, Nat.le_of_ble_eq_true rfl⟩, hstX1_isLot, trivial⟩ puS rfl rfl hl.1 rfl (lv_room (Nat.le_of_ble_eq_true rfl)) dX0_lotsOfQuarter_8 ⟨hzc, hzs⟩) hS hP (fun H locs hP hS => ?_)
    refine tpi (x' := 1) (isLot_1 hj) ?_
    refine lv_if_eq (tgt := 23) hx hb dX0_lotsOfQuarter_11 (by decide) (fun c => absurd c (by decide)) (fun _ => ?_)
    refine lv_aload_n hx hb dX0_lotsOfQuarter_14 rfl (lv_at hl 1 rfl) ?_
    refine va_get (D := G) (ci := 0) (v := .ref (a 5)) (C := RX0) (T := TX0) (N := 13) hx hb hts hinX0 hown hK hP 0 rfl rfl 5 (by decide) hf28 (fun _ h9 => h9) rfl dX0_lotsOfQuarter_15 ?_
    refine lv_iload_n hx hb dX0_lotsOfQuarter_18 rfl (lv_at hl 0 rfl) ?_
    refine va_iald hx hb hK hP 3 0 rfl rfl (vp_in_nI hj (by decide)) dX0_lotsOfQuarter_19 ?_
    refine tpi (x' := La j) (congrArg La (nI_clamp (by omega))) ?_
    refine lv_goto (tgt := 24) hx hb dX0_lotsOfQuarter_20 (by decide) ?_
    subst hQ
    exact rd_i (by unfold lotsQ; rw [hq]; exact hLa j hj) hx hb hr hS hlocks dX0_lotsOfQuarter_24

def rmX0_housesInQuarter : Room := { frames := 1, cells := 0, slots := 0, locals := 20 }
set_option maxHeartbeats 4000000 in
set_option maxRecDepth 100000 in
/-- houses of a quarter -/
theorem c_X0_housesInQuarter (l : Launch) (G : va_G) (cI : ClassId) (a : Nat → Nat) (mo co le : Int32) (K Qa La Ha Ma Ba Ca Da Fa Wa k : Nat → Int32) (pt : Nat) (hQa : hatQ k Qa) (hHa : hatV k 3 Ha) (hpt : pt < 64) : Met l yX0_housesInQuarter wsX0_housesInQuarter rmX0_housesInQuarter (va_Pc [.ref (a 0), .int (nI pt)] (RdP G cI [((a 0), oC a mo co le), ((a 3), iA cI K), ((a 4), iA cI Qa), ((a 5), iA cI La), ((a 6), iA cI Ha), ((a 7), iA cI Ma), ((a 8), iA cI Ba), ((a 9), iA cI Ca), ((a 10), iA cI Da), ((a 11), iA cI Fa), ((a 12), iA cI Wa)])) (RdQ (kindQ k 3 pt)) 0 0 No := by
  refine Met.ofW (cc := cX0_housesInQuarter) (maxL := 3) (ret := (some .int)) (by decide) rfl ?_
  intro p e s m args below meth c s₁ B hml hv
  obtain ⟨rfl, hP, hK, hN⟩ := hv
  have hx := B.exec
  have hb := B.bytes
  have hr := B.returns
  have hlocks := B.notSynchronized
  have hts := atoms_spec (ws := wsX0_housesInQuarter) B.pre
  have hown : s.vm.findClass RX0 = some m.cls := findClass_of_methodNamed B.named
  have hS : va_S No s.heap s.heap [] := va_S.rf
  have FX : CallFix p m c cX0_housesInQuarter 3 s ([.ref (a 0), .int (nI pt)] : List Value).toArray wsX0_housesInQuarter RX0 := ⟨hx, hb, hml, hown, hts⟩
  have hl := lv_entry ([.ref (a 0), .int (nI pt)]) (n := 3) (Nat.le_of_ble_eq_true rfl)
  rw [lg_entry_eq]
  generalize (lg_sl ([.ref (a 0), .int (nI pt)]) ++ List.replicate (3 - (lg_sl ([.ref (a 0), .int (nI pt)])).length) Slot.unset).toArray = ls at hl ⊢
  have hl : lv_has ls 3 [(0, .ref (a 0)), (1, .int (nI pt))] := hl
  refine wq (fun Q hQ => ?_)
  have hzc : 0 + 0 ≤ (headSpec wsX0_housesInQuarter rmX0_housesInQuarter).room.cells := Nat.zero_le _
  have hzs : 0 + 0 ≤ (headSpec wsX0_housesInQuarter rmX0_housesInQuarter).room.slots := Nat.zero_le _
  have hf25 := hts (.fieldLink RX0 25 "CanalCity$City" "quarters" "[I") (by decide +kernel)
  have hf31 := hts (.fieldLink RX0 31 "CanalCity$City" "housesOf" "[I") (by decide +kernel)
  have hinX0 : ∀ w ∈ u_ws RX0 TX0 13, w ∈ wsX0_housesInQuarter := by decide +kernel
  have hiniX1 := hts (.initialized RX1) (by decide +kernel)
  have hstX1_isLot := hts (.static yX1_isLot) (by decide +kernel)
  refine lv_aload_n hx hb dX0_housesInQuarter_0 rfl (lv_at hl 0 rfl) ?_
  refine va_get (D := G) (ci := 0) (v := .ref (a 4)) (C := RX0) (T := TX0) (N := 13) hx hb hts hinX0 hown hK hP 0 rfl rfl 4 (by decide) hf25 (fun _ h9 => h9) rfl dX0_housesInQuarter_1 ?_
  refine lv_iload_n hx hb dX0_housesInQuarter_4 rfl (lv_at hl 1 rfl) ?_
  refine va_iald hx hb hK hP 2 0 rfl rfl (vp_in_nI hpt (by decide)) dX0_housesInQuarter_5 ?_
  refine tpi (x' := Qa pt) (congrArg Qa (nI_clamp (by omega))) ?_
  refine tpi (x' := toI (qrt k pt)) (hQa pt hpt) ?_
  rcases hq : qrt k pt with _ | j
  · skip
    refine tpi (x' := -1) (rfl) ?_
    refine lv_istore_n (lv' := [(2, .int (-1)), (0, .ref (a 0)), (1, .int (nI pt))]) hx hb dX0_housesInQuarter_6 rfl hl (by decide) rfl (fun ls hl => ?_)
    refine lv_iload_n hx hb dX0_housesInQuarter_7 rfl (lv_at hl 0 rfl) ?_
    refine cr_i (va_runSN (As := [.int (-1)]) (rest := []) FX (c_X1_isLot l (-1)) ⟨va_cnB 1 hts gX0_housesInQuarter_X1_isLot_n73 rfl rfl rfl (NW_at hN 3 rfl) hiniX1 (by decide +kernel) ⟨Nat.le_of_ble_eq_true rfl, Nat.le_of_ble_eq_true rfl⟩, hstX1_isLot, trivial⟩ puS rfl rfl hl.1 rfl (lv_room (Nat.le_of_ble_eq_true rfl)) dX0_housesInQuarter_8 ⟨hzc, hzs⟩) hS hP (fun H locs hP hS => ?_)
    refine tpi (x' := 0) (by decide) ?_
    refine lv_if_eq (tgt := 23) hx hb dX0_housesInQuarter_11 (by decide) (fun _ => ?_) (fun c => absurd (rfl) c)
    refine lv_iconst (v := 0) hx hb dX0_housesInQuarter_23 (by decide) ?_
    subst hQ
    exact rd_i (by unfold kindQ; rw [hq]) hx hb hr hS hlocks dX0_housesInQuarter_24
  · skip
    have hj : j < 64 := Nat.lt_of_le_of_lt (qrt_le hq) hpt
    refine tpi (x' := nI j) (rfl) ?_
    refine lv_istore_n (lv' := [(2, .int (nI j)), (0, .ref (a 0)), (1, .int (nI pt))]) hx hb dX0_housesInQuarter_6 rfl hl (by decide) rfl (fun ls hl => ?_)
    refine lv_iload_n hx hb dX0_housesInQuarter_7 rfl (lv_at hl 0 rfl) ?_
    refine cr_i (va_runSN (As := [.int (nI j)]) (rest := []) FX (c_X1_isLot l (nI j)) ⟨va_cnB 1 hts gX0_housesInQuarter_X1_isLot_n73 rfl rfl rfl (NW_at hN 3 rfl) hiniX1 (by decide +kernel) ⟨Nat.le_of_ble_eq_true rfl, Nat.le_of_ble_eq_true rfl⟩, hstX1_isLot, trivial⟩ puS rfl rfl hl.1 rfl (lv_room (Nat.le_of_ble_eq_true rfl)) dX0_housesInQuarter_8 ⟨hzc, hzs⟩) hS hP (fun H locs hP hS => ?_)
    refine tpi (x' := 1) (isLot_1 hj) ?_
    refine lv_if_eq (tgt := 23) hx hb dX0_housesInQuarter_11 (by decide) (fun c => absurd c (by decide)) (fun _ => ?_)
    refine lv_aload_n hx hb dX0_housesInQuarter_14 rfl (lv_at hl 1 rfl) ?_
    refine va_get (D := G) (ci := 0) (v := .ref (a 6)) (C := RX0) (T := TX0) (N := 13) hx hb hts hinX0 hown hK hP 0 rfl rfl 6 (by decide) hf31 (fun _ h9 => h9) rfl dX0_housesInQuarter_15 ?_
    refine lv_iload_n hx hb dX0_housesInQuarter_18 rfl (lv_at hl 0 rfl) ?_
    refine va_iald hx hb hK hP 4 0 rfl rfl (vp_in_nI hj (by decide)) dX0_housesInQuarter_19 ?_
    refine tpi (x' := Ha j) (congrArg Ha (nI_clamp (by omega))) ?_
    refine lv_goto (tgt := 24) hx hb dX0_housesInQuarter_20 (by decide) ?_
    subst hQ
    exact rd_i (by unfold kindQ; rw [hq]; exact hHa j hj) hx hb hr hS hlocks dX0_housesInQuarter_24

def rmX0_marketsInQuarter : Room := { frames := 1, cells := 0, slots := 0, locals := 20 }
set_option maxHeartbeats 4000000 in
set_option maxRecDepth 100000 in
/-- markets of a quarter -/
theorem c_X0_marketsInQuarter (l : Launch) (G : va_G) (cI : ClassId) (a : Nat → Nat) (mo co le : Int32) (K Qa La Ha Ma Ba Ca Da Fa Wa k : Nat → Int32) (pt : Nat) (hQa : hatQ k Qa) (hMa : hatV k 5 Ma) (hpt : pt < 64) : Met l yX0_marketsInQuarter wsX0_marketsInQuarter rmX0_marketsInQuarter (va_Pc [.ref (a 0), .int (nI pt)] (RdP G cI [((a 0), oC a mo co le), ((a 3), iA cI K), ((a 4), iA cI Qa), ((a 5), iA cI La), ((a 6), iA cI Ha), ((a 7), iA cI Ma), ((a 8), iA cI Ba), ((a 9), iA cI Ca), ((a 10), iA cI Da), ((a 11), iA cI Fa), ((a 12), iA cI Wa)])) (RdQ (kindQ k 5 pt)) 0 0 No := by
  refine Met.ofW (cc := cX0_marketsInQuarter) (maxL := 3) (ret := (some .int)) (by decide) rfl ?_
  intro p e s m args below meth c s₁ B hml hv
  obtain ⟨rfl, hP, hK, hN⟩ := hv
  have hx := B.exec
  have hb := B.bytes
  have hr := B.returns
  have hlocks := B.notSynchronized
  have hts := atoms_spec (ws := wsX0_marketsInQuarter) B.pre
  have hown : s.vm.findClass RX0 = some m.cls := findClass_of_methodNamed B.named
  have hS : va_S No s.heap s.heap [] := va_S.rf
  have FX : CallFix p m c cX0_marketsInQuarter 3 s ([.ref (a 0), .int (nI pt)] : List Value).toArray wsX0_marketsInQuarter RX0 := ⟨hx, hb, hml, hown, hts⟩
  have hl := lv_entry ([.ref (a 0), .int (nI pt)]) (n := 3) (Nat.le_of_ble_eq_true rfl)
  rw [lg_entry_eq]
  generalize (lg_sl ([.ref (a 0), .int (nI pt)]) ++ List.replicate (3 - (lg_sl ([.ref (a 0), .int (nI pt)])).length) Slot.unset).toArray = ls at hl ⊢
  have hl : lv_has ls 3 [(0, .ref (a 0)), (1, .int (nI pt))] := hl
  refine wq (fun Q hQ => ?_)
  have hzc : 0 + 0 ≤ (headSpec wsX0_marketsInQuarter rmX0_marketsInQuarter).room.cells := Nat.zero_le _
  have hzs : 0 + 0 ≤ (headSpec wsX0_marketsInQuarter rmX0_marketsInQuarter).room.slots := Nat.zero_le _
  have hf25 := hts (.fieldLink RX0 25 "CanalCity$City" "quarters" "[I") (by decide +kernel)
  have hf34 := hts (.fieldLink RX0 34 "CanalCity$City" "marketsOf" "[I") (by decide +kernel)
  have hinX0 : ∀ w ∈ u_ws RX0 TX0 13, w ∈ wsX0_marketsInQuarter := by decide +kernel
  have hiniX1 := hts (.initialized RX1) (by decide +kernel)
  have hstX1_isLot := hts (.static yX1_isLot) (by decide +kernel)
  refine lv_aload_n hx hb dX0_marketsInQuarter_0 rfl (lv_at hl 0 rfl) ?_
  refine va_get (D := G) (ci := 0) (v := .ref (a 4)) (C := RX0) (T := TX0) (N := 13) hx hb hts hinX0 hown hK hP 0 rfl rfl 4 (by decide) hf25 (fun _ h9 => h9) rfl dX0_marketsInQuarter_1 ?_
  refine lv_iload_n hx hb dX0_marketsInQuarter_4 rfl (lv_at hl 1 rfl) ?_
  refine va_iald hx hb hK hP 2 0 rfl rfl (vp_in_nI hpt (by decide)) dX0_marketsInQuarter_5 ?_
  refine tpi (x' := Qa pt) (congrArg Qa (nI_clamp (by omega))) ?_
  refine tpi (x' := toI (qrt k pt)) (hQa pt hpt) ?_
  rcases hq : qrt k pt with _ | j
  · skip
    refine tpi (x' := -1) (rfl) ?_
    refine lv_istore_n (lv' := [(2, .int (-1)), (0, .ref (a 0)), (1, .int (nI pt))]) hx hb dX0_marketsInQuarter_6 rfl hl (by decide) rfl (fun ls hl => ?_)
    refine lv_iload_n hx hb dX0_marketsInQuarter_7 rfl (lv_at hl 0 rfl) ?_
    refine cr_i (va_runSN (As := [.int (-1)]) (rest := []) FX (c_X1_isLot l (-1)) ⟨va_cnB 1 hts gX0_marketsInQuarter_X1_isLot_n73 rfl rfl rfl (NW_at hN 3 rfl) hiniX1 (by decide +kernel) ⟨Nat.le_of_ble_eq_true rfl, Nat.le_of_ble_eq_true rfl⟩, hstX1_isLot, trivial⟩ puS rfl rfl hl.1 rfl (lv_room (Nat.le_of_ble_eq_true rfl)) dX0_marketsInQuarter_8 ⟨hzc, hzs⟩) hS hP (fun H locs hP hS => ?_)
    refine tpi (x' := 0) (by decide) ?_
    refine lv_if_eq (tgt := 23) hx hb dX0_marketsInQuarter_11 (by decide) (fun _ => ?_) (fun c => absurd (rfl) c)
    refine lv_iconst (v := 0) hx hb dX0_marketsInQuarter_23 (by decide) ?_
    subst hQ
    exact rd_i (by unfold kindQ; rw [hq]) hx hb hr hS hlocks dX0_marketsInQuarter_24
  · skip
    have hj : j < 64 := Nat.lt_of_le_of_lt (qrt_le hq) hpt
    refine tpi (x' := nI j) (rfl) ?_
    refine lv_istore_n (lv' := [(2, .int (nI j)), (0, .ref (a 0)), (1, .int (nI pt))]) hx hb dX0_marketsInQuarter_6 rfl hl (by decide) rfl (fun ls hl => ?_)
    refine lv_iload_n hx hb dX0_marketsInQuarter_7 rfl (lv_at hl 0 rfl) ?_
    refine cr_i (va_runSN (As := [.int (nI j)]) (rest := []) FX (c_X1_isLot l (nI j)) ⟨va_cnB 1 hts gX0_marketsInQuarter_X1_isLot_n73 rfl rfl rfl (NW_at hN 3 rfl) hiniX1 (by decide +kernel) ⟨Nat.le_of_ble_eq_true rfl, Nat.le_of_ble_eq_true rfl⟩, hstX1_isLot, trivial⟩ puS rfl rfl hl.1 rfl (lv_room (Nat.le_of_ble_eq_true rfl)) dX0_marketsInQuarter_8 ⟨hzc, hzs⟩) hS hP (fun H locs hP hS => ?_)
    refine tpi (x' := 1) (isLot_1 hj) ?_
    refine lv_if_eq (tgt := 23) hx hb dX0_marketsInQuarter_11 (by decide) (fun c => absurd c (by decide)) (fun _ => ?_)
    refine lv_aload_n hx hb dX0_marketsInQuarter_14 rfl (lv_at hl 1 rfl) ?_
    refine va_get (D := G) (ci := 0) (v := .ref (a 7)) (C := RX0) (T := TX0) (N := 13) hx hb hts hinX0 hown hK hP 0 rfl rfl 7 (by decide) hf34 (fun _ h9 => h9) rfl dX0_marketsInQuarter_15 ?_
    refine lv_iload_n hx hb dX0_marketsInQuarter_18 rfl (lv_at hl 0 rfl) ?_
    refine va_iald hx hb hK hP 5 0 rfl rfl (vp_in_nI hj (by decide)) dX0_marketsInQuarter_19 ?_
    refine tpi (x' := Ma j) (congrArg Ma (nI_clamp (by omega))) ?_
    refine lv_goto (tgt := 24) hx hb dX0_marketsInQuarter_20 (by decide) ?_
    subst hQ
    exact rd_i (by unfold kindQ; rw [hq]; exact hMa j hj) hx hb hr hS hlocks dX0_marketsInQuarter_24

def rmX0_complaintsAt : Room := { frames := 2, cells := 0, slots := 0, locals := 48 }
set_option maxHeartbeats 4000000 in
set_option maxRecDepth 100000 in
/-- complaints of a lot -/
theorem c_X0_complaintsAt (l : Launch) (G : va_G) (cI : ClassId) (a : Nat → Nat) (mo co le : Int32) (K Qa La Ha Ma Ba Ca Da Fa Wa k : Nat → Int32) (pt : Nat) (hk : eqK K k) (hQa : hatQ k Qa) (hMa : hatV k 5 Ma) (hBa : hatB k Ba) (hpt : pt < 64) : Met l yX0_complaintsAt wsX0_complaintsAt rmX0_complaintsAt (va_Pc [.ref (a 0), .int (nI pt)] (RdP G cI [((a 0), oC a mo co le), ((a 3), iA cI K), ((a 4), iA cI Qa), ((a 5), iA cI La), ((a 6), iA cI Ha), ((a 7), iA cI Ma), ((a 8), iA cI Ba), ((a 9), iA cI Ca), ((a 10), iA cI Da), ((a 11), iA cI Fa), ((a 12), iA cI Wa)])) (RdQ (cpl k pt)) 0 0 No := by
  refine Met.ofW (cc := cX0_complaintsAt) (maxL := 4) (ret := (some .int)) (by decide) rfl ?_
  intro p e s m args below meth c s₁ B hml hv
  obtain ⟨rfl, hP, hK, hN⟩ := hv
  have hx := B.exec
  have hb := B.bytes
  have hr := B.returns
  have hlocks := B.notSynchronized
  have hts := atoms_spec (ws := wsX0_complaintsAt) B.pre
  have hown : s.vm.findClass RX0 = some m.cls := findClass_of_methodNamed B.named
  have hS : va_S No s.heap s.heap [] := va_S.rf
  have FX : CallFix p m c cX0_complaintsAt 4 s ([.ref (a 0), .int (nI pt)] : List Value).toArray wsX0_complaintsAt RX0 := ⟨hx, hb, hml, hown, hts⟩
  have hl := lv_entry ([.ref (a 0), .int (nI pt)]) (n := 4) (Nat.le_of_ble_eq_true rfl)
  rw [lg_entry_eq]
  generalize (lg_sl ([.ref (a 0), .int (nI pt)]) ++ List.replicate (4 - (lg_sl ([.ref (a 0), .int (nI pt)])).length) Slot.unset).toArray = ls at hl ⊢
  have hl : lv_has ls 4 [(0, .ref (a 0)), (1, .int (nI pt))] := hl
  refine wq (fun Q hQ => ?_)
  have hzc : 0 + 0 ≤ (headSpec wsX0_complaintsAt rmX0_complaintsAt).room.cells := Nat.zero_le _
  have hzs : 0 + 0 ≤ (headSpec wsX0_complaintsAt rmX0_complaintsAt).room.slots := Nat.zero_le _
  have hf21 := hts (.fieldLink RX0 21 "CanalCity$City" "kinds" "[I") (by decide +kernel)
  have hinX0 : ∀ w ∈ u_ws RX0 TX0 13, w ∈ wsX0_complaintsAt := by decide +kernel
  refine lv_aload_n hx hb dX0_complaintsAt_0 rfl (lv_at hl 0 rfl) ?_
  refine va_get (D := G) (ci := 0) (v := .ref (a 3)) (C := RX0) (T := TX0) (N := 13) hx hb hts hinX0 hown hK hP 0 rfl rfl 3 (by decide) hf21 (fun _ h9 => h9) rfl dX0_complaintsAt_1 ?_
  refine lv_iload_n hx hb dX0_complaintsAt_4 rfl (lv_at hl 1 rfl) ?_
  refine va_iald hx hb hK hP 1 0 rfl rfl (vp_in_nI hpt (by decide)) dX0_complaintsAt_5 ?_
  refine tpi (x' := K pt) (congrArg K (nI_clamp (by omega))) ?_
  refine tpi (x' := k pt) (hk pt hpt) ?_
  refine lv_iconst (v := 3) hx hb dX0_complaintsAt_6 (by decide) ?_
  refine lv_icmp_eq (tgt := 12) hx hb dX0_complaintsAt_7 (by decide) (fun c3 => ?_) (fun c3 => ?_)
  · skip
    refine lv_aload_n hx hb dX0_complaintsAt_12 rfl (lv_at hl 0 rfl) ?_
    refine lv_iload_n hx hb dX0_complaintsAt_13 rfl (lv_at hl 1 rfl) ?_
    refine cr_i (va_runV (As := [.int (nI pt)]) (rest := []) FX (c_X0_marketsInQuarter l G cI a mo co le K Qa La Ha Ma Ba Ca Da Fa Wa k pt hQa hMa hpt) (cwV 1 hts gX0_complaintsAt_X0_marketsInQuarter rfl rfl rfl (by decide +kernel) ⟨Nat.le_of_ble_eq_true rfl, Nat.le_of_ble_eq_true rfl⟩) (rdV hK hP hN [0, 1, 2, 3, 4, 5, 6, 7, 8, 9, 10] rfl (ci := 0) (q0 := 0) rfl rfl) rfl rfl hl.1 rfl (lv_room (Nat.le_of_ble_eq_true rfl)) dX0_complaintsAt_14 ⟨hzc, hzs⟩) hS hP (fun H locs hP hS => ?_)
    refine lv_if_ne (tgt := 24) hx hb dX0_complaintsAt_17 (by decide) (fun c5 => ?_) (fun c5 => ?_)
    · skip
      refine lv_iconst (v := 0) hx hb dX0_complaintsAt_24 (by decide) ?_
      refine lv_istore_n (lv' := [(2, .int 0), (0, .ref (a 0)), (1, .int (nI pt))]) hx hb dX0_complaintsAt_25 rfl hl (by decide) rfl (fun ls hl => ?_)
      refine lv_aload_n hx hb dX0_complaintsAt_26 rfl (lv_at hl 1 rfl) ?_
      refine lv_iload_n hx hb dX0_complaintsAt_27 rfl (lv_at hl 2 rfl) ?_
      refine cr_i (va_runV (As := [.int (nI pt)]) (rest := []) FX (c_X0_isByBoat l G cI a mo co le K Qa La Ha Ma Ba Ca Da Fa Wa k pt hk hBa hpt) (cwV 1 hts gX0_complaintsAt_X0_isByBoat rfl rfl rfl (by decide +kernel) ⟨Nat.le_of_ble_eq_true rfl, Nat.le_of_ble_eq_true rfl⟩) (rdV hK hP hN [0, 1, 2, 3, 4, 5, 6, 7, 8, 9, 10] rfl (ci := 0) (q0 := 0) rfl rfl) rfl rfl hl.1 rfl (lv_room (Nat.le_of_ble_eq_true rfl)) dX0_complaintsAt_28 ⟨hzc, hzs⟩) hS hP (fun H locs hP hS => ?_)
      rcases ho : byB k pt with _ | _
      · skip
        refine tpi (x' := 0) (rfl) ?_
        refine lv_if_eq (tgt := 38) hx hb dX0_complaintsAt_31 (by decide) (fun _ => ?_) (fun c => absurd (rfl) c)
        refine lv_iconst (v := 1) hx hb dX0_complaintsAt_38 (by decide) ?_
        refine lv_istore_n (lv' := [(3, .int 1), (2, .int 0), (0, .ref (a 0)), (1, .int (nI pt))]) hx hb dX0_complaintsAt_39 rfl hl (by decide) rfl (fun ls hl => ?_)
        refine lv_iload_n hx hb dX0_complaintsAt_40 rfl (lv_at hl 1 rfl) ?_
        refine lv_aload_n hx hb dX0_complaintsAt_41 rfl (lv_at hl 2 rfl) ?_
        refine lv_iload_n hx hb dX0_complaintsAt_42 rfl (lv_at hl 3 rfl) ?_
        refine lv_iconst (v := 4) hx hb dX0_complaintsAt_43 (by decide) ?_
        refine cr_i (va_runV (As := [.int (nI pt), .int 4]) (rest := [.int 0]) FX (c_X0_neighboursOfKind l G cI a mo co le K Qa La Ha Ma Ba Ca Da Fa Wa k pt 4 hk hpt) (cwV 2 hts gX0_complaintsAt_X0_neighboursOfKind rfl rfl rfl (by decide +kernel) ⟨Nat.le_of_ble_eq_true rfl, Nat.le_of_ble_eq_true rfl⟩) (rdV hK hP hN [0, 1, 2, 3, 4, 5, 6, 7, 8, 9, 10] rfl (ci := 0) (q0 := 0) rfl rfl) rfl rfl hl.1 rfl (lv_room (Nat.le_of_ble_eq_true rfl)) dX0_complaintsAt_44 ⟨hzc, hzs⟩) hS hP (fun H locs hP hS => ?_)
        refine lv_iadd hx hb dX0_complaintsAt_47 ?_
        refine lv_iload_n hx hb dX0_complaintsAt_48 rfl (lv_at hl 0 rfl) ?_
        refine lv_iadd hx hb dX0_complaintsAt_49 ?_
        subst hQ
        exact rd_i (by unfold cpl; rw [if_pos c3, if_neg c5, ho]; rfl) hx hb hr hS hlocks dX0_complaintsAt_50
      · skip
        refine tpi (x' := 1) (rfl) ?_
        refine lv_if_eq (tgt := 38) hx hb dX0_complaintsAt_31 (by decide) (fun c => absurd c (by decide)) (fun _ => ?_)
        refine lv_iconst (v := 0) hx hb dX0_complaintsAt_34 (by decide) ?_
        refine lv_goto (tgt := 39) hx hb dX0_complaintsAt_35 (by decide) ?_
        refine lv_istore_n (lv' := [(3, .int 0), (2, .int 0), (0, .ref (a 0)), (1, .int (nI pt))]) hx hb dX0_complaintsAt_39 rfl hl (by decide) rfl (fun ls hl => ?_)
        refine lv_iload_n hx hb dX0_complaintsAt_40 rfl (lv_at hl 1 rfl) ?_
        refine lv_aload_n hx hb dX0_complaintsAt_41 rfl (lv_at hl 2 rfl) ?_
        refine lv_iload_n hx hb dX0_complaintsAt_42 rfl (lv_at hl 3 rfl) ?_
        refine lv_iconst (v := 4) hx hb dX0_complaintsAt_43 (by decide) ?_
        refine cr_i (va_runV (As := [.int (nI pt), .int 4]) (rest := [.int 0]) FX (c_X0_neighboursOfKind l G cI a mo co le K Qa La Ha Ma Ba Ca Da Fa Wa k pt 4 hk hpt) (cwV 2 hts gX0_complaintsAt_X0_neighboursOfKind rfl rfl rfl (by decide +kernel) ⟨Nat.le_of_ble_eq_true rfl, Nat.le_of_ble_eq_true rfl⟩) (rdV hK hP hN [0, 1, 2, 3, 4, 5, 6, 7, 8, 9, 10] rfl (ci := 0) (q0 := 0) rfl rfl) rfl rfl hl.1 rfl (lv_room (Nat.le_of_ble_eq_true rfl)) dX0_complaintsAt_44 ⟨hzc, hzs⟩) hS hP (fun H locs hP hS => ?_)
        refine lv_iadd hx hb dX0_complaintsAt_47 ?_
        refine lv_iload_n hx hb dX0_complaintsAt_48 rfl (lv_at hl 0 rfl) ?_
        refine lv_iadd hx hb dX0_complaintsAt_49 ?_
        subst hQ
        exact rd_i (by unfold cpl; rw [if_pos c3, if_neg c5, ho]; rfl) hx hb hr hS hlocks dX0_complaintsAt_50
    · skip
      refine lv_iconst (v := 2) hx hb dX0_complaintsAt_20 (by decide) ?_
      refine lv_goto (tgt := 25) hx hb dX0_complaintsAt_21 (by decide) ?_
      refine lv_istore_n (lv' := [(2, .int 2), (0, .ref (a 0)), (1, .int (nI pt))]) hx hb dX0_complaintsAt_25 rfl hl (by decide) rfl (fun ls hl => ?_)
      refine lv_aload_n hx hb dX0_complaintsAt_26 rfl (lv_at hl 1 rfl) ?_
      refine lv_iload_n hx hb dX0_complaintsAt_27 rfl (lv_at hl 2 rfl) ?_
      refine cr_i (va_runV (As := [.int (nI pt)]) (rest := []) FX (c_X0_isByBoat l G cI a mo co le K Qa La Ha Ma Ba Ca Da Fa Wa k pt hk hBa hpt) (cwV 1 hts gX0_complaintsAt_X0_isByBoat rfl rfl rfl (by decide +kernel) ⟨Nat.le_of_ble_eq_true rfl, Nat.le_of_ble_eq_true rfl⟩) (rdV hK hP hN [0, 1, 2, 3, 4, 5, 6, 7, 8, 9, 10] rfl (ci := 0) (q0 := 0) rfl rfl) rfl rfl hl.1 rfl (lv_room (Nat.le_of_ble_eq_true rfl)) dX0_complaintsAt_28 ⟨hzc, hzs⟩) hS hP (fun H locs hP hS => ?_)
      rcases ho : byB k pt with _ | _
      · skip
        refine tpi (x' := 0) (rfl) ?_
        refine lv_if_eq (tgt := 38) hx hb dX0_complaintsAt_31 (by decide) (fun _ => ?_) (fun c => absurd (rfl) c)
        refine lv_iconst (v := 1) hx hb dX0_complaintsAt_38 (by decide) ?_
        refine lv_istore_n (lv' := [(3, .int 1), (2, .int 2), (0, .ref (a 0)), (1, .int (nI pt))]) hx hb dX0_complaintsAt_39 rfl hl (by decide) rfl (fun ls hl => ?_)
        refine lv_iload_n hx hb dX0_complaintsAt_40 rfl (lv_at hl 1 rfl) ?_
        refine lv_aload_n hx hb dX0_complaintsAt_41 rfl (lv_at hl 2 rfl) ?_
        refine lv_iload_n hx hb dX0_complaintsAt_42 rfl (lv_at hl 3 rfl) ?_
        refine lv_iconst (v := 4) hx hb dX0_complaintsAt_43 (by decide) ?_
        refine cr_i (va_runV (As := [.int (nI pt), .int 4]) (rest := [.int 2]) FX (c_X0_neighboursOfKind l G cI a mo co le K Qa La Ha Ma Ba Ca Da Fa Wa k pt 4 hk hpt) (cwV 2 hts gX0_complaintsAt_X0_neighboursOfKind rfl rfl rfl (by decide +kernel) ⟨Nat.le_of_ble_eq_true rfl, Nat.le_of_ble_eq_true rfl⟩) (rdV hK hP hN [0, 1, 2, 3, 4, 5, 6, 7, 8, 9, 10] rfl (ci := 0) (q0 := 0) rfl rfl) rfl rfl hl.1 rfl (lv_room (Nat.le_of_ble_eq_true rfl)) dX0_complaintsAt_44 ⟨hzc, hzs⟩) hS hP (fun H locs hP hS => ?_)
        refine lv_iadd hx hb dX0_complaintsAt_47 ?_
        refine lv_iload_n hx hb dX0_complaintsAt_48 rfl (lv_at hl 0 rfl) ?_
        refine lv_iadd hx hb dX0_complaintsAt_49 ?_
        subst hQ
        exact rd_i (by unfold cpl; rw [if_pos c3, if_pos c5, ho]; rfl) hx hb hr hS hlocks dX0_complaintsAt_50
      · skip
        refine tpi (x' := 1) (rfl) ?_
        refine lv_if_eq (tgt := 38) hx hb dX0_complaintsAt_31 (by decide) (fun c => absurd c (by decide)) (fun _ => ?_)
        refine lv_iconst (v := 0) hx hb dX0_complaintsAt_34 (by decide) ?_
        refine lv_goto (tgt := 39) hx hb dX0_complaintsAt_35 (by decide) ?_
        refine lv_istore_n (lv' := [(3, .int 0), (2, .int 2), (0, .ref (a 0)), (1, .int (nI pt))]) hx hb dX0_complaintsAt_39 rfl hl (by decide) rfl (fun ls hl => ?_)
        refine lv_iload_n hx hb dX0_complaintsAt_40 rfl (lv_at hl 1 rfl) ?_
        refine lv_aload_n hx hb dX0_complaintsAt_41 rfl (lv_at hl 2 rfl) ?_
        refine lv_iload_n hx hb dX0_complaintsAt_42 rfl (lv_at hl 3 rfl) ?_
        refine lv_iconst (v := 4) hx hb dX0_complaintsAt_43 (by decide) ?_
        refine cr_i (va_runV (As := [.int (nI pt), .int 4]) (rest := [.int 2]) FX (c_X0_neighboursOfKind l G cI a mo co le K Qa La Ha Ma Ba Ca Da Fa Wa k pt 4 hk hpt) (cwV 2 hts gX0_complaintsAt_X0_neighboursOfKind rfl rfl rfl (by decide +kernel) ⟨Nat.le_of_ble_eq_true rfl, Nat.le_of_ble_eq_true rfl⟩) (rdV hK hP hN [0, 1, 2, 3, 4, 5, 6, 7, 8, 9, 10] rfl (ci := 0) (q0 := 0) rfl rfl) rfl rfl hl.1 rfl (lv_room (Nat.le_of_ble_eq_true rfl)) dX0_complaintsAt_44 ⟨hzc, hzs⟩) hS hP (fun H locs hP hS => ?_)
        refine lv_iadd hx hb dX0_complaintsAt_47 ?_
        refine lv_iload_n hx hb dX0_complaintsAt_48 rfl (lv_at hl 0 rfl) ?_
        refine lv_iadd hx hb dX0_complaintsAt_49 ?_
        subst hQ
        exact rd_i (by unfold cpl; rw [if_pos c3, if_pos c5, ho]; rfl) hx hb hr hS hlocks dX0_complaintsAt_50
  · skip
    refine lv_iconst (v := 0) hx hb dX0_complaintsAt_10 (by decide) ?_
    subst hQ
    exact rd_i (by unfold cpl; rw [if_neg c3]) hx hb hr hS hlocks dX0_complaintsAt_11

def rmX0_duesAt : Room := { frames := 2, cells := 0, slots := 0, locals := 47 }
set_option maxHeartbeats 4000000 in
set_option maxRecDepth 100000 in
/-- dues of a lot -/
theorem c_X0_duesAt (l : Launch) (G : va_G) (cI : ClassId) (a : Nat → Nat) (mo co le : Int32) (K Qa La Ha Ma Ba Ca Da Fa Wa k : Nat → Int32) (pt : Nat) (hk : eqK K k) (hQa : hatQ k Qa) (hHa : hatV k 3 Ha) (hBa : hatB k Ba) (hcp : Ca pt = cpl k pt) (hpt : pt < 64) : Met l yX0_duesAt wsX0_duesAt rmX0_duesAt (va_Pc [.ref (a 0), .int (nI pt)] (RdP G cI [((a 0), oC a mo co le), ((a 3), iA cI K), ((a 4), iA cI Qa), ((a 5), iA cI La), ((a 6), iA cI Ha), ((a 7), iA cI Ma), ((a 8), iA cI Ba), ((a 9), iA cI Ca), ((a 10), iA cI Da), ((a 11), iA cI Fa), ((a 12), iA cI Wa)])) (RdQ (due k pt)) 0 0 No := by
  refine Met.ofW (cc := cX0_duesAt) (maxL := 2) (ret := (some .int)) (by decide) rfl ?_
  intro p e s m args below meth c s₁ B hml hv
  obtain ⟨rfl, hP, hK, hN⟩ := hv
  have hx := B.exec
  have hb := B.bytes
  have hr := B.returns
  have hlocks := B.notSynchronized
  have hts := atoms_spec (ws := wsX0_duesAt) B.pre
  have hown : s.vm.findClass RX0 = some m.cls := findClass_of_methodNamed B.named
  have hS : va_S No s.heap s.heap [] := va_S.rf
  have FX : CallFix p m c cX0_duesAt 2 s ([.ref (a 0), .int (nI pt)] : List Value).toArray wsX0_duesAt RX0 := ⟨hx, hb, hml, hown, hts⟩
  have hl := lv_entry ([.ref (a 0), .int (nI pt)]) (n := 2) (Nat.le_of_ble_eq_true rfl)
  rw [lg_entry_eq]
  generalize (lg_sl ([.ref (a 0), .int (nI pt)]) ++ List.replicate (2 - (lg_sl ([.ref (a 0), .int (nI pt)])).length) Slot.unset).toArray = ls at hl ⊢
  have hl : lv_has ls 2 [(0, .ref (a 0)), (1, .int (nI pt))] := hl
  refine wq (fun Q hQ => ?_)
  have hzc : 0 + 0 ≤ (headSpec wsX0_duesAt rmX0_duesAt).room.cells := Nat.zero_le _
  have hzs : 0 + 0 ≤ (headSpec wsX0_duesAt rmX0_duesAt).room.slots := Nat.zero_le _
  have hf21 := hts (.fieldLink RX0 21 "CanalCity$City" "kinds" "[I") (by decide +kernel)
  have hf40 := hts (.fieldLink RX0 40 "CanalCity$City" "complaints" "[I") (by decide +kernel)
  have hinX0 : ∀ w ∈ u_ws RX0 TX0 13, w ∈ wsX0_duesAt := by decide +kernel
  refine lv_aload_n hx hb dX0_duesAt_0 rfl (lv_at hl 0 rfl) ?_
  refine va_get (D := G) (ci := 0) (v := .ref (a 3)) (C := RX0) (T := TX0) (N := 13) hx hb hts hinX0 hown hK hP 0 rfl rfl 3 (by decide) hf21 (fun _ h9 => h9) rfl dX0_duesAt_1 ?_
  refine lv_iload_n hx hb dX0_duesAt_4 rfl (lv_at hl 1 rfl) ?_
  refine va_iald hx hb hK hP 1 0 rfl rfl (vp_in_nI hpt (by decide)) dX0_duesAt_5 ?_
  refine tpi (x' := K pt) (congrArg K (nI_clamp (by omega))) ?_
  refine tpi (x' := k pt) (hk pt hpt) ?_
  rcases (show k pt = 3 ∨ k pt = 4 ∨ k pt = 5 ∨ (k pt ≠ 3 ∧ k pt ≠ 4 ∧ k pt ≠ 5) by by_cases h3 : k pt = 3; exact Or.inl h3; by_cases h4 : k pt = 4; exact Or.inr (Or.inl h4); by_cases h5 : k pt = 5; exact Or.inr (Or.inr (Or.inl h5)); exact Or.inr (Or.inr (Or.inr ⟨h3, h4, h5⟩))) with h3 | h4 | h5 | ⟨h3, h4, h5⟩
  · skip
    refine tpi (x' := 3) (h3) ?_
    refine lv_tableIn (off := 26) (tgt := 32) hx hb dX0_duesAt_6 (by decide +kernel) (by decide +kernel) (by decide +kernel) (by decide) ?_
    refine lv_iconst (v := 0) hx hb dX0_duesAt_32 (by decide) ?_
    refine lv_iconst (v := 4) hx hb dX0_duesAt_33 (by decide) ?_
    refine lv_aload_n hx hb dX0_duesAt_34 rfl (lv_at hl 0 rfl) ?_
    refine va_get (D := G) (ci := 0) (v := .ref (a 9)) (C := RX0) (T := TX0) (N := 13) hx hb hts hinX0 hown hK hP 0 rfl rfl 9 (by decide) hf40 (fun _ h9 => h9) rfl dX0_duesAt_35 ?_
    refine lv_iload_n hx hb dX0_duesAt_38 rfl (lv_at hl 1 rfl) ?_
    refine va_iald hx hb hK hP 7 0 rfl rfl (vp_in_nI hpt (by decide)) dX0_duesAt_39 ?_
    refine tpi (x' := Ca pt) (congrArg Ca (nI_clamp (by omega))) ?_
    refine tpi (x' := cpl k pt) (hcp) ?_
    refine lv_isub hx hb dX0_duesAt_40 ?_
    refine va_mmax hx hb (hml.trans hl.1.symm) hown (hts (.methodLink RX0 113 Lib.Math.max.name) (by decide +kernel)) (hts (.static Lib.Math.max.name) (by decide +kernel)) (hts (.initialized "java/lang/Math") (by decide +kernel)) (hts (.code Lib.Math.max.name Lib.Math.max.code 2 (some .int)) (by decide +kernel)) (Nat.le_of_ble_eq_true rfl) (Nat.le_of_ble_eq_true rfl) (Nat.zero_le _) (Nat.zero_le _) dX0_duesAt_41 ?_
    subst hQ
    exact rd_i (by unfold due; rw [if_pos h3]) hx hb hr hS hlocks dX0_duesAt_44
  · skip
    refine tpi (x' := 4) (h4) ?_
    refine lv_tableIn (off := 39) (tgt := 45) hx hb dX0_duesAt_6 (by decide +kernel) (by decide +kernel) (by decide +kernel) (by decide) ?_
    refine lv_aload_n hx hb dX0_duesAt_45 rfl (lv_at hl 0 rfl) ?_
    refine lv_iload_n hx hb dX0_duesAt_46 rfl (lv_at hl 1 rfl) ?_
    refine cr_i (va_runV (As := [.int (nI pt)]) (rest := []) FX (c_X0_isByBoat l G cI a mo co le K Qa La Ha Ma Ba Ca Da Fa Wa k pt hk hBa hpt) (cwV 1 hts gX0_duesAt_X0_isByBoat rfl rfl rfl (by decide +kernel) ⟨Nat.le_of_ble_eq_true rfl, Nat.le_of_ble_eq_true rfl⟩) (rdV hK hP hN [0, 1, 2, 3, 4, 5, 6, 7, 8, 9, 10] rfl (ci := 0) (q0 := 0) rfl rfl) rfl rfl hl.1 rfl (lv_room (Nat.le_of_ble_eq_true rfl)) dX0_duesAt_47 ⟨hzc, hzs⟩) hS hP (fun H locs hP hS => ?_)
    rcases ho : byB k pt with _ | _
    · skip
      refine tpi (x' := 0) (rfl) ?_
      refine lv_if_eq (tgt := 57) hx hb dX0_duesAt_50 (by decide) (fun _ => ?_) (fun c => absurd (rfl) c)
      refine lv_iconst (v := 2) hx hb dX0_duesAt_57 (by decide) ?_
      subst hQ
      exact rd_i (by unfold due; rw [if_neg (by rw [h4]; decide), if_pos h4, ho]; rfl) hx hb hr hS hlocks dX0_duesAt_58
    · skip
      refine tpi (x' := 1) (rfl) ?_
      refine lv_if_eq (tgt := 57) hx hb dX0_duesAt_50 (by decide) (fun c => absurd c (by decide)) (fun _ => ?_)
      refine lv_iconst (v := 5) hx hb dX0_duesAt_53 (by decide) ?_
      refine lv_goto (tgt := 58) hx hb dX0_duesAt_54 (by decide) ?_
      subst hQ
      exact rd_i (by unfold due; rw [if_neg (by rw [h4]; decide), if_pos h4, ho]; rfl) hx hb hr hS hlocks dX0_duesAt_58
  · skip
    refine tpi (x' := 5) (h5) ?_
    refine lv_tableIn (off := 53) (tgt := 59) hx hb dX0_duesAt_6 (by decide +kernel) (by decide +kernel) (by decide +kernel) (by decide) ?_
    refine lv_aload_n hx hb dX0_duesAt_59 rfl (lv_at hl 0 rfl) ?_
    refine lv_iload_n hx hb dX0_duesAt_60 rfl (lv_at hl 1 rfl) ?_
    refine cr_i (va_runV (As := [.int (nI pt)]) (rest := []) FX (c_X0_housesInQuarter l G cI a mo co le K Qa La Ha Ma Ba Ca Da Fa Wa k pt hQa hHa hpt) (cwV 1 hts gX0_duesAt_X0_housesInQuarter rfl rfl rfl (by decide +kernel) ⟨Nat.le_of_ble_eq_true rfl, Nat.le_of_ble_eq_true rfl⟩) (rdV hK hP hN [0, 1, 2, 3, 4, 5, 6, 7, 8, 9, 10] rfl (ci := 0) (q0 := 0) rfl rfl) rfl rfl hl.1 rfl (lv_room (Nat.le_of_ble_eq_true rfl)) dX0_duesAt_61 ⟨hzc, hzs⟩) hS hP (fun H locs hP hS => ?_)
    refine lv_iconst (v := 2) hx hb dX0_duesAt_64 (by decide) ?_
    refine lv_idiv hx hb dX0_duesAt_65 (by decide) ?_
    subst hQ
    exact rd_i (by unfold due; rw [if_neg (by rw [h5]; decide), if_neg (by rw [h5]; decide), if_pos h5]) hx hb hr hS hlocks dX0_duesAt_66
  · skip
    refine lv_tableOut (tgt := 67) hx hb dX0_duesAt_6 (tbl345 h3 h4 h5) (by decide) ?_
    refine lv_iconst (v := 0) hx hb dX0_duesAt_67 (by decide) ?_
    subst hQ
    exact rd_i (by unfold due; rw [if_neg h3, if_neg h4, if_neg h5]) hx hb hr hS hlocks dX0_duesAt_68

def rmX0_sum : Room := { frames := 0, cells := 0, slots := 0, locals := 0 }
set_option maxHeartbeats 4000000 in
set_option maxRecDepth 100000 in
/-- the sum of a row -/
theorem c_X0_sum (l : Launch) (G : va_G) (cI : ClassId) (r : Nat) (f : Nat → Int32)  : Met l yX0_sum wsX0_sum rmX0_sum (va_Pc [.ref r] (RdP G cI [(r, iA cI f)])) (RdQ (csum f 64)) 0 0 No := by
  refine Met.ofW (cc := cX0_sum) (maxL := 3) (ret := (some .int)) (by decide) rfl ?_
  intro p e s m args below meth c s₁ B hml hv
  obtain ⟨rfl, hP, hK, hN⟩ := hv
  have hx := B.exec
  have hb := B.bytes
  have hr := B.returns
  have hlocks := B.notSynchronized
  have hts := atoms_spec (ws := wsX0_sum) B.pre
  have hown : s.vm.findClass RX0 = some m.cls := findClass_of_methodNamed B.named
  have hS : va_S No s.heap s.heap [] := va_S.rf
  have FX : CallFix p m c cX0_sum 3 s ([.ref r] : List Value).toArray wsX0_sum RX0 := ⟨hx, hb, hml, hown, hts⟩
  have hl := lv_entry ([.ref r]) (n := 3) (Nat.le_of_ble_eq_true rfl)
  rw [lg_entry_eq]
  generalize (lg_sl ([.ref r]) ++ List.replicate (3 - (lg_sl ([.ref r])).length) Slot.unset).toArray = ls at hl ⊢
  have hl : lv_has ls 3 [(0, .ref r)] := hl
  refine wq (fun Q hQ => ?_)
  have hzc : 0 + 0 ≤ (headSpec wsX0_sum rmX0_sum).room.cells := Nat.zero_le _
  have hzs : 0 + 0 ≤ (headSpec wsX0_sum rmX0_sum).room.slots := Nat.zero_le _
  refine lv_iconst (v := 0) hx hb dX0_sum_0 (by decide) ?_
  refine lv_istore_n (lv' := [(1, .int 0), (0, .ref r)]) hx hb dX0_sum_1 rfl hl (by decide) rfl (fun ls hl => ?_)
  refine lv_iconst (v := 0) hx hb dX0_sum_2 (by decide) ?_
  refine lv_istore_n (lv' := [(2, .int 0), (1, .int 0), (0, .ref r)]) hx hb dX0_sum_3 rfl hl (by decide) rfl (fun ls hl => ?_)
  have lp : ∀ (n : Nat) (i : Nat), (hi : i ≤ 64) → (64 - i) < n → ∀ (H : Heap) (locs : List Loc) (ls : Array Slot), va_P G vwCl [(r, iA cI f)] H → va_S No s.heap H locs → lv_has ls 3 [(0, .ref r), (1, .int (csum f i)), (2, .int (nI i))] → W p l e (headSpec wsX0_sum rmX0_sum).room s m ([.ref r] : List Value).toArray below meth c H locs 0 0 Q (F0 m 4 ls []) := by
    intro n
    induction n with
    | zero => intro i hi hn; exact absurd hn (by omega)
    | succ n ih_lp =>
      intro i hi hn H locs ls hP hS hl
      refine lv_iload_n hx hb dX0_sum_4 rfl (lv_at hl 2 rfl) ?_
      refine lv_aload_n hx hb dX0_sum_5 rfl (lv_at hl 0 rfl) ?_
      refine va_alen hx hb hK hP 0 0 rfl rfl (v := 64) rfl dX0_sum_6 ?_
      rcases Nat.lt_or_ge i 64 with g | g
      · skip
        refine lv_icmp_ge (tgt := 22) hx hb dX0_sum_7 (by decide) (fun c => absurd c (lt_n (n := 64) g (by decide))) (fun _ => ?_)
        refine lv_iload_n hx hb dX0_sum_10 rfl (lv_at hl 1 rfl) ?_
        refine lv_aload_n hx hb dX0_sum_11 rfl (lv_at hl 0 rfl) ?_
        refine lv_iload_n hx hb dX0_sum_12 rfl (lv_at hl 2 rfl) ?_
        refine va_iald hx hb hK hP 0 0 rfl rfl (vp_in_nI g (by decide)) dX0_sum_13 ?_
        refine tpi (x' := f i) (congrArg f (nI_clamp (by omega))) ?_
        refine lv_iadd hx hb dX0_sum_14 ?_
        refine lv_istore_n (lv' := [(1, .int ((csum f i) + (f i))), (0, .ref r), (2, .int (nI i))]) hx hb dX0_sum_15 rfl hl (by decide) rfl (fun ls hl => ?_)
        refine lv_iinc (v := nI (i + 1)) (lv' := [(2, .int (nI (i + 1))), (1, .int ((csum f i) + (f i))), (0, .ref r)]) hx hb dX0_sum_16 hl (k := 2) rfl (nI_inc i) (by decide) rfl (fun ls hl => ?_)
        refine lv_goto (tgt := 4) hx hb dX0_sum_19 (by decide) ?_
        exact ih_lp (i + 1) (by omega) (by omega) _ _ _ hP hS (lv_sub hl [2, 1, 0] (rfl))
      · skip
        have g : i = 64 := by omega
        subst g
        refine lv_icmp_ge (tgt := 22) hx hb dX0_sum_7 (by decide) (fun _ => ?_) (fun c => absurd (le_n (n := 64) (i := 64) (by decide) (by decide)) c)
        refine lv_iload_n hx hb dX0_sum_22 rfl (lv_at hl 1 rfl) ?_
        subst hQ
        exact rd_i (rfl) hx hb hr hS hlocks dX0_sum_23
  exact lp (_ + 1) 0 (by omega) (Nat.lt_succ_self _) _ _ _ hP hS (lv_sub hl [2, 1, 0] rfl)

def rmX0_complaintsOfAll : Room := { frames := 1, cells := 0, slots := 0, locals := 22 }
set_option maxHeartbeats 4000000 in
set_option maxRecDepth 100000 in
/-- over all lots -/
theorem c_X0_complaintsOfAll (l : Launch) (G : va_G) (cI : ClassId) (a : Nat → Nat) (mo co le : Int32) (K Qa La Ha Ma Ba Ca Da Fa Wa k : Nat → Int32) (hCa : hatC k Ca) : Met l yX0_complaintsOfAll wsX0_complaintsOfAll rmX0_complaintsOfAll (va_Pc [.ref (a 0)] (RdP G cI [((a 0), oC a mo co le), ((a 3), iA cI K), ((a 4), iA cI Qa), ((a 5), iA cI La), ((a 6), iA cI Ha), ((a 7), iA cI Ma), ((a 8), iA cI Ba), ((a 9), iA cI Ca), ((a 10), iA cI Da), ((a 11), iA cI Fa), ((a 12), iA cI Wa)])) (RdQ (call k)) 0 0 No := by
  refine Met.ofW (cc := cX0_complaintsOfAll) (maxL := 1) (ret := (some .int)) (by decide) rfl ?_
  intro p e s m args below meth c s₁ B hml hv
  obtain ⟨rfl, hP, hK, hN⟩ := hv
  have hx := B.exec
  have hb := B.bytes
  have hr := B.returns
  have hlocks := B.notSynchronized
  have hts := atoms_spec (ws := wsX0_complaintsOfAll) B.pre
  have hown : s.vm.findClass RX0 = some m.cls := findClass_of_methodNamed B.named
  have hS : va_S No s.heap s.heap [] := va_S.rf
  have FX : CallFix p m c cX0_complaintsOfAll 1 s ([.ref (a 0)] : List Value).toArray wsX0_complaintsOfAll RX0 := ⟨hx, hb, hml, hown, hts⟩
  have hl := lv_entry ([.ref (a 0)]) (n := 1) (Nat.le_of_ble_eq_true rfl)
  rw [lg_entry_eq]
  generalize (lg_sl ([.ref (a 0)]) ++ List.replicate (1 - (lg_sl ([.ref (a 0)])).length) Slot.unset).toArray = ls at hl ⊢
  have hl : lv_has ls 1 [(0, .ref (a 0))] := hl
  refine wq (fun Q hQ => ?_)
  have hzc : 0 + 0 ≤ (headSpec wsX0_complaintsOfAll rmX0_complaintsOfAll).room.cells := Nat.zero_le _
  have hzs : 0 + 0 ≤ (headSpec wsX0_complaintsOfAll rmX0_complaintsOfAll).room.slots := Nat.zero_le _
  have hf40 := hts (.fieldLink RX0 40 "CanalCity$City" "complaints" "[I") (by decide +kernel)
  have hinX0 : ∀ w ∈ u_ws RX0 TX0 13, w ∈ wsX0_complaintsOfAll := by decide +kernel
  refine lv_aload_n hx hb dX0_complaintsOfAll_0 rfl (lv_at hl 0 rfl) ?_
  refine va_get (D := G) (ci := 0) (v := .ref (a 9)) (C := RX0) (T := TX0) (N := 13) hx hb hts hinX0 hown hK hP 0 rfl rfl 9 (by decide) hf40 (fun _ h9 => h9) rfl dX0_complaintsOfAll_1 ?_
  refine cr_i (va_runS (As := [.ref (a 9)]) (rest := []) FX (c_X0_sum l G cI (a 9) Ca) (va_cwS 1 hts gX0_complaintsOfAll_X0_sum rfl rfl rfl (by decide +kernel) ⟨Nat.le_of_ble_eq_true rfl, Nat.le_of_ble_eq_true rfl⟩) (rdS hK hP hN [7] rfl) rfl rfl hl.1 rfl (lv_room (Nat.le_of_ble_eq_true rfl)) dX0_complaintsOfAll_4 ⟨hzc, hzs⟩) hS hP (fun H locs hP hS => ?_)
  subst hQ
  exact rd_i (csum_cong hCa) hx hb hr hS hlocks dX0_complaintsOfAll_7

def rmX0_duesOfAll : Room := { frames := 1, cells := 0, slots := 0, locals := 22 }
set_option maxHeartbeats 4000000 in
set_option maxRecDepth 100000 in
/-- over all lots -/
theorem c_X0_duesOfAll (l : Launch) (G : va_G) (cI : ClassId) (a : Nat → Nat) (mo co le : Int32) (K Qa La Ha Ma Ba Ca Da Fa Wa k : Nat → Int32) (hDa : hatD k Da) : Met l yX0_duesOfAll wsX0_duesOfAll rmX0_duesOfAll (va_Pc [.ref (a 0)] (RdP G cI [((a 0), oC a mo co le), ((a 3), iA cI K), ((a 4), iA cI Qa), ((a 5), iA cI La), ((a 6), iA cI Ha), ((a 7), iA cI Ma), ((a 8), iA cI Ba), ((a 9), iA cI Ca), ((a 10), iA cI Da), ((a 11), iA cI Fa), ((a 12), iA cI Wa)])) (RdQ (dall k)) 0 0 No := by
  refine Met.ofW (cc := cX0_duesOfAll) (maxL := 1) (ret := (some .int)) (by decide) rfl ?_
  intro p e s m args below meth c s₁ B hml hv
  obtain ⟨rfl, hP, hK, hN⟩ := hv
  have hx := B.exec
  have hb := B.bytes
  have hr := B.returns
  have hlocks := B.notSynchronized
  have hts := atoms_spec (ws := wsX0_duesOfAll) B.pre
  have hown : s.vm.findClass RX0 = some m.cls := findClass_of_methodNamed B.named
  have hS : va_S No s.heap s.heap [] := va_S.rf
  have FX : CallFix p m c cX0_duesOfAll 1 s ([.ref (a 0)] : List Value).toArray wsX0_duesOfAll RX0 := ⟨hx, hb, hml, hown, hts⟩
  have hl := lv_entry ([.ref (a 0)]) (n := 1) (Nat.le_of_ble_eq_true rfl)
  rw [lg_entry_eq]
  generalize (lg_sl ([.ref (a 0)]) ++ List.replicate (1 - (lg_sl ([.ref (a 0)])).length) Slot.unset).toArray = ls at hl ⊢
  have hl : lv_has ls 1 [(0, .ref (a 0))] := hl
  refine wq (fun Q hQ => ?_)
  have hzc : 0 + 0 ≤ (headSpec wsX0_duesOfAll rmX0_duesOfAll).room.cells := Nat.zero_le _
  have hzs : 0 + 0 ≤ (headSpec wsX0_duesOfAll rmX0_duesOfAll).room.slots := Nat.zero_le _
  have hf43 := hts (.fieldLink RX0 43 "CanalCity$City" "dues" "[I") (by decide +kernel)
  have hinX0 : ∀ w ∈ u_ws RX0 TX0 13, w ∈ wsX0_duesOfAll := by decide +kernel
  refine lv_aload_n hx hb dX0_duesOfAll_0 rfl (lv_at hl 0 rfl) ?_
  refine va_get (D := G) (ci := 0) (v := .ref (a 10)) (C := RX0) (T := TX0) (N := 13) hx hb hts hinX0 hown hK hP 0 rfl rfl 10 (by decide) hf43 (fun _ h9 => h9) rfl dX0_duesOfAll_1 ?_
  refine cr_i (va_runS (As := [.ref (a 10)]) (rest := []) FX (c_X0_sum l G cI (a 10) Da) (va_cwS 1 hts gX0_duesOfAll_X0_sum rfl rfl rfl (by decide +kernel) ⟨Nat.le_of_ble_eq_true rfl, Nat.le_of_ble_eq_true rfl⟩) (rdS hK hP hN [8] rfl) rfl rfl hl.1 rfl (lv_room (Nat.le_of_ble_eq_true rfl)) dX0_duesOfAll_4 ⟨hzc, hzs⟩) hS hP (fun H locs hP hS => ?_)
  subst hQ
  exact rd_i (csum_cong hDa) hx hb hr hS hlocks dX0_duesOfAll_7

def rmX0_lotsOfKind : Room := { frames := 0, cells := 0, slots := 0, locals := 0 }
set_option maxHeartbeats 4000000 in
set_option maxRecDepth 100000 in
/-- lots of a kind -/
theorem c_X0_lotsOfKind (l : Launch) (G : va_G) (cI : ClassId) (a : Nat → Nat) (mo co le : Int32) (K Qa La Ha Ma Ba Ca Da Fa Wa k : Nat → Int32) (v : Int32) (hk : eqK K k) : Met l yX0_lotsOfKind wsX0_lotsOfKind rmX0_lotsOfKind (va_Pc [.ref (a 0), .int v] (RdP G cI [((a 0), oC a mo co le), ((a 3), iA cI K), ((a 4), iA cI Qa), ((a 5), iA cI La), ((a 6), iA cI Ha), ((a 7), iA cI Ma), ((a 8), iA cI Ba), ((a 9), iA cI Ca), ((a 10), iA cI Da), ((a 11), iA cI Fa), ((a 12), iA cI Wa)])) (RdQ (many k v)) 0 0 No := by
  refine Met.ofW (cc := cX0_lotsOfKind) (maxL := 4) (ret := (some .int)) (by decide) rfl ?_
  intro p e s m args below meth c s₁ B hml hv
  obtain ⟨rfl, hP, hK, hN⟩ := hv
  have hx := B.exec
  have hb := B.bytes
  have hr := B.returns
  have hlocks := B.notSynchronized
  have hts := atoms_spec (ws := wsX0_lotsOfKind) B.pre
  have hown : s.vm.findClass RX0 = some m.cls := findClass_of_methodNamed B.named
  have hS : va_S No s.heap s.heap [] := va_S.rf
  have FX : CallFix p m c cX0_lotsOfKind 4 s ([.ref (a 0), .int v] : List Value).toArray wsX0_lotsOfKind RX0 := ⟨hx, hb, hml, hown, hts⟩
  have hl := lv_entry ([.ref (a 0), .int v]) (n := 4) (Nat.le_of_ble_eq_true rfl)
  rw [lg_entry_eq]
  generalize (lg_sl ([.ref (a 0), .int v]) ++ List.replicate (4 - (lg_sl ([.ref (a 0), .int v])).length) Slot.unset).toArray = ls at hl ⊢
  have hl : lv_has ls 4 [(0, .ref (a 0)), (1, .int v)] := hl
  refine wq (fun Q hQ => ?_)
  have hzc : 0 + 0 ≤ (headSpec wsX0_lotsOfKind rmX0_lotsOfKind).room.cells := Nat.zero_le _
  have hzs : 0 + 0 ≤ (headSpec wsX0_lotsOfKind rmX0_lotsOfKind).room.slots := Nat.zero_le _
  have hf21 := hts (.fieldLink RX0 21 "CanalCity$City" "kinds" "[I") (by decide +kernel)
  have hinX0 : ∀ w ∈ u_ws RX0 TX0 13, w ∈ wsX0_lotsOfKind := by decide +kernel
  refine lv_iconst (v := 0) hx hb dX0_lotsOfKind_0 (by decide) ?_
  refine lv_istore_n (lv' := [(2, .int 0), (0, .ref (a 0)), (1, .int v)]) hx hb dX0_lotsOfKind_1 rfl hl (by decide) rfl (fun ls hl => ?_)
  refine lv_iconst (v := 0) hx hb dX0_lotsOfKind_2 (by decide) ?_
  refine lv_istore_n (lv' := [(3, .int 0), (2, .int 0), (0, .ref (a 0)), (1, .int v)]) hx hb dX0_lotsOfKind_3 rfl hl (by decide) rfl (fun ls hl => ?_)
  have lp : ∀ (n : Nat) (i : Nat), (hi : i ≤ 64) → (64 - i) < n → ∀ (H : Heap) (locs : List Loc) (ls : Array Slot), va_P G vwCl [((a 0), oC a mo co le), ((a 3), iA cI K), ((a 4), iA cI Qa), ((a 5), iA cI La), ((a 6), iA cI Ha), ((a 7), iA cI Ma), ((a 8), iA cI Ba), ((a 9), iA cI Ca), ((a 10), iA cI Da), ((a 11), iA cI Fa), ((a 12), iA cI Wa)] H → va_S No s.heap H locs → lv_has ls 4 [(0, .ref (a 0)), (1, .int v), (2, .int (csum (fun p => if k p = v then 1 else 0) i)), (3, .int (nI i))] → W p l e (headSpec wsX0_lotsOfKind rmX0_lotsOfKind).room s m ([.ref (a 0), .int v] : List Value).toArray below meth c H locs 0 0 Q (F0 m 4 ls []) := by
    intro n
    induction n with
    | zero => intro i hi hn; exact absurd hn (by omega)
    | succ n ih_lp =>
      intro i hi hn H locs ls hP hS hl
      refine lv_iload_n hx hb dX0_lotsOfKind_4 rfl (lv_at hl 3 rfl) ?_
      refine lv_bipush (v := 64) hx hb dX0_lotsOfKind_5 (by decide) ?_
      rcases Nat.lt_or_ge i 64 with g | g
      · skip
        refine lv_icmp_ge (tgt := 29) hx hb dX0_lotsOfKind_7 (by decide) (fun c => absurd c (lt_n (n := 64) g (by decide))) (fun _ => ?_)
        refine lv_aload_n hx hb dX0_lotsOfKind_10 rfl (lv_at hl 0 rfl) ?_
        refine va_get (D := G) (ci := 0) (v := .ref (a 3)) (C := RX0) (T := TX0) (N := 13) hx hb hts hinX0 hown hK hP 0 rfl rfl 3 (by decide) hf21 (fun _ h9 => h9) rfl dX0_lotsOfKind_11 ?_
        refine lv_iload_n hx hb dX0_lotsOfKind_14 rfl (lv_at hl 3 rfl) ?_
        refine va_iald hx hb hK hP 1 0 rfl rfl (vp_in_nI g (by decide)) dX0_lotsOfKind_15 ?_
        refine tpi (x' := K i) (congrArg K (nI_clamp (by omega))) ?_
        refine tpi (x' := k i) (hk i g) ?_
        refine lv_iload_n hx hb dX0_lotsOfKind_16 rfl (lv_at hl 1 rfl) ?_
        refine lv_icmp_ne (tgt := 23) hx hb dX0_lotsOfKind_17 (by decide) (fun c9 => ?_) (fun c9 => ?_)
        · skip
          refine lv_iinc (v := nI (i + 1)) (lv' := [(3, .int (nI (i + 1))), (0, .ref (a 0)), (1, .int v), (2, .int (csum (fun p => if k p = v then 1 else 0) i))]) hx hb dX0_lotsOfKind_23 hl (k := 3) rfl (nI_inc i) (by decide) rfl (fun ls hl => ?_)
          refine lv_goto (tgt := 4) hx hb dX0_lotsOfKind_26 (by decide) ?_
          exact ih_lp (i + 1) (by omega) (by omega) _ _ _ hP hS (lv_sub hl [1, 2, 3, 0] (by rw [show csum (fun p => if k p = v then 1 else 0) (i + 1) = csum (fun p => if k p = v then 1 else 0) i from by show csum (fun p => if k p = v then 1 else 0) i + (if k i = v then 1 else 0) = _; rw [if_neg c9]; exact Int32.add_zero _]; rfl))
        · skip
          refine lv_iinc (v := csum (fun p => if k p = v then 1 else 0) i + 1) (lv' := [(2, .int (csum (fun p => if k p = v then 1 else 0) i + 1)), (0, .ref (a 0)), (1, .int v), (3, .int (nI i))]) hx hb dX0_lotsOfKind_20 hl (k := 2) rfl (inc1 _) (by decide) rfl (fun ls hl => ?_)
          refine lv_iinc (v := nI (i + 1)) (lv' := [(3, .int (nI (i + 1))), (2, .int (csum (fun p => if k p = v then 1 else 0) i + 1)), (0, .ref (a 0)), (1, .int v)]) hx hb dX0_lotsOfKind_23 hl (k := 3) rfl (nI_inc i) (by decide) rfl (fun ls hl => ?_)
          refine lv_goto (tgt := 4) hx hb dX0_lotsOfKind_26 (by decide) ?_
          exact ih_lp (i + 1) (by omega) (by omega) _ _ _ hP hS (lv_sub hl [2, 3, 1, 0] (by rw [show csum (fun p => if k p = v then 1 else 0) (i + 1) = csum (fun p => if k p = v then 1 else 0) i + 1 from by show csum (fun p => if k p = v then 1 else 0) i + (if k i = v then 1 else 0) = _; rw [if_pos c9]]; rfl))
      · skip
        have g : i = 64 := by omega
        subst g
        refine lv_icmp_ge (tgt := 29) hx hb dX0_lotsOfKind_7 (by decide) (fun _ => ?_) (fun c => absurd (le_n (n := 64) (i := 64) (by decide) (by decide)) c)
        refine lv_iload_n hx hb dX0_lotsOfKind_29 rfl (lv_at hl 2 rfl) ?_
        subst hQ
        exact rd_i (rfl) hx hb hr hS hlocks dX0_lotsOfKind_30
  exact lp (_ + 1) 0 (by omega) (Nat.lt_succ_self _) _ _ _ hP hS (lv_sub hl [2, 3, 1, 0] rfl)

def rmX0_quartersOfAll : Room := { frames := 0, cells := 0, slots := 0, locals := 0 }
set_option maxHeartbeats 4000000 in
set_option maxRecDepth 100000 in
/-- quarters -/
theorem c_X0_quartersOfAll (l : Launch) (G : va_G) (cI : ClassId) (a : Nat → Nat) (mo co le : Int32) (K Qa La Ha Ma Ba Ca Da Fa Wa k : Nat → Int32) (hQa : hatQ k Qa) : Met l yX0_quartersOfAll wsX0_quartersOfAll rmX0_quartersOfAll (va_Pc [.ref (a 0)] (RdP G cI [((a 0), oC a mo co le), ((a 3), iA cI K), ((a 4), iA cI Qa), ((a 5), iA cI La), ((a 6), iA cI Ha), ((a 7), iA cI Ma), ((a 8), iA cI Ba), ((a 9), iA cI Ca), ((a 10), iA cI Da), ((a 11), iA cI Fa), ((a 12), iA cI Wa)])) (RdQ (qall k)) 0 0 No := by
  refine Met.ofW (cc := cX0_quartersOfAll) (maxL := 3) (ret := (some .int)) (by decide) rfl ?_
  intro p e s m args below meth c s₁ B hml hv
  obtain ⟨rfl, hP, hK, hN⟩ := hv
  have hx := B.exec
  have hb := B.bytes
  have hr := B.returns
  have hlocks := B.notSynchronized
  have hts := atoms_spec (ws := wsX0_quartersOfAll) B.pre
  have hown : s.vm.findClass RX0 = some m.cls := findClass_of_methodNamed B.named
  have hS : va_S No s.heap s.heap [] := va_S.rf
  have FX : CallFix p m c cX0_quartersOfAll 3 s ([.ref (a 0)] : List Value).toArray wsX0_quartersOfAll RX0 := ⟨hx, hb, hml, hown, hts⟩
  have hl := lv_entry ([.ref (a 0)]) (n := 3) (Nat.le_of_ble_eq_true rfl)
  rw [lg_entry_eq]
  generalize (lg_sl ([.ref (a 0)]) ++ List.replicate (3 - (lg_sl ([.ref (a 0)])).length) Slot.unset).toArray = ls at hl ⊢
  have hl : lv_has ls 3 [(0, .ref (a 0))] := hl
  refine wq (fun Q hQ => ?_)
  have hzc : 0 + 0 ≤ (headSpec wsX0_quartersOfAll rmX0_quartersOfAll).room.cells := Nat.zero_le _
  have hzs : 0 + 0 ≤ (headSpec wsX0_quartersOfAll rmX0_quartersOfAll).room.slots := Nat.zero_le _
  have hf25 := hts (.fieldLink RX0 25 "CanalCity$City" "quarters" "[I") (by decide +kernel)
  have hinX0 : ∀ w ∈ u_ws RX0 TX0 13, w ∈ wsX0_quartersOfAll := by decide +kernel
  refine lv_iconst (v := 0) hx hb dX0_quartersOfAll_0 (by decide) ?_
  refine lv_istore_n (lv' := [(1, .int 0), (0, .ref (a 0))]) hx hb dX0_quartersOfAll_1 rfl hl (by decide) rfl (fun ls hl => ?_)
  refine lv_iconst (v := 0) hx hb dX0_quartersOfAll_2 (by decide) ?_
  refine lv_istore_n (lv' := [(2, .int 0), (1, .int 0), (0, .ref (a 0))]) hx hb dX0_quartersOfAll_3 rfl hl (by decide) rfl (fun ls hl => ?_)
  have lp : ∀ (n : Nat) (i : Nat), (hi : i ≤ 64) → (64 - i) < n → ∀ (H : Heap) (locs : List Loc) (ls : Array Slot), va_P G vwCl [((a 0), oC a mo co le), ((a 3), iA cI K), ((a 4), iA cI Qa), ((a 5), iA cI La), ((a 6), iA cI Ha), ((a 7), iA cI Ma), ((a 8), iA cI Ba), ((a 9), iA cI Ca), ((a 10), iA cI Da), ((a 11), iA cI Fa), ((a 12), iA cI Wa)] H → va_S No s.heap H locs → lv_has ls 3 [(0, .ref (a 0)), (1, .int (csum (fun p => if qrt k p = some p then 1 else 0) i)), (2, .int (nI i))] → W p l e (headSpec wsX0_quartersOfAll rmX0_quartersOfAll).room s m ([.ref (a 0)] : List Value).toArray below meth c H locs 0 0 Q (F0 m 4 ls []) := by
    intro n
    induction n with
    | zero => intro i hi hn; exact absurd hn (by omega)
    | succ n ih_lp =>
      intro i hi hn H locs ls hP hS hl
      refine lv_iload_n hx hb dX0_quartersOfAll_4 rfl (lv_at hl 2 rfl) ?_
      refine lv_bipush (v := 64) hx hb dX0_quartersOfAll_5 (by decide) ?_
      rcases Nat.lt_or_ge i 64 with g | g
      · skip
        refine lv_icmp_ge (tgt := 29) hx hb dX0_quartersOfAll_7 (by decide) (fun c => absurd c (lt_n (n := 64) g (by decide))) (fun _ => ?_)
        refine lv_aload_n hx hb dX0_quartersOfAll_10 rfl (lv_at hl 0 rfl) ?_
        refine va_get (D := G) (ci := 0) (v := .ref (a 4)) (C := RX0) (T := TX0) (N := 13) hx hb hts hinX0 hown hK hP 0 rfl rfl 4 (by decide) hf25 (fun _ h9 => h9) rfl dX0_quartersOfAll_11 ?_
        refine lv_iload_n hx hb dX0_quartersOfAll_14 rfl (lv_at hl 2 rfl) ?_
        refine va_iald hx hb hK hP 2 0 rfl rfl (vp_in_nI g (by decide)) dX0_quartersOfAll_15 ?_
        refine tpi (x' := Qa i) (congrArg Qa (nI_clamp (by omega))) ?_
        refine tpi (x' := toI (qrt k i)) (hQa i g) ?_
        refine lv_iload_n hx hb dX0_quartersOfAll_16 rfl (lv_at hl 2 rfl) ?_
        refine lv_icmp_ne (tgt := 23) hx hb dX0_quartersOfAll_17 (by decide) (fun c9 => ?_) (fun c9 => ?_)
        · skip
          refine lv_iinc (v := nI (i + 1)) (lv' := [(2, .int (nI (i + 1))), (0, .ref (a 0)), (1, .int (csum (fun p => if qrt k p = some p then 1 else 0) i))]) hx hb dX0_quartersOfAll_23 hl (k := 2) rfl (nI_inc i) (by decide) rfl (fun ls hl => ?_)
          refine lv_goto (tgt := 4) hx hb dX0_quartersOfAll_26 (by decide) ?_
          exact ih_lp (i + 1) (by omega) (by omega) _ _ _ hP hS (lv_sub hl [1, 2, 0] (by rw [show csum (fun p => if qrt k p = some p then 1 else 0) (i + 1) = csum (fun p => if qrt k p = some p then 1 else 0) i from by show csum (fun p => if qrt k p = some p then 1 else 0) i + (if qrt k i = some i then 1 else 0) = _; rw [if_neg (fun e => c9 (by rw [e]; rfl))]; exact Int32.add_zero _]; rfl))
        · skip
          refine lv_iinc (v := csum (fun p => if qrt k p = some p then 1 else 0) i + 1) (lv' := [(1, .int (csum (fun p => if qrt k p = some p then 1 else 0) i + 1)), (0, .ref (a 0)), (2, .int (nI i))]) hx hb dX0_quartersOfAll_20 hl (k := 1) rfl (inc1 _) (by decide) rfl (fun ls hl => ?_)
          refine lv_iinc (v := nI (i + 1)) (lv' := [(2, .int (nI (i + 1))), (1, .int (csum (fun p => if qrt k p = some p then 1 else 0) i + 1)), (0, .ref (a 0))]) hx hb dX0_quartersOfAll_23 hl (k := 2) rfl (nI_inc i) (by decide) rfl (fun ls hl => ?_)
          refine lv_goto (tgt := 4) hx hb dX0_quartersOfAll_26 (by decide) ?_
          exact ih_lp (i + 1) (by omega) (by omega) _ _ _ hP hS (lv_sub hl [2, 1, 0] (by rw [show csum (fun p => if qrt k p = some p then 1 else 0) (i + 1) = csum (fun p => if qrt k p = some p then 1 else 0) i + 1 from by show csum (fun p => if qrt k p = some p then 1 else 0) i + (if qrt k i = some i then 1 else 0) = _; rw [if_pos (toI_eq (fun q hq => Nat.lt_of_le_of_lt (qrt_le hq) g) g c9)]]; rfl))
      · skip
        have g : i = 64 := by omega
        subst g
        refine lv_icmp_ge (tgt := 29) hx hb dX0_quartersOfAll_7 (by decide) (fun _ => ?_) (fun c => absurd (le_n (n := 64) (i := 64) (by decide) (by decide)) c)
        refine lv_iload_n hx hb dX0_quartersOfAll_29 rfl (lv_at hl 1 rfl) ?_
        subst hQ
        exact rd_i (rfl) hx hb hr hS hlocks dX0_quartersOfAll_30
  exact lp (_ + 1) 0 (by omega) (Nat.lt_succ_self _) _ _ _ hP hS (lv_sub hl [2, 1, 0] rfl)

def rmX0_factOf : Room := { frames := 2, cells := 0, slots := 0, locals := 47 }
set_option maxHeartbeats 4000000 in
set_option maxRecDepth 100000 in
/-- what lot tells -/
theorem c_X0_factOf (l : Launch) (G : va_G) (cI : ClassId) (a : Nat → Nat) (mo co le : Int32) (K Qa La Ha Ma Ba Ca Da Fa Wa k : Nat → Int32) (pt : Nat) (w : Int32) (hk : eqK K k) (hQa : hatQ k Qa) (hLa : hatL k La) (hBa : hatB k Ba) (hCa : hatC k Ca) (hDa : hatD k Da) (hpt : pt < 64) : Met l yX0_factOf wsX0_factOf rmX0_factOf (va_Pc [.ref (a 0), .int (nI pt), .int w] (RdP G cI [((a 0), oC a mo co le), ((a 3), iA cI K), ((a 4), iA cI Qa), ((a 5), iA cI La), ((a 6), iA cI Ha), ((a 7), iA cI Ma), ((a 8), iA cI Ba), ((a 9), iA cI Ca), ((a 10), iA cI Da), ((a 11), iA cI Fa), ((a 12), iA cI Wa)])) (RdQ (fct k pt w)) 0 0 No := by
  refine Met.ofW (cc := cX0_factOf) (maxL := 3) (ret := (some .int)) (by decide) rfl ?_
  intro p e s m args below meth c s₁ B hml hv
  obtain ⟨rfl, hP, hK, hN⟩ := hv
  have hx := B.exec
  have hb := B.bytes
  have hr := B.returns
  have hlocks := B.notSynchronized
  have hts := atoms_spec (ws := wsX0_factOf) B.pre
  have hown : s.vm.findClass RX0 = some m.cls := findClass_of_methodNamed B.named
  have hS : va_S No s.heap s.heap [] := va_S.rf
  have FX : CallFix p m c cX0_factOf 3 s ([.ref (a 0), .int (nI pt), .int w] : List Value).toArray wsX0_factOf RX0 := ⟨hx, hb, hml, hown, hts⟩
  have hl := lv_entry ([.ref (a 0), .int (nI pt), .int w]) (n := 3) (Nat.le_of_ble_eq_true rfl)
  rw [lg_entry_eq]
  generalize (lg_sl ([.ref (a 0), .int (nI pt), .int w]) ++ List.replicate (3 - (lg_sl ([.ref (a 0), .int (nI pt), .int w])).length) Slot.unset).toArray = ls at hl ⊢
  have hl : lv_has ls 3 [(0, .ref (a 0)), (1, .int (nI pt)), (2, .int w)] := hl
  refine wq (fun Q hQ => ?_)
  have hzc : 0 + 0 ≤ (headSpec wsX0_factOf rmX0_factOf).room.cells := Nat.zero_le _
  have hzs : 0 + 0 ≤ (headSpec wsX0_factOf rmX0_factOf).room.slots := Nat.zero_le _
  have hf21 := hts (.fieldLink RX0 21 "CanalCity$City" "kinds" "[I") (by decide +kernel)
  have hf25 := hts (.fieldLink RX0 25 "CanalCity$City" "quarters" "[I") (by decide +kernel)
  have hf40 := hts (.fieldLink RX0 40 "CanalCity$City" "complaints" "[I") (by decide +kernel)
  have hf43 := hts (.fieldLink RX0 43 "CanalCity$City" "dues" "[I") (by decide +kernel)
  have hinX0 : ∀ w ∈ u_ws RX0 TX0 13, w ∈ wsX0_factOf := by decide +kernel
  refine lv_iload_n hx hb dX0_factOf_0 rfl (lv_at hl 2 rfl) ?_
  by_cases w0 : w = 0
  · skip
    refine tpi (x' := 0) (w0) ?_
    refine lv_tableIn (off := 35) (tgt := 36) hx hb dX0_factOf_1 (by decide +kernel) (by decide +kernel) (by decide +kernel) (by decide) ?_
    refine lv_aload_n hx hb dX0_factOf_36 rfl (lv_at hl 0 rfl) ?_
    refine va_get (D := G) (ci := 0) (v := .ref (a 3)) (C := RX0) (T := TX0) (N := 13) hx hb hts hinX0 hown hK hP 0 rfl rfl 3 (by decide) hf21 (fun _ h9 => h9) rfl dX0_factOf_37 ?_
    refine lv_iload_n hx hb dX0_factOf_40 rfl (lv_at hl 1 rfl) ?_
    refine va_iald hx hb hK hP 1 0 rfl rfl (vp_in_nI hpt (by decide)) dX0_factOf_41 ?_
    refine tpi (x' := K pt) (congrArg K (nI_clamp (by omega))) ?_
    subst hQ
    exact rd_i (by unfold fct; rw [if_pos w0]; exact hk pt hpt) hx hb hr hS hlocks dX0_factOf_42
  by_cases w1 : w = 1
  · skip
    refine tpi (x' := 1) (w1) ?_
    refine lv_tableIn (off := 42) (tgt := 43) hx hb dX0_factOf_1 (by decide +kernel) (by decide +kernel) (by decide +kernel) (by decide) ?_
    refine lv_aload_n hx hb dX0_factOf_43 rfl (lv_at hl 0 rfl) ?_
    refine va_get (D := G) (ci := 0) (v := .ref (a 4)) (C := RX0) (T := TX0) (N := 13) hx hb hts hinX0 hown hK hP 0 rfl rfl 4 (by decide) hf25 (fun _ h9 => h9) rfl dX0_factOf_44 ?_
    refine lv_iload_n hx hb dX0_factOf_47 rfl (lv_at hl 1 rfl) ?_
    refine va_iald hx hb hK hP 2 0 rfl rfl (vp_in_nI hpt (by decide)) dX0_factOf_48 ?_
    refine tpi (x' := Qa pt) (congrArg Qa (nI_clamp (by omega))) ?_
    subst hQ
    exact rd_i (by unfold fct; rw [if_neg w0, if_pos w1]; exact hQa pt hpt) hx hb hr hS hlocks dX0_factOf_49
  by_cases w2 : w = 2
  · skip
    refine tpi (x' := 2) (w2) ?_
    refine lv_tableIn (off := 49) (tgt := 50) hx hb dX0_factOf_1 (by decide +kernel) (by decide +kernel) (by decide +kernel) (by decide) ?_
    refine lv_aload_n hx hb dX0_factOf_50 rfl (lv_at hl 0 rfl) ?_
    refine lv_iload_n hx hb dX0_factOf_51 rfl (lv_at hl 1 rfl) ?_
    refine cr_i (va_runV (As := [.int (nI pt)]) (rest := []) FX (c_X0_lotsOfQuarter l G cI a mo co le K Qa La Ha Ma Ba Ca Da Fa Wa k pt hQa hLa hpt) (cwV 1 hts gX0_factOf_X0_lotsOfQuarter rfl rfl rfl (by decide +kernel) ⟨Nat.le_of_ble_eq_true rfl, Nat.le_of_ble_eq_true rfl⟩) (rdV hK hP hN [0, 1, 2, 3, 4, 5, 6, 7, 8, 9, 10] rfl (ci := 0) (q0 := 0) rfl rfl) rfl rfl hl.1 rfl (lv_room (Nat.le_of_ble_eq_true rfl)) dX0_factOf_52 ⟨hzc, hzs⟩) hS hP (fun H locs hP hS => ?_)
    subst hQ
    exact rd_i (by unfold fct; rw [if_neg w0, if_neg w1, if_pos w2]) hx hb hr hS hlocks dX0_factOf_55
  by_cases w3 : w = 3
  · skip
    refine tpi (x' := 3) (w3) ?_
    refine lv_tableIn (off := 55) (tgt := 56) hx hb dX0_factOf_1 (by decide +kernel) (by decide +kernel) (by decide +kernel) (by decide) ?_
    refine lv_aload_n hx hb dX0_factOf_56 rfl (lv_at hl 0 rfl) ?_
    refine lv_iload_n hx hb dX0_factOf_57 rfl (lv_at hl 1 rfl) ?_
    refine cr_i (va_runV (As := [.int (nI pt)]) (rest := []) FX (c_X0_isByBoat l G cI a mo co le K Qa La Ha Ma Ba Ca Da Fa Wa k pt hk hBa hpt) (cwV 1 hts gX0_factOf_X0_isByBoat rfl rfl rfl (by decide +kernel) ⟨Nat.le_of_ble_eq_true rfl, Nat.le_of_ble_eq_true rfl⟩) (rdV hK hP hN [0, 1, 2, 3, 4, 5, 6, 7, 8, 9, 10] rfl (ci := 0) (q0 := 0) rfl rfl) rfl rfl hl.1 rfl (lv_room (Nat.le_of_ble_eq_true rfl)) dX0_factOf_58 ⟨hzc, hzs⟩) hS hP (fun H locs hP hS => ?_)
    rcases ho : byB k pt with _ | _
    · skip
      refine tpi (x' := 0) (rfl) ?_
      refine lv_if_ne (tgt := 72) hx hb dX0_factOf_61 (by decide) (fun c => absurd (by decide) c) (fun _ => ?_)
      refine lv_aload_n hx hb dX0_factOf_64 rfl (lv_at hl 0 rfl) ?_
      refine lv_iload_n hx hb dX0_factOf_65 rfl (lv_at hl 1 rfl) ?_
      refine cr_i (va_runV (As := [.int (nI pt)]) (rest := []) FX (c_X0_isOpenWater l G cI a mo co le K Qa La Ha Ma Ba Ca Da Fa Wa k pt hBa hpt) (cwV 1 hts gX0_factOf_X0_isOpenWater rfl rfl rfl (by decide +kernel) ⟨Nat.le_of_ble_eq_true rfl, Nat.le_of_ble_eq_true rfl⟩) (rdV hK hP hN [0, 1, 2, 3, 4, 5, 6, 7, 8, 9, 10] rfl (ci := 0) (q0 := 0) rfl rfl) rfl rfl hl.1 rfl (lv_room (Nat.le_of_ble_eq_true rfl)) dX0_factOf_66 ⟨hzc, hzs⟩) hS hP (fun H locs hP hS => ?_)
      rcases hp : opn k pt with _ | _
      · skip
        refine tpi (x' := 0) (rfl) ?_
        refine lv_if_eq (tgt := 76) hx hb dX0_factOf_69 (by decide) (fun _ => ?_) (fun c => absurd (rfl) c)
        refine lv_iconst (v := 0) hx hb dX0_factOf_76 (by decide) ?_
        subst hQ
        exact rd_i (by unfold fct; rw [if_neg w0, if_neg w1, if_neg w2, if_pos w3, ho, hp]; rfl) hx hb hr hS hlocks dX0_factOf_77
      · skip
        refine tpi (x' := 1) (rfl) ?_
        refine lv_if_eq (tgt := 76) hx hb dX0_factOf_69 (by decide) (fun c => absurd c (by decide)) (fun _ => ?_)
        refine lv_iconst (v := 1) hx hb dX0_factOf_72 (by decide) ?_
        refine lv_goto (tgt := 77) hx hb dX0_factOf_73 (by decide) ?_
        subst hQ
        exact rd_i (by unfold fct; rw [if_neg w0, if_neg w1, if_neg w2, if_pos w3, ho, hp]; rfl) hx hb hr hS hlocks dX0_factOf_77
    · skip
      refine tpi (x' := 1) (rfl) ?_
      refine lv_if_ne (tgt := 72) hx hb dX0_factOf_61 (by decide) (fun _ => ?_) (fun c => absurd c (by decide))
      refine lv_iconst (v := 1) hx hb dX0_factOf_72 (by decide) ?_
      refine lv_goto (tgt := 77) hx hb dX0_factOf_73 (by decide) ?_
      subst hQ
      exact rd_i (by unfold fct; rw [if_neg w0, if_neg w1, if_neg w2, if_pos w3, ho]; rfl) hx hb hr hS hlocks dX0_factOf_77
  by_cases w4 : w = 4
  · skip
    refine tpi (x' := 4) (w4) ?_
    refine lv_tableIn (off := 77) (tgt := 78) hx hb dX0_factOf_1 (by decide +kernel) (by decide +kernel) (by decide +kernel) (by decide) ?_
    refine lv_aload_n hx hb dX0_factOf_78 rfl (lv_at hl 0 rfl) ?_
    refine va_get (D := G) (ci := 0) (v := .ref (a 9)) (C := RX0) (T := TX0) (N := 13) hx hb hts hinX0 hown hK hP 0 rfl rfl 9 (by decide) hf40 (fun _ h9 => h9) rfl dX0_factOf_79 ?_
    refine lv_iload_n hx hb dX0_factOf_82 rfl (lv_at hl 1 rfl) ?_
    refine va_iald hx hb hK hP 7 0 rfl rfl (vp_in_nI hpt (by decide)) dX0_factOf_83 ?_
    refine tpi (x' := Ca pt) (congrArg Ca (nI_clamp (by omega))) ?_
    subst hQ
    exact rd_i (by unfold fct; rw [if_neg w0, if_neg w1, if_neg w2, if_neg w3, if_pos w4]; exact hCa pt hpt) hx hb hr hS hlocks dX0_factOf_84
  refine lv_tableOut (tgt := 85) hx hb dX0_factOf_1 (tbl04 w0 w1 w2 w3 w4) (by decide) ?_
  refine lv_aload_n hx hb dX0_factOf_85 rfl (lv_at hl 0 rfl) ?_
  refine va_get (D := G) (ci := 0) (v := .ref (a 10)) (C := RX0) (T := TX0) (N := 13) hx hb hts hinX0 hown hK hP 0 rfl rfl 10 (by decide) hf43 (fun _ h9 => h9) rfl dX0_factOf_86 ?_
  refine lv_iload_n hx hb dX0_factOf_89 rfl (lv_at hl 1 rfl) ?_
  refine va_iald hx hb hK hP 8 0 rfl rfl (vp_in_nI hpt (by decide)) dX0_factOf_90 ?_
  refine tpi (x' := Da pt) (congrArg Da (nI_clamp (by omega))) ?_
  subst hQ
  exact rd_i (by unfold fct; rw [if_neg w0, if_neg w1, if_neg w2, if_neg w3, if_neg w4]; exact hDa pt hpt) hx hb hr hS hlocks dX0_factOf_91

def rmX0_total : Room := { frames := 2, cells := 0, slots := 0, locals := 42 }
set_option maxHeartbeats 4000000 in
set_option maxRecDepth 100000 in
/-- what count tells -/
theorem c_X0_total (l : Launch) (G : va_G) (cI : ClassId) (a : Nat → Nat) (mo co le : Int32) (K Qa La Ha Ma Ba Ca Da Fa Wa k : Nat → Int32) (w : Int32) (hk : eqK K k) (hQa : hatQ k Qa) (hCa : hatC k Ca) (hDa : hatD k Da) : Met l yX0_total wsX0_total rmX0_total (va_Pc [.ref (a 0), .int w] (RdP G cI [((a 0), oC a mo co le), ((a 3), iA cI K), ((a 4), iA cI Qa), ((a 5), iA cI La), ((a 6), iA cI Ha), ((a 7), iA cI Ma), ((a 8), iA cI Ba), ((a 9), iA cI Ca), ((a 10), iA cI Da), ((a 11), iA cI Fa), ((a 12), iA cI Wa)])) (RdQ (tot k mo co le w)) 0 0 No := by
  refine Met.ofW (cc := cX0_total) (maxL := 2) (ret := (some .int)) (by decide) rfl ?_
  intro p e s m args below meth c s₁ B hml hv
  obtain ⟨rfl, hP, hK, hN⟩ := hv
  have hx := B.exec
  have hb := B.bytes
  have hr := B.returns
  have hlocks := B.notSynchronized
  have hts := atoms_spec (ws := wsX0_total) B.pre
  have hown : s.vm.findClass RX0 = some m.cls := findClass_of_methodNamed B.named
  have hS : va_S No s.heap s.heap [] := va_S.rf
  have FX : CallFix p m c cX0_total 2 s ([.ref (a 0), .int w] : List Value).toArray wsX0_total RX0 := ⟨hx, hb, hml, hown, hts⟩
  have hl := lv_entry ([.ref (a 0), .int w]) (n := 2) (Nat.le_of_ble_eq_true rfl)
  rw [lg_entry_eq]
  generalize (lg_sl ([.ref (a 0), .int w]) ++ List.replicate (2 - (lg_sl ([.ref (a 0), .int w])).length) Slot.unset).toArray = ls at hl ⊢
  have hl : lv_has ls 2 [(0, .ref (a 0)), (1, .int w)] := hl
  refine wq (fun Q hQ => ?_)
  have hzc : 0 + 0 ≤ (headSpec wsX0_total rmX0_total).room.cells := Nat.zero_le _
  have hzs : 0 + 0 ≤ (headSpec wsX0_total rmX0_total).room.slots := Nat.zero_le _
  have hf15 := hts (.fieldLink RX0 15 "CanalCity$City" "coins" "I") (by decide +kernel)
  have hf18 := hts (.fieldLink RX0 18 "CanalCity$City" "left" "I") (by decide +kernel)
  have hf9 := hts (.fieldLink RX0 9 "CanalCity$City" "month" "I") (by decide +kernel)
  have hinX0 : ∀ w ∈ u_ws RX0 TX0 13, w ∈ wsX0_total := by decide +kernel
  refine lv_iload_n hx hb dX0_total_0 rfl (lv_at hl 1 rfl) ?_
  by_cases w0 : w = 0
  · skip
    refine tpi (x' := 0) (w0) ?_
    refine lv_tableIn (off := 67) (tgt := 68) hx hb dX0_total_1 (by decide +kernel) (by decide +kernel) (by decide +kernel) (by decide) ?_
    refine lv_aload_n hx hb dX0_total_68 rfl (lv_at hl 0 rfl) ?_
    refine va_get (D := G) (ci := 0) (v := .int mo) (C := RX0) (T := TX0) (N := 13) hx hb hts hinX0 hown hK hP 0 rfl rfl 0 (by decide) hf9 (fun _ h9 => h9) rfl dX0_total_69 ?_
    subst hQ
    exact rd_i (by unfold tot; rw [if_pos w0]) hx hb hr hS hlocks dX0_total_72
  by_cases w1 : w = 1
  · skip
    refine tpi (x' := 1) (w1) ?_
    refine lv_tableIn (off := 72) (tgt := 73) hx hb dX0_total_1 (by decide +kernel) (by decide +kernel) (by decide +kernel) (by decide) ?_
    refine lv_aload_n hx hb dX0_total_73 rfl (lv_at hl 0 rfl) ?_
    refine va_get (D := G) (ci := 0) (v := .int co) (C := RX0) (T := TX0) (N := 13) hx hb hts hinX0 hown hK hP 0 rfl rfl 1 (by decide) hf15 (fun _ h9 => h9) rfl dX0_total_74 ?_
    subst hQ
    exact rd_i (by unfold tot; rw [if_neg w0, if_pos w1]) hx hb hr hS hlocks dX0_total_77
  by_cases w9 : w = 9
  · skip
    refine tpi (x' := 9) (w9) ?_
    refine lv_tableIn (off := 77) (tgt := 78) hx hb dX0_total_1 (by decide +kernel) (by decide +kernel) (by decide +kernel) (by decide) ?_
    refine lv_aload_n hx hb dX0_total_78 rfl (lv_at hl 0 rfl) ?_
    refine cr_i (va_runV (As := []) (rest := []) FX (c_X0_quartersOfAll l G cI a mo co le K Qa La Ha Ma Ba Ca Da Fa Wa k hQa) (cwV 0 hts gX0_total_X0_quartersOfAll rfl rfl rfl (by decide +kernel) ⟨Nat.le_of_ble_eq_true rfl, Nat.le_of_ble_eq_true rfl⟩) (rdV hK hP hN [0, 1, 2, 3, 4, 5, 6, 7, 8, 9, 10] rfl (ci := 0) (q0 := 0) rfl rfl) rfl rfl hl.1 rfl (lv_room (Nat.le_of_ble_eq_true rfl)) dX0_total_79 ⟨hzc, hzs⟩) hS hP (fun H locs hP hS => ?_)
    subst hQ
    exact rd_i (by unfold tot; rw [if_neg w0, if_neg w1, if_pos w9]) hx hb hr hS hlocks dX0_total_82
  by_cases w10 : w = 10
  · skip
    refine tpi (x' := 10) (w10) ?_
    refine lv_tableIn (off := 82) (tgt := 83) hx hb dX0_total_1 (by decide +kernel) (by decide +kernel) (by decide +kernel) (by decide) ?_
    refine lv_aload_n hx hb dX0_total_83 rfl (lv_at hl 0 rfl) ?_
    refine cr_i (va_runV (As := []) (rest := []) FX (c_X0_complaintsOfAll l G cI a mo co le K Qa La Ha Ma Ba Ca Da Fa Wa k hCa) (cwV 0 hts gX0_total_X0_complaintsOfAll rfl rfl rfl (by decide +kernel) ⟨Nat.le_of_ble_eq_true rfl, Nat.le_of_ble_eq_true rfl⟩) (rdV hK hP hN [0, 1, 2, 3, 4, 5, 6, 7, 8, 9, 10] rfl (ci := 0) (q0 := 0) rfl rfl) rfl rfl hl.1 rfl (lv_room (Nat.le_of_ble_eq_true rfl)) dX0_total_84 ⟨hzc, hzs⟩) hS hP (fun H locs hP hS => ?_)
    subst hQ
    exact rd_i (by unfold tot; rw [if_neg w0, if_neg w1, if_neg w9, if_pos w10]) hx hb hr hS hlocks dX0_total_87
  by_cases w11 : w = 11
  · skip
    refine tpi (x' := 11) (w11) ?_
    refine lv_tableIn (off := 87) (tgt := 88) hx hb dX0_total_1 (by decide +kernel) (by decide +kernel) (by decide +kernel) (by decide) ?_
    refine lv_aload_n hx hb dX0_total_88 rfl (lv_at hl 0 rfl) ?_
    refine cr_i (va_runV (As := []) (rest := []) FX (c_X0_duesOfAll l G cI a mo co le K Qa La Ha Ma Ba Ca Da Fa Wa k hDa) (cwV 0 hts gX0_total_X0_duesOfAll rfl rfl rfl (by decide +kernel) ⟨Nat.le_of_ble_eq_true rfl, Nat.le_of_ble_eq_true rfl⟩) (rdV hK hP hN [0, 1, 2, 3, 4, 5, 6, 7, 8, 9, 10] rfl (ci := 0) (q0 := 0) rfl rfl) rfl rfl hl.1 rfl (lv_room (Nat.le_of_ble_eq_true rfl)) dX0_total_89 ⟨hzc, hzs⟩) hS hP (fun H locs hP hS => ?_)
    subst hQ
    exact rd_i (by unfold tot; rw [if_neg w0, if_neg w1, if_neg w9, if_neg w10, if_pos w11]) hx hb hr hS hlocks dX0_total_92
  by_cases w12 : w = 12
  · skip
    refine tpi (x' := 12) (w12) ?_
    refine lv_tableIn (off := 92) (tgt := 93) hx hb dX0_total_1 (by decide +kernel) (by decide +kernel) (by decide +kernel) (by decide) ?_
    refine lv_aload_n hx hb dX0_total_93 rfl (lv_at hl 0 rfl) ?_
    refine va_get (D := G) (ci := 0) (v := .int le) (C := RX0) (T := TX0) (N := 13) hx hb hts hinX0 hown hK hP 0 rfl rfl 2 (by decide) hf18 (fun _ h9 => h9) rfl dX0_total_94 ?_
    subst hQ
    exact rd_i (by unfold tot; rw [if_neg w0, if_neg w1, if_neg w9, if_neg w10, if_neg w11, if_pos w12]) hx hb hr hS hlocks dX0_total_97
  refine tbl_tot (pc := 1) hx hb dX0_total_1 rfl w0 w1 w9 w10 w11 w12 ?_
  refine lv_aload_n hx hb dX0_total_98 rfl (lv_at hl 0 rfl) ?_
  refine lv_iload_n hx hb dX0_total_99 rfl (lv_at hl 1 rfl) ?_
  refine lv_iconst (v := 2) hx hb dX0_total_100 (by decide) ?_
  refine lv_isub hx hb dX0_total_101 ?_
  refine cr_i (va_runV (As := [.int (w - 2)]) (rest := []) FX (c_X0_lotsOfKind l G cI a mo co le K Qa La Ha Ma Ba Ca Da Fa Wa k (w - 2) hk) (cwV 1 hts gX0_total_X0_lotsOfKind rfl rfl rfl (by decide +kernel) ⟨Nat.le_of_ble_eq_true rfl, Nat.le_of_ble_eq_true rfl⟩) (rdV hK hP hN [0, 1, 2, 3, 4, 5, 6, 7, 8, 9, 10] rfl (ci := 0) (q0 := 0) rfl rfl) rfl rfl hl.1 rfl (lv_room (Nat.le_of_ble_eq_true rfl)) dX0_total_102 ⟨hzc, hzs⟩) hS hP (fun H locs hP hS => ?_)
  subst hQ
  exact rd_i (by unfold tot; rw [if_neg w0, if_neg w1, if_neg w9, if_neg w10, if_neg w11, if_neg w12]) hx hb hr hS hlocks dX0_total_105
end
section
def rmX0_clear : Room := { frames := 0, cells := 0, slots := 0, locals := 0 }
set_option maxHeartbeats 4000000 in
set_option maxRecDepth 100000 in
/-- a row is filled with v -/
theorem c_X0_clear (l : Launch) (G : va_G) (cI : ClassId) (r : Nat) (f : Nat → Int32) (v : Int32)  (sz : Nat) : Met l yX0_clear wsX0_clear rmX0_clear (va_Pc [.ref r, .int v] (WrP G cI [(r, iA cI f)] sz)) (va_Qv (fun (u : Nat → Int32) => ∀ x, x < 64 → u x = v) (WrB G [(r, iA cI f)] sz (fun u => [(r, iA cI u)])) (va_A [(r, iA cI f)] sz)) 0 0 (va_A [(r, iA cI f)] sz) := by
  refine Met.ofW (cc := cX0_clear) (maxL := 3) (ret := none) (by decide) rfl ?_
  intro p e s m args below meth c s₁ B hml hv
  obtain ⟨rfl, hsz, hP, hK, hD0, hN⟩ := hv
  have hx := B.exec
  have hb := B.bytes
  have hr := B.returns
  have hlocks := B.notSynchronized
  have hts := atoms_spec (ws := wsX0_clear) B.pre
  have hown : s.vm.findClass RX0 = some m.cls := findClass_of_methodNamed B.named
  subst hsz
  have hD := hD0.self (sz := s.heap.size)
  have hA : ∀ q : Nat, s.heap.size ≤ q → va_A [(r, iA cI f)] s.heap.size q := fun q h => Or.inr h
  have hS : va_S (va_A [(r, iA cI f)] s.heap.size) s.heap s.heap [] := va_S.rf
  obtain ⟨A, hAe⟩ : ∃ A, A = va_A [(r, iA cI f)] s.heap.size := ⟨_, rfl⟩
  rw [← hAe] at hD hA hS
  have FX : CallFix p m c cX0_clear 3 s ([.ref r, .int v] : List Value).toArray wsX0_clear RX0 := ⟨hx, hb, hml, hown, hts⟩
  have hl := lv_entry ([.ref r, .int v]) (n := 3) (Nat.le_of_ble_eq_true rfl)
  rw [lg_entry_eq]
  generalize (lg_sl ([.ref r, .int v]) ++ List.replicate (3 - (lg_sl ([.ref r, .int v])).length) Slot.unset).toArray = ls at hl ⊢
  have hl : lv_has ls 3 [(0, .ref r), (1, .int v)] := hl
  refine wq (fun Q hQ => ?_)
  have hzc : 0 + 0 ≤ (headSpec wsX0_clear rmX0_clear).room.cells := Nat.zero_le _
  have hzs : 0 + 0 ≤ (headSpec wsX0_clear rmX0_clear).room.slots := Nat.zero_le _
  refine lv_iconst (v := 0) hx hb dX0_clear_0 (by decide) ?_
  refine tpi (x' := nI 0) (rfl) ?_
  refine lv_istore_n (lv' := [(2, .int (nI 0)), (0, .ref r), (1, .int v)]) hx hb dX0_clear_1 rfl hl (by decide) rfl (fun ls hl => ?_)
  have lp : ∀ (n : Nat) (i : Nat) (f1 : Nat → Int32), (hi : i ≤ 64) → (hf1 : ∀ x, x < i → f1 x = v) → (64 - i) < n → ∀ (H : Heap) (locs : List Loc) (ls : Array Slot), va_P G vwCl [(r, iA cI f1)] H → va_D A [(r, iA cI f1)] → va_S A s.heap H locs → lv_has ls 3 [(0, .ref r), (1, .int v), (2, .int (nI i))] → W p l e (headSpec wsX0_clear rmX0_clear).room s m ([.ref r, .int v] : List Value).toArray below meth c H locs 0 0 Q (F0 m 2 ls []) := by
    intro n
    induction n with
    | zero => intro i f1 hi hf1 hn; exact absurd hn (by omega)
    | succ n ih_lp =>
      intro i f1 hi hf1 hn H locs ls hP hD hS hl
      refine lv_iload_n hx hb dX0_clear_2 rfl (lv_at hl 2 rfl) ?_
      refine lv_aload_n hx hb dX0_clear_3 rfl (lv_at hl 0 rfl) ?_
      refine va_alen hx hb hK hP 0 0 rfl rfl (v := 64) rfl dX0_clear_4 ?_
      rcases Nat.lt_or_ge i 64 with g | g
      · skip
        refine lv_icmp_ge (tgt := 18) hx hb dX0_clear_5 (by decide) (fun c => absurd c (lt_n (n := 64) g (by decide))) (fun _ => ?_)
        refine lv_aload_n hx hb dX0_clear_8 rfl (lv_at hl 0 rfl) ?_
        refine lv_iload_n hx hb dX0_clear_9 rfl (lv_at hl 2 rfl) ?_
        refine lv_iload_n hx hb dX0_clear_10 rfl (lv_at hl 1 rfl) ?_
        refine va_iast hx hb hK hP hD hS 0 0 rfl rfl (vp_in_nI g (by decide)) dX0_clear_11 (fun H locs hP hD hS => ?_)
        rw [show ((nI i)).toNatClampNeg = i from nI_clamp (by omega)] at hP hD
        have hP : va_P G vwCl [(r, iA cI (upd f1 i v))] H := hP
        have hD : va_D A [(r, iA cI (upd f1 i v))] := hD
        refine lv_iinc (v := nI (i + 1)) (lv' := [(2, .int (nI (i + 1))), (0, .ref r), (1, .int v)]) hx hb dX0_clear_12 hl (k := 2) rfl (nI_inc i) (by decide) rfl (fun ls hl => ?_)
        refine lv_goto (tgt := 2) hx hb dX0_clear_15 (by decide) ?_
        exact ih_lp (i + 1) (upd f1 i v) (by omega) (fun x hx => by rcases Nat.lt_or_ge x i with q | q; rw [pk_un (by omega)]; exact hf1 x q; rw [show x = i by omega, pk_us]) (by omega) _ _ _ hP hD hS (lv_sub hl [1, 2, 0] (rfl))
      · skip
        have g9 : 64 = i := by omega
        subst g9
        refine lv_icmp_ge (tgt := 18) hx hb dX0_clear_5 (by decide) (fun _ => ?_) (fun c => absurd (le_n (n := 64) (i := 64) (by decide) (by decide)) c)
        subst hQ
        subst hAe
        exact wr_v f1 (hf1) hx hb hr hP hD hS hlocks dX0_clear_18
  exact lp (_ + 1) 0 f (by omega) (fun x hx => absurd hx (Nat.not_lt_zero _)) (Nat.lt_succ_self _) _ _ _ hP hD hS (lv_sub hl [1, 2, 0] rfl)

def rmX0_spread : Room := { frames := 1, cells := 0, slots := 0, locals := 23 }
set_option maxHeartbeats 4000000 in
set_option maxRecDepth 100000 in
/-- a search from st on -/
theorem c_X0_spread (l : Launch) (G : va_G) (cI : ClassId) (a : Nat → Nat) (am : Nat) (mo co le : Int32) (K Mk Wa k : Nat → Int32) (bl : Bool) (st f mr : Nat) (hk : eqK K k) (hst : st < 64) (hf : f < 64) (hmr : mr ≤ 1) (hm : ∀ x, x < 64 → (∃ n, Wk (PB bl k) st n x) → Mk x < 0) (sz : Nat) : Met l yX0_spread wsX0_spread rmX0_spread (va_Pc [.ref (a 0), .ref am, .int (nI st), .int (b2i bl), .int (nI f), .int (nI mr)] (WrP G cI [((a 0), oC a mo co le), (am, iA cI Mk), ((a 3), iA cI K), ((a 12), iA cI Wa)] sz)) (va_Qv (fun (u : (Nat → Int32) × (Nat → Int32)) => ∀ x, x < 64 → u.1 x = mkd f mr (dst (PB bl k) st x) (Mk x)) (WrB G [((a 0), oC a mo co le), (am, iA cI Mk), ((a 3), iA cI K), ((a 12), iA cI Wa)] sz (fun u => [(a 0, oC a mo co le), (am, iA cI u.1), (a 3, iA cI K), (a 12, iA cI u.2)])) (va_A [((a 0), oC a mo co le), (am, iA cI Mk), ((a 3), iA cI K), ((a 12), iA cI Wa)] sz)) 0 0 (va_A [((a 0), oC a mo co le), (am, iA cI Mk), ((a 3), iA cI K), ((a 12), iA cI Wa)] sz) := by
  refine Met.ofW (cc := cX0_spread) (maxL := 11) (ret := none) (by decide) rfl ?_
  intro p e s m args below meth c s₁ B hml hv
  obtain ⟨rfl, hsz, hP, hK, hD0, hN⟩ := hv
  have hx := B.exec
  have hb := B.bytes
  have hr := B.returns
  have hlocks := B.notSynchronized
  have hts := atoms_spec (ws := wsX0_spread) B.pre
  have hown : s.vm.findClass RX0 = some m.cls := findClass_of_methodNamed B.named
  subst hsz
  have hD := hD0.self (sz := s.heap.size)
  have hA : ∀ q : Nat, s.heap.size ≤ q → va_A [((a 0), oC a mo co le), (am, iA cI Mk), ((a 3), iA cI K), ((a 12), iA cI Wa)] s.heap.size q := fun q h => Or.inr h
  have hS : va_S (va_A [((a 0), oC a mo co le), (am, iA cI Mk), ((a 3), iA cI K), ((a 12), iA cI Wa)] s.heap.size) s.heap s.heap [] := va_S.rf
  obtain ⟨A, hAe⟩ : ∃ A, A = va_A [((a 0), oC a mo co le), (am, iA cI Mk), ((a 3), iA cI K), ((a 12), iA cI Wa)] s.heap.size := ⟨_, rfl⟩
  rw [← hAe] at hD hA hS
  have FX : CallFix p m c cX0_spread 11 s ([.ref (a 0), .ref am, .int (nI st), .int (b2i bl), .int (nI f), .int (nI mr)] : List Value).toArray wsX0_spread RX0 := ⟨hx, hb, hml, hown, hts⟩
  have hl := lv_entry ([.ref (a 0), .ref am, .int (nI st), .int (b2i bl), .int (nI f), .int (nI mr)]) (n := 11) (Nat.le_of_ble_eq_true rfl)
  rw [lg_entry_eq]
  generalize (lg_sl ([.ref (a 0), .ref am, .int (nI st), .int (b2i bl), .int (nI f), .int (nI mr)]) ++ List.replicate (11 - (lg_sl ([.ref (a 0), .ref am, .int (nI st), .int (b2i bl), .int (nI f), .int (nI mr)])).length) Slot.unset).toArray = ls at hl ⊢
  have hl : lv_has ls 11 [(0, .ref (a 0)), (1, .ref am), (2, .int (nI st)), (3, .int (b2i bl)), (4, .int (nI f)), (5, .int (nI mr))] := hl
  refine wq (fun Q hQ => ?_)
  have hzc : 0 + 0 ≤ (headSpec wsX0_spread rmX0_spread).room.cells := Nat.zero_le _
  have hzs : 0 + 0 ≤ (headSpec wsX0_spread rmX0_spread).room.slots := Nat.zero_le _
  have hf21 := hts (.fieldLink RX0 21 "CanalCity$City" "kinds" "[I") (by decide +kernel)
  have hf49 := hts (.fieldLink RX0 49 "CanalCity$City" "waiting" "[I") (by decide +kernel)
  have hinX0 : ∀ w ∈ u_ws RX0 TX0 13, w ∈ wsX0_spread := by decide +kernel
  have hiniX1 := hts (.initialized RX1) (by decide +kernel)
  have hstX1_isLand := hts (.static yX1_isLand) (by decide +kernel)
  have hstX1_isLot := hts (.static yX1_isLot) (by decide +kernel)
  have hstX1_isWater := hts (.static yX1_isWater) (by decide +kernel)
  have hstX1_neighbour := hts (.static yX1_neighbour) (by decide +kernel)
  refine lv_aload_n hx hb dX0_spread_0 rfl (lv_at hl 1 rfl) ?_
  refine lv_iload_n hx hb dX0_spread_1 rfl (lv_at hl 2 rfl) ?_
  refine lv_iload hx hb dX0_spread_2 (lv_at hl 4 rfl) ?_
  refine va_iast hx hb hK hP hD hS 1 0 rfl rfl (vp_in_nI hst (by decide)) dX0_spread_4 (fun H locs hP hD hS => ?_)
  rw [show ((nI st)).toNatClampNeg = st from nI_clamp (by omega)] at hP hD
  have hP : va_P G vwCl [((a 0), oC a mo co le), (am, iA cI (upd Mk st (nI f))), ((a 3), iA cI K), ((a 12), iA cI Wa)] H := hP
  have hD : va_D A [((a 0), oC a mo co le), (am, iA cI (upd Mk st (nI f))), ((a 3), iA cI K), ((a 12), iA cI Wa)] := hD
  refine lv_aload_n hx hb dX0_spread_5 rfl (lv_at hl 0 rfl) ?_
  refine va_get (D := G) (ci := 0) (v := .ref (a 12)) (C := RX0) (T := TX0) (N := 13) hx hb hts hinX0 hown hK hP 0 rfl rfl 12 (by decide) hf49 (fun _ h9 => h9) rfl dX0_spread_6 ?_
  refine lv_iconst (v := 0) hx hb dX0_spread_9 (by decide) ?_
  refine tpi (x' := nI 0) (rfl) ?_
  refine lv_iload_n hx hb dX0_spread_10 rfl (lv_at hl 2 rfl) ?_
  refine va_iast hx hb hK hP hD hS 3 0 rfl rfl (vp_in_nI (by decide) (by decide)) dX0_spread_11 (fun H locs hP hD hS => ?_)
  rw [show ((nI 0)).toNatClampNeg = 0 from nI_clamp (by omega)] at hP hD
  have hP : va_P G vwCl [((a 0), oC a mo co le), (am, iA cI (upd Mk st (nI f))), ((a 3), iA cI K), ((a 12), iA cI (upd Wa 0 (nI st)))] H := hP
  have hD : va_D A [((a 0), oC a mo co le), (am, iA cI (upd Mk st (nI f))), ((a 3), iA cI K), ((a 12), iA cI (upd Wa 0 (nI st)))] := hD
  refine lv_iconst (v := 1) hx hb dX0_spread_12 (by decide) ?_
  refine tpi (x' := nI 1) (rfl) ?_
  refine lv_istore (lv' := [(6, .int (nI 1)), (0, .ref (a 0)), (1, .ref am), (2, .int (nI st)), (3, .int (b2i bl)), (4, .int (nI f)), (5, .int (nI mr))]) hx hb dX0_spread_13 hl (by decide) rfl (fun ls hl => ?_)
  refine lv_iconst (v := 0) hx hb dX0_spread_15 (by decide) ?_
  refine tpi (x' := nI 0) (rfl) ?_
  refine lv_istore (lv' := [(7, .int (nI 0)), (6, .int (nI 1)), (0, .ref (a 0)), (1, .ref am), (2, .int (nI st)), (3, .int (b2i bl)), (4, .int (nI f)), (5, .int (nI mr))]) hx hb dX0_spread_16 hl (by decide) rfl (fun ls hl => ?_)
  have lp : ∀ (n : Nat) (ai en : Nat) (row : Nat → Nat) (D9 : Nat → Option Nat) (M1 W1 : Nat → Int32), (hB : BI (PB bl k) st row D9 en ai) → (hW1 : ∀ i, i < en → W1 i = nI (row i)) → (hM1 : ∀ x, x < 64 → M1 x = mkd f mr (D9 x) (Mk x)) → (64 - ai) < n → ∀ (H : Heap) (locs : List Loc) (ls : Array Slot), va_P G vwCl [((a 0), oC a mo co le), (am, iA cI M1), ((a 3), iA cI K), ((a 12), iA cI W1)] H → va_D A [((a 0), oC a mo co le), (am, iA cI M1), ((a 3), iA cI K), ((a 12), iA cI W1)] → va_S A s.heap H locs → lv_has ls 11 [(0, .ref (a 0)), (1, .ref am), (3, .int (b2i bl)), (5, .int (nI mr)), (6, .int (nI en)), (7, .int (nI ai))] → W p l e (headSpec wsX0_spread rmX0_spread).room s m ([.ref (a 0), .ref am, .int (nI st), .int (b2i bl), .int (nI f), .int (nI mr)] : List Value).toArray below meth c H locs 0 0 Q (F0 m 18 ls []) := by
    intro n
    induction n with
    | zero => intro ai en row D9 M1 W1 hB hW1 hM1 hn; exact absurd hn (by omega)
    | succ n ih_lp =>
      intro ai en row D9 M1 W1 hB hW1 hM1 hn H locs ls hP hD hS hl
      have hen := BI_le hB
      refine lv_iload hx hb dX0_spread_18 (lv_at hl 5 rfl) ?_
      refine lv_iload hx hb dX0_spread_20 (lv_at hl 4 rfl) ?_
      rcases Nat.lt_or_ge ai en with g | g
      · skip
        refine lv_icmp_ge (tgt := 157) hx hb dX0_spread_22 (by decide) (fun c => absurd c (lt_n g (by omega))) (fun _ => ?_)
        refine lv_iload hx hb dX0_spread_25 (lv_at hl 5 rfl) ?_
        refine lv_bipush (v := 64) hx hb dX0_spread_27 (by decide) ?_
        refine lv_icmp_ge (tgt := 157) hx hb dX0_spread_29 (by decide) (fun c => absurd c (lt_n (n := 64) (i := ai) (by omega) (by decide))) (fun _ => ?_)
        refine lv_aload_n hx hb dX0_spread_32 rfl (lv_at hl 0 rfl) ?_
        refine va_get (D := G) (ci := 0) (v := .ref (a 12)) (C := RX0) (T := TX0) (N := 13) hx hb hts hinX0 hown hK hP 0 rfl rfl 12 (by decide) hf49 (fun _ h9 => h9) rfl dX0_spread_33 ?_
        refine lv_iload hx hb dX0_spread_36 (lv_at hl 5 rfl) ?_
        refine va_iald hx hb hK hP 3 0 rfl rfl (vp_in_nI (n := ai) (by omega) (by decide)) dX0_spread_38 ?_
        refine tpi (x' := W1 ai) (congrArg W1 (nI_clamp (by omega))) ?_
        obtain ⟨fr, hfr⟩ : ∃ z, z = row ai := ⟨_, rfl⟩
        have hfr64 : fr < 64 := by rw [hfr]; exact hB.1 ai g
        refine tpi (x' := nI fr) (by rw [hfr]; exact hW1 ai g) ?_
        refine lv_istore (lv' := [(8, .int (nI fr)), (0, .ref (a 0)), (1, .ref am), (3, .int (b2i bl)), (5, .int (nI mr)), (6, .int (nI en)), (7, .int (nI ai))]) hx hb dX0_spread_39 hl (by decide) rfl (fun ls hl => ?_)
        refine lv_iconst (v := 0) hx hb dX0_spread_41 (by decide) ?_
        refine tpi (x' := nI 0) (rfl) ?_
        refine lv_istore (lv' := [(9, .int (nI 0)), (8, .int (nI fr)), (0, .ref (a 0)), (1, .ref am), (3, .int (b2i bl)), (5, .int (nI mr)), (6, .int (nI en)), (7, .int (nI ai))]) hx hb dX0_spread_42 hl (by decide) rfl (fun ls hl => ?_)
        have lq : ∀ (n : Nat) (sd en2 : Nat) (row2 : Nat → Nat) (D2 : Nat → Option Nat) (M2 W2 : Nat → Int32), (hJ : BJ (PB bl k) st nbC row2 D2 en2 ai sd) → (hsd : sd ≤ 4) → (hr2 : row2 ai = fr) → (hW2 : ∀ i, i < en2 → W2 i = nI (row2 i)) → (hM2 : ∀ x, x < 64 → M2 x = mkd f mr (D2 x) (Mk x)) → (4 - sd) < n → ∀ (H : Heap) (locs : List Loc) (ls : Array Slot), va_P G vwCl [((a 0), oC a mo co le), (am, iA cI M2), ((a 3), iA cI K), ((a 12), iA cI W2)] H → va_D A [((a 0), oC a mo co le), (am, iA cI M2), ((a 3), iA cI K), ((a 12), iA cI W2)] → va_S A s.heap H locs → lv_has ls 11 [(0, .ref (a 0)), (1, .ref am), (3, .int (b2i bl)), (5, .int (nI mr)), (6, .int (nI en2)), (7, .int (nI ai)), (8, .int (nI fr)), (9, .int (nI sd))] → W p l e (headSpec wsX0_spread rmX0_spread).room s m ([.ref (a 0), .ref am, .int (nI st), .int (b2i bl), .int (nI f), .int (nI mr)] : List Value).toArray below meth c H locs 0 0 Q (F0 m 44 ls []) := by
          intro n
          induction n with
          | zero => intro sd en2 row2 D2 M2 W2 hJ hsd hr2 hW2 hM2 hn; exact absurd hn (by omega)
          | succ n ih_lq =>
            intro sd en2 row2 D2 M2 W2 hJ hsd hr2 hW2 hM2 hn H locs ls hP hD hS hl
            refine lv_iload hx hb dX0_spread_44 (lv_at hl 6 rfl) ?_
            refine cr_i (va_runSN (As := [.int (nI fr)]) (rest := []) FX (c_X1_isLot l (nI fr)) ⟨va_cnB 1 hts gX0_spread_X1_isLot_n73 rfl rfl rfl (NW_at hN 3 rfl) hiniX1 (by decide +kernel) ⟨Nat.le_of_ble_eq_true rfl, Nat.le_of_ble_eq_true rfl⟩, hstX1_isLot, trivial⟩ puS rfl rfl hl.1 rfl (lv_room (Nat.le_of_ble_eq_true rfl)) dX0_spread_46 ⟨hzc, hzs⟩) hS hP (fun H locs hP hS => ?_)
            refine tpi (x' := 1) (isLot_1 hfr64) ?_
            refine lv_if_eq (tgt := 151) hx hb dX0_spread_49 (by decide) (fun c => absurd c (by decide)) (fun _ => ?_)
            refine lv_iload hx hb dX0_spread_52 (lv_at hl 7 rfl) ?_
            refine lv_iconst (v := 4) hx hb dX0_spread_54 (by decide) ?_
            rcases Nat.lt_or_ge sd 4 with g4 | g4
            · skip
              have hen2 := BI_le hJ.1
              obtain ⟨d0, hd0, hd0l, hw0⟩ := hJ.1.2.2.2.1 ai hJ.2.1
              have hd64 := BI_d hJ.1 hd0
              have hdm := Nat.mul_le_mul_left d0 hmr
              refine lv_icmp_ge (tgt := 151) hx hb dX0_spread_55 (by decide) (fun c => absurd c (lt_n (n := 4) g4 (by decide))) (fun _ => ?_)
              refine lv_iload hx hb dX0_spread_58 (lv_at hl 6 rfl) ?_
              refine lv_iload hx hb dX0_spread_60 (lv_at hl 7 rfl) ?_
              refine cr_i (va_runSN (As := [.int (nI fr), .int (nI sd)]) (rest := []) FX (c_X1_neighbour l fr sd hfr64 g4) ⟨va_cnB 2 hts gX0_spread_X1_neighbour_n104 rfl rfl rfl (NW_at hN 6 rfl) hiniX1 (by decide +kernel) ⟨Nat.le_of_ble_eq_true rfl, Nat.le_of_ble_eq_true rfl⟩, hstX1_neighbour, trivial⟩ puS rfl rfl hl.1 rfl (lv_room (Nat.le_of_ble_eq_true rfl)) dX0_spread_62 ⟨hzc, hzs⟩) hS hP (fun H locs hP hS => ?_)
              rcases hn9 : nbC fr sd with _ | q
              · skip
                refine tpi (x' := -1) (rfl) ?_
                refine lv_istore (lv' := [(10, .int (-1)), (0, .ref (a 0)), (1, .ref am), (3, .int (b2i bl)), (5, .int (nI mr)), (6, .int (nI en2)), (7, .int (nI ai)), (8, .int (nI fr)), (9, .int (nI sd))]) hx hb dX0_spread_65 hl (by decide) rfl (fun ls hl => ?_)
                refine lv_iload hx hb dX0_spread_67 (lv_at hl 0 rfl) ?_
                refine cr_i (va_runSN (As := [.int (-1)]) (rest := []) FX (c_X1_isLot l (-1)) ⟨va_cnB 1 hts gX0_spread_X1_isLot_n73 rfl rfl rfl (NW_at hN 3 rfl) hiniX1 (by decide +kernel) ⟨Nat.le_of_ble_eq_true rfl, Nat.le_of_ble_eq_true rfl⟩, hstX1_isLot, trivial⟩ puS rfl rfl hl.1 rfl (lv_room (Nat.le_of_ble_eq_true rfl)) dX0_spread_69 ⟨hzc, hzs⟩) hS hP (fun H locs hP hS => ?_)
                refine tpi (x' := 0) (by decide) ?_
                refine lv_if_eq (tgt := 145) hx hb dX0_spread_72 (by decide) (fun _ => ?_) (fun c => absurd (rfl) c)
                refine lv_iinc (v := nI (sd + 1)) (lv' := [(9, .int (nI (sd + 1))), (10, .int (-1)), (0, .ref (a 0)), (1, .ref am), (3, .int (b2i bl)), (5, .int (nI mr)), (6, .int (nI en2)), (7, .int (nI ai)), (8, .int (nI fr))]) hx hb dX0_spread_145 hl (k := 8) rfl (nI_inc sd) (by decide) rfl (fun ls hl => ?_)
                refine lv_goto (tgt := 44) hx hb dX0_spread_148 (by decide) ?_
                exact ih_lq (sd + 1) en2 row2 D2 M2 W2 (BJ_skip hJ (fun q hq _ => by rw [hr2, hn9] at hq; cases hq)) (by omega) (hr2) (hW2) (hM2) (by omega) _ _ _ hP hD hS (lv_sub hl [2, 3, 4, 5, 6, 7, 8, 0] (rfl))
              · skip
                have hq : q < 64 := nbC_lt hfr64 hn9
                have hadj : Adj (row2 ai) q := ⟨sd, g4, by rw [hr2]; exact hn9⟩
                refine tpi (x' := nI q) (rfl) ?_
                refine lv_istore (lv' := [(10, .int (nI q)), (0, .ref (a 0)), (1, .ref am), (3, .int (b2i bl)), (5, .int (nI mr)), (6, .int (nI en2)), (7, .int (nI ai)), (8, .int (nI fr)), (9, .int (nI sd))]) hx hb dX0_spread_65 hl (by decide) rfl (fun ls hl => ?_)
                refine lv_iload hx hb dX0_spread_67 (lv_at hl 0 rfl) ?_
                refine cr_i (va_runSN (As := [.int (nI q)]) (rest := []) FX (c_X1_isLot l (nI q)) ⟨va_cnB 1 hts gX0_spread_X1_isLot_n73 rfl rfl rfl (NW_at hN 3 rfl) hiniX1 (by decide +kernel) ⟨Nat.le_of_ble_eq_true rfl, Nat.le_of_ble_eq_true rfl⟩, hstX1_isLot, trivial⟩ puS rfl rfl hl.1 rfl (lv_room (Nat.le_of_ble_eq_true rfl)) dX0_spread_69 ⟨hzc, hzs⟩) hS hP (fun H locs hP hS => ?_)
                refine tpi (x' := 1) (isLot_1 hq) ?_
                refine lv_if_eq (tgt := 145) hx hb dX0_spread_72 (by decide) (fun c => absurd c (by decide)) (fun _ => ?_)
                refine lv_aload_n hx hb dX0_spread_75 rfl (lv_at hl 2 rfl) ?_
                refine lv_iload hx hb dX0_spread_76 (lv_at hl 0 rfl) ?_
                refine va_iald hx hb hK hP 1 0 rfl rfl (vp_in_nI hq (by decide)) dX0_spread_78 ?_
                refine tpi (x' := M2 q) (congrArg M2 (nI_clamp (by omega))) ?_
                refine tpi (x' := mkd f mr (D2 q) (Mk q)) (hM2 q hq) ?_
                rcases hDq : D2 q with _ | d
                · skip
                  refine tpi (x' := Mk q) (rfl) ?_
                  refine lv_if_ge (tgt := 145) hx hb dX0_spread_79 (by decide) (fun c7 => ?_) (fun c7 => ?_)
                  · skip
                    refine lv_iinc (v := nI (sd + 1)) (lv' := [(9, .int (nI (sd + 1))), (10, .int (nI q)), (0, .ref (a 0)), (1, .ref am), (3, .int (b2i bl)), (5, .int (nI mr)), (6, .int (nI en2)), (7, .int (nI ai)), (8, .int (nI fr))]) hx hb dX0_spread_145 hl (k := 8) rfl (nI_inc sd) (by decide) rfl (fun ls hl => ?_)
                    refine lv_goto (tgt := 44) hx hb dX0_spread_148 (by decide) ?_
                    exact ih_lq (sd + 1) en2 row2 D2 M2 W2 (BJ_skip hJ (fun q9 hq9 hP9 => by rw [hr2, hn9] at hq9; cases hq9; exact absurd c7 (Int32.not_le.mpr (hm q hq ⟨d0 + 1, hP9, row2 ai, hw0, hadj⟩)))) (by omega) (hr2) (hW2) (hM2) (by omega) _ _ _ hP hD hS (lv_sub hl [2, 3, 4, 5, 6, 7, 8, 0] (rfl))
                  · skip
                    have hfit := BJ_fit hJ hq hDq
                    refine lv_iload hx hb dX0_spread_82 (lv_at hl 5 rfl) ?_
                    refine lv_bipush (v := 64) hx hb dX0_spread_84 (by decide) ?_
                    refine lv_icmp_ge (tgt := 145) hx hb dX0_spread_86 (by decide) (fun c => absurd c (lt_n (n := 64) hfit (by decide))) (fun _ => ?_)
                    refine lv_iload_n hx hb dX0_spread_89 rfl (lv_at hl 3 rfl) ?_
                    by_cases hbl : bl = true
                    · skip
                      refine tpi (x' := 1) (by rw [hbl]; rfl) ?_
                      refine lv_if_eq (tgt := 109) hx hb dX0_spread_90 (by decide) (fun c => absurd c (by decide)) (fun _ => ?_)
                      refine lv_aload_n hx hb dX0_spread_93 rfl (lv_at hl 1 rfl) ?_
                      refine va_get (D := G) (ci := 0) (v := .ref (a 3)) (C := RX0) (T := TX0) (N := 13) hx hb hts hinX0 hown hK hP 0 rfl rfl 3 (by decide) hf21 (fun _ h9 => h9) rfl dX0_spread_94 ?_
                      refine lv_iload hx hb dX0_spread_97 (lv_at hl 0 rfl) ?_
                      refine va_iald hx hb hK hP 2 0 rfl rfl (vp_in_nI hq (by decide)) dX0_spread_99 ?_
                      refine tpi (x' := K q) (congrArg K (nI_clamp (by omega))) ?_
                      refine tpi (x' := k q) (hk q hq) ?_
                      refine cr_i (va_runSN (As := [.int (k q)]) (rest := []) FX (c_X1_isLand l (k q)) ⟨va_cnB 1 hts gX0_spread_X1_isLand_n98 rfl rfl rfl (NW_at hN 5 rfl) hiniX1 (by decide +kernel) ⟨Nat.le_of_ble_eq_true rfl, Nat.le_of_ble_eq_true rfl⟩, hstX1_isLand, trivial⟩ puS rfl rfl hl.1 rfl (lv_room (Nat.le_of_ble_eq_true rfl)) dX0_spread_100 ⟨hzc, hzs⟩) hS hP (fun H locs hP hS => ?_)
                      rcases ho : lnd (k q) with _ | _
                      · skip
                        refine tpi (x' := 0) (rfl) ?_
                        refine lv_if_eq (tgt := 145) hx hb dX0_spread_103 (by decide) (fun _ => ?_) (fun c => absurd (rfl) c)
                        refine lv_iinc (v := nI (sd + 1)) (lv' := [(9, .int (nI (sd + 1))), (10, .int (nI q)), (0, .ref (a 0)), (1, .ref am), (3, .int (b2i bl)), (5, .int (nI mr)), (6, .int (nI en2)), (7, .int (nI ai)), (8, .int (nI fr))]) hx hb dX0_spread_145 hl (k := 8) rfl (nI_inc sd) (by decide) rfl (fun ls hl => ?_)
                        refine lv_goto (tgt := 44) hx hb dX0_spread_148 (by decide) ?_
                        exact ih_lq (sd + 1) en2 row2 D2 M2 W2 (BJ_skip hJ (fun q9 hq9 hP9 => by rw [hr2, hn9] at hq9; cases hq9; unfold PB at hP9; rw [if_pos hbl, ho] at hP9; cases hP9)) (by omega) (hr2) (hW2) (hM2) (by omega) _ _ _ hP hD hS (lv_sub hl [2, 3, 4, 5, 6, 7, 8, 0] (rfl))
                      · skip
                        refine tpi (x' := 1) (rfl) ?_
                        refine lv_if_eq (tgt := 145) hx hb dX0_spread_103 (by decide) (fun c => absurd c (by decide)) (fun _ => ?_)
                        refine lv_goto (tgt := 122) hx hb dX0_spread_106 (by decide) ?_
                        refine lv_aload_n hx hb dX0_spread_122 rfl (lv_at hl 2 rfl) ?_
                        refine lv_iload hx hb dX0_spread_123 (lv_at hl 0 rfl) ?_
                        refine lv_aload_n hx hb dX0_spread_125 rfl (lv_at hl 2 rfl) ?_
                        refine lv_iload hx hb dX0_spread_126 (lv_at hl 7 rfl) ?_
                        refine va_iald hx hb hK hP 1 0 rfl rfl (vp_in_nI hfr64 (by decide)) dX0_spread_128 ?_
                        refine tpi (x' := M2 fr) (congrArg M2 (nI_clamp (by omega))) ?_
                        refine tpi (x' := nI (f + d0 * mr)) (by rw [hM2 fr hfr64, ← hr2, hd0]; rfl) ?_
                        refine lv_iload hx hb dX0_spread_129 (lv_at hl 4 rfl) ?_
                        refine lv_iadd hx hb dX0_spread_131 ?_
                        refine tpi (x' := nI (f + (d0 + 1) * mr)) (by rw [nI_add, Nat.succ_mul, Nat.add_assoc]) ?_
                        refine va_iast hx hb hK hP hD hS 1 0 rfl rfl (vp_in_nI hq (by decide)) dX0_spread_132 (fun H locs hP hD hS => ?_)
                        rw [show ((nI q)).toNatClampNeg = q from nI_clamp (by omega)] at hP hD
                        have hP : va_P G vwCl [((a 0), oC a mo co le), (am, iA cI (upd M2 q (nI (f + (d0 + 1) * mr)))), ((a 3), iA cI K), ((a 12), iA cI W2)] H := hP
                        have hD : va_D A [((a 0), oC a mo co le), (am, iA cI (upd M2 q (nI (f + (d0 + 1) * mr)))), ((a 3), iA cI K), ((a 12), iA cI W2)] := hD
                        refine lv_aload_n hx hb dX0_spread_133 rfl (lv_at hl 1 rfl) ?_
                        refine va_get (D := G) (ci := 0) (v := .ref (a 12)) (C := RX0) (T := TX0) (N := 13) hx hb hts hinX0 hown hK hP 0 rfl rfl 12 (by decide) hf49 (fun _ h9 => h9) rfl dX0_spread_134 ?_
                        refine lv_iload hx hb dX0_spread_137 (lv_at hl 5 rfl) ?_
                        refine lv_iload hx hb dX0_spread_139 (lv_at hl 0 rfl) ?_
                        refine va_iast hx hb hK hP hD hS 3 0 rfl rfl (vp_in_nI hfit (by decide)) dX0_spread_141 (fun H locs hP hD hS => ?_)
                        rw [show ((nI en2)).toNatClampNeg = en2 from nI_clamp (by omega)] at hP hD
                        have hP : va_P G vwCl [((a 0), oC a mo co le), (am, iA cI (upd M2 q (nI (f + (d0 + 1) * mr)))), ((a 3), iA cI K), ((a 12), iA cI (upd W2 en2 (nI q)))] H := hP
                        have hD : va_D A [((a 0), oC a mo co le), (am, iA cI (upd M2 q (nI (f + (d0 + 1) * mr)))), ((a 3), iA cI K), ((a 12), iA cI (upd W2 en2 (nI q)))] := hD
                        refine lv_iinc (v := nI (en2 + 1)) (lv' := [(6, .int (nI (en2 + 1))), (10, .int (nI q)), (0, .ref (a 0)), (1, .ref am), (3, .int (b2i bl)), (5, .int (nI mr)), (7, .int (nI ai)), (8, .int (nI fr)), (9, .int (nI sd))]) hx hb dX0_spread_142 hl (k := 5) rfl (nI_inc en2) (by decide) rfl (fun ls hl => ?_)
                        refine lv_iinc (v := nI (sd + 1)) (lv' := [(9, .int (nI (sd + 1))), (6, .int (nI (en2 + 1))), (10, .int (nI q)), (0, .ref (a 0)), (1, .ref am), (3, .int (b2i bl)), (5, .int (nI mr)), (7, .int (nI ai)), (8, .int (nI fr))]) hx hb dX0_spread_145 hl (k := 8) rfl (nI_inc sd) (by decide) rfl (fun ls hl => ?_)
                        refine lv_goto (tgt := 44) hx hb dX0_spread_148 (by decide) ?_
                        exact ih_lq (sd + 1) (en2 + 1) (fun i => if i = en2 then q else row2 i) (fun x => if x = q then some (d0 + 1) else D2 x) (upd M2 q (nI (f + (d0 + 1) * mr))) (upd W2 en2 (nI q)) (BJ_add nbC_ok hJ g4 (by rw [hr2]; exact hn9) (by unfold PB; rw [if_pos hbl]; exact ho) hDq hd0 (fun i => rfl) (fun x => rfl)) (by omega) (by rw [if_neg (show ¬ ai = en2 from Nat.ne_of_lt hJ.2.1)]; exact hr2) (fun i hi => by by_cases e9 : i = en2; rw [e9, pk_us, if_pos rfl]; rw [pk_un e9, if_neg e9]; exact hW2 i (by omega)) (fun x hx => by by_cases e9 : x = q; rw [e9, pk_us, if_pos rfl]; rfl; rw [pk_un e9, if_neg e9]; exact hM2 x hx) (by omega) _ _ _ hP hD hS (lv_sub hl [3, 4, 5, 6, 1, 7, 8, 0] (rfl))
                    · skip
                      refine tpi (x' := 0) (by rw [Bool.eq_false_iff.mpr hbl]; rfl) ?_
                      refine lv_if_eq (tgt := 109) hx hb dX0_spread_90 (by decide) (fun _ => ?_) (fun c => absurd (rfl) c)
                      refine lv_aload_n hx hb dX0_spread_109 rfl (lv_at hl 1 rfl) ?_
                      refine va_get (D := G) (ci := 0) (v := .ref (a 3)) (C := RX0) (T := TX0) (N := 13) hx hb hts hinX0 hown hK hP 0 rfl rfl 3 (by decide) hf21 (fun _ h9 => h9) rfl dX0_spread_110 ?_
                      refine lv_iload hx hb dX0_spread_113 (lv_at hl 0 rfl) ?_
                      refine va_iald hx hb hK hP 2 0 rfl rfl (vp_in_nI hq (by decide)) dX0_spread_115 ?_
                      refine tpi (x' := K q) (congrArg K (nI_clamp (by omega))) ?_
                      refine tpi (x' := k q) (hk q hq) ?_
                      refine cr_i (va_runSN (As := [.int (k q)]) (rest := []) FX (c_X1_isWater l (k q)) ⟨va_cnB 1 hts gX0_spread_X1_isWater_n84 rfl rfl rfl (NW_at hN 4 rfl) hiniX1 (by decide +kernel) ⟨Nat.le_of_ble_eq_true rfl, Nat.le_of_ble_eq_true rfl⟩, hstX1_isWater, trivial⟩ puS rfl rfl hl.1 rfl (lv_room (Nat.le_of_ble_eq_true rfl)) dX0_spread_116 ⟨hzc, hzs⟩) hS hP (fun H locs hP hS => ?_)
                      rcases ho : wtr (k q) with _ | _
                      · skip
                        refine tpi (x' := 0) (rfl) ?_
                        refine lv_if_eq (tgt := 145) hx hb dX0_spread_119 (by decide) (fun _ => ?_) (fun c => absurd (rfl) c)
                        refine lv_iinc (v := nI (sd + 1)) (lv' := [(9, .int (nI (sd + 1))), (10, .int (nI q)), (0, .ref (a 0)), (1, .ref am), (3, .int (b2i bl)), (5, .int (nI mr)), (6, .int (nI en2)), (7, .int (nI ai)), (8, .int (nI fr))]) hx hb dX0_spread_145 hl (k := 8) rfl (nI_inc sd) (by decide) rfl (fun ls hl => ?_)
                        refine lv_goto (tgt := 44) hx hb dX0_spread_148 (by decide) ?_
                        exact ih_lq (sd + 1) en2 row2 D2 M2 W2 (BJ_skip hJ (fun q9 hq9 hP9 => by rw [hr2, hn9] at hq9; cases hq9; unfold PB at hP9; rw [if_neg hbl, ho] at hP9; cases hP9)) (by omega) (hr2) (hW2) (hM2) (by omega) _ _ _ hP hD hS (lv_sub hl [2, 3, 4, 5, 6, 7, 8, 0] (rfl))
                      · skip
                        refine tpi (x' := 1) (rfl) ?_
                        refine lv_if_eq (tgt := 145) hx hb dX0_spread_119 (by decide) (fun c => absurd c (by decide)) (fun _ => ?_)
                        refine lv_aload_n hx hb dX0_spread_122 rfl (lv_at hl 2 rfl) ?_
                        refine lv_iload hx hb dX0_spread_123 (lv_at hl 0 rfl) ?_
                        refine lv_aload_n hx hb dX0_spread_125 rfl (lv_at hl 2 rfl) ?_
                        refine lv_iload hx hb dX0_spread_126 (lv_at hl 7 rfl) ?_
                        refine va_iald hx hb hK hP 1 0 rfl rfl (vp_in_nI hfr64 (by decide)) dX0_spread_128 ?_
                        refine tpi (x' := M2 fr) (congrArg M2 (nI_clamp (by omega))) ?_
                        refine tpi (x' := nI (f + d0 * mr)) (by rw [hM2 fr hfr64, ← hr2, hd0]; rfl) ?_
                        refine lv_iload hx hb dX0_spread_129 (lv_at hl 4 rfl) ?_
                        refine lv_iadd hx hb dX0_spread_131 ?_
                        refine tpi (x' := nI (f + (d0 + 1) * mr)) (by rw [nI_add, Nat.succ_mul, Nat.add_assoc]) ?_
                        refine va_iast hx hb hK hP hD hS 1 0 rfl rfl (vp_in_nI hq (by decide)) dX0_spread_132 (fun H locs hP hD hS => ?_)
                        rw [show ((nI q)).toNatClampNeg = q from nI_clamp (by omega)] at hP hD
                        have hP : va_P G vwCl [((a 0), oC a mo co le), (am, iA cI (upd M2 q (nI (f + (d0 + 1) * mr)))), ((a 3), iA cI K), ((a 12), iA cI W2)] H := hP
                        have hD : va_D A [((a 0), oC a mo co le), (am, iA cI (upd M2 q (nI (f + (d0 + 1) * mr)))), ((a 3), iA cI K), ((a 12), iA cI W2)] := hD
                        refine lv_aload_n hx hb dX0_spread_133 rfl (lv_at hl 1 rfl) ?_
                        refine va_get (D := G) (ci := 0) (v := .ref (a 12)) (C := RX0) (T := TX0) (N := 13) hx hb hts hinX0 hown hK hP 0 rfl rfl 12 (by decide) hf49 (fun _ h9 => h9) rfl dX0_spread_134 ?_
                        refine lv_iload hx hb dX0_spread_137 (lv_at hl 5 rfl) ?_
                        refine lv_iload hx hb dX0_spread_139 (lv_at hl 0 rfl) ?_
                        refine va_iast hx hb hK hP hD hS 3 0 rfl rfl (vp_in_nI hfit (by decide)) dX0_spread_141 (fun H locs hP hD hS => ?_)
                        rw [show ((nI en2)).toNatClampNeg = en2 from nI_clamp (by omega)] at hP hD
                        have hP : va_P G vwCl [((a 0), oC a mo co le), (am, iA cI (upd M2 q (nI (f + (d0 + 1) * mr)))), ((a 3), iA cI K), ((a 12), iA cI (upd W2 en2 (nI q)))] H := hP
                        have hD : va_D A [((a 0), oC a mo co le), (am, iA cI (upd M2 q (nI (f + (d0 + 1) * mr)))), ((a 3), iA cI K), ((a 12), iA cI (upd W2 en2 (nI q)))] := hD
                        refine lv_iinc (v := nI (en2 + 1)) (lv' := [(6, .int (nI (en2 + 1))), (10, .int (nI q)), (0, .ref (a 0)), (1, .ref am), (3, .int (b2i bl)), (5, .int (nI mr)), (7, .int (nI ai)), (8, .int (nI fr)), (9, .int (nI sd))]) hx hb dX0_spread_142 hl (k := 5) rfl (nI_inc en2) (by decide) rfl (fun ls hl => ?_)
                        refine lv_iinc (v := nI (sd + 1)) (lv' := [(9, .int (nI (sd + 1))), (6, .int (nI (en2 + 1))), (10, .int (nI q)), (0, .ref (a 0)), (1, .ref am), (3, .int (b2i bl)), (5, .int (nI mr)), (7, .int (nI ai)), (8, .int (nI fr))]) hx hb dX0_spread_145 hl (k := 8) rfl (nI_inc sd) (by decide) rfl (fun ls hl => ?_)
                        refine lv_goto (tgt := 44) hx hb dX0_spread_148 (by decide) ?_
                        exact ih_lq (sd + 1) (en2 + 1) (fun i => if i = en2 then q else row2 i) (fun x => if x = q then some (d0 + 1) else D2 x) (upd M2 q (nI (f + (d0 + 1) * mr))) (upd W2 en2 (nI q)) (BJ_add nbC_ok hJ g4 (by rw [hr2]; exact hn9) (by unfold PB; rw [if_neg hbl]; exact ho) hDq hd0 (fun i => rfl) (fun x => rfl)) (by omega) (by rw [if_neg (show ¬ ai = en2 from Nat.ne_of_lt hJ.2.1)]; exact hr2) (fun i hi => by by_cases e9 : i = en2; rw [e9, pk_us, if_pos rfl]; rw [pk_un e9, if_neg e9]; exact hW2 i (by omega)) (fun x hx => by by_cases e9 : x = q; rw [e9, pk_us, if_pos rfl]; rfl; rw [pk_un e9, if_neg e9]; exact hM2 x hx) (by omega) _ _ _ hP hD hS (lv_sub hl [3, 4, 5, 6, 1, 7, 8, 0] (rfl))
                · skip
                  refine tpi (x' := nI (f + d * mr)) (rfl) ?_
                  have hdq := BI_d hJ.1 hDq
                  have hdm2 := Nat.mul_le_mul_left d hmr
                  refine lv_if_ge (tgt := 145) hx hb dX0_spread_79 (by decide) (fun _ => ?_) (fun c => absurd (nI_pos' (n := f + d * mr) (by omega)) c)
                  refine lv_iinc (v := nI (sd + 1)) (lv' := [(9, .int (nI (sd + 1))), (10, .int (nI q)), (0, .ref (a 0)), (1, .ref am), (3, .int (b2i bl)), (5, .int (nI mr)), (6, .int (nI en2)), (7, .int (nI ai)), (8, .int (nI fr))]) hx hb dX0_spread_145 hl (k := 8) rfl (nI_inc sd) (by decide) rfl (fun ls hl => ?_)
                  refine lv_goto (tgt := 44) hx hb dX0_spread_148 (by decide) ?_
                  exact ih_lq (sd + 1) en2 row2 D2 M2 W2 (BJ_skip hJ (fun q9 hq9 _ => by rw [hr2, hn9] at hq9; cases hq9; rw [hDq]; rfl)) (by omega) (hr2) (hW2) (hM2) (by omega) _ _ _ hP hD hS (lv_sub hl [2, 3, 4, 5, 6, 7, 8, 0] (rfl))
            · skip
              have g9 : 4 = sd := by omega
              subst g9
              refine lv_icmp_ge (tgt := 151) hx hb dX0_spread_55 (by decide) (fun _ => ?_) (fun c => absurd (le_n (n := 4) (i := 4) (by decide) (by decide)) c)
              refine lv_iinc (v := nI (ai + 1)) (lv' := [(7, .int (nI (ai + 1))), (0, .ref (a 0)), (1, .ref am), (3, .int (b2i bl)), (5, .int (nI mr)), (6, .int (nI en2)), (8, .int (nI fr)), (9, .int (nI 4))]) hx hb dX0_spread_151 hl (k := 5) rfl (nI_inc ai) (by decide) rfl (fun ls hl => ?_)
              refine lv_goto (tgt := 18) hx hb dX0_spread_154 (by decide) ?_
              exact ih_lp (ai + 1) en2 row2 D2 M2 W2 (BJ_done nbC_ok hJ) (hW2) (hM2) (by omega) _ _ _ hP hD hS (lv_sub hl [1, 2, 3, 4, 5, 0] (rfl))
        exact lq (_ + 1) 0 en row D9 M1 W1 (BJ_0 hB g) (by omega) (hfr.symm) (hW1) (hM1) (Nat.lt_succ_self _) _ _ _ hP hD hS (lv_sub hl [2, 3, 4, 5, 6, 7, 1, 0] rfl)
      · skip
        refine lv_icmp_ge (tgt := 157) hx hb dX0_spread_22 (by decide) (fun _ => ?_) (fun c => absurd (le_n g (by have := hB.2.2.2.2.2.2.2.2.1; omega)) c)
        subst hQ
        subst hAe
        exact wr_v (M1, W1) (fun x hx => by rw [← BI_end hB g x]; exact hM1 x hx) hx hb hr hP hD hS hlocks dX0_spread_157
  exact lp (_ + 1) 0 1 (fun _ => st) (fun x => if x = st then some 0 else none) (upd Mk st (nI f)) (upd Wa 0 (nI st)) (BI_init hst rfl (fun x => rfl)) (fun i hi => by rw [show i = 0 by omega, pk_us]) (fun x hx => by by_cases e9 : x = st; rw [e9, pk_us, if_pos rfl]; show nI f = nI (f + 0 * mr); rw [Nat.zero_mul, Nat.add_zero]; rw [pk_un e9, if_neg e9]; rfl) (Nat.lt_succ_self _) _ _ _ hP hD hS (lv_sub hl [2, 3, 5, 7, 1, 0] rfl)

def rmX0_enter : Room := { frames := 1, cells := 0, slots := 0, locals := 20 }
set_option maxHeartbeats 4000000 in
set_option maxRecDepth 100000 in
/-- a lot of a quarter is counted -/
theorem c_X0_enter (l : Launch) (G : va_G) (cI : ClassId) (a : Nat → Nat) (mo co le : Int32) (La Ha Ma : Nat → Int32) (j : Nat) (v : Int32) (hj : j < 64) (sz : Nat) : Met l yX0_enter wsX0_enter rmX0_enter (va_Pc [.ref (a 0), .int (nI j), .int v] (WrP G cI [((a 0), oC a mo co le), ((a 5), iA cI La), ((a 6), iA cI Ha), ((a 7), iA cI Ma)] sz)) (va_Qv (fun (u : (Nat → Int32) × (Nat → Int32) × (Nat → Int32)) => u.1 = upd La j (La j + 1) ∧ u.2.1 = (if v = 3 then upd Ha j (Ha j + 1) else Ha) ∧ u.2.2 = (if v = 5 then upd Ma j (Ma j + 1) else Ma)) (WrB G [((a 0), oC a mo co le), ((a 5), iA cI La), ((a 6), iA cI Ha), ((a 7), iA cI Ma)] sz (fun u => [(a 0, oC a mo co le), (a 5, iA cI u.1), (a 6, iA cI u.2.1), (a 7, iA cI u.2.2)])) (va_A [((a 0), oC a mo co le), ((a 5), iA cI La), ((a 6), iA cI Ha), ((a 7), iA cI Ma)] sz)) 0 0 (va_A [((a 0), oC a mo co le), ((a 5), iA cI La), ((a 6), iA cI Ha), ((a 7), iA cI Ma)] sz) := by
  refine Met.ofW (cc := cX0_enter) (maxL := 3) (ret := none) (by decide) rfl ?_
  intro p e s m args below meth c s₁ B hml hv
  obtain ⟨rfl, hsz, hP, hK, hD0, hN⟩ := hv
  have hx := B.exec
  have hb := B.bytes
  have hr := B.returns
  have hlocks := B.notSynchronized
  have hts := atoms_spec (ws := wsX0_enter) B.pre
  have hown : s.vm.findClass RX0 = some m.cls := findClass_of_methodNamed B.named
  subst hsz
  have hD := hD0.self (sz := s.heap.size)
  have hA : ∀ q : Nat, s.heap.size ≤ q → va_A [((a 0), oC a mo co le), ((a 5), iA cI La), ((a 6), iA cI Ha), ((a 7), iA cI Ma)] s.heap.size q := fun q h => Or.inr h
  have hS : va_S (va_A [((a 0), oC a mo co le), ((a 5), iA cI La), ((a 6), iA cI Ha), ((a 7), iA cI Ma)] s.heap.size) s.heap s.heap [] := va_S.rf
  obtain ⟨A, hAe⟩ : ∃ A, A = va_A [((a 0), oC a mo co le), ((a 5), iA cI La), ((a 6), iA cI Ha), ((a 7), iA cI Ma)] s.heap.size := ⟨_, rfl⟩
  rw [← hAe] at hD hA hS
  have FX : CallFix p m c cX0_enter 3 s ([.ref (a 0), .int (nI j), .int v] : List Value).toArray wsX0_enter RX0 := ⟨hx, hb, hml, hown, hts⟩
  have hl := lv_entry ([.ref (a 0), .int (nI j), .int v]) (n := 3) (Nat.le_of_ble_eq_true rfl)
  rw [lg_entry_eq]
  generalize (lg_sl ([.ref (a 0), .int (nI j), .int v]) ++ List.replicate (3 - (lg_sl ([.ref (a 0), .int (nI j), .int v])).length) Slot.unset).toArray = ls at hl ⊢
  have hl : lv_has ls 3 [(0, .ref (a 0)), (1, .int (nI j)), (2, .int v)] := hl
  refine wq (fun Q hQ => ?_)
  have hzc : 0 + 0 ≤ (headSpec wsX0_enter rmX0_enter).room.cells := Nat.zero_le _
  have hzs : 0 + 0 ≤ (headSpec wsX0_enter rmX0_enter).room.slots := Nat.zero_le _
  have hf28 := hts (.fieldLink RX0 28 "CanalCity$City" "lotsOf" "[I") (by decide +kernel)
  have hf31 := hts (.fieldLink RX0 31 "CanalCity$City" "housesOf" "[I") (by decide +kernel)
  have hf34 := hts (.fieldLink RX0 34 "CanalCity$City" "marketsOf" "[I") (by decide +kernel)
  have hinX0 : ∀ w ∈ u_ws RX0 TX0 13, w ∈ wsX0_enter := by decide +kernel
  have hiniX1 := hts (.initialized RX1) (by decide +kernel)
  have hstX1_isLot := hts (.static yX1_isLot) (by decide +kernel)
  refine lv_iload_n hx hb dX0_enter_0 rfl (lv_at hl 1 rfl) ?_
  refine cr_i (va_runSN (As := [.int (nI j)]) (rest := []) FX (c_X1_isLot l (nI j)) ⟨va_cnB 1 hts gX0_enter_X1_isLot_n73 rfl rfl rfl (NW_at hN 3 rfl) hiniX1 (by decide +kernel) ⟨Nat.le_of_ble_eq_true rfl, Nat.le_of_ble_eq_true rfl⟩, hstX1_isLot, trivial⟩ puS rfl rfl hl.1 rfl (lv_room (Nat.le_of_ble_eq_true rfl)) dX0_enter_1 ⟨hzc, hzs⟩) hS hP (fun H locs hP hS => ?_)
  refine tpi (x' := 1) (isLot_1 hj) ?_
  refine lv_if_ne (tgt := 8) hx hb dX0_enter_4 (by decide) (fun _ => ?_) (fun c => absurd c (by decide))
  refine lv_aload_n hx hb dX0_enter_8 rfl (lv_at hl 0 rfl) ?_
  refine va_get (D := G) (ci := 0) (v := .ref (a 5)) (C := RX0) (T := TX0) (N := 13) hx hb hts hinX0 hown hK hP 0 rfl rfl 5 (by decide) hf28 (fun _ h9 => h9) rfl dX0_enter_9 ?_
  refine lv_iload_n hx hb dX0_enter_12 rfl (lv_at hl 1 rfl) ?_
  refine lv_dup2_11 hx hb dX0_enter_13 rfl rfl ?_
  refine va_iald hx hb hK hP 1 0 rfl rfl (vp_in_nI hj (by decide)) dX0_enter_14 ?_
  refine tpi (x' := La j) (congrArg La (nI_clamp (by omega))) ?_
  refine lv_iconst (v := 1) hx hb dX0_enter_15 (by decide) ?_
  refine lv_iadd hx hb dX0_enter_16 ?_
  refine va_iast hx hb hK hP hD hS 1 0 rfl rfl (vp_in_nI hj (by decide)) dX0_enter_17 (fun H locs hP hD hS => ?_)
  rw [show ((nI j)).toNatClampNeg = j from nI_clamp (by omega)] at hP hD
  have hP : va_P G vwCl [((a 0), oC a mo co le), ((a 5), iA cI (upd La j ((La j) + 1))), ((a 6), iA cI Ha), ((a 7), iA cI Ma)] H := hP
  have hD : va_D A [((a 0), oC a mo co le), ((a 5), iA cI (upd La j ((La j) + 1))), ((a 6), iA cI Ha), ((a 7), iA cI Ma)] := hD
  refine lv_iload_n hx hb dX0_enter_18 rfl (lv_at hl 2 rfl) ?_
  refine lv_iconst (v := 3) hx hb dX0_enter_19 (by decide) ?_
  refine lv_icmp_ne (tgt := 36) hx hb dX0_enter_20 (by decide) (fun c3 => ?_) (fun c3 => ?_)
  · skip
    refine lv_iload_n hx hb dX0_enter_36 rfl (lv_at hl 2 rfl) ?_
    refine lv_iconst (v := 5) hx hb dX0_enter_37 (by decide) ?_
    refine lv_icmp_ne (tgt := 51) hx hb dX0_enter_38 (by decide) (fun c5 => ?_) (fun c5 => ?_)
    · skip
      subst hQ
      subst hAe
      exact wr_v (upd La j (La j + 1), Ha, Ma) (⟨rfl, by rw [if_neg c3], by rw [if_neg c5]⟩) hx hb hr hP hD hS hlocks dX0_enter_51
    · skip
      refine lv_aload_n hx hb dX0_enter_41 rfl (lv_at hl 0 rfl) ?_
      refine va_get (D := G) (ci := 0) (v := .ref (a 7)) (C := RX0) (T := TX0) (N := 13) hx hb hts hinX0 hown hK hP 0 rfl rfl 7 (by decide) hf34 (fun _ h9 => h9) rfl dX0_enter_42 ?_
      refine lv_iload_n hx hb dX0_enter_45 rfl (lv_at hl 1 rfl) ?_
      refine lv_dup2_11 hx hb dX0_enter_46 rfl rfl ?_
      refine va_iald hx hb hK hP 3 0 rfl rfl (vp_in_nI hj (by decide)) dX0_enter_47 ?_
      refine tpi (x' := Ma j) (congrArg Ma (nI_clamp (by omega))) ?_
      refine lv_iconst (v := 1) hx hb dX0_enter_48 (by decide) ?_
      refine lv_iadd hx hb dX0_enter_49 ?_
      refine va_iast hx hb hK hP hD hS 3 0 rfl rfl (vp_in_nI hj (by decide)) dX0_enter_50 (fun H locs hP hD hS => ?_)
      rw [show ((nI j)).toNatClampNeg = j from nI_clamp (by omega)] at hP hD
      have hP : va_P G vwCl [((a 0), oC a mo co le), ((a 5), iA cI (upd La j ((La j) + 1))), ((a 6), iA cI Ha), ((a 7), iA cI (upd Ma j ((Ma j) + 1)))] H := hP
      have hD : va_D A [((a 0), oC a mo co le), ((a 5), iA cI (upd La j ((La j) + 1))), ((a 6), iA cI Ha), ((a 7), iA cI (upd Ma j ((Ma j) + 1)))] := hD
      subst hQ
      subst hAe
      exact wr_v (upd La j (La j + 1), Ha, upd Ma j (Ma j + 1)) (⟨rfl, by rw [if_neg c3], by rw [if_pos c5]⟩) hx hb hr hP hD hS hlocks dX0_enter_51
  · skip
    refine lv_aload_n hx hb dX0_enter_23 rfl (lv_at hl 0 rfl) ?_
    refine va_get (D := G) (ci := 0) (v := .ref (a 6)) (C := RX0) (T := TX0) (N := 13) hx hb hts hinX0 hown hK hP 0 rfl rfl 6 (by decide) hf31 (fun _ h9 => h9) rfl dX0_enter_24 ?_
    refine lv_iload_n hx hb dX0_enter_27 rfl (lv_at hl 1 rfl) ?_
    refine lv_dup2_11 hx hb dX0_enter_28 rfl rfl ?_
    refine va_iald hx hb hK hP 2 0 rfl rfl (vp_in_nI hj (by decide)) dX0_enter_29 ?_
    refine tpi (x' := Ha j) (congrArg Ha (nI_clamp (by omega))) ?_
    refine lv_iconst (v := 1) hx hb dX0_enter_30 (by decide) ?_
    refine lv_iadd hx hb dX0_enter_31 ?_
    refine va_iast hx hb hK hP hD hS 2 0 rfl rfl (vp_in_nI hj (by decide)) dX0_enter_32 (fun H locs hP hD hS => ?_)
    rw [show ((nI j)).toNatClampNeg = j from nI_clamp (by omega)] at hP hD
    have hP : va_P G vwCl [((a 0), oC a mo co le), ((a 5), iA cI (upd La j ((La j) + 1))), ((a 6), iA cI (upd Ha j ((Ha j) + 1))), ((a 7), iA cI Ma)] H := hP
    have hD : va_D A [((a 0), oC a mo co le), ((a 5), iA cI (upd La j ((La j) + 1))), ((a 6), iA cI (upd Ha j ((Ha j) + 1))), ((a 7), iA cI Ma)] := hD
    refine lv_goto (tgt := 51) hx hb dX0_enter_33 (by decide) ?_
    subst hQ
    subst hAe
    exact wr_v (upd La j (La j + 1), upd Ha j (Ha j + 1), Ma) (⟨rfl, by rw [if_pos c3], by rw [if_neg (by rw [c3]; decide)]⟩) hx hb hr hP hD hS hlocks dX0_enter_51
end
section
/-! the quarters, found one after the other -/
noncomputable def qpt (k : Nat → Int32) (i x : Nat) : Int32 := match qrt k x with
  | some j => if j < i then nI j else -1
  | none => -1
theorem qpt_0 {k : Nat → Int32} {x : Nat} : qpt k 0 x = -1 := by
  unfold qpt
  cases qrt k x with
  | none => rfl
  | some j => exact if_neg (Nat.not_lt_zero _)
theorem qpt_64 {k : Nat → Int32} {x : Nat} (hx : x < 64) : qpt k 64 x = toI (qrt k x) := by
  unfold qpt
  cases h : qrt k x with
  | none => rfl
  | some j => exact if_pos (Nat.lt_of_le_of_lt (qrt_le h) hx)
theorem qpt_in {k : Nat → Int32} {i x j : Nat} (h : qrt k x = some j) (hji : j < i) : qpt k i x = nI j := by
  unfold qpt
  rw [h]
  exact if_pos hji
theorem qpt_out {k : Nat → Int32} {i x j : Nat} (h : qrt k x = some j) (hji : i ≤ j) : qpt k i x = -1 := by
  unfold qpt
  rw [h]
  exact if_neg (Nat.not_lt.mpr hji)
theorem qpt_skip {k : Nat → Int32} {i x : Nat} (h : ¬ qrt k x = some i) : qpt k (i + 1) x = qpt k i x := by
  unfold qpt
  cases hq : qrt k x with
  | none => rfl
  | some j =>
    have hne : j ≠ i := fun e => h (by rw [hq, e])
    show (if j < i + 1 then nI j else -1) = (if j < i then nI j else -1)
    by_cases g : j < i
    · rw [if_pos g, if_pos (by omega)]
    · rw [if_neg g, if_neg (by omega)]
theorem qpt_mark {k : Nat → Int32} {i x : Nat} (hi : i < 64) (hj : qrt k i = some i) : mkd i 0 (dst (PB true k) i x) (qpt k i x) = qpt k (i + 1) x := by
  cases hd : dst (PB true k) i x with
  | none =>
    have hq : ¬ qrt k x = some i := fun e => by
      have := (qrt_root hi hj).mp e
      rw [hd] at this; cases this
    exact (qpt_skip hq).symm
  | some d =>
    have hq : qrt k x = some i := (qrt_root hi hj).mpr (by rw [hd]; rfl)
    rw [qpt_in hq (Nat.lt_succ_self _)]
    show nI (i + d * 0) = nI i
    rw [Nat.mul_zero, Nat.add_zero]
theorem lots_step {k L1 : Nat → Int32} {i j x : Nat} (hj : qrt k i = some j) (h1 : L1 x = lotsN k x i) (h2 : L1 j = lotsN k j i) : upd L1 j (L1 j + 1) x = lotsN k x (i + 1) := by
  unfold lotsN
  rw [csum]
  by_cases e : x = j
  · rw [e, pk_us, h2, if_pos hj]; rfl
  · rw [pk_un e, h1, if_neg (fun e9 => e (Option.some.inj (e9.symm.trans hj))), Int32.add_zero]; rfl
theorem kind_step {k H1 : Nat → Int32} {v : Int32} {i j x : Nat} (hj : qrt k i = some j) (h1 : H1 x = kindN k v x i) (h2 : H1 j = kindN k v j i) : (if k i = v then upd H1 j (H1 j + 1) else H1) x = kindN k v x (i + 1) := by
  unfold kindN
  rw [csum]
  by_cases e : x = j
  · subst e
    by_cases hv : k i = v
    · rw [if_pos hv, if_pos hj, if_pos hv, pk_us, h2]; rfl
    · rw [if_neg hv, if_pos hj, if_neg hv, h1, Int32.add_zero]; rfl
  · rw [if_neg (show ¬ qrt k i = some x from fun e9 => e (Option.some.inj (e9.symm.trans hj))), Int32.add_zero]
    by_cases hv : k i = v
    · rw [if_pos hv, pk_un e, h1]; rfl
    · rw [if_neg hv, h1]; rfl
theorem mkd_toI (o : Option Nat) : mkd 0 1 o (-1) = toI o := by
  cases o with
  | none => rfl
  | some d =>
    show nI (0 + d * 1) = nI d
    rw [Nat.zero_add, Nat.mul_one]
end
section
def rmX0_surveyQuarters : Room := { frames := 2, cells := 0, slots := 0, locals := 53 }
set_option maxHeartbeats 4000000 in
set_option maxRecDepth 100000 in
/-- all quarters are found -/
theorem c_X0_surveyQuarters (l : Launch) (G : va_G) (cI : ClassId) (a : Nat → Nat) (mo co le : Int32) (K Qa La Ha Ma Ba Ca Da Fa Wa k : Nat → Int32) (hk : eqK K k) (sz : Nat) : Met l yX0_surveyQuarters wsX0_surveyQuarters rmX0_surveyQuarters (va_Pc [.ref (a 0)] (WrP G cI [((a 0), oC a mo co le), ((a 3), iA cI K), ((a 4), iA cI Qa), ((a 5), iA cI La), ((a 6), iA cI Ha), ((a 7), iA cI Ma), ((a 8), iA cI Ba), ((a 9), iA cI Ca), ((a 10), iA cI Da), ((a 11), iA cI Fa), ((a 12), iA cI Wa)] sz)) (va_Qv (fun (u : (Nat → Int32) × (Nat → Int32) × (Nat → Int32) × (Nat → Int32) × (Nat → Int32)) => hatQ k u.1 ∧ hatL k (u.2.1) ∧ hatV k 3 (u.2.2.1) ∧ hatV k 5 (u.2.2.2.1)) (WrB G [((a 0), oC a mo co le), ((a 3), iA cI K), ((a 4), iA cI Qa), ((a 5), iA cI La), ((a 6), iA cI Ha), ((a 7), iA cI Ma), ((a 8), iA cI Ba), ((a 9), iA cI Ca), ((a 10), iA cI Da), ((a 11), iA cI Fa), ((a 12), iA cI Wa)] sz (fun u => [(a 0, oC a mo co le), (a 3, iA cI K), (a 4, iA cI ((u.1))), (a 5, iA cI ((u.2.1))), (a 6, iA cI ((u.2.2.1))), (a 7, iA cI ((u.2.2.2.1))), (a 8, iA cI Ba), (a 9, iA cI Ca), (a 10, iA cI Da), (a 11, iA cI Fa), (a 12, iA cI ((u.2.2.2.2)))])) (va_A [((a 0), oC a mo co le), ((a 3), iA cI K), ((a 4), iA cI Qa), ((a 5), iA cI La), ((a 6), iA cI Ha), ((a 7), iA cI Ma), ((a 8), iA cI Ba), ((a 9), iA cI Ca), ((a 10), iA cI Da), ((a 11), iA cI Fa), ((a 12), iA cI Wa)] sz)) 0 0 (va_A [((a 0), oC a mo co le), ((a 3), iA cI K), ((a 4), iA cI Qa), ((a 5), iA cI La), ((a 6), iA cI Ha), ((a 7), iA cI Ma), ((a 8), iA cI Ba), ((a 9), iA cI Ca), ((a 10), iA cI Da), ((a 11), iA cI Fa), ((a 12), iA cI Wa)] sz) := by
  refine Met.ofW (cc := cX0_surveyQuarters) (maxL := 2) (ret := none) (by decide) rfl ?_
  intro p e s m args below meth c s₁ B hml hv
  obtain ⟨rfl, hsz, hP, hK, hD0, hN⟩ := hv
  have hx := B.exec
  have hb := B.bytes
  have hr := B.returns
  have hlocks := B.notSynchronized
  have hts := atoms_spec (ws := wsX0_surveyQuarters) B.pre
  have hown : s.vm.findClass RX0 = some m.cls := findClass_of_methodNamed B.named
  subst hsz
  have hD := hD0.self (sz := s.heap.size)
  have hA : ∀ q : Nat, s.heap.size ≤ q → va_A [((a 0), oC a mo co le), ((a 3), iA cI K), ((a 4), iA cI Qa), ((a 5), iA cI La), ((a 6), iA cI Ha), ((a 7), iA cI Ma), ((a 8), iA cI Ba), ((a 9), iA cI Ca), ((a 10), iA cI Da), ((a 11), iA cI Fa), ((a 12), iA cI Wa)] s.heap.size q := fun q h => Or.inr h
  have hS : va_S (va_A [((a 0), oC a mo co le), ((a 3), iA cI K), ((a 4), iA cI Qa), ((a 5), iA cI La), ((a 6), iA cI Ha), ((a 7), iA cI Ma), ((a 8), iA cI Ba), ((a 9), iA cI Ca), ((a 10), iA cI Da), ((a 11), iA cI Fa), ((a 12), iA cI Wa)] s.heap.size) s.heap s.heap [] := va_S.rf
  obtain ⟨A, hAe⟩ : ∃ A, A = va_A [((a 0), oC a mo co le), ((a 3), iA cI K), ((a 4), iA cI Qa), ((a 5), iA cI La), ((a 6), iA cI Ha), ((a 7), iA cI Ma), ((a 8), iA cI Ba), ((a 9), iA cI Ca), ((a 10), iA cI Da), ((a 11), iA cI Fa), ((a 12), iA cI Wa)] s.heap.size := ⟨_, rfl⟩
  rw [← hAe] at hD hA hS
  have FX : CallFix p m c cX0_surveyQuarters 2 s ([.ref (a 0)] : List Value).toArray wsX0_surveyQuarters RX0 := ⟨hx, hb, hml, hown, hts⟩
  have hl := lv_entry ([.ref (a 0)]) (n := 2) (Nat.le_of_ble_eq_true rfl)
  rw [lg_entry_eq]
  generalize (lg_sl ([.ref (a 0)]) ++ List.replicate (2 - (lg_sl ([.ref (a 0)])).length) Slot.unset).toArray = ls at hl ⊢
  have hl : lv_has ls 2 [(0, .ref (a 0))] := hl
  refine wq (fun Q hQ => ?_)
  have hzc : 0 + 0 ≤ (headSpec wsX0_surveyQuarters rmX0_surveyQuarters).room.cells := Nat.zero_le _
  have hzs : 0 + 0 ≤ (headSpec wsX0_surveyQuarters rmX0_surveyQuarters).room.slots := Nat.zero_le _
  have hf21 := hts (.fieldLink RX0 21 "CanalCity$City" "kinds" "[I") (by decide +kernel)
  have hf25 := hts (.fieldLink RX0 25 "CanalCity$City" "quarters" "[I") (by decide +kernel)
  have hf28 := hts (.fieldLink RX0 28 "CanalCity$City" "lotsOf" "[I") (by decide +kernel)
  have hf31 := hts (.fieldLink RX0 31 "CanalCity$City" "housesOf" "[I") (by decide +kernel)
  have hf34 := hts (.fieldLink RX0 34 "CanalCity$City" "marketsOf" "[I") (by decide +kernel)
  have hinX0 : ∀ w ∈ u_ws RX0 TX0 13, w ∈ wsX0_surveyQuarters := by decide +kernel
  have hiniX1 := hts (.initialized RX1) (by decide +kernel)
  have hstX1_isLand := hts (.static yX1_isLand) (by decide +kernel)
  refine lv_aload_n hx hb dX0_surveyQuarters_0 rfl (lv_at hl 0 rfl) ?_
  refine va_get (D := G) (ci := 0) (v := .ref (a 4)) (C := RX0) (T := TX0) (N := 13) hx hb hts hinX0 hown hK hP 0 rfl rfl 4 (by decide) hf25 (fun _ h9 => h9) rfl dX0_surveyQuarters_1 ?_
  refine lv_iconst (v := (-1)) hx hb dX0_surveyQuarters_4 (by decide) ?_
  refine cw_v (wr := [((a 0), oC a mo co le), ((a 3), iA cI K), ((a 5), iA cI La), ((a 6), iA cI Ha), ((a 7), iA cI Ma), ((a 8), iA cI Ba), ((a 9), iA cI Ca), ((a 10), iA cI Da), ((a 11), iA cI Fa), ((a 12), iA cI Wa)]) (va_runS (As := [.ref (a 4), .int (-1)]) (rest := []) FX (c_X0_clear l G cI (a 4) Qa (-1) _) (va_cwS 2 hts gX0_surveyQuarters_X0_clear rfl rfl rfl (by decide +kernel) ⟨Nat.le_of_ble_eq_true rfl, Nat.le_of_ble_eq_true rfl⟩) (wrS hK hP hD hN [2] (by decide) rfl rfl) rfl rfl hl.1 rfl (lv_room (Nat.le_of_ble_eq_true rfl)) dX0_surveyQuarters_5 ⟨hzc, hzs⟩) hS hP hD hA [2] [0, 1, 3, 4, 5, 6, 7, 8, 9, 10] rfl rfl (by decide) (by decide) (fun u H locs hw hP hD hS => ?_)
  obtain ⟨Q0, hu9⟩ : ∃ z, z = u := ⟨_, rfl⟩
  subst hu9
  have hP := hP.sub (ws' := [((a 0), oC a mo co le), ((a 3), iA cI K), ((a 4), iA cI Q0), ((a 5), iA cI La), ((a 6), iA cI Ha), ((a 7), iA cI Ma), ((a 8), iA cI Ba), ((a 9), iA cI Ca), ((a 10), iA cI Da), ((a 11), iA cI Fa), ((a 12), iA cI Wa)]) [0, 1, 10, 2, 3, 4, 5, 6, 7, 8, 9] rfl
  have hD := hD.sub (ws' := [((a 0), oC a mo co le), ((a 3), iA cI K), ((a 4), iA cI Q0), ((a 5), iA cI La), ((a 6), iA cI Ha), ((a 7), iA cI Ma), ((a 8), iA cI Ba), ((a 9), iA cI Ca), ((a 10), iA cI Da), ((a 11), iA cI Fa), ((a 12), iA cI Wa)]) [0, 1, 10, 2, 3, 4, 5, 6, 7, 8, 9] (by decide) rfl
  have hQ0 := hw
  refine lv_aload_n hx hb dX0_surveyQuarters_8 rfl (lv_at hl 0 rfl) ?_
  refine va_get (D := G) (ci := 0) (v := .ref (a 5)) (C := RX0) (T := TX0) (N := 13) hx hb hts hinX0 hown hK hP 0 rfl rfl 5 (by decide) hf28 (fun _ h9 => h9) rfl dX0_surveyQuarters_9 ?_
  refine lv_iconst (v := 0) hx hb dX0_surveyQuarters_12 (by decide) ?_
  refine cw_v (wr := [((a 0), oC a mo co le), ((a 3), iA cI K), ((a 4), iA cI Q0), ((a 6), iA cI Ha), ((a 7), iA cI Ma), ((a 8), iA cI Ba), ((a 9), iA cI Ca), ((a 10), iA cI Da), ((a 11), iA cI Fa), ((a 12), iA cI Wa)]) (va_runS (As := [.ref (a 5), .int 0]) (rest := []) FX (c_X0_clear l G cI (a 5) La 0 _) (va_cwS 2 hts gX0_surveyQuarters_X0_clear rfl rfl rfl (by decide +kernel) ⟨Nat.le_of_ble_eq_true rfl, Nat.le_of_ble_eq_true rfl⟩) (wrS hK hP hD hN [3] (by decide) rfl rfl) rfl rfl hl.1 rfl (lv_room (Nat.le_of_ble_eq_true rfl)) dX0_surveyQuarters_13 ⟨hzc, hzs⟩) hS hP hD hA [3] [0, 1, 2, 4, 5, 6, 7, 8, 9, 10] rfl rfl (by decide) (by decide) (fun u H locs hw hP hD hS => ?_)
  obtain ⟨L0, hu9⟩ : ∃ z, z = u := ⟨_, rfl⟩
  subst hu9
  have hP := hP.sub (ws' := [((a 0), oC a mo co le), ((a 3), iA cI K), ((a 4), iA cI Q0), ((a 5), iA cI L0), ((a 6), iA cI Ha), ((a 7), iA cI Ma), ((a 8), iA cI Ba), ((a 9), iA cI Ca), ((a 10), iA cI Da), ((a 11), iA cI Fa), ((a 12), iA cI Wa)]) [0, 1, 2, 10, 3, 4, 5, 6, 7, 8, 9] rfl
  have hD := hD.sub (ws' := [((a 0), oC a mo co le), ((a 3), iA cI K), ((a 4), iA cI Q0), ((a 5), iA cI L0), ((a 6), iA cI Ha), ((a 7), iA cI Ma), ((a 8), iA cI Ba), ((a 9), iA cI Ca), ((a 10), iA cI Da), ((a 11), iA cI Fa), ((a 12), iA cI Wa)]) [0, 1, 2, 10, 3, 4, 5, 6, 7, 8, 9] (by decide) rfl
  have hL0 := hw
  refine lv_aload_n hx hb dX0_surveyQuarters_16 rfl (lv_at hl 0 rfl) ?_
  refine va_get (D := G) (ci := 0) (v := .ref (a 6)) (C := RX0) (T := TX0) (N := 13) hx hb hts hinX0 hown hK hP 0 rfl rfl 6 (by decide) hf31 (fun _ h9 => h9) rfl dX0_surveyQuarters_17 ?_
  refine lv_iconst (v := 0) hx hb dX0_surveyQuarters_20 (by decide) ?_
  refine cw_v (wr := [((a 0), oC a mo co le), ((a 3), iA cI K), ((a 4), iA cI Q0), ((a 5), iA cI L0), ((a 7), iA cI Ma), ((a 8), iA cI Ba), ((a 9), iA cI Ca), ((a 10), iA cI Da), ((a 11), iA cI Fa), ((a 12), iA cI Wa)]) (va_runS (As := [.ref (a 6), .int 0]) (rest := []) FX (c_X0_clear l G cI (a 6) Ha 0 _) (va_cwS 2 hts gX0_surveyQuarters_X0_clear rfl rfl rfl (by decide +kernel) ⟨Nat.le_of_ble_eq_true rfl, Nat.le_of_ble_eq_true rfl⟩) (wrS hK hP hD hN [4] (by decide) rfl rfl) rfl rfl hl.1 rfl (lv_room (Nat.le_of_ble_eq_true rfl)) dX0_surveyQuarters_21 ⟨hzc, hzs⟩) hS hP hD hA [4] [0, 1, 2, 3, 5, 6, 7, 8, 9, 10] rfl rfl (by decide) (by decide) (fun u H locs hw hP hD hS => ?_)
  obtain ⟨H0, hu9⟩ : ∃ z, z = u := ⟨_, rfl⟩
  subst hu9
  have hP := hP.sub (ws' := [((a 0), oC a mo co le), ((a 3), iA cI K), ((a 4), iA cI Q0), ((a 5), iA cI L0), ((a 6), iA cI H0), ((a 7), iA cI Ma), ((a 8), iA cI Ba), ((a 9), iA cI Ca), ((a 10), iA cI Da), ((a 11), iA cI Fa), ((a 12), iA cI Wa)]) [0, 1, 2, 3, 10, 4, 5, 6, 7, 8, 9] rfl
  have hD := hD.sub (ws' := [((a 0), oC a mo co le), ((a 3), iA cI K), ((a 4), iA cI Q0), ((a 5), iA cI L0), ((a 6), iA cI H0), ((a 7), iA cI Ma), ((a 8), iA cI Ba), ((a 9), iA cI Ca), ((a 10), iA cI Da), ((a 11), iA cI Fa), ((a 12), iA cI Wa)]) [0, 1, 2, 3, 10, 4, 5, 6, 7, 8, 9] (by decide) rfl
  have hH0 := hw
  refine lv_aload_n hx hb dX0_surveyQuarters_24 rfl (lv_at hl 0 rfl) ?_
  refine va_get (D := G) (ci := 0) (v := .ref (a 7)) (C := RX0) (T := TX0) (N := 13) hx hb hts hinX0 hown hK hP 0 rfl rfl 7 (by decide) hf34 (fun _ h9 => h9) rfl dX0_surveyQuarters_25 ?_
  refine lv_iconst (v := 0) hx hb dX0_surveyQuarters_28 (by decide) ?_
  refine cw_v (wr := [((a 0), oC a mo co le), ((a 3), iA cI K), ((a 4), iA cI Q0), ((a 5), iA cI L0), ((a 6), iA cI H0), ((a 8), iA cI Ba), ((a 9), iA cI Ca), ((a 10), iA cI Da), ((a 11), iA cI Fa), ((a 12), iA cI Wa)]) (va_runS (As := [.ref (a 7), .int 0]) (rest := []) FX (c_X0_clear l G cI (a 7) Ma 0 _) (va_cwS 2 hts gX0_surveyQuarters_X0_clear rfl rfl rfl (by decide +kernel) ⟨Nat.le_of_ble_eq_true rfl, Nat.le_of_ble_eq_true rfl⟩) (wrS hK hP hD hN [5] (by decide) rfl rfl) rfl rfl hl.1 rfl (lv_room (Nat.le_of_ble_eq_true rfl)) dX0_surveyQuarters_29 ⟨hzc, hzs⟩) hS hP hD hA [5] [0, 1, 2, 3, 4, 6, 7, 8, 9, 10] rfl rfl (by decide) (by decide) (fun u H locs hw hP hD hS => ?_)
  obtain ⟨M0, hu9⟩ : ∃ z, z = u := ⟨_, rfl⟩
  subst hu9
  have hP := hP.sub (ws' := [((a 0), oC a mo co le), ((a 3), iA cI K), ((a 4), iA cI Q0), ((a 5), iA cI L0), ((a 6), iA cI H0), ((a 7), iA cI M0), ((a 8), iA cI Ba), ((a 9), iA cI Ca), ((a 10), iA cI Da), ((a 11), iA cI Fa), ((a 12), iA cI Wa)]) [0, 1, 2, 3, 4, 10, 5, 6, 7, 8, 9] rfl
  have hD := hD.sub (ws' := [((a 0), oC a mo co le), ((a 3), iA cI K), ((a 4), iA cI Q0), ((a 5), iA cI L0), ((a 6), iA cI H0), ((a 7), iA cI M0), ((a 8), iA cI Ba), ((a 9), iA cI Ca), ((a 10), iA cI Da), ((a 11), iA cI Fa), ((a 12), iA cI Wa)]) [0, 1, 2, 3, 4, 10, 5, 6, 7, 8, 9] (by decide) rfl
  have hM0 := hw
  refine lv_iconst (v := 0) hx hb dX0_surveyQuarters_32 (by decide) ?_
  refine tpi (x' := nI 0) (rfl) ?_
  refine lv_istore_n (lv' := [(1, .int (nI 0)), (0, .ref (a 0))]) hx hb dX0_surveyQuarters_33 rfl hl (by decide) rfl (fun ls hl => ?_)
  have lp : ∀ (n : Nat) (i : Nat) (Q1 L1 H1 M1 W1 : Nat → Int32), (hi : i ≤ 64) → (hQ1 : ∀ x, x < 64 → Q1 x = qpt k i x) → (hL1 : ∀ x, x < 64 → L1 x = lotsN k x i) → (hH1 : ∀ x, x < 64 → H1 x = kindN k 3 x i) → (hM1 : ∀ x, x < 64 → M1 x = kindN k 5 x i) → (64 - i) < n → ∀ (H : Heap) (locs : List Loc) (ls : Array Slot), va_P G vwCl [((a 0), oC a mo co le), ((a 3), iA cI K), ((a 4), iA cI Q1), ((a 5), iA cI L1), ((a 6), iA cI H1), ((a 7), iA cI M1), ((a 8), iA cI Ba), ((a 9), iA cI Ca), ((a 10), iA cI Da), ((a 11), iA cI Fa), ((a 12), iA cI W1)] H → va_D A [((a 0), oC a mo co le), ((a 3), iA cI K), ((a 4), iA cI Q1), ((a 5), iA cI L1), ((a 6), iA cI H1), ((a 7), iA cI M1), ((a 8), iA cI Ba), ((a 9), iA cI Ca), ((a 10), iA cI Da), ((a 11), iA cI Fa), ((a 12), iA cI W1)] → va_S A s.heap H locs → lv_has ls 2 [(0, .ref (a 0)), (1, .int (nI i))] → W p l e (headSpec wsX0_surveyQuarters rmX0_surveyQuarters).room s m ([.ref (a 0)] : List Value).toArray below meth c H locs 0 0 Q (F0 m 34 ls []) := by
    intro n
    induction n with
    | zero => intro i Q1 L1 H1 M1 W1 hi hQ1 hL1 hH1 hM1 hn; exact absurd hn (by omega)
    | succ n ih_lp =>
      intro i Q1 L1 H1 M1 W1 hi hQ1 hL1 hH1 hM1 hn H locs ls hP hD hS hl
      refine lv_iload_n hx hb dX0_surveyQuarters_34 rfl (lv_at hl 1 rfl) ?_
      refine lv_bipush (v := 64) hx hb dX0_surveyQuarters_35 (by decide) ?_
      rcases Nat.lt_or_ge i 64 with g | g
      · skip
        refine lv_icmp_ge (tgt := 95) hx hb dX0_surveyQuarters_37 (by decide) (fun c => absurd c (lt_n (n := 64) g (by decide))) (fun _ => ?_)
        refine lv_aload_n hx hb dX0_surveyQuarters_40 rfl (lv_at hl 0 rfl) ?_
        refine va_get (D := G) (ci := 0) (v := .ref (a 3)) (C := RX0) (T := TX0) (N := 13) hx hb hts hinX0 hown hK hP 0 rfl rfl 3 (by decide) hf21 (fun _ h9 => h9) rfl dX0_surveyQuarters_41 ?_
        refine lv_iload_n hx hb dX0_surveyQuarters_44 rfl (lv_at hl 1 rfl) ?_
        refine va_iald hx hb hK hP 1 0 rfl rfl (vp_in_nI g (by decide)) dX0_surveyQuarters_45 ?_
        refine tpi (x' := K i) (congrArg K (nI_clamp (by omega))) ?_
        refine tpi (x' := k i) (hk i g) ?_
        refine cr_i (va_runSN (As := [.int (k i)]) (rest := []) FX (c_X1_isLand l (k i)) ⟨va_cnB 1 hts gX0_surveyQuarters_X1_isLand_n98 rfl rfl rfl (NW_at hN 5 rfl) hiniX1 (by decide +kernel) ⟨Nat.le_of_ble_eq_true rfl, Nat.le_of_ble_eq_true rfl⟩, hstX1_isLand, trivial⟩ puS rfl rfl hl.1 rfl (lv_room (Nat.le_of_ble_eq_true rfl)) dX0_surveyQuarters_46 ⟨hzc, hzs⟩) hS hP (fun H locs hP hS => ?_)
        rcases ho : lnd (k i) with _ | _
        · skip
          have hno := qrt_none.mpr ho
          refine tpi (x' := 0) (rfl) ?_
          refine lv_if_eq (tgt := 89) hx hb dX0_surveyQuarters_49 (by decide) (fun _ => ?_) (fun c => absurd (rfl) c)
          refine lv_iinc (v := nI (i + 1)) (lv' := [(1, .int (nI (i + 1))), (0, .ref (a 0))]) hx hb dX0_surveyQuarters_89 hl (k := 1) rfl (nI_inc i) (by decide) rfl (fun ls hl => ?_)
          refine lv_goto (tgt := 34) hx hb dX0_surveyQuarters_92 (by decide) ?_
          exact ih_lp (i + 1) Q1 L1 H1 M1 W1 (by omega) (fun x hx => by rw [qpt_skip (fun e => by have e9 := qrt_idem hx e; rw [hno] at e9; cases e9)]; exact hQ1 x hx) (fun x hx => by rw [hL1 x hx]; unfold lotsN; rw [csum]; rw [if_neg (by rw [hno]; exact fun e => (by cases e)), Int32.add_zero]) (fun x hx => by rw [hH1 x hx]; unfold kindN; rw [csum]; rw [if_neg (by rw [hno]; exact fun e => (by cases e)), Int32.add_zero]) (fun x hx => by rw [hM1 x hx]; unfold kindN; rw [csum]; rw [if_neg (by rw [hno]; exact fun e => (by cases e)), Int32.add_zero]) (by omega) _ _ _ hP hD hS (lv_sub hl [1, 0] (rfl))
        · skip
          refine tpi (x' := 1) (rfl) ?_
          refine lv_if_eq (tgt := 89) hx hb dX0_surveyQuarters_49 (by decide) (fun c => absurd c (by decide)) (fun _ => ?_)
          refine lv_aload_n hx hb dX0_surveyQuarters_52 rfl (lv_at hl 0 rfl) ?_
          refine va_get (D := G) (ci := 0) (v := .ref (a 4)) (C := RX0) (T := TX0) (N := 13) hx hb hts hinX0 hown hK hP 0 rfl rfl 4 (by decide) hf25 (fun _ h9 => h9) rfl dX0_surveyQuarters_53 ?_
          refine lv_iload_n hx hb dX0_surveyQuarters_56 rfl (lv_at hl 1 rfl) ?_
          refine va_iald hx hb hK hP 2 0 rfl rfl (vp_in_nI g (by decide)) dX0_surveyQuarters_57 ?_
          refine tpi (x' := Q1 i) (congrArg Q1 (nI_clamp (by omega))) ?_
          refine tpi (x' := qpt k i i) (hQ1 i g) ?_
          obtain ⟨j, hj⟩ : ∃ j, qrt k i = some j := by cases e : qrt k i with | none => rw [qrt_none, ho] at e; cases e | some j => exact ⟨j, rfl⟩
          have hji := qrt_le hj
          rcases Nat.lt_or_ge j i with hlt | hge
          · skip
            refine tpi (x' := nI j) (qpt_in hj hlt) ?_
            refine lv_if_ge (tgt := 73) hx hb dX0_surveyQuarters_58 (by decide) (fun _ => ?_) (fun c => absurd (nI_pos' (n := j) (by omega)) c)
            have hQ2 : ∀ x, x < 64 → Q1 x = qpt k (i + 1) x := fun x hx => by rw [qpt_skip (fun e => by have e9 := qrt_idem hx e; rw [hj] at e9; cases e9; omega)]; exact hQ1 x hx
            refine lv_aload_n hx hb dX0_surveyQuarters_73 rfl (lv_at hl 0 rfl) ?_
            refine lv_aload_n hx hb dX0_surveyQuarters_74 rfl (lv_at hl 0 rfl) ?_
            refine va_get (D := G) (ci := 0) (v := .ref (a 4)) (C := RX0) (T := TX0) (N := 13) hx hb hts hinX0 hown hK hP 0 rfl rfl 4 (by decide) hf25 (fun _ h9 => h9) rfl dX0_surveyQuarters_75 ?_
            refine lv_iload_n hx hb dX0_surveyQuarters_78 rfl (lv_at hl 1 rfl) ?_
            refine va_iald hx hb hK hP 2 0 rfl rfl (vp_in_nI g (by decide)) dX0_surveyQuarters_79 ?_
            refine tpi (x' := Q1 i) (congrArg Q1 (nI_clamp (by omega))) ?_
            refine tpi (x' := nI j) ((hQ2 i g).trans (qpt_in hj (by omega))) ?_
            refine lv_aload_n hx hb dX0_surveyQuarters_80 rfl (lv_at hl 0 rfl) ?_
            refine va_get (D := G) (ci := 0) (v := .ref (a 3)) (C := RX0) (T := TX0) (N := 13) hx hb hts hinX0 hown hK hP 0 rfl rfl 3 (by decide) hf21 (fun _ h9 => h9) rfl dX0_surveyQuarters_81 ?_
            refine lv_iload_n hx hb dX0_surveyQuarters_84 rfl (lv_at hl 1 rfl) ?_
            refine va_iald hx hb hK hP 1 0 rfl rfl (vp_in_nI g (by decide)) dX0_surveyQuarters_85 ?_
            refine tpi (x' := K i) (congrArg K (nI_clamp (by omega))) ?_
            refine tpi (x' := k i) (hk i g) ?_
            refine cw_v (wr := [((a 3), iA cI K), ((a 4), iA cI Q1), ((a 8), iA cI Ba), ((a 9), iA cI Ca), ((a 10), iA cI Da), ((a 11), iA cI Fa), ((a 12), iA cI W1)]) (va_runV (As := [.int (nI j), .int (k i)]) (rest := []) FX (c_X0_enter l G cI a mo co le L1 H1 M1 j (k i) (by omega) _) (cwV 2 hts gX0_surveyQuarters_X0_enter rfl rfl rfl (by decide +kernel) ⟨Nat.le_of_ble_eq_true rfl, Nat.le_of_ble_eq_true rfl⟩) (wrV hK hP hD hN [0, 3, 4, 5] (by decide) rfl rfl (ci := 0) (q0 := 0) rfl rfl) rfl rfl hl.1 rfl (lv_room (Nat.le_of_ble_eq_true rfl)) dX0_surveyQuarters_86 ⟨hzc, hzs⟩) hS hP hD hA [0, 3, 4, 5] [1, 2, 6, 7, 8, 9, 10] rfl rfl (by decide) (by decide) (fun u H locs hw hP hD hS => ?_)
            obtain ⟨L2, H2, M2⟩ := u
            obtain ⟨e1, e2, e3⟩ := hw
            have hP := hP.sub (ws' := [((a 0), oC a mo co le), ((a 3), iA cI K), ((a 4), iA cI Q1), ((a 5), iA cI L2), ((a 6), iA cI H2), ((a 7), iA cI M2), ((a 8), iA cI Ba), ((a 9), iA cI Ca), ((a 10), iA cI Da), ((a 11), iA cI Fa), ((a 12), iA cI W1)]) [7, 0, 1, 8, 9, 10, 2, 3, 4, 5, 6] rfl
            have hD := hD.sub (ws' := [((a 0), oC a mo co le), ((a 3), iA cI K), ((a 4), iA cI Q1), ((a 5), iA cI L2), ((a 6), iA cI H2), ((a 7), iA cI M2), ((a 8), iA cI Ba), ((a 9), iA cI Ca), ((a 10), iA cI Da), ((a 11), iA cI Fa), ((a 12), iA cI W1)]) [7, 0, 1, 8, 9, 10, 2, 3, 4, 5, 6] (by decide) rfl
            have e1 : L2 = upd L1 j (L1 j + 1) := e1
            have e2 : H2 = (if k i = 3 then upd H1 j (H1 j + 1) else H1) := e2
            have e3 : M2 = (if k i = 5 then upd M1 j (M1 j + 1) else M1) := e3
            refine lv_iinc (v := nI (i + 1)) (lv' := [(1, .int (nI (i + 1))), (0, .ref (a 0))]) hx hb dX0_surveyQuarters_89 hl (k := 1) rfl (nI_inc i) (by decide) rfl (fun ls hl => ?_)
            refine lv_goto (tgt := 34) hx hb dX0_surveyQuarters_92 (by decide) ?_
            exact ih_lp (i + 1) Q1 L2 H2 M2 W1 (by omega) (hQ2) (fun x hx => by rw [e1]; exact lots_step hj (hL1 x hx) (hL1 j (by omega))) (fun x hx => by rw [e2]; exact kind_step hj (hH1 x hx) (hH1 j (by omega))) (fun x hx => by rw [e3]; exact kind_step hj (hM1 x hx) (hM1 j (by omega))) (by omega) _ _ _ hP hD hS (lv_sub hl [1, 0] (rfl))
          · skip
            have g9 : i = j := by omega
            subst g9
            refine tpi (x' := -1) (qpt_out hj (by omega)) ?_
            refine lv_if_ge (tgt := 73) hx hb dX0_surveyQuarters_58 (by decide) (fun c => absurd c (by decide)) (fun _ => ?_)
            refine lv_aload_n hx hb dX0_surveyQuarters_61 rfl (lv_at hl 0 rfl) ?_
            refine lv_aload_n hx hb dX0_surveyQuarters_62 rfl (lv_at hl 0 rfl) ?_
            refine va_get (D := G) (ci := 0) (v := .ref (a 4)) (C := RX0) (T := TX0) (N := 13) hx hb hts hinX0 hown hK hP 0 rfl rfl 4 (by decide) hf25 (fun _ h9 => h9) rfl dX0_surveyQuarters_63 ?_
            refine lv_iload_n hx hb dX0_surveyQuarters_66 rfl (lv_at hl 1 rfl) ?_
            refine lv_iconst (v := 1) hx hb dX0_surveyQuarters_67 (by decide) ?_
            refine tpi (x' := b2i true) (rfl) ?_
            refine lv_iload_n hx hb dX0_surveyQuarters_68 rfl (lv_at hl 1 rfl) ?_
            refine lv_iconst (v := 0) hx hb dX0_surveyQuarters_69 (by decide) ?_
            refine tpi (x' := nI 0) (rfl) ?_
            refine cw_v (wr := [((a 5), iA cI L1), ((a 6), iA cI H1), ((a 7), iA cI M1), ((a 8), iA cI Ba), ((a 9), iA cI Ca), ((a 10), iA cI Da), ((a 11), iA cI Fa)]) (va_runV (As := [.ref (a 4), .int (nI i), .int (b2i true), .int (nI i), .int (nI 0)]) (rest := []) FX (c_X0_spread l G cI a (a 4) mo co le K Q1 W1 k true i i 0 hk g g (by omega) (fun x hx hr => by obtain ⟨n9, hn9⟩ := hr; rw [hQ1 x hx, qpt_out (j := i) ((qrt_same g ho hn9).trans hj) (by omega)]; decide) _) (cwV 5 hts gX0_surveyQuarters_X0_spread rfl rfl rfl (by decide +kernel) ⟨Nat.le_of_ble_eq_true rfl, Nat.le_of_ble_eq_true rfl⟩) (wrV hK hP hD hN [0, 2, 1, 10] (by decide) rfl rfl (ci := 0) (q0 := 0) rfl rfl) rfl rfl hl.1 rfl (lv_room (Nat.le_of_ble_eq_true rfl)) dX0_surveyQuarters_70 ⟨hzc, hzs⟩) hS hP hD hA [0, 2, 1, 10] [3, 4, 5, 6, 7, 8, 9] rfl rfl (by decide) (by decide) (fun u H locs hw hP hD hS => ?_)
            obtain ⟨Q2, W2⟩ := u
            have hP := hP.sub (ws' := [((a 0), oC a mo co le), ((a 3), iA cI K), ((a 4), iA cI Q2), ((a 5), iA cI L1), ((a 6), iA cI H1), ((a 7), iA cI M1), ((a 8), iA cI Ba), ((a 9), iA cI Ca), ((a 10), iA cI Da), ((a 11), iA cI Fa), ((a 12), iA cI W2)]) [7, 9, 8, 0, 1, 2, 3, 4, 5, 6, 10] rfl
            have hD := hD.sub (ws' := [((a 0), oC a mo co le), ((a 3), iA cI K), ((a 4), iA cI Q2), ((a 5), iA cI L1), ((a 6), iA cI H1), ((a 7), iA cI M1), ((a 8), iA cI Ba), ((a 9), iA cI Ca), ((a 10), iA cI Da), ((a 11), iA cI Fa), ((a 12), iA cI W2)]) [7, 9, 8, 0, 1, 2, 3, 4, 5, 6, 10] (by decide) rfl
            have hQ2 : ∀ x, x < 64 → Q2 x = qpt k (i + 1) x := fun x hx => by rw [show Q2 x = mkd i 0 (dst (PB true k) i x) (Q1 x) from hw x hx, hQ1 x hx]; exact qpt_mark g hj
            refine lv_aload_n hx hb dX0_surveyQuarters_73 rfl (lv_at hl 0 rfl) ?_
            refine lv_aload_n hx hb dX0_surveyQuarters_74 rfl (lv_at hl 0 rfl) ?_
            refine va_get (D := G) (ci := 0) (v := .ref (a 4)) (C := RX0) (T := TX0) (N := 13) hx hb hts hinX0 hown hK hP 0 rfl rfl 4 (by decide) hf25 (fun _ h9 => h9) rfl dX0_surveyQuarters_75 ?_
            refine lv_iload_n hx hb dX0_surveyQuarters_78 rfl (lv_at hl 1 rfl) ?_
            refine va_iald hx hb hK hP 2 0 rfl rfl (vp_in_nI g (by decide)) dX0_surveyQuarters_79 ?_
            refine tpi (x' := Q2 i) (congrArg Q2 (nI_clamp (by omega))) ?_
            refine tpi (x' := nI i) ((hQ2 i g).trans (qpt_in hj (by omega))) ?_
            refine lv_aload_n hx hb dX0_surveyQuarters_80 rfl (lv_at hl 0 rfl) ?_
            refine va_get (D := G) (ci := 0) (v := .ref (a 3)) (C := RX0) (T := TX0) (N := 13) hx hb hts hinX0 hown hK hP 0 rfl rfl 3 (by decide) hf21 (fun _ h9 => h9) rfl dX0_surveyQuarters_81 ?_
            refine lv_iload_n hx hb dX0_surveyQuarters_84 rfl (lv_at hl 1 rfl) ?_
            refine va_iald hx hb hK hP 1 0 rfl rfl (vp_in_nI g (by decide)) dX0_surveyQuarters_85 ?_
            refine tpi (x' := K i) (congrArg K (nI_clamp (by omega))) ?_
            refine tpi (x' := k i) (hk i g) ?_
            refine cw_v (wr := [((a 3), iA cI K), ((a 4), iA cI Q2), ((a 8), iA cI Ba), ((a 9), iA cI Ca), ((a 10), iA cI Da), ((a 11), iA cI Fa), ((a 12), iA cI W2)]) (va_runV (As := [.int (nI i), .int (k i)]) (rest := []) FX (c_X0_enter l G cI a mo co le L1 H1 M1 i (k i) (by omega) _) (cwV 2 hts gX0_surveyQuarters_X0_enter rfl rfl rfl (by decide +kernel) ⟨Nat.le_of_ble_eq_true rfl, Nat.le_of_ble_eq_true rfl⟩) (wrV hK hP hD hN [0, 3, 4, 5] (by decide) rfl rfl (ci := 0) (q0 := 0) rfl rfl) rfl rfl hl.1 rfl (lv_room (Nat.le_of_ble_eq_true rfl)) dX0_surveyQuarters_86 ⟨hzc, hzs⟩) hS hP hD hA [0, 3, 4, 5] [1, 2, 6, 7, 8, 9, 10] rfl rfl (by decide) (by decide) (fun u H locs hw hP hD hS => ?_)
            obtain ⟨L2, H2, M2⟩ := u
            obtain ⟨e1, e2, e3⟩ := hw
            have hP := hP.sub (ws' := [((a 0), oC a mo co le), ((a 3), iA cI K), ((a 4), iA cI Q2), ((a 5), iA cI L2), ((a 6), iA cI H2), ((a 7), iA cI M2), ((a 8), iA cI Ba), ((a 9), iA cI Ca), ((a 10), iA cI Da), ((a 11), iA cI Fa), ((a 12), iA cI W2)]) [7, 0, 1, 8, 9, 10, 2, 3, 4, 5, 6] rfl
            have hD := hD.sub (ws' := [((a 0), oC a mo co le), ((a 3), iA cI K), ((a 4), iA cI Q2), ((a 5), iA cI L2), ((a 6), iA cI H2), ((a 7), iA cI M2), ((a 8), iA cI Ba), ((a 9), iA cI Ca), ((a 10), iA cI Da), ((a 11), iA cI Fa), ((a 12), iA cI W2)]) [7, 0, 1, 8, 9, 10, 2, 3, 4, 5, 6] (by decide) rfl
            have e1 : L2 = upd L1 i (L1 i + 1) := e1
            have e2 : H2 = (if k i = 3 then upd H1 i (H1 i + 1) else H1) := e2
            have e3 : M2 = (if k i = 5 then upd M1 i (M1 i + 1) else M1) := e3
            refine lv_iinc (v := nI (i + 1)) (lv' := [(1, .int (nI (i + 1))), (0, .ref (a 0))]) hx hb dX0_surveyQuarters_89 hl (k := 1) rfl (nI_inc i) (by decide) rfl (fun ls hl => ?_)
            refine lv_goto (tgt := 34) hx hb dX0_surveyQuarters_92 (by decide) ?_
            exact ih_lp (i + 1) Q2 L2 H2 M2 W2 (by omega) (hQ2) (fun x hx => by rw [e1]; exact lots_step hj (hL1 x hx) (hL1 i g)) (fun x hx => by rw [e2]; exact kind_step hj (hH1 x hx) (hH1 i g)) (fun x hx => by rw [e3]; exact kind_step hj (hM1 x hx) (hM1 i g)) (by omega) _ _ _ hP hD hS (lv_sub hl [1, 0] (rfl))
      · skip
        have g9 : 64 = i := by omega
        subst g9
        refine lv_icmp_ge (tgt := 95) hx hb dX0_surveyQuarters_37 (by decide) (fun _ => ?_) (fun c => absurd (le_n (n := 64) (i := 64) (by decide) (by decide)) c)
        subst hQ
        subst hAe
        exact wr_v (Q1, L1, H1, M1, W1) (⟨fun x hx => by rw [← qpt_64 hx]; exact hQ1 x hx, hL1, hH1, hM1⟩) hx hb hr hP hD hS hlocks dX0_surveyQuarters_95
  exact lp (_ + 1) 0 Q0 L0 H0 M0 Wa (by omega) (fun x hx => by rw [hQ0 x hx, qpt_0]) (fun x hx => hL0 x hx) (fun x hx => hH0 x hx) (fun x hx => hM0 x hx) (Nat.lt_succ_self _) _ _ _ hP hD hS (lv_sub hl [1, 0] rfl)

def rmX0_survey : Room := { frames := 3, cells := 0, slots := 0, locals := 74 }
set_option maxHeartbeats 4000000 in
set_option maxRecDepth 100000 in
/-- all is found anew -/
theorem c_X0_survey (l : Launch) (G : va_G) (cI : ClassId) (a : Nat → Nat) (mo co le : Int32) (K Qa La Ha Ma Ba Ca Da Fa Wa k : Nat → Int32) (hk : eqK K k) (hg : wtr (k 3) = true) (sz : Nat) : Met l yX0_survey wsX0_survey rmX0_survey (va_Pc [.ref (a 0)] (WrP G cI [((a 0), oC a mo co le), ((a 3), iA cI K), ((a 4), iA cI Qa), ((a 5), iA cI La), ((a 6), iA cI Ha), ((a 7), iA cI Ma), ((a 8), iA cI Ba), ((a 9), iA cI Ca), ((a 10), iA cI Da), ((a 11), iA cI Fa), ((a 12), iA cI Wa)] sz)) (va_Qv (fun (u : (Nat → Int32) × (Nat → Int32) × (Nat → Int32) × (Nat → Int32) × (Nat → Int32) × (Nat → Int32) × (Nat → Int32) × (Nat → Int32)) => SVd k (u.1) (u.2.1) (u.2.2.1) (u.2.2.2.1) (u.2.2.2.2.1) (u.2.2.2.2.2.1) (u.2.2.2.2.2.2.1)) (WrB G [((a 0), oC a mo co le), ((a 3), iA cI K), ((a 4), iA cI Qa), ((a 5), iA cI La), ((a 6), iA cI Ha), ((a 7), iA cI Ma), ((a 8), iA cI Ba), ((a 9), iA cI Ca), ((a 10), iA cI Da), ((a 11), iA cI Fa), ((a 12), iA cI Wa)] sz (fun u => [(a 0, oC a mo co le), (a 3, iA cI K), (a 4, iA cI ((u.1))), (a 5, iA cI ((u.2.1))), (a 6, iA cI ((u.2.2.1))), (a 7, iA cI ((u.2.2.2.1))), (a 8, iA cI ((u.2.2.2.2.1))), (a 9, iA cI ((u.2.2.2.2.2.1))), (a 10, iA cI ((u.2.2.2.2.2.2.1))), (a 11, iA cI Fa), (a 12, iA cI ((u.2.2.2.2.2.2.2)))])) (va_A [((a 0), oC a mo co le), ((a 3), iA cI K), ((a 4), iA cI Qa), ((a 5), iA cI La), ((a 6), iA cI Ha), ((a 7), iA cI Ma), ((a 8), iA cI Ba), ((a 9), iA cI Ca), ((a 10), iA cI Da), ((a 11), iA cI Fa), ((a 12), iA cI Wa)] sz)) 0 0 (va_A [((a 0), oC a mo co le), ((a 3), iA cI K), ((a 4), iA cI Qa), ((a 5), iA cI La), ((a 6), iA cI Ha), ((a 7), iA cI Ma), ((a 8), iA cI Ba), ((a 9), iA cI Ca), ((a 10), iA cI Da), ((a 11), iA cI Fa), ((a 12), iA cI Wa)] sz) := by
  refine Met.ofW (cc := cX0_survey) (maxL := 2) (ret := none) (by decide) rfl ?_
  intro p e s m args below meth c s₁ B hml hv
  obtain ⟨rfl, hsz, hP, hK, hD0, hN⟩ := hv
  have hx := B.exec
  have hb := B.bytes
  have hr := B.returns
  have hlocks := B.notSynchronized
  have hts := atoms_spec (ws := wsX0_survey) B.pre
  have hown : s.vm.findClass RX0 = some m.cls := findClass_of_methodNamed B.named
  subst hsz
  have hD := hD0.self (sz := s.heap.size)
  have hA : ∀ q : Nat, s.heap.size ≤ q → va_A [((a 0), oC a mo co le), ((a 3), iA cI K), ((a 4), iA cI Qa), ((a 5), iA cI La), ((a 6), iA cI Ha), ((a 7), iA cI Ma), ((a 8), iA cI Ba), ((a 9), iA cI Ca), ((a 10), iA cI Da), ((a 11), iA cI Fa), ((a 12), iA cI Wa)] s.heap.size q := fun q h => Or.inr h
  have hS : va_S (va_A [((a 0), oC a mo co le), ((a 3), iA cI K), ((a 4), iA cI Qa), ((a 5), iA cI La), ((a 6), iA cI Ha), ((a 7), iA cI Ma), ((a 8), iA cI Ba), ((a 9), iA cI Ca), ((a 10), iA cI Da), ((a 11), iA cI Fa), ((a 12), iA cI Wa)] s.heap.size) s.heap s.heap [] := va_S.rf
  obtain ⟨A, hAe⟩ : ∃ A, A = va_A [((a 0), oC a mo co le), ((a 3), iA cI K), ((a 4), iA cI Qa), ((a 5), iA cI La), ((a 6), iA cI Ha), ((a 7), iA cI Ma), ((a 8), iA cI Ba), ((a 9), iA cI Ca), ((a 10), iA cI Da), ((a 11), iA cI Fa), ((a 12), iA cI Wa)] s.heap.size := ⟨_, rfl⟩
  rw [← hAe] at hD hA hS
  have FX : CallFix p m c cX0_survey 2 s ([.ref (a 0)] : List Value).toArray wsX0_survey RX0 := ⟨hx, hb, hml, hown, hts⟩
  have hl := lv_entry ([.ref (a 0)]) (n := 2) (Nat.le_of_ble_eq_true rfl)
  rw [lg_entry_eq]
  generalize (lg_sl ([.ref (a 0)]) ++ List.replicate (2 - (lg_sl ([.ref (a 0)])).length) Slot.unset).toArray = ls at hl ⊢
  have hl : lv_has ls 2 [(0, .ref (a 0))] := hl
  refine wq (fun Q hQ => ?_)
  have hzc : 0 + 0 ≤ (headSpec wsX0_survey rmX0_survey).room.cells := Nat.zero_le _
  have hzs : 0 + 0 ≤ (headSpec wsX0_survey rmX0_survey).room.slots := Nat.zero_le _
  have hf21 := hts (.fieldLink RX0 21 "CanalCity$City" "kinds" "[I") (by decide +kernel)
  have hf37 := hts (.fieldLink RX0 37 "CanalCity$City" "boatSteps" "[I") (by decide +kernel)
  have hf40 := hts (.fieldLink RX0 40 "CanalCity$City" "complaints" "[I") (by decide +kernel)
  have hf43 := hts (.fieldLink RX0 43 "CanalCity$City" "dues" "[I") (by decide +kernel)
  have hinX0 : ∀ w ∈ u_ws RX0 TX0 13, w ∈ wsX0_survey := by decide +kernel
  have hiniX1 := hts (.initialized RX1) (by decide +kernel)
  have hstX1_isWater := hts (.static yX1_isWater) (by decide +kernel)
  refine lv_aload_n hx hb dX0_survey_0 rfl (lv_at hl 0 rfl) ?_
  refine cw_v (wr := []) (va_runV (As := []) (rest := []) FX (c_X0_surveyQuarters l G cI a mo co le K Qa La Ha Ma Ba Ca Da Fa Wa k hk _) (cwV 0 hts gX0_survey_X0_surveyQuarters rfl rfl rfl (by decide +kernel) ⟨Nat.le_of_ble_eq_true rfl, Nat.le_of_ble_eq_true rfl⟩) (wrV hK hP hD hN [0, 1, 2, 3, 4, 5, 6, 7, 8, 9, 10] (by decide) rfl rfl (ci := 0) (q0 := 0) rfl rfl) rfl rfl hl.1 rfl (lv_room (Nat.le_of_ble_eq_true rfl)) dX0_survey_1 ⟨hzc, hzs⟩) hS hP hD hA [0, 1, 2, 3, 4, 5, 6, 7, 8, 9, 10] [] rfl rfl (by decide) (by decide) (fun u H locs hw hP hD hS => ?_)
  obtain ⟨Q1, L1, H1, M1, W1⟩ := u
  obtain ⟨hQ1, hL1, hH1, hM1⟩ := hw
  have hP := hP.sub (ws' := [((a 0), oC a mo co le), ((a 3), iA cI K), ((a 4), iA cI Q1), ((a 5), iA cI L1), ((a 6), iA cI H1), ((a 7), iA cI M1), ((a 8), iA cI Ba), ((a 9), iA cI Ca), ((a 10), iA cI Da), ((a 11), iA cI Fa), ((a 12), iA cI W1)]) [0, 1, 2, 3, 4, 5, 6, 7, 8, 9, 10] rfl
  have hD := hD.sub (ws' := [((a 0), oC a mo co le), ((a 3), iA cI K), ((a 4), iA cI Q1), ((a 5), iA cI L1), ((a 6), iA cI H1), ((a 7), iA cI M1), ((a 8), iA cI Ba), ((a 9), iA cI Ca), ((a 10), iA cI Da), ((a 11), iA cI Fa), ((a 12), iA cI W1)]) [0, 1, 2, 3, 4, 5, 6, 7, 8, 9, 10] (by decide) rfl
  refine lv_aload_n hx hb dX0_survey_4 rfl (lv_at hl 0 rfl) ?_
  refine va_get (D := G) (ci := 0) (v := .ref (a 8)) (C := RX0) (T := TX0) (N := 13) hx hb hts hinX0 hown hK hP 0 rfl rfl 8 (by decide) hf37 (fun _ h9 => h9) rfl dX0_survey_5 ?_
  refine lv_iconst (v := (-1)) hx hb dX0_survey_8 (by decide) ?_
  refine cw_v (wr := [((a 0), oC a mo co le), ((a 3), iA cI K), ((a 4), iA cI Q1), ((a 5), iA cI L1), ((a 6), iA cI H1), ((a 7), iA cI M1), ((a 9), iA cI Ca), ((a 10), iA cI Da), ((a 11), iA cI Fa), ((a 12), iA cI W1)]) (va_runS (As := [.ref (a 8), .int (-1)]) (rest := []) FX (c_X0_clear l G cI (a 8) Ba (-1) _) (va_cwS 2 hts gX0_survey_X0_clear rfl rfl rfl (by decide +kernel) ⟨Nat.le_of_ble_eq_true rfl, Nat.le_of_ble_eq_true rfl⟩) (wrS hK hP hD hN [6] (by decide) rfl rfl) rfl rfl hl.1 rfl (lv_room (Nat.le_of_ble_eq_true rfl)) dX0_survey_9 ⟨hzc, hzs⟩) hS hP hD hA [6] [0, 1, 2, 3, 4, 5, 7, 8, 9, 10] rfl rfl (by decide) (by decide) (fun u H locs hw hP hD hS => ?_)
  obtain ⟨B0, hu9⟩ : ∃ z, z = u := ⟨_, rfl⟩
  subst hu9
  have hP := hP.sub (ws' := [((a 0), oC a mo co le), ((a 3), iA cI K), ((a 4), iA cI Q1), ((a 5), iA cI L1), ((a 6), iA cI H1), ((a 7), iA cI M1), ((a 8), iA cI B0), ((a 9), iA cI Ca), ((a 10), iA cI Da), ((a 11), iA cI Fa), ((a 12), iA cI W1)]) [0, 1, 2, 3, 4, 5, 10, 6, 7, 8, 9] rfl
  have hD := hD.sub (ws' := [((a 0), oC a mo co le), ((a 3), iA cI K), ((a 4), iA cI Q1), ((a 5), iA cI L1), ((a 6), iA cI H1), ((a 7), iA cI M1), ((a 8), iA cI B0), ((a 9), iA cI Ca), ((a 10), iA cI Da), ((a 11), iA cI Fa), ((a 12), iA cI W1)]) [0, 1, 2, 3, 4, 5, 10, 6, 7, 8, 9] (by decide) rfl
  have hB0 := hw
  refine lv_aload_n hx hb dX0_survey_12 rfl (lv_at hl 0 rfl) ?_
  refine va_get (D := G) (ci := 0) (v := .ref (a 3)) (C := RX0) (T := TX0) (N := 13) hx hb hts hinX0 hown hK hP 0 rfl rfl 3 (by decide) hf21 (fun _ h9 => h9) rfl dX0_survey_13 ?_
  refine lv_iconst (v := 3) hx hb dX0_survey_16 (by decide) ?_
  refine tpi (x' := nI 3) (rfl) ?_
  refine va_iald hx hb hK hP 1 0 rfl rfl (vp_in_nI (n := 3) (by decide) (by decide)) dX0_survey_17 ?_
  refine tpi (x' := K 3) (congrArg K (nI_clamp (by omega))) ?_
  refine tpi (x' := k 3) (hk 3 (by decide)) ?_
  refine cr_i (va_runSN (As := [.int (k 3)]) (rest := []) FX (c_X1_isWater l (k 3)) ⟨va_cnB 1 hts gX0_survey_X1_isWater_n84 rfl rfl rfl (NW_at hN 4 rfl) hiniX1 (by decide +kernel) ⟨Nat.le_of_ble_eq_true rfl, Nat.le_of_ble_eq_true rfl⟩, hstX1_isWater, trivial⟩ puS rfl rfl hl.1 rfl (lv_room (Nat.le_of_ble_eq_true rfl)) dX0_survey_18 ⟨hzc, hzs⟩) hS hP (fun H locs hP hS => ?_)
  refine tpi (x' := 1) (by rw [hg]; rfl) ?_
  refine lv_if_eq (tgt := 36) hx hb dX0_survey_21 (by decide) (fun c => absurd c (by decide)) (fun _ => ?_)
  refine lv_aload_n hx hb dX0_survey_24 rfl (lv_at hl 0 rfl) ?_
  refine lv_aload_n hx hb dX0_survey_25 rfl (lv_at hl 0 rfl) ?_
  refine va_get (D := G) (ci := 0) (v := .ref (a 8)) (C := RX0) (T := TX0) (N := 13) hx hb hts hinX0 hown hK hP 0 rfl rfl 8 (by decide) hf37 (fun _ h9 => h9) rfl dX0_survey_26 ?_
  refine lv_iconst (v := 3) hx hb dX0_survey_29 (by decide) ?_
  refine tpi (x' := nI 3) (rfl) ?_
  refine lv_iconst (v := 0) hx hb dX0_survey_30 (by decide) ?_
  refine tpi (x' := b2i false) (rfl) ?_
  refine lv_iconst (v := 0) hx hb dX0_survey_31 (by decide) ?_
  refine tpi (x' := nI 0) (rfl) ?_
  refine lv_iconst (v := 1) hx hb dX0_survey_32 (by decide) ?_
  refine tpi (x' := nI 1) (rfl) ?_
  refine cw_v (wr := [((a 4), iA cI Q1), ((a 5), iA cI L1), ((a 6), iA cI H1), ((a 7), iA cI M1), ((a 9), iA cI Ca), ((a 10), iA cI Da), ((a 11), iA cI Fa)]) (va_runV (As := [.ref (a 8), .int (nI 3), .int (b2i false), .int (nI 0), .int (nI 1)]) (rest := []) FX (c_X0_spread l G cI a (a 8) mo co le K B0 W1 k false 3 0 1 hk (by decide) (by decide) (by decide) (fun x hx _ => by rw [hB0 x hx]; decide) _) (cwV 5 hts gX0_survey_X0_spread rfl rfl rfl (by decide +kernel) ⟨Nat.le_of_ble_eq_true rfl, Nat.le_of_ble_eq_true rfl⟩) (wrV hK hP hD hN [0, 6, 1, 10] (by decide) rfl rfl (ci := 0) (q0 := 0) rfl rfl) rfl rfl hl.1 rfl (lv_room (Nat.le_of_ble_eq_true rfl)) dX0_survey_33 ⟨hzc, hzs⟩) hS hP hD hA [0, 6, 1, 10] [2, 3, 4, 5, 7, 8, 9] rfl rfl (by decide) (by decide) (fun u H locs hw hP hD hS => ?_)
  obtain ⟨B1, W2⟩ := u
  have hP := hP.sub (ws' := [((a 0), oC a mo co le), ((a 3), iA cI K), ((a 4), iA cI Q1), ((a 5), iA cI L1), ((a 6), iA cI H1), ((a 7), iA cI M1), ((a 8), iA cI B1), ((a 9), iA cI Ca), ((a 10), iA cI Da), ((a 11), iA cI Fa), ((a 12), iA cI W2)]) [7, 9, 0, 1, 2, 3, 8, 4, 5, 6, 10] rfl
  have hD := hD.sub (ws' := [((a 0), oC a mo co le), ((a 3), iA cI K), ((a 4), iA cI Q1), ((a 5), iA cI L1), ((a 6), iA cI H1), ((a 7), iA cI M1), ((a 8), iA cI B1), ((a 9), iA cI Ca), ((a 10), iA cI Da), ((a 11), iA cI Fa), ((a 12), iA cI W2)]) [7, 9, 0, 1, 2, 3, 8, 4, 5, 6, 10] (by decide) rfl
  have hB1 : hatB k B1 := fun x hx => by rw [show B1 x = mkd 0 1 (dst (PB false k) 3 x) (B0 x) from hw x hx, hB0 x hx]; exact mkd_toI _
  refine lv_iconst (v := 0) hx hb dX0_survey_36 (by decide) ?_
  refine tpi (x' := nI 0) (rfl) ?_
  refine lv_istore_n (lv' := [(1, .int (nI 0)), (0, .ref (a 0))]) hx hb dX0_survey_37 rfl hl (by decide) rfl (fun ls hl => ?_)
  have lp : ∀ (n : Nat) (i : Nat) (C1 D1 : Nat → Int32), (hi : i ≤ 64) → (hC1 : ∀ x, x < i → C1 x = cpl k x) → (hD1 : ∀ x, x < i → D1 x = due k x) → (64 - i) < n → ∀ (H : Heap) (locs : List Loc) (ls : Array Slot), va_P G vwCl [((a 0), oC a mo co le), ((a 3), iA cI K), ((a 4), iA cI Q1), ((a 5), iA cI L1), ((a 6), iA cI H1), ((a 7), iA cI M1), ((a 8), iA cI B1), ((a 9), iA cI C1), ((a 10), iA cI D1), ((a 11), iA cI Fa), ((a 12), iA cI W2)] H → va_D A [((a 0), oC a mo co le), ((a 3), iA cI K), ((a 4), iA cI Q1), ((a 5), iA cI L1), ((a 6), iA cI H1), ((a 7), iA cI M1), ((a 8), iA cI B1), ((a 9), iA cI C1), ((a 10), iA cI D1), ((a 11), iA cI Fa), ((a 12), iA cI W2)] → va_S A s.heap H locs → lv_has ls 2 [(0, .ref (a 0)), (1, .int (nI i))] → W p l e (headSpec wsX0_survey rmX0_survey).room s m ([.ref (a 0)] : List Value).toArray below meth c H locs 0 0 Q (F0 m 38 ls []) := by
    intro n
    induction n with
    | zero => intro i C1 D1 hi hC1 hD1 hn; exact absurd hn (by omega)
    | succ n ih_lp =>
      intro i C1 D1 hi hC1 hD1 hn H locs ls hP hD hS hl
      refine lv_iload_n hx hb dX0_survey_38 rfl (lv_at hl 1 rfl) ?_
      refine lv_bipush (v := 64) hx hb dX0_survey_39 (by decide) ?_
      rcases Nat.lt_or_ge i 64 with g | g
      · skip
        refine lv_icmp_ge (tgt := 72) hx hb dX0_survey_41 (by decide) (fun c => absurd c (lt_n (n := 64) g (by decide))) (fun _ => ?_)
        refine lv_aload_n hx hb dX0_survey_44 rfl (lv_at hl 0 rfl) ?_
        refine va_get (D := G) (ci := 0) (v := .ref (a 9)) (C := RX0) (T := TX0) (N := 13) hx hb hts hinX0 hown hK hP 0 rfl rfl 9 (by decide) hf40 (fun _ h9 => h9) rfl dX0_survey_45 ?_
        refine lv_iload_n hx hb dX0_survey_48 rfl (lv_at hl 1 rfl) ?_
        refine lv_aload_n hx hb dX0_survey_49 rfl (lv_at hl 0 rfl) ?_
        refine lv_iload_n hx hb dX0_survey_50 rfl (lv_at hl 1 rfl) ?_
        refine cr_i (va_runV (As := [.int (nI i)]) (rest := [.int (nI i), .ref (a 9)]) FX (c_X0_complaintsAt l G cI a mo co le K Q1 L1 H1 M1 B1 C1 D1 Fa W2 k i hk hQ1 hM1 hB1 g) (cwV 1 hts gX0_survey_X0_complaintsAt rfl rfl rfl (by decide +kernel) ⟨Nat.le_of_ble_eq_true rfl, Nat.le_of_ble_eq_true rfl⟩) (rdV hK hP hN [0, 1, 2, 3, 4, 5, 6, 7, 8, 9, 10] rfl (ci := 0) (q0 := 0) rfl rfl) rfl rfl hl.1 rfl (lv_room (Nat.le_of_ble_eq_true rfl)) dX0_survey_51 ⟨hzc, hzs⟩) hS hP (fun H locs hP hS => ?_)
        refine va_iast hx hb hK hP hD hS 7 0 rfl rfl (vp_in_nI g (by decide)) dX0_survey_54 (fun H locs hP hD hS => ?_)
        rw [show ((nI i)).toNatClampNeg = i from nI_clamp (by omega)] at hP hD
        have hP : va_P G vwCl [((a 0), oC a mo co le), ((a 3), iA cI K), ((a 4), iA cI Q1), ((a 5), iA cI L1), ((a 6), iA cI H1), ((a 7), iA cI M1), ((a 8), iA cI B1), ((a 9), iA cI (upd C1 i (cpl k i))), ((a 10), iA cI D1), ((a 11), iA cI Fa), ((a 12), iA cI W2)] H := hP
        have hD : va_D A [((a 0), oC a mo co le), ((a 3), iA cI K), ((a 4), iA cI Q1), ((a 5), iA cI L1), ((a 6), iA cI H1), ((a 7), iA cI M1), ((a 8), iA cI B1), ((a 9), iA cI (upd C1 i (cpl k i))), ((a 10), iA cI D1), ((a 11), iA cI Fa), ((a 12), iA cI W2)] := hD
        refine lv_aload_n hx hb dX0_survey_55 rfl (lv_at hl 0 rfl) ?_
        refine va_get (D := G) (ci := 0) (v := .ref (a 10)) (C := RX0) (T := TX0) (N := 13) hx hb hts hinX0 hown hK hP 0 rfl rfl 10 (by decide) hf43 (fun _ h9 => h9) rfl dX0_survey_56 ?_
        refine lv_iload_n hx hb dX0_survey_59 rfl (lv_at hl 1 rfl) ?_
        refine lv_aload_n hx hb dX0_survey_60 rfl (lv_at hl 0 rfl) ?_
        refine lv_iload_n hx hb dX0_survey_61 rfl (lv_at hl 1 rfl) ?_
        refine cr_i (va_runV (As := [.int (nI i)]) (rest := [.int (nI i), .ref (a 10)]) FX (c_X0_duesAt l G cI a mo co le K Q1 L1 H1 M1 B1 (upd C1 i (cpl k i)) D1 Fa W2 k i hk hQ1 hH1 hB1 pk_us g) (cwV 1 hts gX0_survey_X0_duesAt rfl rfl rfl (by decide +kernel) ⟨Nat.le_of_ble_eq_true rfl, Nat.le_of_ble_eq_true rfl⟩) (rdV hK hP hN [0, 1, 2, 3, 4, 5, 6, 7, 8, 9, 10] rfl (ci := 0) (q0 := 0) rfl rfl) rfl rfl hl.1 rfl (lv_room (Nat.le_of_ble_eq_true rfl)) dX0_survey_62 ⟨hzc, hzs⟩) hS hP (fun H locs hP hS => ?_)
        refine va_iast hx hb hK hP hD hS 8 0 rfl rfl (vp_in_nI g (by decide)) dX0_survey_65 (fun H locs hP hD hS => ?_)
        rw [show ((nI i)).toNatClampNeg = i from nI_clamp (by omega)] at hP hD
        have hP : va_P G vwCl [((a 0), oC a mo co le), ((a 3), iA cI K), ((a 4), iA cI Q1), ((a 5), iA cI L1), ((a 6), iA cI H1), ((a 7), iA cI M1), ((a 8), iA cI B1), ((a 9), iA cI (upd C1 i (cpl k i))), ((a 10), iA cI (upd D1 i (due k i))), ((a 11), iA cI Fa), ((a 12), iA cI W2)] H := hP
        have hD : va_D A [((a 0), oC a mo co le), ((a 3), iA cI K), ((a 4), iA cI Q1), ((a 5), iA cI L1), ((a 6), iA cI H1), ((a 7), iA cI M1), ((a 8), iA cI B1), ((a 9), iA cI (upd C1 i (cpl k i))), ((a 10), iA cI (upd D1 i (due k i))), ((a 11), iA cI Fa), ((a 12), iA cI W2)] := hD
        refine lv_iinc (v := nI (i + 1)) (lv' := [(1, .int (nI (i + 1))), (0, .ref (a 0))]) hx hb dX0_survey_66 hl (k := 1) rfl (nI_inc i) (by decide) rfl (fun ls hl => ?_)
        refine lv_goto (tgt := 38) hx hb dX0_survey_69 (by decide) ?_
        exact ih_lp (i + 1) (upd C1 i (cpl k i)) (upd D1 i (due k i)) (by omega) (fun x hx => by rcases Nat.lt_or_ge x i with q9 | q9; rw [pk_un (by omega)]; exact hC1 x q9; rw [show x = i by omega, pk_us]) (fun x hx => by rcases Nat.lt_or_ge x i with q9 | q9; rw [pk_un (by omega)]; exact hD1 x q9; rw [show x = i by omega, pk_us]) (by omega) _ _ _ hP hD hS (lv_sub hl [1, 0] (rfl))
      · skip
        have g9 : 64 = i := by omega
        subst g9
        refine lv_icmp_ge (tgt := 72) hx hb dX0_survey_41 (by decide) (fun _ => ?_) (fun c => absurd (le_n (n := 64) (i := 64) (by decide) (by decide)) c)
        subst hQ
        subst hAe
        exact wr_v (Q1, L1, H1, M1, B1, C1, D1, W2) (⟨hQ1, hL1, hH1, hM1, hB1, hC1, hD1⟩) hx hb hr hP hD hS hlocks dX0_survey_72
  exact lp (_ + 1) 0 Ca Da (by omega) (fun x hx => absurd hx (Nat.not_lt_zero _)) (fun x hx => absurd hx (Nat.not_lt_zero _)) (Nat.lt_succ_self _) _ _ _ hP hD hS (lv_sub hl [1, 0] rfl)

def rmX0_stepsOnFoot : Room := { frames := 2, cells := 0, slots := 0, locals := 53 }
set_option maxHeartbeats 4000000 in
set_option maxRecDepth 100000 in
/-- steps on foot -/
theorem c_X0_stepsOnFoot (l : Launch) (G : va_G) (cI : ClassId) (a : Nat → Nat) (mo co le : Int32) (K Qa La Ha Ma Ba Ca Da Fa Wa k : Nat → Int32) (st pt : Nat) (hk : eqK K k) (hst : st < 64) (hpt : pt < 64) (sz : Nat) : Met l yX0_stepsOnFoot wsX0_stepsOnFoot rmX0_stepsOnFoot (va_Pc [.ref (a 0), .int (nI st), .int (nI pt)] (WrP G cI [((a 0), oC a mo co le), ((a 3), iA cI K), ((a 4), iA cI Qa), ((a 5), iA cI La), ((a 6), iA cI Ha), ((a 7), iA cI Ma), ((a 8), iA cI Ba), ((a 9), iA cI Ca), ((a 10), iA cI Da), ((a 11), iA cI Fa), ((a 12), iA cI Wa)] sz)) (va_Qi (fun (r : Int32) (u : (Nat → Int32) × (Nat → Int32)) => r = toI (dst (PB true k) st pt)) (WrB G [((a 0), oC a mo co le), ((a 3), iA cI K), ((a 4), iA cI Qa), ((a 5), iA cI La), ((a 6), iA cI Ha), ((a 7), iA cI Ma), ((a 8), iA cI Ba), ((a 9), iA cI Ca), ((a 10), iA cI Da), ((a 11), iA cI Fa), ((a 12), iA cI Wa)] sz (fun u => [(a 0, oC a mo co le), (a 3, iA cI K), (a 4, iA cI Qa), (a 5, iA cI La), (a 6, iA cI Ha), (a 7, iA cI Ma), (a 8, iA cI Ba), (a 9, iA cI Ca), (a 10, iA cI Da), (a 11, iA cI ((u.1))), (a 12, iA cI ((u.2)))])) (va_A [((a 0), oC a mo co le), ((a 3), iA cI K), ((a 4), iA cI Qa), ((a 5), iA cI La), ((a 6), iA cI Ha), ((a 7), iA cI Ma), ((a 8), iA cI Ba), ((a 9), iA cI Ca), ((a 10), iA cI Da), ((a 11), iA cI Fa), ((a 12), iA cI Wa)] sz)) 0 0 (va_A [((a 0), oC a mo co le), ((a 3), iA cI K), ((a 4), iA cI Qa), ((a 5), iA cI La), ((a 6), iA cI Ha), ((a 7), iA cI Ma), ((a 8), iA cI Ba), ((a 9), iA cI Ca), ((a 10), iA cI Da), ((a 11), iA cI Fa), ((a 12), iA cI Wa)] sz) := by
  refine Met.ofW (cc := cX0_stepsOnFoot) (maxL := 3) (ret := (some .int)) (by decide) rfl ?_
  intro p e s m args below meth c s₁ B hml hv
  obtain ⟨rfl, hsz, hP, hK, hD0, hN⟩ := hv
  have hx := B.exec
  have hb := B.bytes
  have hr := B.returns
  have hlocks := B.notSynchronized
  have hts := atoms_spec (ws := wsX0_stepsOnFoot) B.pre
  have hown : s.vm.findClass RX0 = some m.cls := findClass_of_methodNamed B.named
  subst hsz
  have hD := hD0.self (sz := s.heap.size)
  have hA : ∀ q : Nat, s.heap.size ≤ q → va_A [((a 0), oC a mo co le), ((a 3), iA cI K), ((a 4), iA cI Qa), ((a 5), iA cI La), ((a 6), iA cI Ha), ((a 7), iA cI Ma), ((a 8), iA cI Ba), ((a 9), iA cI Ca), ((a 10), iA cI Da), ((a 11), iA cI Fa), ((a 12), iA cI Wa)] s.heap.size q := fun q h => Or.inr h
  have hS : va_S (va_A [((a 0), oC a mo co le), ((a 3), iA cI K), ((a 4), iA cI Qa), ((a 5), iA cI La), ((a 6), iA cI Ha), ((a 7), iA cI Ma), ((a 8), iA cI Ba), ((a 9), iA cI Ca), ((a 10), iA cI Da), ((a 11), iA cI Fa), ((a 12), iA cI Wa)] s.heap.size) s.heap s.heap [] := va_S.rf
  obtain ⟨A, hAe⟩ : ∃ A, A = va_A [((a 0), oC a mo co le), ((a 3), iA cI K), ((a 4), iA cI Qa), ((a 5), iA cI La), ((a 6), iA cI Ha), ((a 7), iA cI Ma), ((a 8), iA cI Ba), ((a 9), iA cI Ca), ((a 10), iA cI Da), ((a 11), iA cI Fa), ((a 12), iA cI Wa)] s.heap.size := ⟨_, rfl⟩
  rw [← hAe] at hD hA hS
  have FX : CallFix p m c cX0_stepsOnFoot 3 s ([.ref (a 0), .int (nI st), .int (nI pt)] : List Value).toArray wsX0_stepsOnFoot RX0 := ⟨hx, hb, hml, hown, hts⟩
  have hl := lv_entry ([.ref (a 0), .int (nI st), .int (nI pt)]) (n := 3) (Nat.le_of_ble_eq_true rfl)
  rw [lg_entry_eq]
  generalize (lg_sl ([.ref (a 0), .int (nI st), .int (nI pt)]) ++ List.replicate (3 - (lg_sl ([.ref (a 0), .int (nI st), .int (nI pt)])).length) Slot.unset).toArray = ls at hl ⊢
  have hl : lv_has ls 3 [(0, .ref (a 0)), (1, .int (nI st)), (2, .int (nI pt))] := hl
  refine wq (fun Q hQ => ?_)
  have hzc : 0 + 0 ≤ (headSpec wsX0_stepsOnFoot rmX0_stepsOnFoot).room.cells := Nat.zero_le _
  have hzs : 0 + 0 ≤ (headSpec wsX0_stepsOnFoot rmX0_stepsOnFoot).room.slots := Nat.zero_le _
  have hf46 := hts (.fieldLink RX0 46 "CanalCity$City" "footSteps" "[I") (by decide +kernel)
  have hinX0 : ∀ w ∈ u_ws RX0 TX0 13, w ∈ wsX0_stepsOnFoot := by decide +kernel
  refine lv_aload_n hx hb dX0_stepsOnFoot_0 rfl (lv_at hl 0 rfl) ?_
  refine va_get (D := G) (ci := 0) (v := .ref (a 11)) (C := RX0) (T := TX0) (N := 13) hx hb hts hinX0 hown hK hP 0 rfl rfl 11 (by decide) hf46 (fun _ h9 => h9) rfl dX0_stepsOnFoot_1 ?_
  refine lv_iconst (v := (-1)) hx hb dX0_stepsOnFoot_4 (by decide) ?_
  refine cw_v (wr := [((a 0), oC a mo co le), ((a 3), iA cI K), ((a 4), iA cI Qa), ((a 5), iA cI La), ((a 6), iA cI Ha), ((a 7), iA cI Ma), ((a 8), iA cI Ba), ((a 9), iA cI Ca), ((a 10), iA cI Da), ((a 12), iA cI Wa)]) (va_runS (As := [.ref (a 11), .int (-1)]) (rest := []) FX (c_X0_clear l G cI (a 11) Fa (-1) _) (va_cwS 2 hts gX0_stepsOnFoot_X0_clear rfl rfl rfl (by decide +kernel) ⟨Nat.le_of_ble_eq_true rfl, Nat.le_of_ble_eq_true rfl⟩) (wrS hK hP hD hN [9] (by decide) rfl rfl) rfl rfl hl.1 rfl (lv_room (Nat.le_of_ble_eq_true rfl)) dX0_stepsOnFoot_5 ⟨hzc, hzs⟩) hS hP hD hA [9] [0, 1, 2, 3, 4, 5, 6, 7, 8, 10] rfl rfl (by decide) (by decide) (fun u H locs hw hP hD hS => ?_)
  obtain ⟨F0, hu9⟩ : ∃ z, z = u := ⟨_, rfl⟩
  subst hu9
  have hP := hP.sub (ws' := [((a 0), oC a mo co le), ((a 3), iA cI K), ((a 4), iA cI Qa), ((a 5), iA cI La), ((a 6), iA cI Ha), ((a 7), iA cI Ma), ((a 8), iA cI Ba), ((a 9), iA cI Ca), ((a 10), iA cI Da), ((a 11), iA cI F0), ((a 12), iA cI Wa)]) [0, 1, 2, 3, 4, 5, 6, 7, 8, 10, 9] rfl
  have hD := hD.sub (ws' := [((a 0), oC a mo co le), ((a 3), iA cI K), ((a 4), iA cI Qa), ((a 5), iA cI La), ((a 6), iA cI Ha), ((a 7), iA cI Ma), ((a 8), iA cI Ba), ((a 9), iA cI Ca), ((a 10), iA cI Da), ((a 11), iA cI F0), ((a 12), iA cI Wa)]) [0, 1, 2, 3, 4, 5, 6, 7, 8, 10, 9] (by decide) rfl
  have hF0 := hw
  refine lv_aload_n hx hb dX0_stepsOnFoot_8 rfl (lv_at hl 0 rfl) ?_
  refine lv_aload_n hx hb dX0_stepsOnFoot_9 rfl (lv_at hl 0 rfl) ?_
  refine va_get (D := G) (ci := 0) (v := .ref (a 11)) (C := RX0) (T := TX0) (N := 13) hx hb hts hinX0 hown hK hP 0 rfl rfl 11 (by decide) hf46 (fun _ h9 => h9) rfl dX0_stepsOnFoot_10 ?_
  refine lv_iload_n hx hb dX0_stepsOnFoot_13 rfl (lv_at hl 1 rfl) ?_
  refine lv_iconst (v := 1) hx hb dX0_stepsOnFoot_14 (by decide) ?_
  refine tpi (x' := b2i true) (rfl) ?_
  refine lv_iconst (v := 0) hx hb dX0_stepsOnFoot_15 (by decide) ?_
  refine tpi (x' := nI 0) (rfl) ?_
  refine lv_iconst (v := 1) hx hb dX0_stepsOnFoot_16 (by decide) ?_
  refine tpi (x' := nI 1) (rfl) ?_
  refine cw_v (wr := [((a 4), iA cI Qa), ((a 5), iA cI La), ((a 6), iA cI Ha), ((a 7), iA cI Ma), ((a 8), iA cI Ba), ((a 9), iA cI Ca), ((a 10), iA cI Da)]) (va_runV (As := [.ref (a 11), .int (nI st), .int (b2i true), .int (nI 0), .int (nI 1)]) (rest := []) FX (c_X0_spread l G cI a (a 11) mo co le K F0 Wa k true st 0 1 hk hst (by decide) (by decide) (fun x hx _ => by rw [hF0 x hx]; decide) _) (cwV 5 hts gX0_stepsOnFoot_X0_spread rfl rfl rfl (by decide +kernel) ⟨Nat.le_of_ble_eq_true rfl, Nat.le_of_ble_eq_true rfl⟩) (wrV hK hP hD hN [0, 9, 1, 10] (by decide) rfl rfl (ci := 0) (q0 := 0) rfl rfl) rfl rfl hl.1 rfl (lv_room (Nat.le_of_ble_eq_true rfl)) dX0_stepsOnFoot_17 ⟨hzc, hzs⟩) hS hP hD hA [0, 9, 1, 10] [2, 3, 4, 5, 6, 7, 8] rfl rfl (by decide) (by decide) (fun u H locs hw hP hD hS => ?_)
  obtain ⟨F2, W2⟩ := u
  have hP := hP.sub (ws' := [((a 0), oC a mo co le), ((a 3), iA cI K), ((a 4), iA cI Qa), ((a 5), iA cI La), ((a 6), iA cI Ha), ((a 7), iA cI Ma), ((a 8), iA cI Ba), ((a 9), iA cI Ca), ((a 10), iA cI Da), ((a 11), iA cI F2), ((a 12), iA cI W2)]) [7, 9, 0, 1, 2, 3, 4, 5, 6, 8, 10] rfl
  have hD := hD.sub (ws' := [((a 0), oC a mo co le), ((a 3), iA cI K), ((a 4), iA cI Qa), ((a 5), iA cI La), ((a 6), iA cI Ha), ((a 7), iA cI Ma), ((a 8), iA cI Ba), ((a 9), iA cI Ca), ((a 10), iA cI Da), ((a 11), iA cI F2), ((a 12), iA cI W2)]) [7, 9, 0, 1, 2, 3, 4, 5, 6, 8, 10] (by decide) rfl
  refine lv_aload_n hx hb dX0_stepsOnFoot_20 rfl (lv_at hl 0 rfl) ?_
  refine va_get (D := G) (ci := 0) (v := .ref (a 11)) (C := RX0) (T := TX0) (N := 13) hx hb hts hinX0 hown hK hP 0 rfl rfl 11 (by decide) hf46 (fun _ h9 => h9) rfl dX0_stepsOnFoot_21 ?_
  refine lv_iload_n hx hb dX0_stepsOnFoot_24 rfl (lv_at hl 2 rfl) ?_
  refine va_iald hx hb hK hP 9 0 rfl rfl (vp_in_nI hpt (by decide)) dX0_stepsOnFoot_25 ?_
  refine tpi (x' := F2 pt) (congrArg F2 (nI_clamp (by omega))) ?_
  subst hQ
  subst hAe
  exact wr_i (F2, W2) (by rw [show F2 pt = mkd 0 1 (dst (PB true k) st pt) (F0 pt) from hw pt hpt, hF0 pt hpt]; exact mkd_toI _) hx hb hr hP hD hS hlocks dX0_stepsOnFoot_26
end
section
theorem lv1_hit {k : Nat → Int32} {x : Nat} (h : k x = 3) (h2 : ¬ cpl k x < 4) : lft k x = true := by
  unfold lft
  rw [decide_eq_true h, decide_eq_true (Int32.not_lt.mp h2)]; rfl
theorem lv1_no3 {k : Nat → Int32} {x : Nat} (h : ¬ k x = 3) : lft k x = false := by
  unfold lft
  rw [decide_eq_false h]; rfl
theorem lv1_no4 {k : Nat → Int32} {x : Nat} (h2 : cpl k x < 4) : lft k x = false := by
  unfold lft
  rw [decide_eq_false (Int32.not_le.mpr h2), Bool.and_false]
theorem wtr_lv1 {k : Nat → Int32} {x : Nat} (h : wtr (k x) = true) : lv1 k x = k x := by
  unfold lv1 lft
  have h3 : ¬ k x = 3 := fun e => by rw [e] at h; revert h; decide
  rw [decide_eq_false h3]; rfl
theorem wtr_sk1 {k : Nat → Int32} {x : Nat} (h : wtr (k x) = true) : sk1 k x = k x := by
  unfold sk1
  have h2 : ¬ k x = 2 := fun e => by rw [e] at h; revert h; decide
  rw [if_neg (fun e => h2 e.1)]
theorem wtr_mon {k : Nat → Int32} {x : Nat} (h : wtr (k x) = true) : wtr (mon k x) = true := by
  unfold mon
  rw [wtr_sk1 (by rw [wtr_lv1 h]; exact h), wtr_lv1 h]; exact h
theorem wtr_itK {k : Nat → Int32} (h : wtr (k 3) = true) : ∀ n, wtr (itK k n 3) = true
  | 0 => h
  | n + 1 => wtr_mon (wtr_itK h n)
def snk (k : Nat → Int32) (x : Nat) : Prop := k x = 2 ∧ ¬ nbk k 0 x < 3
theorem sk1_yes {k : Nat → Int32} {x : Nat} (h : snk k x) : sk1 k x = 0 := if_pos ⟨h.1, Int32.not_lt.mp h.2⟩
theorem sk1_no {k : Nat → Int32} {x : Nat} (h : ¬ snk k x) : sk1 k x = k x := if_neg (fun e => h ⟨e.1, Int32.not_lt.mpr e.2⟩)
theorem snk_step {k : Nat → Int32} {i ns x : Nat} {lst : Nat → Nat} (h2 : k i = 2) (h3 : ¬ nbk k 0 i < 3) (h : (∃ j, j < ns ∧ lst j = x) ↔ x < i ∧ snk k x) : (∃ j, j < ns + 1 ∧ (fun j => if j = ns then i else lst j) j = x) ↔ x < i + 1 ∧ snk k x := by
  constructor
  · rintro ⟨j, hj, e⟩
    have e : (if j = ns then i else lst j) = x := e
    by_cases q : j = ns
    · rw [if_pos q] at e
      subst e
      exact ⟨Nat.lt_succ_self _, h2, h3⟩
    · rw [if_neg q] at e
      have := h.mp ⟨j, by omega, e⟩
      exact ⟨by omega, this.2⟩
  · rintro ⟨hx, hs⟩
    rcases Nat.lt_or_ge x i with q | q
    · obtain ⟨j, hj, e⟩ := h.mpr ⟨q, hs⟩
      exact ⟨j, by omega, by show (if j = ns then i else lst j) = x; rw [if_neg (by omega)]; exact e⟩
    · exact ⟨ns, Nat.lt_succ_self _, by show (if ns = ns then i else lst ns) = x; rw [if_pos rfl]; omega⟩
end
section
def rmX0_leaveHouses : Room := { frames := 0, cells := 0, slots := 0, locals := 0 }
set_option maxHeartbeats 4000000 in
set_option maxRecDepth 100000 in
/-- houses are left -/
theorem c_X0_leaveHouses (l : Launch) (G : va_G) (cI : ClassId) (a : Nat → Nat) (mo co le : Int32) (K Qa La Ha Ma Ba Ca Da Fa Wa k : Nat → Int32) (hk : eqK K k) (hCa : hatC k Ca) (sz : Nat) : Met l yX0_leaveHouses wsX0_leaveHouses rmX0_leaveHouses (va_Pc [.ref (a 0)] (WrP G cI [((a 0), oC a mo co le), ((a 3), iA cI K), ((a 4), iA cI Qa), ((a 5), iA cI La), ((a 6), iA cI Ha), ((a 7), iA cI Ma), ((a 8), iA cI Ba), ((a 9), iA cI Ca), ((a 10), iA cI Da), ((a 11), iA cI Fa), ((a 12), iA cI Wa)] sz)) (va_Qv (fun (u : Int32 × (Nat → Int32)) => u.1 = le + lvN k ∧ eqK u.2 (lv1 k)) (WrB G [((a 0), oC a mo co le), ((a 3), iA cI K), ((a 4), iA cI Qa), ((a 5), iA cI La), ((a 6), iA cI Ha), ((a 7), iA cI Ma), ((a 8), iA cI Ba), ((a 9), iA cI Ca), ((a 10), iA cI Da), ((a 11), iA cI Fa), ((a 12), iA cI Wa)] sz (fun u => [(a 0, oC a mo co (u.1)), (a 3, iA cI ((u.2))), (a 4, iA cI Qa), (a 5, iA cI La), (a 6, iA cI Ha), (a 7, iA cI Ma), (a 8, iA cI Ba), (a 9, iA cI Ca), (a 10, iA cI Da), (a 11, iA cI Fa), (a 12, iA cI Wa)])) (va_A [((a 0), oC a mo co le), ((a 3), iA cI K), ((a 4), iA cI Qa), ((a 5), iA cI La), ((a 6), iA cI Ha), ((a 7), iA cI Ma), ((a 8), iA cI Ba), ((a 9), iA cI Ca), ((a 10), iA cI Da), ((a 11), iA cI Fa), ((a 12), iA cI Wa)] sz)) 0 0 (va_A [((a 0), oC a mo co le), ((a 3), iA cI K), ((a 4), iA cI Qa), ((a 5), iA cI La), ((a 6), iA cI Ha), ((a 7), iA cI Ma), ((a 8), iA cI Ba), ((a 9), iA cI Ca), ((a 10), iA cI Da), ((a 11), iA cI Fa), ((a 12), iA cI Wa)] sz) := by
  refine Met.ofW (cc := cX0_leaveHouses) (maxL := 2) (ret := none) (by decide) rfl ?_
  intro p e s m args below meth c s₁ B hml hv
  obtain ⟨rfl, hsz, hP, hK, hD0, hN⟩ := hv
  have hx := B.exec
  have hb := B.bytes
  have hr := B.returns
  have hlocks := B.notSynchronized
  have hts := atoms_spec (ws := wsX0_leaveHouses) B.pre
  have hown : s.vm.findClass RX0 = some m.cls := findClass_of_methodNamed B.named
  subst hsz
  have hD := hD0.self (sz := s.heap.size)
  have hA : ∀ q : Nat, s.heap.size ≤ q → va_A [((a 0), oC a mo co le), ((a 3), iA cI K), ((a 4), iA cI Qa), ((a 5), iA cI La), ((a 6), iA cI Ha), ((a 7), iA cI Ma), ((a 8), iA cI Ba), ((a 9), iA cI Ca), ((a 10), iA cI Da), ((a 11), iA cI Fa), ((a 12), iA cI Wa)] s.heap.size q := fun q h => Or.inr h
  have hS : va_S (va_A [((a 0), oC a mo co le), ((a 3), iA cI K), ((a 4), iA cI Qa), ((a 5), iA cI La), ((a 6), iA cI Ha), ((a 7), iA cI Ma), ((a 8), iA cI Ba), ((a 9), iA cI Ca), ((a 10), iA cI Da), ((a 11), iA cI Fa), ((a 12), iA cI Wa)] s.heap.size) s.heap s.heap [] := va_S.rf
  obtain ⟨A, hAe⟩ : ∃ A, A = va_A [((a 0), oC a mo co le), ((a 3), iA cI K), ((a 4), iA cI Qa), ((a 5), iA cI La), ((a 6), iA cI Ha), ((a 7), iA cI Ma), ((a 8), iA cI Ba), ((a 9), iA cI Ca), ((a 10), iA cI Da), ((a 11), iA cI Fa), ((a 12), iA cI Wa)] s.heap.size := ⟨_, rfl⟩
  rw [← hAe] at hD hA hS
  have FX : CallFix p m c cX0_leaveHouses 2 s ([.ref (a 0)] : List Value).toArray wsX0_leaveHouses RX0 := ⟨hx, hb, hml, hown, hts⟩
  have hl := lv_entry ([.ref (a 0)]) (n := 2) (Nat.le_of_ble_eq_true rfl)
  rw [lg_entry_eq]
  generalize (lg_sl ([.ref (a 0)]) ++ List.replicate (2 - (lg_sl ([.ref (a 0)])).length) Slot.unset).toArray = ls at hl ⊢
  have hl : lv_has ls 2 [(0, .ref (a 0))] := hl
  refine wq (fun Q hQ => ?_)
  have hzc : 0 + 0 ≤ (headSpec wsX0_leaveHouses rmX0_leaveHouses).room.cells := Nat.zero_le _
  have hzs : 0 + 0 ≤ (headSpec wsX0_leaveHouses rmX0_leaveHouses).room.slots := Nat.zero_le _
  have hf18 := hts (.fieldLink RX0 18 "CanalCity$City" "left" "I") (by decide +kernel)
  have hf21 := hts (.fieldLink RX0 21 "CanalCity$City" "kinds" "[I") (by decide +kernel)
  have hf40 := hts (.fieldLink RX0 40 "CanalCity$City" "complaints" "[I") (by decide +kernel)
  have hinX0 : ∀ w ∈ u_ws RX0 TX0 13, w ∈ wsX0_leaveHouses := by decide +kernel
  refine lv_iconst (v := 0) hx hb dX0_leaveHouses_0 (by decide) ?_
  refine tpi (x' := nI 0) (rfl) ?_
  refine lv_istore_n (lv' := [(1, .int (nI 0)), (0, .ref (a 0))]) hx hb dX0_leaveHouses_1 rfl hl (by decide) rfl (fun ls hl => ?_)
  have lp : ∀ (n : Nat) (i : Nat) (le1 : Int32) (K1 : Nat → Int32), (hi : i ≤ 64) → (hle : le1 = le + csum (fun p => if lft k p then 1 else 0) i) → (hK1 : ∀ x, x < i → K1 x = lv1 k x) → (hK2 : ∀ x, i ≤ x → x < 64 → K1 x = k x) → (64 - i) < n → ∀ (H : Heap) (locs : List Loc) (ls : Array Slot), va_P G vwCl [((a 0), oC a mo co le1), ((a 3), iA cI K1), ((a 4), iA cI Qa), ((a 5), iA cI La), ((a 6), iA cI Ha), ((a 7), iA cI Ma), ((a 8), iA cI Ba), ((a 9), iA cI Ca), ((a 10), iA cI Da), ((a 11), iA cI Fa), ((a 12), iA cI Wa)] H → va_D A [((a 0), oC a mo co le1), ((a 3), iA cI K1), ((a 4), iA cI Qa), ((a 5), iA cI La), ((a 6), iA cI Ha), ((a 7), iA cI Ma), ((a 8), iA cI Ba), ((a 9), iA cI Ca), ((a 10), iA cI Da), ((a 11), iA cI Fa), ((a 12), iA cI Wa)] → va_S A s.heap H locs → lv_has ls 2 [(0, .ref (a 0)), (1, .int (nI i))] → W p l e (headSpec wsX0_leaveHouses rmX0_leaveHouses).room s m ([.ref (a 0)] : List Value).toArray below meth c H locs 0 0 Q (F0 m 2 ls []) := by
    intro n
    induction n with
    | zero => intro i le1 K1 hi hle hK1 hK2 hn; exact absurd hn (by omega)
    | succ n ih_lp =>
      intro i le1 K1 hi hle hK1 hK2 hn H locs ls hP hD hS hl
      refine lv_iload_n hx hb dX0_leaveHouses_2 rfl (lv_at hl 1 rfl) ?_
      refine lv_bipush (v := 64) hx hb dX0_leaveHouses_3 (by decide) ?_
      rcases Nat.lt_or_ge i 64 with g | g
      · skip
        refine lv_icmp_ge (tgt := 51) hx hb dX0_leaveHouses_5 (by decide) (fun c => absurd c (lt_n (n := 64) g (by decide))) (fun _ => ?_)
        refine lv_aload_n hx hb dX0_leaveHouses_8 rfl (lv_at hl 0 rfl) ?_
        refine va_get (D := G) (ci := 0) (v := .ref (a 3)) (C := RX0) (T := TX0) (N := 13) hx hb hts hinX0 hown hK hP 0 rfl rfl 3 (by decide) hf21 (fun _ h9 => h9) rfl dX0_leaveHouses_9 ?_
        refine lv_iload_n hx hb dX0_leaveHouses_12 rfl (lv_at hl 1 rfl) ?_
        refine va_iald hx hb hK hP 1 0 rfl rfl (vp_in_nI g (by decide)) dX0_leaveHouses_13 ?_
        refine tpi (x' := K1 i) (congrArg K1 (nI_clamp (by omega))) ?_
        refine tpi (x' := k i) (hK2 i (Nat.le_refl i) g) ?_
        refine lv_iconst (v := 3) hx hb dX0_leaveHouses_14 (by decide) ?_
        refine lv_icmp_ne (tgt := 45) hx hb dX0_leaveHouses_15 (by decide) (fun c3 => ?_) (fun c3 => ?_)
        · skip
          refine lv_iinc (v := nI (i + 1)) (lv' := [(1, .int (nI (i + 1))), (0, .ref (a 0))]) hx hb dX0_leaveHouses_45 hl (k := 1) rfl (nI_inc i) (by decide) rfl (fun ls hl => ?_)
          refine lv_goto (tgt := 2) hx hb dX0_leaveHouses_48 (by decide) ?_
          exact ih_lp (i + 1) le1 K1 (by omega) (by rw [hle, show csum (fun p => if lft k p then 1 else 0) (i + 1) = csum (fun p => if lft k p then 1 else 0) i from by rw [csum]; rw [lv1_no3 c3]; exact Int32.add_zero _]) (fun x hx => by rcases Nat.lt_or_ge x i with q9 | q9; exact hK1 x q9; have e9 : x = i := (by omega); subst e9; rw [hK2 x (Nat.le_refl x) g]; unfold lv1; rw [lv1_no3 c3]; rfl) (fun x hx hx2 => hK2 x (by omega) hx2) (by omega) _ _ _ hP hD hS (lv_sub hl [1, 0] (rfl))
        · skip
          refine lv_aload_n hx hb dX0_leaveHouses_18 rfl (lv_at hl 0 rfl) ?_
          refine va_get (D := G) (ci := 0) (v := .ref (a 9)) (C := RX0) (T := TX0) (N := 13) hx hb hts hinX0 hown hK hP 0 rfl rfl 9 (by decide) hf40 (fun _ h9 => h9) rfl dX0_leaveHouses_19 ?_
          refine lv_iload_n hx hb dX0_leaveHouses_22 rfl (lv_at hl 1 rfl) ?_
          refine va_iald hx hb hK hP 7 0 rfl rfl (vp_in_nI g (by decide)) dX0_leaveHouses_23 ?_
          refine tpi (x' := Ca i) (congrArg Ca (nI_clamp (by omega))) ?_
          refine tpi (x' := cpl k i) (hCa i g) ?_
          refine lv_iconst (v := 4) hx hb dX0_leaveHouses_24 (by decide) ?_
          refine lv_icmp_lt (tgt := 45) hx hb dX0_leaveHouses_25 (by decide) (fun c4 => ?_) (fun c4 => ?_)
          · skip
            refine lv_iinc (v := nI (i + 1)) (lv' := [(1, .int (nI (i + 1))), (0, .ref (a 0))]) hx hb dX0_leaveHouses_45 hl (k := 1) rfl (nI_inc i) (by decide) rfl (fun ls hl => ?_)
            refine lv_goto (tgt := 2) hx hb dX0_leaveHouses_48 (by decide) ?_
            exact ih_lp (i + 1) le1 K1 (by omega) (by rw [hle, show csum (fun p => if lft k p then 1 else 0) (i + 1) = csum (fun p => if lft k p then 1 else 0) i from by rw [csum]; rw [lv1_no4 c4]; exact Int32.add_zero _]) (fun x hx => by rcases Nat.lt_or_ge x i with q9 | q9; exact hK1 x q9; have e9 : x = i := (by omega); subst e9; rw [hK2 x (Nat.le_refl x) g]; unfold lv1; rw [lv1_no4 c4]; rfl) (fun x hx hx2 => hK2 x (by omega) hx2) (by omega) _ _ _ hP hD hS (lv_sub hl [1, 0] (rfl))
          · skip
            refine lv_aload_n hx hb dX0_leaveHouses_28 rfl (lv_at hl 0 rfl) ?_
            refine va_get (D := G) (ci := 0) (v := .ref (a 3)) (C := RX0) (T := TX0) (N := 13) hx hb hts hinX0 hown hK hP 0 rfl rfl 3 (by decide) hf21 (fun _ h9 => h9) rfl dX0_leaveHouses_29 ?_
            refine lv_iload_n hx hb dX0_leaveHouses_32 rfl (lv_at hl 1 rfl) ?_
            refine lv_iconst (v := 2) hx hb dX0_leaveHouses_33 (by decide) ?_
            refine va_iast hx hb hK hP hD hS 1 0 rfl rfl (vp_in_nI g (by decide)) dX0_leaveHouses_34 (fun H locs hP hD hS => ?_)
            rw [show ((nI i)).toNatClampNeg = i from nI_clamp (by omega)] at hP hD
            have hP : va_P G vwCl [((a 0), oC a mo co le1), ((a 3), iA cI (upd K1 i 2)), ((a 4), iA cI Qa), ((a 5), iA cI La), ((a 6), iA cI Ha), ((a 7), iA cI Ma), ((a 8), iA cI Ba), ((a 9), iA cI Ca), ((a 10), iA cI Da), ((a 11), iA cI Fa), ((a 12), iA cI Wa)] H := hP
            have hD : va_D A [((a 0), oC a mo co le1), ((a 3), iA cI (upd K1 i 2)), ((a 4), iA cI Qa), ((a 5), iA cI La), ((a 6), iA cI Ha), ((a 7), iA cI Ma), ((a 8), iA cI Ba), ((a 9), iA cI Ca), ((a 10), iA cI Da), ((a 11), iA cI Fa), ((a 12), iA cI Wa)] := hD
            refine lv_aload_n hx hb dX0_leaveHouses_35 rfl (lv_at hl 0 rfl) ?_
            refine lv_dup hx hb dX0_leaveHouses_36 rfl ?_
            refine va_get (D := G) (ci := 0) (v := .int le1) (C := RX0) (T := TX0) (N := 13) hx hb hts hinX0 hown hK hP 0 rfl rfl 2 (by decide) hf18 (fun _ h9 => h9) rfl dX0_leaveHouses_37 ?_
            refine lv_iconst (v := 1) hx hb dX0_leaveHouses_40 (by decide) ?_
            refine lv_iadd hx hb dX0_leaveHouses_41 ?_
            refine va_put (D := G) (ci := 0) (v := .int (le1 + 1)) (ty := .int) (C := RX0) (T := TX0) (N := 13) hx hb hts hinX0 tyX0 tyX0_ok nmX0 hown hK hP hD hS 0 rfl rfl 2 (by decide) hf18 (fun _ h9 => h9) rfl (by decide +kernel) rfl rfl (Nat.le_of_ble_eq_true rfl) dX0_leaveHouses_42 (fun H locs hP hD hS => ?_)
            have hP : va_P G vwCl [((a 0), oC a mo co (le1 + 1)), ((a 3), iA cI (upd K1 i 2)), ((a 4), iA cI Qa), ((a 5), iA cI La), ((a 6), iA cI Ha), ((a 7), iA cI Ma), ((a 8), iA cI Ba), ((a 9), iA cI Ca), ((a 10), iA cI Da), ((a 11), iA cI Fa), ((a 12), iA cI Wa)] H := hP
            have hD : va_D A [((a 0), oC a mo co (le1 + 1)), ((a 3), iA cI (upd K1 i 2)), ((a 4), iA cI Qa), ((a 5), iA cI La), ((a 6), iA cI Ha), ((a 7), iA cI Ma), ((a 8), iA cI Ba), ((a 9), iA cI Ca), ((a 10), iA cI Da), ((a 11), iA cI Fa), ((a 12), iA cI Wa)] := hD
            refine lv_iinc (v := nI (i + 1)) (lv' := [(1, .int (nI (i + 1))), (0, .ref (a 0))]) hx hb dX0_leaveHouses_45 hl (k := 1) rfl (nI_inc i) (by decide) rfl (fun ls hl => ?_)
            refine lv_goto (tgt := 2) hx hb dX0_leaveHouses_48 (by decide) ?_
            exact ih_lp (i + 1) (le1 + 1) (upd K1 i 2) (by omega) (by rw [hle, show csum (fun p => if lft k p then 1 else 0) (i + 1) = csum (fun p => if lft k p then 1 else 0) i + 1 from by rw [csum]; rw [lv1_hit c3 c4]; rfl, Int32.add_assoc]) (fun x hx => by rcases Nat.lt_or_ge x i with q9 | q9; rw [pk_un (by omega)]; exact hK1 x q9; have e9 : x = i := (by omega); subst e9; rw [pk_us]; unfold lv1; rw [lv1_hit c3 c4]; rfl) (fun x hx hx2 => by rw [pk_un (by omega)]; exact hK2 x (by omega) hx2) (by omega) _ _ _ hP hD hS (lv_sub hl [1, 0] (rfl))
      · skip
        have g9 : 64 = i := by omega
        subst g9
        refine lv_icmp_ge (tgt := 51) hx hb dX0_leaveHouses_5 (by decide) (fun _ => ?_) (fun c => absurd (le_n (n := 64) (i := 64) (by decide) (by decide)) c)
        subst hQ
        subst hAe
        exact wr_v (le1, K1) (⟨hle, hK1⟩) hx hb hr hP hD hS hlocks dX0_leaveHouses_51
  exact lp (_ + 1) 0 le K (by omega) ((Int32.add_zero le).symm) (fun x hx => absurd hx (Nat.not_lt_zero _)) (fun x _ hx => hk x hx) (Nat.lt_succ_self _) _ _ _ hP hD hS (lv_sub hl [1, 0] rfl)

def rmX0_sinkLots : Room := { frames := 2, cells := 0, slots := 0, locals := 48 }
set_option maxHeartbeats 4000000 in
set_option maxRecDepth 100000 in
/-- lots sink -/
theorem c_X0_sinkLots (l : Launch) (G : va_G) (cI : ClassId) (a : Nat → Nat) (mo co le : Int32) (K Qa La Ha Ma Ba Ca Da Fa Wa k : Nat → Int32) (hk : eqK K k) (sz : Nat) : Met l yX0_sinkLots wsX0_sinkLots rmX0_sinkLots (va_Pc [.ref (a 0)] (WrP G cI [((a 0), oC a mo co le), ((a 3), iA cI K), ((a 4), iA cI Qa), ((a 5), iA cI La), ((a 6), iA cI Ha), ((a 7), iA cI Ma), ((a 8), iA cI Ba), ((a 9), iA cI Ca), ((a 10), iA cI Da), ((a 11), iA cI Fa), ((a 12), iA cI Wa)] sz)) (va_Qv (fun (u : (Nat → Int32) × (Nat → Int32)) => eqK u.1 (sk1 k)) (WrB G [((a 0), oC a mo co le), ((a 3), iA cI K), ((a 4), iA cI Qa), ((a 5), iA cI La), ((a 6), iA cI Ha), ((a 7), iA cI Ma), ((a 8), iA cI Ba), ((a 9), iA cI Ca), ((a 10), iA cI Da), ((a 11), iA cI Fa), ((a 12), iA cI Wa)] sz (fun u => [(a 0, oC a mo co le), (a 3, iA cI ((u.1))), (a 4, iA cI Qa), (a 5, iA cI La), (a 6, iA cI Ha), (a 7, iA cI Ma), (a 8, iA cI Ba), (a 9, iA cI Ca), (a 10, iA cI Da), (a 11, iA cI Fa), (a 12, iA cI ((u.2)))])) (va_A [((a 0), oC a mo co le), ((a 3), iA cI K), ((a 4), iA cI Qa), ((a 5), iA cI La), ((a 6), iA cI Ha), ((a 7), iA cI Ma), ((a 8), iA cI Ba), ((a 9), iA cI Ca), ((a 10), iA cI Da), ((a 11), iA cI Fa), ((a 12), iA cI Wa)] sz)) 0 0 (va_A [((a 0), oC a mo co le), ((a 3), iA cI K), ((a 4), iA cI Qa), ((a 5), iA cI La), ((a 6), iA cI Ha), ((a 7), iA cI Ma), ((a 8), iA cI Ba), ((a 9), iA cI Ca), ((a 10), iA cI Da), ((a 11), iA cI Fa), ((a 12), iA cI Wa)] sz) := by
  refine Met.ofW (cc := cX0_sinkLots) (maxL := 4) (ret := none) (by decide) rfl ?_
  intro p e s m args below meth c s₁ B hml hv
  obtain ⟨rfl, hsz, hP, hK, hD0, hN⟩ := hv
  have hx := B.exec
  have hb := B.bytes
  have hr := B.returns
  have hlocks := B.notSynchronized
  have hts := atoms_spec (ws := wsX0_sinkLots) B.pre
  have hown : s.vm.findClass RX0 = some m.cls := findClass_of_methodNamed B.named
  subst hsz
  have hD := hD0.self (sz := s.heap.size)
  have hA : ∀ q : Nat, s.heap.size ≤ q → va_A [((a 0), oC a mo co le), ((a 3), iA cI K), ((a 4), iA cI Qa), ((a 5), iA cI La), ((a 6), iA cI Ha), ((a 7), iA cI Ma), ((a 8), iA cI Ba), ((a 9), iA cI Ca), ((a 10), iA cI Da), ((a 11), iA cI Fa), ((a 12), iA cI Wa)] s.heap.size q := fun q h => Or.inr h
  have hS : va_S (va_A [((a 0), oC a mo co le), ((a 3), iA cI K), ((a 4), iA cI Qa), ((a 5), iA cI La), ((a 6), iA cI Ha), ((a 7), iA cI Ma), ((a 8), iA cI Ba), ((a 9), iA cI Ca), ((a 10), iA cI Da), ((a 11), iA cI Fa), ((a 12), iA cI Wa)] s.heap.size) s.heap s.heap [] := va_S.rf
  obtain ⟨A, hAe⟩ : ∃ A, A = va_A [((a 0), oC a mo co le), ((a 3), iA cI K), ((a 4), iA cI Qa), ((a 5), iA cI La), ((a 6), iA cI Ha), ((a 7), iA cI Ma), ((a 8), iA cI Ba), ((a 9), iA cI Ca), ((a 10), iA cI Da), ((a 11), iA cI Fa), ((a 12), iA cI Wa)] s.heap.size := ⟨_, rfl⟩
  rw [← hAe] at hD hA hS
  have FX : CallFix p m c cX0_sinkLots 4 s ([.ref (a 0)] : List Value).toArray wsX0_sinkLots RX0 := ⟨hx, hb, hml, hown, hts⟩
  have hl := lv_entry ([.ref (a 0)]) (n := 4) (Nat.le_of_ble_eq_true rfl)
  rw [lg_entry_eq]
  generalize (lg_sl ([.ref (a 0)]) ++ List.replicate (4 - (lg_sl ([.ref (a 0)])).length) Slot.unset).toArray = ls at hl ⊢
  have hl : lv_has ls 4 [(0, .ref (a 0))] := hl
  refine wq (fun Q hQ => ?_)
  have hzc : 0 + 0 ≤ (headSpec wsX0_sinkLots rmX0_sinkLots).room.cells := Nat.zero_le _
  have hzs : 0 + 0 ≤ (headSpec wsX0_sinkLots rmX0_sinkLots).room.slots := Nat.zero_le _
  have hf21 := hts (.fieldLink RX0 21 "CanalCity$City" "kinds" "[I") (by decide +kernel)
  have hf49 := hts (.fieldLink RX0 49 "CanalCity$City" "waiting" "[I") (by decide +kernel)
  have hinX0 : ∀ w ∈ u_ws RX0 TX0 13, w ∈ wsX0_sinkLots := by decide +kernel
  have hiniX1 := hts (.initialized RX1) (by decide +kernel)
  have hstX1_isLot := hts (.static yX1_isLot) (by decide +kernel)
  refine lv_iconst (v := 0) hx hb dX0_sinkLots_0 (by decide) ?_
  refine tpi (x' := nI 0) (rfl) ?_
  refine lv_istore_n (lv' := [(1, .int (nI 0)), (0, .ref (a 0))]) hx hb dX0_sinkLots_1 rfl hl (by decide) rfl (fun ls hl => ?_)
  refine lv_iconst (v := 0) hx hb dX0_sinkLots_2 (by decide) ?_
  refine tpi (x' := nI 0) (rfl) ?_
  refine lv_istore_n (lv' := [(2, .int (nI 0)), (1, .int (nI 0)), (0, .ref (a 0))]) hx hb dX0_sinkLots_3 rfl hl (by decide) rfl (fun ls hl => ?_)
  have lp : ∀ (n : Nat) (i ns : Nat) (lst : Nat → Nat) (W1 : Nat → Int32), (hi : i ≤ 64) → (hns : ns ≤ i) → (hW1 : ∀ j, j < ns → lst j < 64 ∧ W1 j = nI (lst j)) → (hif : ∀ x, (∃ j, j < ns ∧ lst j = x) ↔ x < i ∧ snk k x) → (64 - i) < n → ∀ (H : Heap) (locs : List Loc) (ls : Array Slot), va_P G vwCl [((a 0), oC a mo co le), ((a 3), iA cI K), ((a 4), iA cI Qa), ((a 5), iA cI La), ((a 6), iA cI Ha), ((a 7), iA cI Ma), ((a 8), iA cI Ba), ((a 9), iA cI Ca), ((a 10), iA cI Da), ((a 11), iA cI Fa), ((a 12), iA cI W1)] H → va_D A [((a 0), oC a mo co le), ((a 3), iA cI K), ((a 4), iA cI Qa), ((a 5), iA cI La), ((a 6), iA cI Ha), ((a 7), iA cI Ma), ((a 8), iA cI Ba), ((a 9), iA cI Ca), ((a 10), iA cI Da), ((a 11), iA cI Fa), ((a 12), iA cI W1)] → va_S A s.heap H locs → lv_has ls 4 [(0, .ref (a 0)), (1, .int (nI ns)), (2, .int (nI i))] → W p l e (headSpec wsX0_sinkLots rmX0_sinkLots).room s m ([.ref (a 0)] : List Value).toArray below meth c H locs 0 0 Q (F0 m 4 ls []) := by
    intro n
    induction n with
    | zero => intro i ns lst W1 hi hns hW1 hif hn; exact absurd hn (by omega)
    | succ n ih_lp =>
      intro i ns lst W1 hi hns hW1 hif hn H locs ls hP hD hS hl
      refine lv_iload_n hx hb dX0_sinkLots_4 rfl (lv_at hl 2 rfl) ?_
      refine lv_bipush (v := 64) hx hb dX0_sinkLots_5 (by decide) ?_
      rcases Nat.lt_or_ge i 64 with g | g
      · skip
        refine lv_icmp_ge (tgt := 46) hx hb dX0_sinkLots_7 (by decide) (fun c => absurd c (lt_n (n := 64) g (by decide))) (fun _ => ?_)
        refine lv_aload_n hx hb dX0_sinkLots_10 rfl (lv_at hl 0 rfl) ?_
        refine va_get (D := G) (ci := 0) (v := .ref (a 3)) (C := RX0) (T := TX0) (N := 13) hx hb hts hinX0 hown hK hP 0 rfl rfl 3 (by decide) hf21 (fun _ h9 => h9) rfl dX0_sinkLots_11 ?_
        refine lv_iload_n hx hb dX0_sinkLots_14 rfl (lv_at hl 2 rfl) ?_
        refine va_iald hx hb hK hP 1 0 rfl rfl (vp_in_nI g (by decide)) dX0_sinkLots_15 ?_
        refine tpi (x' := K i) (congrArg K (nI_clamp (by omega))) ?_
        refine tpi (x' := k i) (hk i g) ?_
        refine lv_iconst (v := 2) hx hb dX0_sinkLots_16 (by decide) ?_
        refine lv_icmp_ne (tgt := 40) hx hb dX0_sinkLots_17 (by decide) (fun c2 => ?_) (fun c2 => ?_)
        · skip
          refine lv_iinc (v := nI (i + 1)) (lv' := [(2, .int (nI (i + 1))), (0, .ref (a 0)), (1, .int (nI ns))]) hx hb dX0_sinkLots_40 hl (k := 2) rfl (nI_inc i) (by decide) rfl (fun ls hl => ?_)
          refine lv_goto (tgt := 4) hx hb dX0_sinkLots_43 (by decide) ?_
          exact ih_lp (i + 1) ns lst W1 (by omega) (by omega) (hW1) (fun x => ⟨fun h9 => by have h8 := (hif x).mp h9; exact ⟨by omega, h8.2⟩, fun h9 => (hif x).mpr ⟨by rcases Nat.lt_or_ge x i with q9 | q9; exact q9; have e9 : x = i := (by omega); subst e9; exact absurd h9.2 (fun e => c2 e.1), h9.2⟩⟩) (by omega) _ _ _ hP hD hS (lv_sub hl [1, 2, 0] (rfl))
        · skip
          refine lv_aload_n hx hb dX0_sinkLots_20 rfl (lv_at hl 0 rfl) ?_
          refine lv_iload_n hx hb dX0_sinkLots_21 rfl (lv_at hl 2 rfl) ?_
          refine lv_iconst (v := 0) hx hb dX0_sinkLots_22 (by decide) ?_
          refine cr_i (va_runV (As := [.int (nI i), .int 0]) (rest := []) FX (c_X0_neighboursOfKind l G cI a mo co le K Qa La Ha Ma Ba Ca Da Fa W1 k i 0 hk g) (cwV 2 hts gX0_sinkLots_X0_neighboursOfKind rfl rfl rfl (by decide +kernel) ⟨Nat.le_of_ble_eq_true rfl, Nat.le_of_ble_eq_true rfl⟩) (rdV hK hP hN [0, 1, 2, 3, 4, 5, 6, 7, 8, 9, 10] rfl (ci := 0) (q0 := 0) rfl rfl) rfl rfl hl.1 rfl (lv_room (Nat.le_of_ble_eq_true rfl)) dX0_sinkLots_23 ⟨hzc, hzs⟩) hS hP (fun H locs hP hS => ?_)
          refine lv_iconst (v := 3) hx hb dX0_sinkLots_26 (by decide) ?_
          refine lv_icmp_lt (tgt := 40) hx hb dX0_sinkLots_27 (by decide) (fun c3 => ?_) (fun c3 => ?_)
          · skip
            refine lv_iinc (v := nI (i + 1)) (lv' := [(2, .int (nI (i + 1))), (0, .ref (a 0)), (1, .int (nI ns))]) hx hb dX0_sinkLots_40 hl (k := 2) rfl (nI_inc i) (by decide) rfl (fun ls hl => ?_)
            refine lv_goto (tgt := 4) hx hb dX0_sinkLots_43 (by decide) ?_
            exact ih_lp (i + 1) ns lst W1 (by omega) (by omega) (hW1) (fun x => ⟨fun h9 => by have h8 := (hif x).mp h9; exact ⟨by omega, h8.2⟩, fun h9 => (hif x).mpr ⟨by rcases Nat.lt_or_ge x i with q9 | q9; exact q9; have e9 : x = i := (by omega); subst e9; exact absurd h9.2 (fun e => e.2 c3), h9.2⟩⟩) (by omega) _ _ _ hP hD hS (lv_sub hl [1, 2, 0] (rfl))
          · skip
            refine lv_aload_n hx hb dX0_sinkLots_30 rfl (lv_at hl 0 rfl) ?_
            refine va_get (D := G) (ci := 0) (v := .ref (a 12)) (C := RX0) (T := TX0) (N := 13) hx hb hts hinX0 hown hK hP 0 rfl rfl 12 (by decide) hf49 (fun _ h9 => h9) rfl dX0_sinkLots_31 ?_
            refine lv_iload_n hx hb dX0_sinkLots_34 rfl (lv_at hl 1 rfl) ?_
            refine lv_iload_n hx hb dX0_sinkLots_35 rfl (lv_at hl 2 rfl) ?_
            refine va_iast hx hb hK hP hD hS 10 0 rfl rfl (vp_in_nI (n := ns) (by omega) (by decide)) dX0_sinkLots_36 (fun H locs hP hD hS => ?_)
            rw [show ((nI ns)).toNatClampNeg = ns from nI_clamp (by omega)] at hP hD
            have hP : va_P G vwCl [((a 0), oC a mo co le), ((a 3), iA cI K), ((a 4), iA cI Qa), ((a 5), iA cI La), ((a 6), iA cI Ha), ((a 7), iA cI Ma), ((a 8), iA cI Ba), ((a 9), iA cI Ca), ((a 10), iA cI Da), ((a 11), iA cI Fa), ((a 12), iA cI (upd W1 ns (nI i)))] H := hP
            have hD : va_D A [((a 0), oC a mo co le), ((a 3), iA cI K), ((a 4), iA cI Qa), ((a 5), iA cI La), ((a 6), iA cI Ha), ((a 7), iA cI Ma), ((a 8), iA cI Ba), ((a 9), iA cI Ca), ((a 10), iA cI Da), ((a 11), iA cI Fa), ((a 12), iA cI (upd W1 ns (nI i)))] := hD
            refine lv_iinc (v := nI (ns + 1)) (lv' := [(1, .int (nI (ns + 1))), (0, .ref (a 0)), (2, .int (nI i))]) hx hb dX0_sinkLots_37 hl (k := 1) rfl (nI_inc ns) (by decide) rfl (fun ls hl => ?_)
            refine lv_iinc (v := nI (i + 1)) (lv' := [(2, .int (nI (i + 1))), (1, .int (nI (ns + 1))), (0, .ref (a 0))]) hx hb dX0_sinkLots_40 hl (k := 2) rfl (nI_inc i) (by decide) rfl (fun ls hl => ?_)
            refine lv_goto (tgt := 4) hx hb dX0_sinkLots_43 (by decide) ?_
            exact ih_lp (i + 1) (ns + 1) (fun j => if j = ns then i else lst j) (upd W1 ns (nI i)) (by omega) (by omega) (fun j hj => by by_cases e9 : j = ns; rw [e9, pk_us, if_pos rfl]; exact ⟨g, rfl⟩; rw [pk_un e9, if_neg e9]; exact hW1 j (by omega)) (fun x => snk_step c2 c3 (hif x)) (by omega) _ _ _ hP hD hS (lv_sub hl [2, 1, 0] (rfl))
      · skip
        have g9 : 64 = i := by omega
        subst g9
        refine lv_icmp_ge (tgt := 46) hx hb dX0_sinkLots_7 (by decide) (fun _ => ?_) (fun c => absurd (le_n (n := 64) (i := 64) (by decide) (by decide)) c)
        refine lv_iconst (v := 0) hx hb dX0_sinkLots_46 (by decide) ?_
        refine tpi (x' := nI 0) (rfl) ?_
        refine lv_istore_n (lv' := [(2, .int (nI 0)), (0, .ref (a 0)), (1, .int (nI ns))]) hx hb dX0_sinkLots_47 rfl hl (by decide) rfl (fun ls hl => ?_)
        have lq : ∀ (n : Nat) (j : Nat) (K1 : Nat → Int32), (hj : j ≤ ns) → (hy : ∀ x, x < 64 → (∃ y, y < j ∧ lst y = x) → K1 x = 0) → (hn9 : ∀ x, x < 64 → ¬ (∃ y, y < j ∧ lst y = x) → K1 x = k x) → (ns - j) < n → ∀ (H : Heap) (locs : List Loc) (ls : Array Slot), va_P G vwCl [((a 0), oC a mo co le), ((a 3), iA cI K1), ((a 4), iA cI Qa), ((a 5), iA cI La), ((a 6), iA cI Ha), ((a 7), iA cI Ma), ((a 8), iA cI Ba), ((a 9), iA cI Ca), ((a 10), iA cI Da), ((a 11), iA cI Fa), ((a 12), iA cI W1)] H → va_D A [((a 0), oC a mo co le), ((a 3), iA cI K1), ((a 4), iA cI Qa), ((a 5), iA cI La), ((a 6), iA cI Ha), ((a 7), iA cI Ma), ((a 8), iA cI Ba), ((a 9), iA cI Ca), ((a 10), iA cI Da), ((a 11), iA cI Fa), ((a 12), iA cI W1)] → va_S A s.heap H locs → lv_has ls 4 [(0, .ref (a 0)), (1, .int (nI ns)), (2, .int (nI j))] → W p l e (headSpec wsX0_sinkLots rmX0_sinkLots).room s m ([.ref (a 0)] : List Value).toArray below meth c H locs 0 0 Q (F0 m 48 ls []) := by
          intro n
          induction n with
          | zero => intro j K1 hj hy hn9 hn; exact absurd hn (by omega)
          | succ n ih_lq =>
            intro j K1 hj hy hn9 hn H locs ls hP hD hS hl
            refine lv_iload_n hx hb dX0_sinkLots_48 rfl (lv_at hl 2 rfl) ?_
            refine lv_iload_n hx hb dX0_sinkLots_49 rfl (lv_at hl 1 rfl) ?_
            rcases Nat.lt_or_ge j ns with g4 | g4
            · skip
              refine lv_icmp_ge (tgt := 86) hx hb dX0_sinkLots_50 (by decide) (fun c => absurd c (lt_n g4 (by omega))) (fun _ => ?_)
              refine lv_iload_n hx hb dX0_sinkLots_53 rfl (lv_at hl 2 rfl) ?_
              refine lv_bipush (v := 64) hx hb dX0_sinkLots_54 (by decide) ?_
              refine lv_icmp_ge (tgt := 86) hx hb dX0_sinkLots_56 (by decide) (fun c => absurd c (lt_n (n := 64) (i := j) (by omega) (by decide))) (fun _ => ?_)
              refine lv_aload_n hx hb dX0_sinkLots_59 rfl (lv_at hl 0 rfl) ?_
              refine va_get (D := G) (ci := 0) (v := .ref (a 12)) (C := RX0) (T := TX0) (N := 13) hx hb hts hinX0 hown hK hP 0 rfl rfl 12 (by decide) hf49 (fun _ h9 => h9) rfl dX0_sinkLots_60 ?_
              refine lv_iload_n hx hb dX0_sinkLots_63 rfl (lv_at hl 2 rfl) ?_
              refine va_iald hx hb hK hP 10 0 rfl rfl (vp_in_nI (n := j) (by omega) (by decide)) dX0_sinkLots_64 ?_
              refine tpi (x' := W1 j) (congrArg W1 (nI_clamp (by omega))) ?_
              refine tpi (x' := nI (lst j)) ((hW1 j g4).2) ?_
              have hlj := (hW1 j g4).1
              refine lv_istore_n (lv' := [(3, .int (nI (lst j))), (0, .ref (a 0)), (1, .int (nI ns)), (2, .int (nI j))]) hx hb dX0_sinkLots_65 rfl hl (by decide) rfl (fun ls hl => ?_)
              refine lv_iload_n hx hb dX0_sinkLots_66 rfl (lv_at hl 0 rfl) ?_
              refine cr_i (va_runSN (As := [.int (nI (lst j))]) (rest := []) FX (c_X1_isLot l (nI (lst j))) ⟨va_cnB 1 hts gX0_sinkLots_X1_isLot_n73 rfl rfl rfl (NW_at hN 3 rfl) hiniX1 (by decide +kernel) ⟨Nat.le_of_ble_eq_true rfl, Nat.le_of_ble_eq_true rfl⟩, hstX1_isLot, trivial⟩ puS rfl rfl hl.1 rfl (lv_room (Nat.le_of_ble_eq_true rfl)) dX0_sinkLots_67 ⟨hzc, hzs⟩) hS hP (fun H locs hP hS => ?_)
              refine tpi (x' := 1) (isLot_1 hlj) ?_
              refine lv_if_eq (tgt := 80) hx hb dX0_sinkLots_70 (by decide) (fun c => absurd c (by decide)) (fun _ => ?_)
              refine lv_aload_n hx hb dX0_sinkLots_73 rfl (lv_at hl 1 rfl) ?_
              refine va_get (D := G) (ci := 0) (v := .ref (a 3)) (C := RX0) (T := TX0) (N := 13) hx hb hts hinX0 hown hK hP 0 rfl rfl 3 (by decide) hf21 (fun _ h9 => h9) rfl dX0_sinkLots_74 ?_
              refine lv_iload_n hx hb dX0_sinkLots_77 rfl (lv_at hl 0 rfl) ?_
              refine lv_iconst (v := 0) hx hb dX0_sinkLots_78 (by decide) ?_
              refine va_iast hx hb hK hP hD hS 1 0 rfl rfl (vp_in_nI hlj (by decide)) dX0_sinkLots_79 (fun H locs hP hD hS => ?_)
              rw [show ((nI (lst j))).toNatClampNeg = (lst j) from nI_clamp (by omega)] at hP hD
              have hP : va_P G vwCl [((a 0), oC a mo co le), ((a 3), iA cI (upd K1 (lst j) 0)), ((a 4), iA cI Qa), ((a 5), iA cI La), ((a 6), iA cI Ha), ((a 7), iA cI Ma), ((a 8), iA cI Ba), ((a 9), iA cI Ca), ((a 10), iA cI Da), ((a 11), iA cI Fa), ((a 12), iA cI W1)] H := hP
              have hD : va_D A [((a 0), oC a mo co le), ((a 3), iA cI (upd K1 (lst j) 0)), ((a 4), iA cI Qa), ((a 5), iA cI La), ((a 6), iA cI Ha), ((a 7), iA cI Ma), ((a 8), iA cI Ba), ((a 9), iA cI Ca), ((a 10), iA cI Da), ((a 11), iA cI Fa), ((a 12), iA cI W1)] := hD
              refine lv_iinc (v := nI (j + 1)) (lv' := [(2, .int (nI (j + 1))), (3, .int (nI (lst j))), (0, .ref (a 0)), (1, .int (nI ns))]) hx hb dX0_sinkLots_80 hl (k := 3) rfl (nI_inc j) (by decide) rfl (fun ls hl => ?_)
              refine lv_goto (tgt := 48) hx hb dX0_sinkLots_83 (by decide) ?_
              exact ih_lq (j + 1) (upd K1 (lst j) 0) (by omega) (fun x hx h9 => by by_cases e9 : x = lst j; rw [e9, pk_us]; rw [pk_un e9]; obtain ⟨y, hy9, he⟩ := h9; exact hy x hx ⟨y, by rcases Nat.lt_or_ge y j with q9 | q9; exact q9; exact absurd (by rw [← he, show y = j by omega]) e9, he⟩) (fun x hx h9 => by rw [pk_un (fun e => h9 ⟨j, Nat.lt_succ_self j, e.symm⟩)]; exact hn9 x hx (fun e => by obtain ⟨y, hy9, he⟩ := e; exact h9 ⟨y, by omega, he⟩)) (by omega) _ _ _ hP hD hS (lv_sub hl [2, 3, 0] (rfl))
            · skip
              have g9 : j = ns := by omega
              subst g9
              refine lv_icmp_ge (tgt := 86) hx hb dX0_sinkLots_50 (by decide) (fun _ => ?_) (fun c => absurd (le_n (n := j) (i := j) (Nat.le_refl j) (by omega)) c)
              subst hQ
              subst hAe
              exact wr_v (K1, W1) (fun x hx => by by_cases h9 : snk k x; rw [sk1_yes h9]; exact hy x hx ((hif x).mpr ⟨hx, h9⟩); rw [sk1_no h9]; exact hn9 x hx (fun e => h9 ((hif x).mp e).2)) hx hb hr hP hD hS hlocks dX0_sinkLots_86
        exact lq (_ + 1) 0 K (by omega) (fun x _ h9 => by obtain ⟨j, hj, -⟩ := h9; exact absurd hj (Nat.not_lt_zero _)) (fun x hx _ => hk x hx) (Nat.lt_succ_self _) _ _ _ hP hD hS (lv_sub hl [1, 2, 0] rfl)
  exact lp (_ + 1) 0 0 (fun _ => 0) Wa (by omega) (by omega) (fun j hj => absurd hj (Nat.not_lt_zero _)) (fun x => ⟨fun h9 => by obtain ⟨j, hj, -⟩ := h9; exact absurd hj (Nat.not_lt_zero _), fun h9 => absurd h9.1 (Nat.not_lt_zero _)⟩) (Nat.lt_succ_self _) _ _ _ hP hD hS (lv_sub hl [2, 1, 0] rfl)

def rmX0_become : Room := { frames := 0, cells := 0, slots := 0, locals := 0 }
set_option maxHeartbeats 4000000 in
set_option maxRecDepth 100000 in
/-- takes over the other city -/
theorem c_X0_become (l : Launch) (G : va_G) (cI : ClassId) (a b : Nat → Nat) (mo co le mo2 co2 le2 : Int32) (K K2 : Nat → Int32)  (sz : Nat) : Met l yX0_become wsX0_become rmX0_become (va_Pc [.ref (a 0), .ref (b 0)] (WrP G cI [((a 0), oC a mo co le), ((a 3), iA cI K), ((b 0), oC b mo2 co2 le2), ((b 3), iA cI K2)] sz)) (va_Qv (fun (u : Nat → Int32) => eqK u K2) (WrB G [((a 0), oC a mo co le), ((a 3), iA cI K), ((b 0), oC b mo2 co2 le2), ((b 3), iA cI K2)] sz (fun u => [(a 0, oC a mo2 co2 le2), (a 3, iA cI u), (b 0, oC b mo2 co2 le2), (b 3, iA cI K2)])) (va_A [((a 0), oC a mo co le), ((a 3), iA cI K), ((b 0), oC b mo2 co2 le2), ((b 3), iA cI K2)] sz)) 0 0 (va_A [((a 0), oC a mo co le), ((a 3), iA cI K), ((b 0), oC b mo2 co2 le2), ((b 3), iA cI K2)] sz) := by
  refine Met.ofW (cc := cX0_become) (maxL := 3) (ret := none) (by decide) rfl ?_
  intro p e s m args below meth c s₁ B hml hv
  obtain ⟨rfl, hsz, hP, hK, hD0, hN⟩ := hv
  have hx := B.exec
  have hb := B.bytes
  have hr := B.returns
  have hlocks := B.notSynchronized
  have hts := atoms_spec (ws := wsX0_become) B.pre
  have hown : s.vm.findClass RX0 = some m.cls := findClass_of_methodNamed B.named
  subst hsz
  have hD := hD0.self (sz := s.heap.size)
  have hA : ∀ q : Nat, s.heap.size ≤ q → va_A [((a 0), oC a mo co le), ((a 3), iA cI K), ((b 0), oC b mo2 co2 le2), ((b 3), iA cI K2)] s.heap.size q := fun q h => Or.inr h
  have hS : va_S (va_A [((a 0), oC a mo co le), ((a 3), iA cI K), ((b 0), oC b mo2 co2 le2), ((b 3), iA cI K2)] s.heap.size) s.heap s.heap [] := va_S.rf
  obtain ⟨A, hAe⟩ : ∃ A, A = va_A [((a 0), oC a mo co le), ((a 3), iA cI K), ((b 0), oC b mo2 co2 le2), ((b 3), iA cI K2)] s.heap.size := ⟨_, rfl⟩
  rw [← hAe] at hD hA hS
  have FX : CallFix p m c cX0_become 3 s ([.ref (a 0), .ref (b 0)] : List Value).toArray wsX0_become RX0 := ⟨hx, hb, hml, hown, hts⟩
  have hl := lv_entry ([.ref (a 0), .ref (b 0)]) (n := 3) (Nat.le_of_ble_eq_true rfl)
  rw [lg_entry_eq]
  generalize (lg_sl ([.ref (a 0), .ref (b 0)]) ++ List.replicate (3 - (lg_sl ([.ref (a 0), .ref (b 0)])).length) Slot.unset).toArray = ls at hl ⊢
  have hl : lv_has ls 3 [(0, .ref (a 0)), (1, .ref (b 0))] := hl
  refine wq (fun Q hQ => ?_)
  have hzc : 0 + 0 ≤ (headSpec wsX0_become rmX0_become).room.cells := Nat.zero_le _
  have hzs : 0 + 0 ≤ (headSpec wsX0_become rmX0_become).room.slots := Nat.zero_le _
  have hf15 := hts (.fieldLink RX0 15 "CanalCity$City" "coins" "I") (by decide +kernel)
  have hf18 := hts (.fieldLink RX0 18 "CanalCity$City" "left" "I") (by decide +kernel)
  have hf21 := hts (.fieldLink RX0 21 "CanalCity$City" "kinds" "[I") (by decide +kernel)
  have hf9 := hts (.fieldLink RX0 9 "CanalCity$City" "month" "I") (by decide +kernel)
  have hinX0 : ∀ w ∈ u_ws RX0 TX0 13, w ∈ wsX0_become := by decide +kernel
  refine lv_aload_n hx hb dX0_become_0 rfl (lv_at hl 0 rfl) ?_
  refine lv_aload_n hx hb dX0_become_1 rfl (lv_at hl 1 rfl) ?_
  refine va_get (D := G) (ci := 0) (v := .int mo2) (C := RX0) (T := TX0) (N := 13) hx hb hts hinX0 hown hK hP 2 rfl rfl 0 (by decide) hf9 (fun _ h9 => h9) rfl dX0_become_2 ?_
  refine va_put (D := G) (ci := 0) (v := .int mo2) (ty := .int) (C := RX0) (T := TX0) (N := 13) hx hb hts hinX0 tyX0 tyX0_ok nmX0 hown hK hP hD hS 0 rfl rfl 0 (by decide) hf9 (fun _ h9 => h9) rfl (by decide +kernel) rfl rfl (Nat.le_of_ble_eq_true rfl) dX0_become_5 (fun H locs hP hD hS => ?_)
  have hP : va_P G vwCl [((a 0), oC a mo2 co le), ((a 3), iA cI K), ((b 0), oC b mo2 co2 le2), ((b 3), iA cI K2)] H := hP
  have hD : va_D A [((a 0), oC a mo2 co le), ((a 3), iA cI K), ((b 0), oC b mo2 co2 le2), ((b 3), iA cI K2)] := hD
  refine lv_aload_n hx hb dX0_become_8 rfl (lv_at hl 0 rfl) ?_
  refine lv_aload_n hx hb dX0_become_9 rfl (lv_at hl 1 rfl) ?_
  refine va_get (D := G) (ci := 0) (v := .int co2) (C := RX0) (T := TX0) (N := 13) hx hb hts hinX0 hown hK hP 2 rfl rfl 1 (by decide) hf15 (fun _ h9 => h9) rfl dX0_become_10 ?_
  refine va_put (D := G) (ci := 0) (v := .int co2) (ty := .int) (C := RX0) (T := TX0) (N := 13) hx hb hts hinX0 tyX0 tyX0_ok nmX0 hown hK hP hD hS 0 rfl rfl 1 (by decide) hf15 (fun _ h9 => h9) rfl (by decide +kernel) rfl rfl (Nat.le_of_ble_eq_true rfl) dX0_become_13 (fun H locs hP hD hS => ?_)
  have hP : va_P G vwCl [((a 0), oC a mo2 co2 le), ((a 3), iA cI K), ((b 0), oC b mo2 co2 le2), ((b 3), iA cI K2)] H := hP
  have hD : va_D A [((a 0), oC a mo2 co2 le), ((a 3), iA cI K), ((b 0), oC b mo2 co2 le2), ((b 3), iA cI K2)] := hD
  refine lv_aload_n hx hb dX0_become_16 rfl (lv_at hl 0 rfl) ?_
  refine lv_aload_n hx hb dX0_become_17 rfl (lv_at hl 1 rfl) ?_
  refine va_get (D := G) (ci := 0) (v := .int le2) (C := RX0) (T := TX0) (N := 13) hx hb hts hinX0 hown hK hP 2 rfl rfl 2 (by decide) hf18 (fun _ h9 => h9) rfl dX0_become_18 ?_
  refine va_put (D := G) (ci := 0) (v := .int le2) (ty := .int) (C := RX0) (T := TX0) (N := 13) hx hb hts hinX0 tyX0 tyX0_ok nmX0 hown hK hP hD hS 0 rfl rfl 2 (by decide) hf18 (fun _ h9 => h9) rfl (by decide +kernel) rfl rfl (Nat.le_of_ble_eq_true rfl) dX0_become_21 (fun H locs hP hD hS => ?_)
  have hP : va_P G vwCl [((a 0), oC a mo2 co2 le2), ((a 3), iA cI K), ((b 0), oC b mo2 co2 le2), ((b 3), iA cI K2)] H := hP
  have hD : va_D A [((a 0), oC a mo2 co2 le2), ((a 3), iA cI K), ((b 0), oC b mo2 co2 le2), ((b 3), iA cI K2)] := hD
  refine lv_iconst (v := 0) hx hb dX0_become_24 (by decide) ?_
  refine tpi (x' := nI 0) (rfl) ?_
  refine lv_istore_n (lv' := [(2, .int (nI 0)), (0, .ref (a 0)), (1, .ref (b 0))]) hx hb dX0_become_25 rfl hl (by decide) rfl (fun ls hl => ?_)
  have lp : ∀ (n : Nat) (i : Nat) (K1 : Nat → Int32), (hi : i ≤ 64) → (hK1 : ∀ x, x < i → K1 x = K2 x) → (64 - i) < n → ∀ (H : Heap) (locs : List Loc) (ls : Array Slot), va_P G vwCl [((a 0), oC a mo2 co2 le2), ((a 3), iA cI K1), ((b 0), oC b mo2 co2 le2), ((b 3), iA cI K2)] H → va_D A [((a 0), oC a mo2 co2 le2), ((a 3), iA cI K1), ((b 0), oC b mo2 co2 le2), ((b 3), iA cI K2)] → va_S A s.heap H locs → lv_has ls 3 [(0, .ref (a 0)), (1, .ref (b 0)), (2, .int (nI i))] → W p l e (headSpec wsX0_become rmX0_become).room s m ([.ref (a 0), .ref (b 0)] : List Value).toArray below meth c H locs 0 0 Q (F0 m 26 ls []) := by
    intro n
    induction n with
    | zero => intro i K1 hi hK1 hn; exact absurd hn (by omega)
    | succ n ih_lp =>
      intro i K1 hi hK1 hn H locs ls hP hD hS hl
      refine lv_iload_n hx hb dX0_become_26 rfl (lv_at hl 2 rfl) ?_
      refine lv_bipush (v := 64) hx hb dX0_become_27 (by decide) ?_
      rcases Nat.lt_or_ge i 64 with g | g
      · skip
        refine lv_icmp_ge (tgt := 50) hx hb dX0_become_29 (by decide) (fun c => absurd c (lt_n (n := 64) g (by decide))) (fun _ => ?_)
        refine lv_aload_n hx hb dX0_become_32 rfl (lv_at hl 0 rfl) ?_
        refine va_get (D := G) (ci := 0) (v := .ref (a 3)) (C := RX0) (T := TX0) (N := 13) hx hb hts hinX0 hown hK hP 0 rfl rfl 3 (by decide) hf21 (fun _ h9 => h9) rfl dX0_become_33 ?_
        refine lv_iload_n hx hb dX0_become_36 rfl (lv_at hl 2 rfl) ?_
        refine lv_aload_n hx hb dX0_become_37 rfl (lv_at hl 1 rfl) ?_
        refine va_get (D := G) (ci := 0) (v := .ref (b 3)) (C := RX0) (T := TX0) (N := 13) hx hb hts hinX0 hown hK hP 2 rfl rfl 3 (by decide) hf21 (fun _ h9 => h9) rfl dX0_become_38 ?_
        refine lv_iload_n hx hb dX0_become_41 rfl (lv_at hl 2 rfl) ?_
        refine va_iald hx hb hK hP 3 0 rfl rfl (vp_in_nI g (by decide)) dX0_become_42 ?_
        refine tpi (x' := K2 i) (congrArg K2 (nI_clamp (by omega))) ?_
        refine va_iast hx hb hK hP hD hS 1 0 rfl rfl (vp_in_nI g (by decide)) dX0_become_43 (fun H locs hP hD hS => ?_)
        rw [show ((nI i)).toNatClampNeg = i from nI_clamp (by omega)] at hP hD
        have hP : va_P G vwCl [((a 0), oC a mo2 co2 le2), ((a 3), iA cI (upd K1 i (K2 i))), ((b 0), oC b mo2 co2 le2), ((b 3), iA cI K2)] H := hP
        have hD : va_D A [((a 0), oC a mo2 co2 le2), ((a 3), iA cI (upd K1 i (K2 i))), ((b 0), oC b mo2 co2 le2), ((b 3), iA cI K2)] := hD
        refine lv_iinc (v := nI (i + 1)) (lv' := [(2, .int (nI (i + 1))), (0, .ref (a 0)), (1, .ref (b 0))]) hx hb dX0_become_44 hl (k := 2) rfl (nI_inc i) (by decide) rfl (fun ls hl => ?_)
        refine lv_goto (tgt := 26) hx hb dX0_become_47 (by decide) ?_
        exact ih_lp (i + 1) (upd K1 i (K2 i)) (by omega) (fun x hx => by rcases Nat.lt_or_ge x i with q9 | q9; rw [pk_un (by omega)]; exact hK1 x q9; rw [show x = i by omega, pk_us]) (by omega) _ _ _ hP hD hS (lv_sub hl [1, 2, 0] (rfl))
      · skip
        have g9 : 64 = i := by omega
        subst g9
        refine lv_icmp_ge (tgt := 50) hx hb dX0_become_29 (by decide) (fun _ => ?_) (fun c => absurd (le_n (n := 64) (i := 64) (by decide) (by decide)) c)
        subst hQ
        subst hAe
        exact wr_v K1 (hK1) hx hb hr hP hD hS hlocks dX0_become_50
  exact lp (_ + 1) 0 K (by omega) (fun x hx => absurd hx (Nat.not_lt_zero _)) (Nat.lt_succ_self _) _ _ _ hP hD hS (lv_sub hl [1, 2, 0] rfl)

def rmX0_change : Room := { frames := 4, cells := 0, slots := 0, locals := 95 }
set_option maxHeartbeats 4000000 in
set_option maxRecDepth 100000 in
/-- a lot is of another kind -/
theorem c_X0_change (l : Launch) (G : va_G) (cI : ClassId) (a : Nat → Nat) (mo co le : Int32) (K Qa La Ha Ma Ba Ca Da Fa Wa k : Nat → Int32) (pt : Nat) (v : Int32) (hk : eqK K k) (hpt : pt < 64) (hg : wtr (upd k pt v 3) = true) (sz : Nat) : Met l yX0_change wsX0_change rmX0_change (va_Pc [.ref (a 0), .int (nI pt), .int v] (WrP G cI [((a 0), oC a mo co le), ((a 3), iA cI K), ((a 4), iA cI Qa), ((a 5), iA cI La), ((a 6), iA cI Ha), ((a 7), iA cI Ma), ((a 8), iA cI Ba), ((a 9), iA cI Ca), ((a 10), iA cI Da), ((a 11), iA cI Fa), ((a 12), iA cI Wa)] sz)) (va_Qv (fun (u : (Nat → Int32) × (Nat → Int32) × (Nat → Int32) × (Nat → Int32) × (Nat → Int32) × (Nat → Int32) × (Nat → Int32) × (Nat → Int32)) => SVd (upd k pt v) (u.1) (u.2.1) (u.2.2.1) (u.2.2.2.1) (u.2.2.2.2.1) (u.2.2.2.2.2.1) (u.2.2.2.2.2.2.1)) (WrB G [((a 0), oC a mo co le), ((a 3), iA cI K), ((a 4), iA cI Qa), ((a 5), iA cI La), ((a 6), iA cI Ha), ((a 7), iA cI Ma), ((a 8), iA cI Ba), ((a 9), iA cI Ca), ((a 10), iA cI Da), ((a 11), iA cI Fa), ((a 12), iA cI Wa)] sz (fun u => [(a 0, oC a mo co le), (a 3, iA cI ((upd K pt v))), (a 4, iA cI ((u.1))), (a 5, iA cI ((u.2.1))), (a 6, iA cI ((u.2.2.1))), (a 7, iA cI ((u.2.2.2.1))), (a 8, iA cI ((u.2.2.2.2.1))), (a 9, iA cI ((u.2.2.2.2.2.1))), (a 10, iA cI ((u.2.2.2.2.2.2.1))), (a 11, iA cI Fa), (a 12, iA cI ((u.2.2.2.2.2.2.2)))])) (va_A [((a 0), oC a mo co le), ((a 3), iA cI K), ((a 4), iA cI Qa), ((a 5), iA cI La), ((a 6), iA cI Ha), ((a 7), iA cI Ma), ((a 8), iA cI Ba), ((a 9), iA cI Ca), ((a 10), iA cI Da), ((a 11), iA cI Fa), ((a 12), iA cI Wa)] sz)) 0 0 (va_A [((a 0), oC a mo co le), ((a 3), iA cI K), ((a 4), iA cI Qa), ((a 5), iA cI La), ((a 6), iA cI Ha), ((a 7), iA cI Ma), ((a 8), iA cI Ba), ((a 9), iA cI Ca), ((a 10), iA cI Da), ((a 11), iA cI Fa), ((a 12), iA cI Wa)] sz) := by
  refine Met.ofW (cc := cX0_change) (maxL := 3) (ret := none) (by decide) rfl ?_
  intro p e s m args below meth c s₁ B hml hv
  obtain ⟨rfl, hsz, hP, hK, hD0, hN⟩ := hv
  have hx := B.exec
  have hb := B.bytes
  have hr := B.returns
  have hlocks := B.notSynchronized
  have hts := atoms_spec (ws := wsX0_change) B.pre
  have hown : s.vm.findClass RX0 = some m.cls := findClass_of_methodNamed B.named
  subst hsz
  have hD := hD0.self (sz := s.heap.size)
  have hA : ∀ q : Nat, s.heap.size ≤ q → va_A [((a 0), oC a mo co le), ((a 3), iA cI K), ((a 4), iA cI Qa), ((a 5), iA cI La), ((a 6), iA cI Ha), ((a 7), iA cI Ma), ((a 8), iA cI Ba), ((a 9), iA cI Ca), ((a 10), iA cI Da), ((a 11), iA cI Fa), ((a 12), iA cI Wa)] s.heap.size q := fun q h => Or.inr h
  have hS : va_S (va_A [((a 0), oC a mo co le), ((a 3), iA cI K), ((a 4), iA cI Qa), ((a 5), iA cI La), ((a 6), iA cI Ha), ((a 7), iA cI Ma), ((a 8), iA cI Ba), ((a 9), iA cI Ca), ((a 10), iA cI Da), ((a 11), iA cI Fa), ((a 12), iA cI Wa)] s.heap.size) s.heap s.heap [] := va_S.rf
  obtain ⟨A, hAe⟩ : ∃ A, A = va_A [((a 0), oC a mo co le), ((a 3), iA cI K), ((a 4), iA cI Qa), ((a 5), iA cI La), ((a 6), iA cI Ha), ((a 7), iA cI Ma), ((a 8), iA cI Ba), ((a 9), iA cI Ca), ((a 10), iA cI Da), ((a 11), iA cI Fa), ((a 12), iA cI Wa)] s.heap.size := ⟨_, rfl⟩
  rw [← hAe] at hD hA hS
  have FX : CallFix p m c cX0_change 3 s ([.ref (a 0), .int (nI pt), .int v] : List Value).toArray wsX0_change RX0 := ⟨hx, hb, hml, hown, hts⟩
  have hl := lv_entry ([.ref (a 0), .int (nI pt), .int v]) (n := 3) (Nat.le_of_ble_eq_true rfl)
  rw [lg_entry_eq]
  generalize (lg_sl ([.ref (a 0), .int (nI pt), .int v]) ++ List.replicate (3 - (lg_sl ([.ref (a 0), .int (nI pt), .int v])).length) Slot.unset).toArray = ls at hl ⊢
  have hl : lv_has ls 3 [(0, .ref (a 0)), (1, .int (nI pt)), (2, .int v)] := hl
  refine wq (fun Q hQ => ?_)
  have hzc : 0 + 0 ≤ (headSpec wsX0_change rmX0_change).room.cells := Nat.zero_le _
  have hzs : 0 + 0 ≤ (headSpec wsX0_change rmX0_change).room.slots := Nat.zero_le _
  have hf21 := hts (.fieldLink RX0 21 "CanalCity$City" "kinds" "[I") (by decide +kernel)
  have hinX0 : ∀ w ∈ u_ws RX0 TX0 13, w ∈ wsX0_change := by decide +kernel
  refine lv_aload_n hx hb dX0_change_0 rfl (lv_at hl 0 rfl) ?_
  refine va_get (D := G) (ci := 0) (v := .ref (a 3)) (C := RX0) (T := TX0) (N := 13) hx hb hts hinX0 hown hK hP 0 rfl rfl 3 (by decide) hf21 (fun _ h9 => h9) rfl dX0_change_1 ?_
  refine lv_iload_n hx hb dX0_change_4 rfl (lv_at hl 1 rfl) ?_
  refine lv_iload_n hx hb dX0_change_5 rfl (lv_at hl 2 rfl) ?_
  refine va_iast hx hb hK hP hD hS 1 0 rfl rfl (vp_in_nI hpt (by decide)) dX0_change_6 (fun H locs hP hD hS => ?_)
  rw [show ((nI pt)).toNatClampNeg = pt from nI_clamp (by omega)] at hP hD
  have hP : va_P G vwCl [((a 0), oC a mo co le), ((a 3), iA cI (upd K pt v)), ((a 4), iA cI Qa), ((a 5), iA cI La), ((a 6), iA cI Ha), ((a 7), iA cI Ma), ((a 8), iA cI Ba), ((a 9), iA cI Ca), ((a 10), iA cI Da), ((a 11), iA cI Fa), ((a 12), iA cI Wa)] H := hP
  have hD : va_D A [((a 0), oC a mo co le), ((a 3), iA cI (upd K pt v)), ((a 4), iA cI Qa), ((a 5), iA cI La), ((a 6), iA cI Ha), ((a 7), iA cI Ma), ((a 8), iA cI Ba), ((a 9), iA cI Ca), ((a 10), iA cI Da), ((a 11), iA cI Fa), ((a 12), iA cI Wa)] := hD
  refine lv_aload_n hx hb dX0_change_7 rfl (lv_at hl 0 rfl) ?_
  refine cw_v (wr := []) (va_runV (As := []) (rest := []) FX (c_X0_survey l G cI a mo co le (upd K pt v) Qa La Ha Ma Ba Ca Da Fa Wa (upd k pt v) (fun x hx => by by_cases e9 : x = pt; rw [e9, pk_us, pk_us]; rw [pk_un e9, pk_un e9]; exact hk x hx) hg _) (cwV 0 hts gX0_change_X0_survey rfl rfl rfl (by decide +kernel) ⟨Nat.le_of_ble_eq_true rfl, Nat.le_of_ble_eq_true rfl⟩) (wrV hK hP hD hN [0, 1, 2, 3, 4, 5, 6, 7, 8, 9, 10] (by decide) rfl rfl (ci := 0) (q0 := 0) rfl rfl) rfl rfl hl.1 rfl (lv_room (Nat.le_of_ble_eq_true rfl)) dX0_change_8 ⟨hzc, hzs⟩) hS hP hD hA [0, 1, 2, 3, 4, 5, 6, 7, 8, 9, 10] [] rfl rfl (by decide) (by decide) (fun u H locs hw hP hD hS => ?_)
  obtain ⟨Q1, L1, H1, M1, B1, C1, D1, W1⟩ := u
  have hP := hP.sub (ws' := [((a 0), oC a mo co le), ((a 3), iA cI ((upd K pt v))), ((a 4), iA cI Q1), ((a 5), iA cI L1), ((a 6), iA cI H1), ((a 7), iA cI M1), ((a 8), iA cI B1), ((a 9), iA cI C1), ((a 10), iA cI D1), ((a 11), iA cI Fa), ((a 12), iA cI W1)]) [0, 1, 2, 3, 4, 5, 6, 7, 8, 9, 10] rfl
  have hD := hD.sub (ws' := [((a 0), oC a mo co le), ((a 3), iA cI ((upd K pt v))), ((a 4), iA cI Q1), ((a 5), iA cI L1), ((a 6), iA cI H1), ((a 7), iA cI M1), ((a 8), iA cI B1), ((a 9), iA cI C1), ((a 10), iA cI D1), ((a 11), iA cI Fa), ((a 12), iA cI W1)]) [0, 1, 2, 3, 4, 5, 6, 7, 8, 9, 10] (by decide) rfl
  subst hQ
  subst hAe
  exact wr_v (Q1, L1, H1, M1, B1, C1, D1, W1) (hw) hx hb hr hP hD hS hlocks dX0_change_11

def rmX0_buy : Room := { frames := 5, cells := 0, slots := 0, locals := 117 }
set_option maxHeartbeats 4000000 in
set_option maxRecDepth 100000 in
/-- a lot is of another kind -/
theorem c_X0_buy (l : Launch) (G : va_G) (cI : ClassId) (a : Nat → Nat) (mo co le : Int32) (K Qa La Ha Ma Ba Ca Da Fa Wa k : Nat → Int32) (pt : Nat) (v cs : Int32) (hk : eqK K k) (hpt : pt < 64) (hg : wtr (upd k pt v 3) = true) (sz : Nat) : Met l yX0_buy wsX0_buy rmX0_buy (va_Pc [.ref (a 0), .int (nI pt), .int v, .int cs] (WrP G cI [((a 0), oC a mo co le), ((a 3), iA cI K), ((a 4), iA cI Qa), ((a 5), iA cI La), ((a 6), iA cI Ha), ((a 7), iA cI Ma), ((a 8), iA cI Ba), ((a 9), iA cI Ca), ((a 10), iA cI Da), ((a 11), iA cI Fa), ((a 12), iA cI Wa)] sz)) (va_Qv (fun (u : (Nat → Int32) × (Nat → Int32) × (Nat → Int32) × (Nat → Int32) × (Nat → Int32) × (Nat → Int32) × (Nat → Int32) × (Nat → Int32)) => SVd (upd k pt v) (u.1) (u.2.1) (u.2.2.1) (u.2.2.2.1) (u.2.2.2.2.1) (u.2.2.2.2.2.1) (u.2.2.2.2.2.2.1)) (WrB G [((a 0), oC a mo co le), ((a 3), iA cI K), ((a 4), iA cI Qa), ((a 5), iA cI La), ((a 6), iA cI Ha), ((a 7), iA cI Ma), ((a 8), iA cI Ba), ((a 9), iA cI Ca), ((a 10), iA cI Da), ((a 11), iA cI Fa), ((a 12), iA cI Wa)] sz (fun u => [(a 0, oC a mo (co - cs) le), (a 3, iA cI ((upd K pt v))), (a 4, iA cI ((u.1))), (a 5, iA cI ((u.2.1))), (a 6, iA cI ((u.2.2.1))), (a 7, iA cI ((u.2.2.2.1))), (a 8, iA cI ((u.2.2.2.2.1))), (a 9, iA cI ((u.2.2.2.2.2.1))), (a 10, iA cI ((u.2.2.2.2.2.2.1))), (a 11, iA cI Fa), (a 12, iA cI ((u.2.2.2.2.2.2.2)))])) (va_A [((a 0), oC a mo co le), ((a 3), iA cI K), ((a 4), iA cI Qa), ((a 5), iA cI La), ((a 6), iA cI Ha), ((a 7), iA cI Ma), ((a 8), iA cI Ba), ((a 9), iA cI Ca), ((a 10), iA cI Da), ((a 11), iA cI Fa), ((a 12), iA cI Wa)] sz)) 0 0 (va_A [((a 0), oC a mo co le), ((a 3), iA cI K), ((a 4), iA cI Qa), ((a 5), iA cI La), ((a 6), iA cI Ha), ((a 7), iA cI Ma), ((a 8), iA cI Ba), ((a 9), iA cI Ca), ((a 10), iA cI Da), ((a 11), iA cI Fa), ((a 12), iA cI Wa)] sz) := by
  refine Met.ofW (cc := cX0_buy) (maxL := 4) (ret := none) (by decide) rfl ?_
  intro p e s m args below meth c s₁ B hml hv
  obtain ⟨rfl, hsz, hP, hK, hD0, hN⟩ := hv
  have hx := B.exec
  have hb := B.bytes
  have hr := B.returns
  have hlocks := B.notSynchronized
  have hts := atoms_spec (ws := wsX0_buy) B.pre
  have hown : s.vm.findClass RX0 = some m.cls := findClass_of_methodNamed B.named
  subst hsz
  have hD := hD0.self (sz := s.heap.size)
  have hA : ∀ q : Nat, s.heap.size ≤ q → va_A [((a 0), oC a mo co le), ((a 3), iA cI K), ((a 4), iA cI Qa), ((a 5), iA cI La), ((a 6), iA cI Ha), ((a 7), iA cI Ma), ((a 8), iA cI Ba), ((a 9), iA cI Ca), ((a 10), iA cI Da), ((a 11), iA cI Fa), ((a 12), iA cI Wa)] s.heap.size q := fun q h => Or.inr h
  have hS : va_S (va_A [((a 0), oC a mo co le), ((a 3), iA cI K), ((a 4), iA cI Qa), ((a 5), iA cI La), ((a 6), iA cI Ha), ((a 7), iA cI Ma), ((a 8), iA cI Ba), ((a 9), iA cI Ca), ((a 10), iA cI Da), ((a 11), iA cI Fa), ((a 12), iA cI Wa)] s.heap.size) s.heap s.heap [] := va_S.rf
  obtain ⟨A, hAe⟩ : ∃ A, A = va_A [((a 0), oC a mo co le), ((a 3), iA cI K), ((a 4), iA cI Qa), ((a 5), iA cI La), ((a 6), iA cI Ha), ((a 7), iA cI Ma), ((a 8), iA cI Ba), ((a 9), iA cI Ca), ((a 10), iA cI Da), ((a 11), iA cI Fa), ((a 12), iA cI Wa)] s.heap.size := ⟨_, rfl⟩
  rw [← hAe] at hD hA hS
  have FX : CallFix p m c cX0_buy 4 s ([.ref (a 0), .int (nI pt), .int v, .int cs] : List Value).toArray wsX0_buy RX0 := ⟨hx, hb, hml, hown, hts⟩
  have hl := lv_entry ([.ref (a 0), .int (nI pt), .int v, .int cs]) (n := 4) (Nat.le_of_ble_eq_true rfl)
  rw [lg_entry_eq]
  generalize (lg_sl ([.ref (a 0), .int (nI pt), .int v, .int cs]) ++ List.replicate (4 - (lg_sl ([.ref (a 0), .int (nI pt), .int v, .int cs])).length) Slot.unset).toArray = ls at hl ⊢
  have hl : lv_has ls 4 [(0, .ref (a 0)), (1, .int (nI pt)), (2, .int v), (3, .int cs)] := hl
  refine wq (fun Q hQ => ?_)
  have hzc : 0 + 0 ≤ (headSpec wsX0_buy rmX0_buy).room.cells := Nat.zero_le _
  have hzs : 0 + 0 ≤ (headSpec wsX0_buy rmX0_buy).room.slots := Nat.zero_le _
  have hf15 := hts (.fieldLink RX0 15 "CanalCity$City" "coins" "I") (by decide +kernel)
  have hinX0 : ∀ w ∈ u_ws RX0 TX0 13, w ∈ wsX0_buy := by decide +kernel
  refine lv_aload_n hx hb dX0_buy_0 rfl (lv_at hl 0 rfl) ?_
  refine lv_dup hx hb dX0_buy_1 rfl ?_
  refine va_get (D := G) (ci := 0) (v := .int co) (C := RX0) (T := TX0) (N := 13) hx hb hts hinX0 hown hK hP 0 rfl rfl 1 (by decide) hf15 (fun _ h9 => h9) rfl dX0_buy_2 ?_
  refine lv_iload_n hx hb dX0_buy_5 rfl (lv_at hl 3 rfl) ?_
  refine lv_isub hx hb dX0_buy_6 ?_
  refine va_put (D := G) (ci := 0) (v := .int (co - cs)) (ty := .int) (C := RX0) (T := TX0) (N := 13) hx hb hts hinX0 tyX0 tyX0_ok nmX0 hown hK hP hD hS 0 rfl rfl 1 (by decide) hf15 (fun _ h9 => h9) rfl (by decide +kernel) rfl rfl (Nat.le_of_ble_eq_true rfl) dX0_buy_7 (fun H locs hP hD hS => ?_)
  have hP : va_P G vwCl [((a 0), oC a mo (co - cs) le), ((a 3), iA cI K), ((a 4), iA cI Qa), ((a 5), iA cI La), ((a 6), iA cI Ha), ((a 7), iA cI Ma), ((a 8), iA cI Ba), ((a 9), iA cI Ca), ((a 10), iA cI Da), ((a 11), iA cI Fa), ((a 12), iA cI Wa)] H := hP
  have hD : va_D A [((a 0), oC a mo (co - cs) le), ((a 3), iA cI K), ((a 4), iA cI Qa), ((a 5), iA cI La), ((a 6), iA cI Ha), ((a 7), iA cI Ma), ((a 8), iA cI Ba), ((a 9), iA cI Ca), ((a 10), iA cI Da), ((a 11), iA cI Fa), ((a 12), iA cI Wa)] := hD
  refine lv_aload_n hx hb dX0_buy_10 rfl (lv_at hl 0 rfl) ?_
  refine lv_iload_n hx hb dX0_buy_11 rfl (lv_at hl 1 rfl) ?_
  refine lv_iload_n hx hb dX0_buy_12 rfl (lv_at hl 2 rfl) ?_
  refine cw_v (wr := []) (va_runV (As := [.int (nI pt), .int v]) (rest := []) FX (c_X0_change l G cI a mo (co - cs) le K Qa La Ha Ma Ba Ca Da Fa Wa k pt v hk hpt hg _) (cwV 2 hts gX0_buy_X0_change rfl rfl rfl (by decide +kernel) ⟨Nat.le_of_ble_eq_true rfl, Nat.le_of_ble_eq_true rfl⟩) (wrV hK hP hD hN [0, 1, 2, 3, 4, 5, 6, 7, 8, 9, 10] (by decide) rfl rfl (ci := 0) (q0 := 0) rfl rfl) rfl rfl hl.1 rfl (lv_room (Nat.le_of_ble_eq_true rfl)) dX0_buy_13 ⟨hzc, hzs⟩) hS hP hD hA [0, 1, 2, 3, 4, 5, 6, 7, 8, 9, 10] [] rfl rfl (by decide) (by decide) (fun u H locs hw hP hD hS => ?_)
  obtain ⟨Q1, L1, H1, M1, B1, C1, D1, W1⟩ := u
  have hP := hP.sub (ws' := [((a 0), oC a mo (co - cs) le), ((a 3), iA cI ((upd K pt v))), ((a 4), iA cI Q1), ((a 5), iA cI L1), ((a 6), iA cI H1), ((a 7), iA cI M1), ((a 8), iA cI B1), ((a 9), iA cI C1), ((a 10), iA cI D1), ((a 11), iA cI Fa), ((a 12), iA cI W1)]) [0, 1, 2, 3, 4, 5, 6, 7, 8, 9, 10] rfl
  have hD := hD.sub (ws' := [((a 0), oC a mo (co - cs) le), ((a 3), iA cI ((upd K pt v))), ((a 4), iA cI Q1), ((a 5), iA cI L1), ((a 6), iA cI H1), ((a 7), iA cI M1), ((a 8), iA cI B1), ((a 9), iA cI C1), ((a 10), iA cI D1), ((a 11), iA cI Fa), ((a 12), iA cI W1)]) [0, 1, 2, 3, 4, 5, 6, 7, 8, 9, 10] (by decide) rfl
  subst hQ
  subst hAe
  exact wr_v (Q1, L1, H1, M1, B1, C1, D1, W1) (hw) hx hb hr hP hD hS hlocks dX0_buy_16

def rmX0_live : Room := { frames := 4, cells := 0, slots := 0, locals := 95 }
set_option maxHeartbeats 4000000 in
set_option maxRecDepth 100000 in
/-- months go by -/
theorem c_X0_live (l : Launch) (G : va_G) (cI : ClassId) (a : Nat → Nat) (mo co le : Int32) (K Qa La Ha Ma Ba Ca Da Fa Wa k : Nat → Int32) (mn : Nat) (hk : eqK K k) (hS0 : SVd k Qa La Ha Ma Ba Ca Da) (hg : wtr (k 3) = true) (hmn : mn < 2 ^ 31) (sz : Nat) : Met l yX0_live wsX0_live rmX0_live (va_Pc [.ref (a 0), .int (nI mn)] (WrP G cI [((a 0), oC a mo co le), ((a 3), iA cI K), ((a 4), iA cI Qa), ((a 5), iA cI La), ((a 6), iA cI Ha), ((a 7), iA cI Ma), ((a 8), iA cI Ba), ((a 9), iA cI Ca), ((a 10), iA cI Da), ((a 11), iA cI Fa), ((a 12), iA cI Wa)] sz)) (va_Qi (fun (r : Int32) (u : (Nat → Int32) × (Nat → Int32) × (Nat → Int32) × (Nat → Int32) × (Nat → Int32) × (Nat → Int32) × (Nat → Int32) × (Nat → Int32) × (Nat → Int32)) => r = incS k mn ∧ eqK (u.1) (itK k mn) ∧ SVd (itK k mn) (u.2.1) (u.2.2.1) (u.2.2.2.1) (u.2.2.2.2.1) (u.2.2.2.2.2.1) (u.2.2.2.2.2.2.1) (u.2.2.2.2.2.2.2.1)) (WrB G [((a 0), oC a mo co le), ((a 3), iA cI K), ((a 4), iA cI Qa), ((a 5), iA cI La), ((a 6), iA cI Ha), ((a 7), iA cI Ma), ((a 8), iA cI Ba), ((a 9), iA cI Ca), ((a 10), iA cI Da), ((a 11), iA cI Fa), ((a 12), iA cI Wa)] sz (fun u => [(a 0, oC a (mo + nI mn) (co + incS k mn) (le + lftS k mn)), (a 3, iA cI ((u.1))), (a 4, iA cI ((u.2.1))), (a 5, iA cI ((u.2.2.1))), (a 6, iA cI ((u.2.2.2.1))), (a 7, iA cI ((u.2.2.2.2.1))), (a 8, iA cI ((u.2.2.2.2.2.1))), (a 9, iA cI ((u.2.2.2.2.2.2.1))), (a 10, iA cI ((u.2.2.2.2.2.2.2.1))), (a 11, iA cI Fa), (a 12, iA cI ((u.2.2.2.2.2.2.2.2)))])) (va_A [((a 0), oC a mo co le), ((a 3), iA cI K), ((a 4), iA cI Qa), ((a 5), iA cI La), ((a 6), iA cI Ha), ((a 7), iA cI Ma), ((a 8), iA cI Ba), ((a 9), iA cI Ca), ((a 10), iA cI Da), ((a 11), iA cI Fa), ((a 12), iA cI Wa)] sz)) 0 0 (va_A [((a 0), oC a mo co le), ((a 3), iA cI K), ((a 4), iA cI Qa), ((a 5), iA cI La), ((a 6), iA cI Ha), ((a 7), iA cI Ma), ((a 8), iA cI Ba), ((a 9), iA cI Ca), ((a 10), iA cI Da), ((a 11), iA cI Fa), ((a 12), iA cI Wa)] sz) := by
  refine Met.ofW (cc := cX0_live) (maxL := 5) (ret := (some .int)) (by decide) rfl ?_
  intro p e s m args below meth c s₁ B hml hv
  obtain ⟨rfl, hsz, hP, hK, hD0, hN⟩ := hv
  have hx := B.exec
  have hb := B.bytes
  have hr := B.returns
  have hlocks := B.notSynchronized
  have hts := atoms_spec (ws := wsX0_live) B.pre
  have hown : s.vm.findClass RX0 = some m.cls := findClass_of_methodNamed B.named
  subst hsz
  have hD := hD0.self (sz := s.heap.size)
  have hA : ∀ q : Nat, s.heap.size ≤ q → va_A [((a 0), oC a mo co le), ((a 3), iA cI K), ((a 4), iA cI Qa), ((a 5), iA cI La), ((a 6), iA cI Ha), ((a 7), iA cI Ma), ((a 8), iA cI Ba), ((a 9), iA cI Ca), ((a 10), iA cI Da), ((a 11), iA cI Fa), ((a 12), iA cI Wa)] s.heap.size q := fun q h => Or.inr h
  have hS : va_S (va_A [((a 0), oC a mo co le), ((a 3), iA cI K), ((a 4), iA cI Qa), ((a 5), iA cI La), ((a 6), iA cI Ha), ((a 7), iA cI Ma), ((a 8), iA cI Ba), ((a 9), iA cI Ca), ((a 10), iA cI Da), ((a 11), iA cI Fa), ((a 12), iA cI Wa)] s.heap.size) s.heap s.heap [] := va_S.rf
  obtain ⟨A, hAe⟩ : ∃ A, A = va_A [((a 0), oC a mo co le), ((a 3), iA cI K), ((a 4), iA cI Qa), ((a 5), iA cI La), ((a 6), iA cI Ha), ((a 7), iA cI Ma), ((a 8), iA cI Ba), ((a 9), iA cI Ca), ((a 10), iA cI Da), ((a 11), iA cI Fa), ((a 12), iA cI Wa)] s.heap.size := ⟨_, rfl⟩
  rw [← hAe] at hD hA hS
  have FX : CallFix p m c cX0_live 5 s ([.ref (a 0), .int (nI mn)] : List Value).toArray wsX0_live RX0 := ⟨hx, hb, hml, hown, hts⟩
  have hl := lv_entry ([.ref (a 0), .int (nI mn)]) (n := 5) (Nat.le_of_ble_eq_true rfl)
  rw [lg_entry_eq]
  generalize (lg_sl ([.ref (a 0), .int (nI mn)]) ++ List.replicate (5 - (lg_sl ([.ref (a 0), .int (nI mn)])).length) Slot.unset).toArray = ls at hl ⊢
  have hl : lv_has ls 5 [(0, .ref (a 0)), (1, .int (nI mn))] := hl
  refine wq (fun Q hQ => ?_)
  have hzc : 0 + 0 ≤ (headSpec wsX0_live rmX0_live).room.cells := Nat.zero_le _
  have hzs : 0 + 0 ≤ (headSpec wsX0_live rmX0_live).room.slots := Nat.zero_le _
  have hf15 := hts (.fieldLink RX0 15 "CanalCity$City" "coins" "I") (by decide +kernel)
  have hf9 := hts (.fieldLink RX0 9 "CanalCity$City" "month" "I") (by decide +kernel)
  have hinX0 : ∀ w ∈ u_ws RX0 TX0 13, w ∈ wsX0_live := by decide +kernel
  refine lv_iconst (v := 0) hx hb dX0_live_0 (by decide) ?_
  refine lv_istore_n (lv' := [(2, .int 0), (0, .ref (a 0)), (1, .int (nI mn))]) hx hb dX0_live_1 rfl hl (by decide) rfl (fun ls hl => ?_)
  refine lv_iconst (v := 0) hx hb dX0_live_2 (by decide) ?_
  refine tpi (x' := nI 0) (rfl) ?_
  refine lv_istore_n (lv' := [(3, .int (nI 0)), (2, .int 0), (0, .ref (a 0)), (1, .int (nI mn))]) hx hb dX0_live_3 rfl hl (by decide) rfl (fun ls hl => ?_)
  have w0 : oC a mo co le = oC a (mo + nI 0) (co + incS k 0) (le + lftS k 0) := by rw [show mo + nI 0 = mo from Int32.add_zero mo, show co + incS k 0 = co from Int32.add_zero co, show le + lftS k 0 = le from Int32.add_zero le]
  rw [w0] at hP hD
  have lp : ∀ (n : Nat) (i : Nat) (K1 Q1 L1 H1 M1 B1 C1 D1 W1 : Nat → Int32), (hi : i ≤ mn) → (hK1 : eqK K1 (itK k i)) → (hS1 : SVd (itK k i) Q1 L1 H1 M1 B1 C1 D1) → (mn - i) < n → ∀ (H : Heap) (locs : List Loc) (ls : Array Slot), va_P G vwCl [((a 0), oC a (mo + nI i) (co + incS k i) (le + lftS k i)), ((a 3), iA cI K1), ((a 4), iA cI Q1), ((a 5), iA cI L1), ((a 6), iA cI H1), ((a 7), iA cI M1), ((a 8), iA cI B1), ((a 9), iA cI C1), ((a 10), iA cI D1), ((a 11), iA cI Fa), ((a 12), iA cI W1)] H → va_D A [((a 0), oC a (mo + nI i) (co + incS k i) (le + lftS k i)), ((a 3), iA cI K1), ((a 4), iA cI Q1), ((a 5), iA cI L1), ((a 6), iA cI H1), ((a 7), iA cI M1), ((a 8), iA cI B1), ((a 9), iA cI C1), ((a 10), iA cI D1), ((a 11), iA cI Fa), ((a 12), iA cI W1)] → va_S A s.heap H locs → lv_has ls 5 [(0, .ref (a 0)), (1, .int (nI mn)), (2, .int (incS k i)), (3, .int (nI i))] → W p l e (headSpec wsX0_live rmX0_live).room s m ([.ref (a 0), .int (nI mn)] : List Value).toArray below meth c H locs 0 0 Q (F0 m 4 ls []) := by
    intro n
    induction n with
    | zero => intro i K1 Q1 L1 H1 M1 B1 C1 D1 W1 hi hK1 hS1 hn; exact absurd hn (by omega)
    | succ n ih_lp =>
      intro i K1 Q1 L1 H1 M1 B1 C1 D1 W1 hi hK1 hS1 hn H locs ls hP hD hS hl
      refine lv_iload_n hx hb dX0_live_4 rfl (lv_at hl 3 rfl) ?_
      refine lv_iload_n hx hb dX0_live_5 rfl (lv_at hl 1 rfl) ?_
      rcases Nat.lt_or_ge i mn with g | g
      · skip
        refine lv_icmp_ge (tgt := 59) hx hb dX0_live_6 (by decide) (fun c => absurd c (lt_n g hmn)) (fun _ => ?_)
        refine lv_aload_n hx hb dX0_live_9 rfl (lv_at hl 0 rfl) ?_
        refine cr_i (va_runV (As := []) (rest := []) FX (c_X0_duesOfAll l G cI a (mo + nI i) (co + incS k i) (le + lftS k i) K1 Q1 L1 H1 M1 B1 C1 D1 Fa W1 (itK k i) hS1.2.2.2.2.2.2) (cwV 0 hts gX0_live_X0_duesOfAll rfl rfl rfl (by decide +kernel) ⟨Nat.le_of_ble_eq_true rfl, Nat.le_of_ble_eq_true rfl⟩) (rdV hK hP hN [0, 1, 2, 3, 4, 5, 6, 7, 8, 9, 10] rfl (ci := 0) (q0 := 0) rfl rfl) rfl rfl hl.1 rfl (lv_room (Nat.le_of_ble_eq_true rfl)) dX0_live_10 ⟨hzc, hzs⟩) hS hP (fun H locs hP hS => ?_)
        refine lv_istore (lv' := [(4, .int (dall (itK k i))), (0, .ref (a 0)), (1, .int (nI mn)), (2, .int (incS k i)), (3, .int (nI i))]) hx hb dX0_live_13 hl (by decide) rfl (fun ls hl => ?_)
        refine lv_iload_n hx hb dX0_live_15 rfl (lv_at hl 3 rfl) ?_
        refine lv_iload hx hb dX0_live_16 (lv_at hl 0 rfl) ?_
        refine lv_iadd hx hb dX0_live_18 ?_
        refine tpi (x' := incS k (i + 1)) (rfl) ?_
        refine lv_istore_n (lv' := [(2, .int (incS k (i + 1))), (4, .int (dall (itK k i))), (0, .ref (a 0)), (1, .int (nI mn)), (3, .int (nI i))]) hx hb dX0_live_19 rfl hl (by decide) rfl (fun ls hl => ?_)
        refine lv_aload_n hx hb dX0_live_20 rfl (lv_at hl 2 rfl) ?_
        refine lv_dup hx hb dX0_live_21 rfl ?_
        refine va_get (D := G) (ci := 0) (v := .int (co + incS k i)) (C := RX0) (T := TX0) (N := 13) hx hb hts hinX0 hown hK hP 0 rfl rfl 1 (by decide) hf15 (fun _ h9 => h9) rfl dX0_live_22 ?_
        refine lv_iload hx hb dX0_live_25 (lv_at hl 1 rfl) ?_
        refine lv_iadd hx hb dX0_live_27 ?_
        refine tpi (x' := co + incS k (i + 1)) (by rw [Int32.add_assoc]; rfl) ?_
        refine va_put (D := G) (ci := 0) (v := .int (co + incS k (i + 1))) (ty := .int) (C := RX0) (T := TX0) (N := 13) hx hb hts hinX0 tyX0 tyX0_ok nmX0 hown hK hP hD hS 0 rfl rfl 1 (by decide) hf15 (fun _ h9 => h9) rfl (by decide +kernel) rfl rfl (Nat.le_of_ble_eq_true rfl) dX0_live_28 (fun H locs hP hD hS => ?_)
        have hP : va_P G vwCl [((a 0), oC a (mo + nI i) (co + incS k (i + 1)) (le + lftS k i)), ((a 3), iA cI K1), ((a 4), iA cI Q1), ((a 5), iA cI L1), ((a 6), iA cI H1), ((a 7), iA cI M1), ((a 8), iA cI B1), ((a 9), iA cI C1), ((a 10), iA cI D1), ((a 11), iA cI Fa), ((a 12), iA cI W1)] H := hP
        have hD : va_D A [((a 0), oC a (mo + nI i) (co + incS k (i + 1)) (le + lftS k i)), ((a 3), iA cI K1), ((a 4), iA cI Q1), ((a 5), iA cI L1), ((a 6), iA cI H1), ((a 7), iA cI M1), ((a 8), iA cI B1), ((a 9), iA cI C1), ((a 10), iA cI D1), ((a 11), iA cI Fa), ((a 12), iA cI W1)] := hD
        refine lv_aload_n hx hb dX0_live_31 rfl (lv_at hl 2 rfl) ?_
        refine cw_v (wr := []) (va_runV (As := []) (rest := []) FX (c_X0_leaveHouses l G cI a (mo + nI i) (co + incS k (i + 1)) (le + lftS k i) K1 Q1 L1 H1 M1 B1 C1 D1 Fa W1 (itK k i) hK1 hS1.2.2.2.2.2.1 _) (cwV 0 hts gX0_live_X0_leaveHouses rfl rfl rfl (by decide +kernel) ⟨Nat.le_of_ble_eq_true rfl, Nat.le_of_ble_eq_true rfl⟩) (wrV hK hP hD hN [0, 1, 2, 3, 4, 5, 6, 7, 8, 9, 10] (by decide) rfl rfl (ci := 0) (q0 := 0) rfl rfl) rfl rfl hl.1 rfl (lv_room (Nat.le_of_ble_eq_true rfl)) dX0_live_32 ⟨hzc, hzs⟩) hS hP hD hA [0, 1, 2, 3, 4, 5, 6, 7, 8, 9, 10] [] rfl rfl (by decide) (by decide) (fun u H locs hw hP hD hS => ?_)
        obtain ⟨le2, K2⟩ := u
        obtain ⟨hle2, hK2⟩ := hw
        have hP := hP.sub (ws' := [((a 0), oC a (mo + nI i) (co + incS k (i + 1)) le2), ((a 3), iA cI K2), ((a 4), iA cI Q1), ((a 5), iA cI L1), ((a 6), iA cI H1), ((a 7), iA cI M1), ((a 8), iA cI B1), ((a 9), iA cI C1), ((a 10), iA cI D1), ((a 11), iA cI Fa), ((a 12), iA cI W1)]) [0, 1, 2, 3, 4, 5, 6, 7, 8, 9, 10] rfl
        have hD := hD.sub (ws' := [((a 0), oC a (mo + nI i) (co + incS k (i + 1)) le2), ((a 3), iA cI K2), ((a 4), iA cI Q1), ((a 5), iA cI L1), ((a 6), iA cI H1), ((a 7), iA cI M1), ((a 8), iA cI B1), ((a 9), iA cI C1), ((a 10), iA cI D1), ((a 11), iA cI Fa), ((a 12), iA cI W1)]) [0, 1, 2, 3, 4, 5, 6, 7, 8, 9, 10] (by decide) rfl
        have hle2 : le2 = le + lftS k (i + 1) := by rw [show le2 = le + lftS k i + lvN (itK k i) from hle2, Int32.add_assoc]; rfl
        subst hle2
        refine lv_aload_n hx hb dX0_live_35 rfl (lv_at hl 2 rfl) ?_
        refine cw_v (wr := []) (va_runV (As := []) (rest := []) FX (c_X0_sinkLots l G cI a (mo + nI i) (co + incS k (i + 1)) (le + lftS k (i + 1)) K2 Q1 L1 H1 M1 B1 C1 D1 Fa W1 (lv1 (itK k i)) hK2 _) (cwV 0 hts gX0_live_X0_sinkLots rfl rfl rfl (by decide +kernel) ⟨Nat.le_of_ble_eq_true rfl, Nat.le_of_ble_eq_true rfl⟩) (wrV hK hP hD hN [0, 1, 2, 3, 4, 5, 6, 7, 8, 9, 10] (by decide) rfl rfl (ci := 0) (q0 := 0) rfl rfl) rfl rfl hl.1 rfl (lv_room (Nat.le_of_ble_eq_true rfl)) dX0_live_36 ⟨hzc, hzs⟩) hS hP hD hA [0, 1, 2, 3, 4, 5, 6, 7, 8, 9, 10] [] rfl rfl (by decide) (by decide) (fun u H locs hw hP hD hS => ?_)
        obtain ⟨K3, W3⟩ := u
        have hP := hP.sub (ws' := [((a 0), oC a (mo + nI i) (co + incS k (i + 1)) (le + lftS k (i + 1))), ((a 3), iA cI K3), ((a 4), iA cI Q1), ((a 5), iA cI L1), ((a 6), iA cI H1), ((a 7), iA cI M1), ((a 8), iA cI B1), ((a 9), iA cI C1), ((a 10), iA cI D1), ((a 11), iA cI Fa), ((a 12), iA cI W3)]) [0, 1, 2, 3, 4, 5, 6, 7, 8, 9, 10] rfl
        have hD := hD.sub (ws' := [((a 0), oC a (mo + nI i) (co + incS k (i + 1)) (le + lftS k (i + 1))), ((a 3), iA cI K3), ((a 4), iA cI Q1), ((a 5), iA cI L1), ((a 6), iA cI H1), ((a 7), iA cI M1), ((a 8), iA cI B1), ((a 9), iA cI C1), ((a 10), iA cI D1), ((a 11), iA cI Fa), ((a 12), iA cI W3)]) [0, 1, 2, 3, 4, 5, 6, 7, 8, 9, 10] (by decide) rfl
        have hK3 : eqK K3 (itK k (i + 1)) := hw
        refine lv_aload_n hx hb dX0_live_39 rfl (lv_at hl 2 rfl) ?_
        refine cw_v (wr := []) (va_runV (As := []) (rest := []) FX (c_X0_survey l G cI a (mo + nI i) (co + incS k (i + 1)) (le + lftS k (i + 1)) K3 Q1 L1 H1 M1 B1 C1 D1 Fa W3 (itK k (i + 1)) hK3 (wtr_itK hg (i + 1)) _) (cwV 0 hts gX0_live_X0_survey rfl rfl rfl (by decide +kernel) ⟨Nat.le_of_ble_eq_true rfl, Nat.le_of_ble_eq_true rfl⟩) (wrV hK hP hD hN [0, 1, 2, 3, 4, 5, 6, 7, 8, 9, 10] (by decide) rfl rfl (ci := 0) (q0 := 0) rfl rfl) rfl rfl hl.1 rfl (lv_room (Nat.le_of_ble_eq_true rfl)) dX0_live_40 ⟨hzc, hzs⟩) hS hP hD hA [0, 1, 2, 3, 4, 5, 6, 7, 8, 9, 10] [] rfl rfl (by decide) (by decide) (fun u H locs hw hP hD hS => ?_)
        obtain ⟨Q4, L4, H4, M4, B4, C4, D4, W4⟩ := u
        have hP := hP.sub (ws' := [((a 0), oC a (mo + nI i) (co + incS k (i + 1)) (le + lftS k (i + 1))), ((a 3), iA cI K3), ((a 4), iA cI Q4), ((a 5), iA cI L4), ((a 6), iA cI H4), ((a 7), iA cI M4), ((a 8), iA cI B4), ((a 9), iA cI C4), ((a 10), iA cI D4), ((a 11), iA cI Fa), ((a 12), iA cI W4)]) [0, 1, 2, 3, 4, 5, 6, 7, 8, 9, 10] rfl
        have hD := hD.sub (ws' := [((a 0), oC a (mo + nI i) (co + incS k (i + 1)) (le + lftS k (i + 1))), ((a 3), iA cI K3), ((a 4), iA cI Q4), ((a 5), iA cI L4), ((a 6), iA cI H4), ((a 7), iA cI M4), ((a 8), iA cI B4), ((a 9), iA cI C4), ((a 10), iA cI D4), ((a 11), iA cI Fa), ((a 12), iA cI W4)]) [0, 1, 2, 3, 4, 5, 6, 7, 8, 9, 10] (by decide) rfl
        refine lv_aload_n hx hb dX0_live_43 rfl (lv_at hl 2 rfl) ?_
        refine lv_dup hx hb dX0_live_44 rfl ?_
        refine va_get (D := G) (ci := 0) (v := .int (mo + nI i)) (C := RX0) (T := TX0) (N := 13) hx hb hts hinX0 hown hK hP 0 rfl rfl 0 (by decide) hf9 (fun _ h9 => h9) rfl dX0_live_45 ?_
        refine lv_iconst (v := 1) hx hb dX0_live_48 (by decide) ?_
        refine lv_iadd hx hb dX0_live_49 ?_
        refine tpi (x' := mo + nI (i + 1)) (by rw [Int32.add_assoc, nI_1]) ?_
        refine va_put (D := G) (ci := 0) (v := .int (mo + nI (i + 1))) (ty := .int) (C := RX0) (T := TX0) (N := 13) hx hb hts hinX0 tyX0 tyX0_ok nmX0 hown hK hP hD hS 0 rfl rfl 0 (by decide) hf9 (fun _ h9 => h9) rfl (by decide +kernel) rfl rfl (Nat.le_of_ble_eq_true rfl) dX0_live_50 (fun H locs hP hD hS => ?_)
        have hP : va_P G vwCl [((a 0), oC a (mo + nI (i + 1)) (co + incS k (i + 1)) (le + lftS k (i + 1))), ((a 3), iA cI K3), ((a 4), iA cI Q4), ((a 5), iA cI L4), ((a 6), iA cI H4), ((a 7), iA cI M4), ((a 8), iA cI B4), ((a 9), iA cI C4), ((a 10), iA cI D4), ((a 11), iA cI Fa), ((a 12), iA cI W4)] H := hP
        have hD : va_D A [((a 0), oC a (mo + nI (i + 1)) (co + incS k (i + 1)) (le + lftS k (i + 1))), ((a 3), iA cI K3), ((a 4), iA cI Q4), ((a 5), iA cI L4), ((a 6), iA cI H4), ((a 7), iA cI M4), ((a 8), iA cI B4), ((a 9), iA cI C4), ((a 10), iA cI D4), ((a 11), iA cI Fa), ((a 12), iA cI W4)] := hD
        refine lv_iinc (v := nI (i + 1)) (lv' := [(3, .int (nI (i + 1))), (2, .int (incS k (i + 1))), (4, .int (dall (itK k i))), (0, .ref (a 0)), (1, .int (nI mn))]) hx hb dX0_live_53 hl (k := 4) rfl (nI_inc i) (by decide) rfl (fun ls hl => ?_)
        refine lv_goto (tgt := 4) hx hb dX0_live_56 (by decide) ?_
        exact ih_lp (i + 1) K3 Q4 L4 H4 M4 B4 C4 D4 W4 (by omega) (hK3) (hw) (by omega) _ _ _ hP hD hS (lv_sub hl [3, 4, 1, 0] (rfl))
      · skip
        have g9 : i = mn := by omega
        subst g9
        refine lv_icmp_ge (tgt := 59) hx hb dX0_live_6 (by decide) (fun _ => ?_) (fun c => absurd (le_n (n := i) (i := i) (Nat.le_refl i) hmn) c)
        refine lv_iload_n hx hb dX0_live_59 rfl (lv_at hl 2 rfl) ?_
        subst hQ
        subst hAe
        exact wr_i (K1, Q1, L1, H1, M1, B1, C1, D1, W1) (⟨rfl, hK1, hS1⟩) hx hb hr hP hD hS hlocks dX0_live_60
  exact lp (_ + 1) 0 K Qa La Ha Ma Ba Ca Da Wa (by omega) (hk) (hS0) (Nat.lt_succ_self _) _ _ _ hP hD hS (lv_sub hl [2, 3, 1, 0] rfl)
end

/-! sums over places -/
def csum (f : Nat → Int32) : Nat → Int32
  | 0 => 0
  | n + 1 => csum f n + f n
theorem csum_cong {f g : Nat → Int32} : ∀ {n : Nat}, (∀ i, i < n → f i = g i) → csum f n = csum g n
  | 0, _ => rfl
  | n + 1, h => by rw [csum, csum, csum_cong (fun i hi => h i (by omega)), h n (by omega)]
theorem i32_sw (a b c : Int32) : a + b + c = a + c + b := by rw [Int32.add_assoc, Int32.add_comm b c, ← Int32.add_assoc]
theorem csum_add (f g : Nat → Int32) : ∀ n, csum (fun i => f i + g i) n = csum f n + csum g n
  | 0 => (Int32.add_zero 0).symm
  | n + 1 => by
    rw [csum, csum, csum, csum_add f g n]
    rw [Int32.add_assoc, Int32.add_assoc, ← Int32.add_assoc (csum g n), Int32.add_comm (csum g n) (f n), Int32.add_assoc]
theorem csum_zero : ∀ n, csum (fun _ => 0) n = 0
  | 0 => rfl
  | n + 1 => by rw [csum, csum_zero n]; decide
theorem csum_one {x : Int32} {q : Nat} : ∀ {n : Nat}, q < n → csum (fun i => if i = q then x else 0) n = x
  | 0, h => absurd h (Nat.not_lt_zero _)
  | n + 1, h => by
    rw [csum]
    rcases Nat.lt_or_ge q n with g | g
    · rw [csum_one g, if_neg (by omega), Int32.add_zero]
    · have e : q = n := by omega
      subst e
      rw [if_pos rfl, csum_cong (g := fun _ => 0) (fun i hi => if_neg (by omega)), csum_zero, Int32.zero_add]
/-- a row's sum is the sum over the places that it holds -/
theorem csum_row (g : Nat → Int32) (row : Nat → Nat) : ∀ (en : Nat), (∀ i, i < en → row i < 64) → (∀ i j, i < en → j < en → row i = row j → i = j) → ∀ (S : Nat → Bool), (∀ p, S p = true ↔ ∃ i, i < en ∧ row i = p) →
    csum (fun i => g (row i)) en = csum (fun p => if S p then g p else 0) 64
  | 0, _, _, S, hS => by
    have h0 : ∀ p, p < 64 → (if S p then g p else 0) = 0 := fun p _ => by
      cases h : S p with
      | false => rfl
      | true => obtain ⟨i, hi, -⟩ := (hS p).mp h; exact absurd hi (Nat.not_lt_zero _)
    rw [csum_cong (g := fun _ => 0) h0, csum_zero]; rfl
  | en + 1, h1, h2, S, hS => by
    have ih := csum_row g row en (fun i hi => h1 i (by omega)) (fun i j hi hj e => h2 i j (by omega) (by omega) e) (fun p => S p && !decide (p = row en)) (fun p => by
      rw [Bool.and_eq_true, Bool.not_eq_true', decide_eq_false_iff_not, hS]
      constructor
      · rintro ⟨⟨i, hi, e⟩, hne⟩
        rcases Nat.lt_or_ge i en with q | q
        · exact ⟨i, q, e⟩
        · exact absurd (by rw [← e, show i = en by omega]) hne
      · rintro ⟨i, hi, e⟩
        exact ⟨⟨i, by omega, e⟩, fun e2 => absurd (h2 i en (by omega) (by omega) (by rw [e, e2])) (by omega)⟩)
    rw [csum, ih, ← csum_one (x := g (row en)) (h1 en (by omega)), ← csum_add]
    refine csum_cong fun p hp => ?_
    by_cases e : p = row en
    · have hSp : S p = true := (hS p).mpr ⟨en, by omega, e.symm⟩
      subst e
      simp [hSp]
    · cases h : S p <;> simp [e]
/-! quarters -/
theorem qx (K : Nat → Int32) (p : Nat) (h : lnd (K p) = true) : ∃ j, lnd (K j) = true ∧ ∃ n, Wk (PB true K) j n p := ⟨p, h, 0, rfl⟩
noncomputable def qrt (K : Nat → Int32) (p : Nat) : Option Nat :=
  @dite _ (lnd (K p) = true) (instDecidableEqBool _ _) (fun h => some (Classical.choose (pk_least _ (qx K p h)))) (fun _ => none)
theorem qrt_some {K : Nat → Int32} {p j : Nat} : qrt K p = some j ↔ lnd (K p) = true ∧ (lnd (K j) = true ∧ ∃ n, Wk (PB true K) j n p) ∧ ∀ i, i < j → ¬ (lnd (K i) = true ∧ ∃ n, Wk (PB true K) i n p) := by
  unfold qrt
  by_cases h : lnd (K p) = true
  · rw [dif_pos h]
    have hs := Classical.choose_spec (pk_least _ (qx K p h))
    constructor
    · intro e
      cases e
      exact ⟨h, hs⟩
    · rintro ⟨-, h1, h2⟩
      congr 1
      rcases Nat.lt_trichotomy (Classical.choose (pk_least _ (qx K p h))) j with q | q | q
      · exact absurd hs.1 (h2 _ q)
      · exact q
      · exact absurd h1 (hs.2 _ q)
  · rw [dif_neg h]
    exact ⟨fun e => (by cases e), fun e => absurd e.1 h⟩
theorem qrt_none {K : Nat → Int32} {p : Nat} : qrt K p = none ↔ lnd (K p) = false := by
  unfold qrt
  by_cases h : lnd (K p) = true
  · rw [dif_pos h]; rw [h]; exact ⟨fun e => (by cases e), fun e => (by cases e)⟩
  · rw [dif_neg h]; exact ⟨fun _ => Bool.eq_false_iff.mpr h, fun _ => rfl⟩
theorem qrt_le {K : Nat → Int32} {p j : Nat} (h : qrt K p = some j) : j ≤ p := by
  obtain ⟨hp, -, h2⟩ := qrt_some.mp h
  rcases Nat.lt_or_ge p j with q | q
  · exact absurd ⟨hp, 0, rfl⟩ (h2 p q)
  · exact q
/-- two lots of one quarter tell the same -/
theorem qrt_same {K : Nat → Int32} {a p n : Nat} (ha : a < 64) (hl : lnd (K a) = true) (hw : Wk (PB true K) a n p) : qrt K p = qrt K a := by
  have hPa : PB true K a = true := hl
  have hp64 := Wk_lt ha hw
  have hPp : lnd (K p) = true := Wk_P hPa hw
  have hb := Wk_symm ha hPa hw
  cases hq : qrt K a with
  | none => rw [qrt_none, hl] at hq; cases hq
  | some j =>
    obtain ⟨-, ⟨h1, m, h2⟩, h3⟩ := qrt_some.mp hq
    refine qrt_some.mpr ⟨hPp, ⟨h1, m + n, Wk_trans h2 hw⟩, fun i hi => ?_⟩
    rintro ⟨g1, n2, g2⟩
    exact h3 i hi ⟨g1, _, Wk_trans g2 hb⟩
/-- the lots of the quarter whose least lot is a -/
theorem qrt_root {K : Nat → Int32} {a p : Nat} (ha : a < 64) (hq : qrt K a = some a) : qrt K p = some a ↔ (dst (PB true K) a p).isSome = true := by
  have hl : lnd (K a) = true := (qrt_some.mp hq).1
  rw [dst_reach]
  constructor
  · intro h
    exact (qrt_some.mp h).2.1.2
  · rintro ⟨n, hn⟩
    rw [qrt_same ha hl hn]; exact hq
theorem qrt_idem {K : Nat → Int32} {p j : Nat} (hp : p < 64) (h : qrt K p = some j) : qrt K j = some j := by
  obtain ⟨-, ⟨h1, n, h2⟩, -⟩ := qrt_some.mp h
  rw [← qrt_same (by have := qrt_le h; omega) h1 h2]; exact h
/-! what is told -/
def tel (K : Nat → Int32) (v : Int32) (o : Option Nat) : Int32 := match o with
  | some q => if K q = v then 1 else 0
  | none => 0
def nbS (nb : Nat → Nat → Option Nat) (K : Nat → Int32) (v : Int32) (p : Nat) : Nat → Int32
  | 0 => 0
  | s + 1 => nbS nb K v p s + tel K v (nb p s)
def nbk (K : Nat → Int32) (v : Int32) (p : Nat) : Int32 := nbS nbC K v p 4
theorem nbk_R (K : Nat → Int32) (v : Int32) (p : Nat) : nbS nbR K v p 4 = nbk K v p := by
  show 0 + tel K v (nbC p 2) + tel K v (nbC p 1) + tel K v (nbC p 3) + tel K v (nbC p 0) = 0 + tel K v (nbC p 0) + tel K v (nbC p 1) + tel K v (nbC p 2) + tel K v (nbC p 3)
  generalize tel K v (nbC p 0) = a
  generalize tel K v (nbC p 1) = b
  generalize tel K v (nbC p 2) = c
  generalize tel K v (nbC p 3) = d
  rw [Int32.zero_add, Int32.zero_add, i32_sw (c + b) d a, i32_sw c b a, Int32.add_comm c a, i32_sw a c b]
noncomputable def opn (K : Nat → Int32) (p : Nat) : Bool := (dst (PB false K) 3 p).isSome
noncomputable def opo (K : Nat → Int32) (o : Option Nat) : Bool := match o with
  | some q => opn K q
  | none => false
noncomputable def byB (K : Nat → Int32) (p : Nat) : Bool := lnd (K p) && !decide (K p = 6) && (opo K (nbC p 0) || opo K (nbC p 1) || opo K (nbC p 2) || opo K (nbC p 3))
noncomputable def lotsN (K : Nat → Int32) (j : Nat) (n : Nat) : Int32 := csum (fun p => if qrt K p = some j then 1 else 0) n
noncomputable def kindN (K : Nat → Int32) (v : Int32) (j : Nat) (n : Nat) : Int32 := csum (fun p => if qrt K p = some j then (if K p = v then 1 else 0) else 0) n
noncomputable def lotsQ (K : Nat → Int32) (p : Nat) : Int32 := match qrt K p with
  | some j => lotsN K j 64
  | none => 0
noncomputable def kindQ (K : Nat → Int32) (v : Int32) (p : Nat) : Int32 := match qrt K p with
  | some j => kindN K v j 64
  | none => 0
noncomputable def cpl (K : Nat → Int32) (p : Nat) : Int32 := if K p = 3 then (if kindQ K 5 p = 0 then 2 else 0) + nbk K 4 p + (if byB K p then 0 else 1) else 0
noncomputable def due (K : Nat → Int32) (p : Nat) : Int32 := if K p = 3 then (if 0 < 4 - cpl K p then 4 - cpl K p else 0) else if K p = 4 then (if byB K p then 5 else 2) else if K p = 5 then kindQ K 3 p / 2 else 0
def many (K : Nat → Int32) (v : Int32) : Int32 := csum (fun p => if K p = v then 1 else 0) 64
noncomputable def qall (K : Nat → Int32) : Int32 := csum (fun p => if qrt K p = some p then 1 else 0) 64
noncomputable def call (K : Nat → Int32) : Int32 := csum (cpl K) 64
noncomputable def dall (K : Nat → Int32) : Int32 := csum (due K) 64
noncomputable def lft (K : Nat → Int32) (p : Nat) : Bool := decide (K p = 3) && decide (4 ≤ cpl K p)
noncomputable def lv1 (K : Nat → Int32) (p : Nat) : Int32 := if lft K p then 2 else K p
noncomputable def lvN (K : Nat → Int32) : Int32 := csum (fun p => if lft K p then 1 else 0) 64
noncomputable def sk1 (K : Nat → Int32) (p : Nat) : Int32 := if K p = 2 ∧ 3 ≤ nbk K 0 p then 0 else K p
noncomputable def mon (K : Nat → Int32) : Nat → Int32 := sk1 (lv1 K)
noncomputable def itK (K : Nat → Int32) : Nat → (Nat → Int32)
  | 0 => K
  | n + 1 => mon (itK K n)
noncomputable def incS (K : Nat → Int32) (n : Nat) : Int32 := csum (fun i => dall (itK K i)) n
noncomputable def lftS (K : Nat → Int32) (n : Nat) : Int32 := csum (fun i => lvN (itK K i)) n
/-- the numbers that count tells -/
noncomputable def tot (K : Nat → Int32) (mo co le : Int32) (w : Int32) : Int32 := if w = 0 then mo else if w = 1 then co else if w = 9 then qall K else if w = 10 then call K else if w = 11 then dall K else if w = 12 then le else many K (w - 2)
noncomputable def fct (K : Nat → Int32) (p : Nat) (w : Int32) : Int32 := if w = 0 then K p else if w = 1 then toI (qrt K p) else if w = 2 then lotsQ K p else if w = 3 then b2i (byB K p || opn K p) else if w = 4 then cpl K p else due K p
/-- kinds are 0 to 6, and the sea gate is water -/
def kd (x : Int32) : Prop := 0 ≤ x ∧ x ≤ 6
def KOK (K : Nat → Int32) : Prop := (∀ p, p < 64 → kd (K p)) ∧ wtr (K 3) = true
/-- all that a survey finds -/
def hatQ (k Q : Nat → Int32) : Prop := ∀ p, p < 64 → Q p = toI (qrt k p)
def hatL (k L : Nat → Int32) : Prop := ∀ p, p < 64 → L p = lotsN k p 64
def hatV (k : Nat → Int32) (v : Int32) (F : Nat → Int32) : Prop := ∀ p, p < 64 → F p = kindN k v p 64
def hatB (k B : Nat → Int32) : Prop := ∀ p, p < 64 → B p = toI (dst (PB false k) 3 p)
def hatC (k C : Nat → Int32) : Prop := ∀ p, p < 64 → C p = cpl k p
def hatD (k D : Nat → Int32) : Prop := ∀ p, p < 64 → D p = due k p
def eqK (K k : Nat → Int32) : Prop := ∀ p, p < 64 → K p = k p
def SVd (k Q L Ho Ma B C D : Nat → Int32) : Prop := hatQ k Q ∧ hatL k L ∧ hatV k 3 Ho ∧ hatV k 5 Ma ∧ hatB k B ∧ hatC k C ∧ hatD k D
theorem toI_neg {o : Option Nat} (h : ∀ q, o = some q → q < 2 ^ 31) : toI o < 0 ↔ o = none := by
  cases o with
  | none => exact ⟨fun _ => rfl, fun _ => by decide⟩
  | some q => exact ⟨fun g => absurd g (nI_pos (h q rfl)), fun g => by cases g⟩
theorem dst_lt {P : Nat → Bool} {a p d : Nat} (ha : a < 64) (h : dst P a p = some d) : d < 64 := by
  have hw := dst_some.mp h
  -- every shorter way ends at a lot of its own
  refine Classical.byContradiction fun hge => ?_
  have key : ∀ n q, Wk P a n q → ∀ m, m ≤ n → ∃ r, Wk P a m r ∧ ∀ j, Wk P a j r → Wk P a (j + (n - m)) q := by
    intro n
    induction n with
    | zero => intro q hq m hm; exact ⟨q, by rw [show m = 0 by omega]; exact hq, fun j hj => by rw [show j + (0 - m) = j by omega]; exact hj⟩
    | succ n ih =>
      intro q hq m hm
      rcases Nat.lt_or_ge n m with g | g
      · exact ⟨q, by rw [show m = n + 1 by omega]; exact hq, fun j hj => by rw [show j + (n + 1 - m) = j by omega]; exact hj⟩
      · obtain ⟨hP, r, hr, hrq⟩ := hq
        obtain ⟨x, hx, hx2⟩ := ih r hr m g
        exact ⟨x, hx, fun j hj => by rw [show j + (n + 1 - m) = j + (n - m) + 1 by omega]; exact ⟨hP, r, hx2 j hj, hrq⟩⟩
  have hch : ∀ m, ∃ r, m ≤ d → Wk P a m r ∧ ∀ j, Wk P a j r → Wk P a (j + (d - m)) p := fun m => by
    by_cases hm : m ≤ d
    · obtain ⟨r, h1, h2⟩ := key d p hw.1 m hm
      exact ⟨r, fun _ => ⟨h1, h2⟩⟩
    · exact ⟨0, fun h => absurd h hm⟩
  have hf : ∀ m, m ≤ d → Wk P a m (Classical.choose (hch m)) ∧ ∀ j, Wk P a j (Classical.choose (hch m)) → Wk P a (j + (d - m)) p := fun m => Classical.choose_spec (hch m)
  have := fb_holes 64 (d + 1) (fun m => Classical.choose (hch m)) (fun i hi => Wk_lt ha (hf i (by omega)).1) (fun i j hij hj e => by
    have h1 := (hf j (by omega)).2 i (by
      have e : Classical.choose (hch i) = Classical.choose (hch j) := e
      rw [← e]; exact (hf i (by omega)).1)
    exact hw.2 (i + (d - j)) (by omega) h1)
  omega

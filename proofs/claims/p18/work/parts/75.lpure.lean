/-! the law's facts: numbers -/
theorem kd_cases {x : Int32} (h : kd x) : x = 0 ∨ x = 1 ∨ x = 2 ∨ x = 3 ∨ x = 4 ∨ x = 5 ∨ x = 6 := by
  obtain ⟨v, hv, rfl⟩ := kd_nat h
  rcases (show v = 0 ∨ v = 1 ∨ v = 2 ∨ v = 3 ∨ v = 4 ∨ v = 5 ∨ v = 6 by omega) with rfl | rfl | rfl | rfl | rfl | rfl | rfl
  · exact Or.inl rfl
  · exact Or.inr (Or.inl rfl)
  · exact Or.inr (Or.inr (Or.inl rfl))
  · exact Or.inr (Or.inr (Or.inr (Or.inl rfl)))
  · exact Or.inr (Or.inr (Or.inr (Or.inr (Or.inl rfl))))
  · exact Or.inr (Or.inr (Or.inr (Or.inr (Or.inr (Or.inl rfl)))))
  · exact Or.inr (Or.inr (Or.inr (Or.inr (Or.inr (Or.inr rfl)))))
theorem kd_lnd {x : Int32} (h : kd x) (h2 : ¬ x < 2) : lnd x = true := by
  unfold lnd
  rw [decide_eq_true (Int32.not_lt.mp h2), decide_eq_true h.2]; rfl
theorem lnd_2 {x : Int32} (h : lnd x = true) : ¬ x < 2 ∧ ¬ x ≤ 1 ∧ 1 < x := by
  unfold lnd at h
  rw [Bool.and_eq_true, decide_eq_true_eq] at h
  have h1 : (1 : Int32) < x := Int32.lt_of_lt_of_le (by decide) h.1
  exact ⟨Int32.not_lt.mpr h.1, Int32.not_le.mpr h1, h1⟩
theorem lnd_of1 {x : Int32} (h : kd x) (h1 : 1 < x) : lnd x = true := by
  rcases kd_cases h with rfl | rfl | rfl | rfl | rfl | rfl | rfl
  · exact absurd h1 (by decide)
  · exact absurd h1 (by decide)
  all_goals decide
theorem cs_ind {f : Nat → Int32} (h : ∀ i, f i = 0 ∨ f i = 1) : ∀ n : Nat, ∃ m : Nat, m ≤ n ∧ csum f n = nI m ∧ (m = 0 ↔ ∀ i, i < n → f i = 0)
  | 0 => ⟨0, Nat.le_refl _, rfl, ⟨fun _ i hi => absurd hi (Nat.not_lt_zero _), fun _ => rfl⟩⟩
  | n + 1 => by
    obtain ⟨m, h1, h2, h3⟩ := cs_ind h n
    have hs : csum f (n + 1) = csum f n + f n := rfl
    rcases h n with e | e
    · refine ⟨m, by omega, by rw [hs, e, h2, Int32.add_zero], ?_⟩
      rw [h3]
      constructor
      · intro g i hi
        rcases Nat.lt_or_ge i n with q | q
        · exact g i q
        · rw [show i = n by omega]; exact e
      · exact fun g i hi => g i (by omega)
    · refine ⟨m + 1, by omega, by rw [hs, e, h2]; exact nI_add m 1, ?_⟩
      constructor
      · intro g; omega
      · intro g; exact absurd ((g n (Nat.lt_succ_self n)).symm.trans e) (by decide)
theorem ite01 {c : Prop} {hd : Decidable c} : (@ite _ c hd (1 : Int32) 0) = 0 ∨ (@ite _ c hd (1 : Int32) 0) = 1 := by
  by_cases h : c
  · rw [if_pos h]; exact Or.inr rfl
  · rw [if_neg h]; exact Or.inl rfl
theorem lotsN_nat (k : Nat → Int32) (j : Nat) : ∃ n : Nat, n ≤ 64 ∧ lotsN k j 64 = nI n ∧ (n = 0 ↔ ∀ i, i < 64 → ¬ qrt k i = some j) := by
  obtain ⟨m, h1, h2, h3⟩ := cs_ind (f := fun p => if qrt k p = some j then (1 : Int32) else 0) (fun i => ite01) 64
  refine ⟨m, h1, h2, ?_⟩
  rw [h3]
  constructor
  · intro g i hi e
    have := g i hi
    rw [if_pos e] at this
    exact absurd this (by decide)
  · intro g i hi
    exact if_neg (g i hi)
theorem ql_none {k : Nat → Int32} {p : Nat} (h : lnd (k p) = false) : toI (qrt k p) = -1 ∧ lotsQ k p = 0 := by
  have e := qrt_none.mpr h
  unfold lotsQ
  rw [e]
  exact ⟨rfl, rfl⟩
theorem ql_some {k : Nat → Int32} {p : Nat} (hp : p < 64) (h : lnd (k p) = true) : ∃ j n : Nat, j ≤ p ∧ 0 < n ∧ n ≤ 64 ∧ qrt k p = some j ∧ lotsQ k p = nI n ∧ lotsN k j 64 = nI n := by
  cases hq : qrt k p with
  | none => rw [qrt_none, h] at hq; cases hq
  | some j =>
    obtain ⟨n, h1, h2, h3⟩ := lotsN_nat k j
    refine ⟨j, n, qrt_le hq, ?_, h1, rfl, ?_, h2⟩
    · rcases Nat.eq_zero_or_pos n with e | e
      · exact absurd hq (h3.mp e p hp)
      · exact e
    · unfold lotsQ
      rw [hq]
      exact h2
theorem of_cases (k : Nat → Int32) {j : Nat} (hj : j < 64) : (lotsN k j 64 = 0 ∧ ¬ qrt k j = some j) ∨ ∃ n : Nat, 0 < n ∧ n ≤ 64 ∧ lotsN k j 64 = nI n ∧ qrt k j = some j ∧ lotsQ k j = nI n := by
  obtain ⟨n, h1, h2, h3⟩ := lotsN_nat k j
  rcases Nat.eq_zero_or_pos n with e | e
  · exact Or.inl ⟨by rw [h2, e]; rfl, h3.mp e j hj⟩
  · refine Or.inr ⟨n, e, h1, h2, ?_⟩
    have hex : ∃ i, i < 64 ∧ qrt k i = some j := Classical.byContradiction (fun hn => by
      have : n = 0 := h3.mpr (fun i hi hq => hn ⟨i, hi, hq⟩)
      omega)
    obtain ⟨i, hi, hq⟩ := hex
    have hr := qrt_idem hi hq
    refine ⟨hr, ?_⟩
    unfold lotsQ
    rw [hr]
    exact h2
theorem op_land {k : Nat → Int32} {p : Nat} (hgt : wtr (k 3) = true) (h : wtr (k p) = false) : opn k p = false := by
  rw [Bool.eq_false_iff]
  intro e
  obtain ⟨n, hn⟩ := dst_reach.mp e
  have hw : PB false k p = true := Wk_P (P := PB false k) (a := 3) hgt hn
  have hw : wtr (k p) = true := hw
  rw [h] at hw
  cases hw
theorem by_no {k : Nat → Int32} {p : Nat} (h : lnd (k p) = false ∨ k p = 6) : byB k p = false := by
  unfold byB
  rcases h with e | e
  · rw [e]; rfl
  · rw [decide_eq_true e]
    cases lnd (k p) <;> rfl
theorem f0 {k : Nat → Int32} {p : Nat} : fct k p 0 = k p := rfl
theorem f1 {k : Nat → Int32} {p : Nat} : fct k p 1 = toI (qrt k p) := rfl
theorem f2 {k : Nat → Int32} {p : Nat} : fct k p 2 = lotsQ k p := rfl
theorem f3 {k : Nat → Int32} {p : Nat} : fct k p 3 = b2i (byB k p || opn k p) := rfl
theorem f4 {k : Nat → Int32} {p : Nat} : fct k p 4 = cpl k p := rfl
theorem f5 {k : Nat → Int32} {p : Nat} : fct k p 5 = due k p := rfl
theorem due_no {k : Nat → Int32} {p : Nat} (h3 : ¬ k p = 3) (h4 : ¬ k p = 4) (h5 : ¬ k p = 5) : due k p = 0 := by
  unfold due
  rw [if_neg h3, if_neg h4, if_neg h5]
theorem cpl_house {k : Nat → Int32} {p : Nat} (h : k p = 3) (hb : byB k p = false) : ∃ c : Nat, 0 < c ∧ c ≤ 7 ∧ cpl k p = nI c := by
  obtain ⟨a, ha, ea⟩ := isN_nbk k 4 p
  unfold cpl
  rw [if_pos h, hb, ea]
  by_cases g : kindQ k 5 p = 0
  · rw [if_pos g]
    exact ⟨2 + a + 1, by omega, by omega, by rw [show (2 : Int32) = nI 2 from rfl, nI_add, if_neg (by decide), show (1 : Int32) = nI 1 from rfl, nI_add]⟩
  · rw [if_neg g]
    exact ⟨0 + a + 1, by omega, by omega, by rw [show (0 : Int32) = nI 0 from rfl, nI_add, if_neg (by decide), show (1 : Int32) = nI 1 from rfl, nI_add]⟩
theorem cpl_nat (k : Nat → Int32) (p : Nat) : ∃ c : Nat, c ≤ 7 ∧ cpl k p = nI c := isN_cpl k p
theorem due_house {k : Nat → Int32} {p : Nat} (h : k p = 3) : due k p = if (0 : Int32) < 4 - cpl k p then 4 - cpl k p else 0 := by
  unfold due
  rw [if_pos h]
theorem due_work {k : Nat → Int32} {p : Nat} (h : k p = 4) : due k p = if byB k p then 5 else 2 := by
  unfold due
  rw [if_neg (by rw [h]; decide), if_pos h]
theorem due_nat (k : Nat → Int32) (p : Nat) : ∃ d : Nat, d ≤ 32 ∧ due k p = nI d := isN_due k p
/-! neighbours -/
theorem adj_r {i : Nat} (h : i % 8 < 7) : Adj i (i + 1) := ⟨2, by decide, by simp only [nbC]; rw [if_pos h]⟩
theorem adj_d {i : Nat} (h : i ≤ 55) : Adj i (i + 8) := ⟨3, by decide, by simp only [nbC]; rw [if_pos (by omega)]⟩
theorem nb_q {k : Nat → Int32} {a b : Nat} (ha : a < 64) (h : Adj a b) (h1 : lnd (k a) = true) (h2 : lnd (k b) = true) : qrt k a = qrt k b := (qrt_same (n := 1) ha h1 ⟨h2, a, rfl, h⟩).symm
theorem nb_walk {k : Nat → Int32} {a b : Nat} (h : Adj a b) (hne : a ≠ b) (h2 : lnd (k b) = true) : toI (dst (PB true k) a b) = 1 := by
  have e : dst (PB true k) a b = some 1 := dst_some.mpr ⟨⟨h2, a, rfl, h⟩, fun n hn hw => by
    have e : n = 0 := by omega
    subst e
    exact hne (Eq.symm hw)⟩
  rw [e]
  rfl
theorem nb_1 {k : Nat → Int32} {a b d : Nat} (h : Adj a b) (h2 : wtr (k b) = true) (hd : dst (PB false k) 3 a = some d) : ∃ e, e ≤ d + 1 ∧ dst (PB false k) 3 b = some e := by
  have hw : Wk (PB false k) 3 (d + 1) b := ⟨h2, a, (dst_some.mp hd).1, h⟩
  cases hb : dst (PB false k) 3 b with
  | none => exact absurd hw (dst_none.mp hb _)
  | some e =>
    refine ⟨e, ?_, rfl⟩
    rcases Nat.lt_or_ge (d + 1) e with q | q
    · exact absurd hw ((dst_some.mp hb).2 _ q)
    · exact q
theorem nb_opn {k : Nat → Int32} {a b : Nat} (ha : a < 64) (h : Adj a b) (h1 : wtr (k a) = true) (h2 : wtr (k b) = true) : opn k a = opn k b := by
  unfold opn
  cases hd : dst (PB false k) 3 a with
  | some d =>
    obtain ⟨e, -, he⟩ := nb_1 h h2 hd
    rw [he]; rfl
  | none =>
    cases he : dst (PB false k) 3 b with
    | none => rfl
    | some e =>
      obtain ⟨d, -, hd2⟩ := nb_1 (Adj_symm ha h) h1 he
      rw [hd] at hd2
      cases hd2
theorem nb_sail {k : Nat → Int32} {a b : Nat} (ha : a < 64) (h : Adj a b) (h1 : wtr (k a) = true) (h2 : wtr (k b) = true) : toI (dst (PB false k) 3 a) - toI (dst (PB false k) 3 b) = -1 ∨ toI (dst (PB false k) 3 a) - toI (dst (PB false k) 3 b) = 0 ∨ toI (dst (PB false k) 3 a) - toI (dst (PB false k) 3 b) = 1 := by
  cases hd : dst (PB false k) 3 a with
  | some d =>
    obtain ⟨e, l1, he⟩ := nb_1 h h2 hd
    obtain ⟨d2, l2, hd2⟩ := nb_1 (Adj_symm ha h) h1 he
    rw [hd] at hd2
    cases hd2
    have hdl := dst_lt (by decide) hd
    have hel := dst_lt (by decide) he
    rw [he]
    have key : (nI d - nI e).toInt = (d : Int) - e := pk_sub_toInt (by omega) (by omega)
    show nI d - nI e = -1 ∨ nI d - nI e = 0 ∨ nI d - nI e = 1
    rcases (show d + 1 = e ∨ d = e ∨ d = e + 1 by omega) with q | q | q
    · exact Or.inl (Int32.toInt_inj.mp (by rw [key, show (-1 : Int32).toInt = -1 from rfl]; omega))
    · exact Or.inr (Or.inl (Int32.toInt_inj.mp (by rw [key, show (0 : Int32).toInt = 0 from rfl]; omega)))
    · exact Or.inr (Or.inr (Int32.toInt_inj.mp (by rw [key, show (1 : Int32).toInt = 1 from rfl]; omega)))
  | none =>
    cases he : dst (PB false k) 3 b with
    | none => exact Or.inr (Or.inl rfl)
    | some e =>
      obtain ⟨d, -, hd2⟩ := nb_1 (Adj_symm ha h) h1 he
      rw [hd] at hd2
      cases hd2
theorem nb_boat {k : Nat → Int32} {a b : Nat} (ha : a < 64) (h : Adj a b) (ho : opn k a = true) (h2 : lnd (k b) = true) (h6 : ¬ k b = 6) : byB k b = true := by
  obtain ⟨s, hs, he⟩ := Adj_symm ha h
  have hoo : opo k (nbC b s) = true := by rw [he]; exact ho
  unfold byB
  rw [h2, decide_eq_false h6]
  match s, hs with
  | 0, _ => rw [hoo]; rfl
  | 1, _ => rw [hoo]; cases opo k (nbC b 0) <;> rfl
  | 2, _ => rw [hoo]; cases opo k (nbC b 0) <;> cases opo k (nbC b 1) <;> rfl
  | 3, _ => rw [hoo]; cases opo k (nbC b 0) <;> cases opo k (nbC b 1) <;> cases opo k (nbC b 2) <;> rfl
  | s + 4, hs => exact absurd hs (by omega)
/-! the best -/
theorem bsc_fin (k : Nat → Int32) (v : Int32) : ∀ n : Nat, n ≤ 64 → ((∀ i, i < n → ¬ k i = 2) ∧ bsc k v n = (-1, 0)) ∨ ∃ j, j < n ∧ k j = 2 ∧ bsc k v n = (nI j, dall (upd k j v)) ∧ ∀ i, i < n → k i = 2 → dall (upd k i v) ≤ dall (upd k j v) ∧ (dall (upd k i v) = dall (upd k j v) → j ≤ i)
  | 0, _ => Or.inl ⟨fun i hi => absurd hi (Nat.not_lt_zero _), rfl⟩
  | n + 1, hn => by
    by_cases hk : k n = 2
    · rcases bsc_fin k v n (by omega) with ⟨h1, h2⟩ | ⟨j, hj, hkj, h2, h3⟩
      · refine Or.inr ⟨n, Nat.lt_succ_self n, hk, bsc_take hk (Or.inl (by rw [h2]; decide)), fun i hi hki => ?_⟩
        rcases Nat.lt_or_ge i n with q | q
        · exact absurd hki (h1 i q)
        · rw [show i = n by omega]; exact ⟨Int32.le_refl _, fun _ => Nat.le_refl _⟩
      · by_cases hlt : dall (upd k j v) < dall (upd k n v)
        · refine Or.inr ⟨n, Nat.lt_succ_self n, hk, bsc_take hk (Or.inr (by rw [h2]; exact hlt)), fun i hi hki => ?_⟩
          rcases Nat.lt_or_ge i n with q | q
          · have hij := Int32.lt_of_le_of_lt (h3 i q hki).1 hlt
            exact ⟨Int32.le_of_lt hij, fun e => by rw [e] at hij; exact absurd hij Int32.lt_irrefl⟩
          · rw [show i = n by omega]; exact ⟨Int32.le_refl _, fun _ => Nat.le_refl _⟩
        · refine Or.inr ⟨j, by omega, hkj, by rw [bsc_keep hk (by rw [h2]; exact nI_pos (by omega)) (by rw [h2]; exact hlt), h2], fun i hi hki => ?_⟩
          rcases Nat.lt_or_ge i n with q | q
          · exact h3 i q hki
          · rw [show i = n by omega]; exact ⟨Int32.not_lt.mp hlt, fun _ => by omega⟩
    · rcases bsc_fin k v n (by omega) with ⟨h1, h2⟩ | ⟨j, hj, hkj, h2, h3⟩
      · refine Or.inl ⟨fun i hi => ?_, by rw [bsc_skip hk, h2]⟩
        rcases Nat.lt_or_ge i n with q | q
        · exact h1 i q
        · rw [show i = n by omega]; exact hk
      · refine Or.inr ⟨j, by omega, hkj, by rw [bsc_skip hk, h2], fun i hi hki => ?_⟩
        rcases Nat.lt_or_ge i n with q | q
        · exact h3 i q hki
        · rw [show i = n by omega] at hki; exact absurd hki hk
theorem wd_gt {k : Nat → Int32} {v : Int32} {i j : Nat} (h : dall (upd k i v) ≤ dall (upd k j v)) : ¬ dall (upd k j v) - dall k < dall (upd k i v) - dall k := by
  obtain ⟨a, ha, ea⟩ := isN_dall (upd k i v)
  obtain ⟨b, hb, eb⟩ := isN_dall (upd k j v)
  obtain ⟨d, hd, ed⟩ := isN_dall k
  rw [ea, eb] at h ⊢
  rw [ed, Int32.lt_iff_toInt_lt, pk_sub_toInt (by omega) (by omega), pk_sub_toInt (by omega) (by omega)]
  have := (nI_leI (a := a) (b := b) (by omega) (by omega)).mp h
  omega
theorem wd_eq {k : Nat → Int32} {v : Int32} {i j : Nat} (h : dall (upd k i v) - dall k = dall (upd k j v) - dall k) : dall (upd k i v) = dall (upd k j v) := by
  obtain ⟨a, ha, ea⟩ := isN_dall (upd k i v)
  obtain ⟨b, hb, eb⟩ := isN_dall (upd k j v)
  obtain ⟨d, hd, ed⟩ := isN_dall k
  rw [ea, eb, ed] at h
  rw [ea, eb]
  have h2 := congrArg Int32.toInt h
  rw [pk_sub_toInt (by omega) (by omega), pk_sub_toInt (by omega) (by omega)] at h2
  rw [show a = b by omega]
/-! a month -/
theorem pAt_i {i : Nat} (h : i < 64) : pAt (nI (i % 8)) (nI (i / 8)) = i := by
  rw [pAt_nI (by omega) (by omega)]
  omega
theorem lv1_0 (k : Nat → Int32) (q : Nat) : lv1 k q = 0 ↔ k q = 0 := by
  unfold lv1
  by_cases h : lft k q = true
  · rw [if_pos h]
    unfold lft at h
    rw [Bool.and_eq_true, decide_eq_true_eq] at h
    rw [h.1]
    decide
  · rw [if_neg h]
theorem tel_0 (k : Nat → Int32) (o : Option Nat) : tel (lv1 k) 0 o = tel k 0 o := by
  cases o with
  | none => rfl
  | some q =>
    show (if lv1 k q = 0 then (1 : Int32) else 0) = if k q = 0 then 1 else 0
    by_cases h : k q = 0
    · rw [if_pos h, if_pos ((lv1_0 k q).mpr h)]
    · rw [if_neg h, if_neg (fun e => h ((lv1_0 k q).mp e))]
theorem nbk_lv (k : Nat → Int32) (p : Nat) : nbk (lv1 k) 0 p = nbk k 0 p := by
  show 0 + tel (lv1 k) 0 (nbC p 0) + tel (lv1 k) 0 (nbC p 1) + tel (lv1 k) 0 (nbC p 2) + tel (lv1 k) 0 (nbC p 3) = 0 + tel k 0 (nbC p 0) + tel k 0 (nbC p 1) + tel k 0 (nbC p 2) + tel k 0 (nbC p 3)
  rw [tel_0, tel_0, tel_0, tel_0]
theorem nbk_law (k : Nat → Int32) (p : Nat) : 0 + tel k 0 (nbC p 1) + tel k 0 (nbC p 2) + tel k 0 (nbC p 0) + tel k 0 (nbC p 3) = nbk k 0 p := by
  show _ = 0 + tel k 0 (nbC p 0) + tel k 0 (nbC p 1) + tel k 0 (nbC p 2) + tel k 0 (nbC p 3)
  generalize tel k 0 (nbC p 0) = a
  generalize tel k 0 (nbC p 1) = b
  generalize tel k 0 (nbC p 2) = c
  generalize tel k 0 (nbC p 3) = d
  rw [Int32.zero_add, Int32.zero_add, Int32.add_comm (b + c) a, ← Int32.add_assoc]
theorem mon_house {k : Nat → Int32} {p : Nat} (h : lft k p = true ∨ k p = 2) : mon k p = if 3 ≤ nbk k 0 p then 0 else 2 := by
  have e : lv1 k p = 2 := by
    unfold lv1
    by_cases g : lft k p = true
    · rw [if_pos g]
    · rw [if_neg g]; exact h.resolve_left g
  show sk1 (lv1 k) p = _
  unfold sk1
  rw [e, nbk_lv]
  by_cases g : (3 : Int32) ≤ nbk k 0 p
  · rw [if_pos ⟨rfl, g⟩, if_pos g]
  · rw [if_neg (fun x => g x.2), if_neg g]
theorem mon_else {k : Nat → Int32} {p : Nat} (h : lft k p = false) (h2 : ¬ k p = 2) : mon k p = k p := by
  have e : lv1 k p = k p := by
    unfold lv1
    rw [h]
    exact if_neg (by decide)
  show sk1 (lv1 k) p = _
  unfold sk1
  rw [e, if_neg (fun x => h2 x.1)]
theorem lft_of {k : Nat → Int32} {p : Nat} (h : 4 ≤ cpl k p) : lft k p = true ∧ k p = 3 := by
  by_cases h3 : k p = 3
  · exact ⟨by unfold lft; rw [decide_eq_true h3, decide_eq_true h]; rfl, h3⟩
  · rw [cpl_no h3] at h
    exact absurd h (by decide)
theorem lft_not {k : Nat → Int32} {p : Nat} (h : ¬ 4 ≤ cpl k p) : lft k p = false := by
  unfold lft
  rw [decide_eq_false h]
  exact Bool.and_false _
theorem tot_1 {k : Nat → Int32} {mo co le : Int32} : tot k mo co le 1 = co := rfl
theorem tot_9 {k : Nat → Int32} {mo co le : Int32} : tot k mo co le 9 = qall k := rfl
theorem tot_10 {k : Nat → Int32} {mo co le : Int32} : tot k mo co le 10 = call k := rfl
theorem tot_11 {k : Nat → Int32} {mo co le : Int32} : tot k mo co le 11 = dall k := rfl
theorem tot_12 {k : Nat → Int32} {mo co le : Int32} : tot k mo co le 12 = le := rfl
theorem tot_k {k : Nat → Int32} {mo co le : Int32} {v : Nat} (h : v < 7) : tot k mo co le (nI (2 + v)) = many k (nI v) := by
  rcases (show v = 0 ∨ v = 1 ∨ v = 2 ∨ v = 3 ∨ v = 4 ∨ v = 5 ∨ v = 6 by omega) with rfl | rfl | rfl | rfl | rfl | rfl | rfl <;> rfl

def ILm (hk en cd lm : Int32) (f g s : Nat → Int32) : Prop := ∃ (H E n m : Nat) (t c : Nat → Nat), okV H E n m t c ∧ isL H E n m t c hk en cd lm f g ∧ isS H E n m t c s
theorem ILm.s {hk en cd lm : Int32} {f g s s' : Nat → Int32} (h : ILm hk en cd lm f g s) (hs : ∀ i, i < 24 → s' i = s i) : ILm hk en cd lm f g s' := by
  obtain ⟨H, E, n, m, t, c, ho, hl, h0, h1, h2, h3, h4, h5⟩ := h
  have hE := ho.2.1.2
  have hn := ho.2.2.1.2
  exact ⟨H, E, n, m, t, c, ho, hl, by rw [hs 0 (by omega), h0], by rw [hs 1 (by omega), h1], by rw [hs 2 (by omega), h2], by rw [hs 3 (by omega), h3], fun e he => by rw [hs (4 + e) (by omega), h4 e he], fun i hi => by rw [hs (16 + i) (by omega), h5 i hi]⟩
theorem ILm.l {hk en cd lm : Int32} {f g f' g' s : Nat → Int32} (h : ILm hk en cd lm f g s) (hf : ∀ i, i < 12 → f' i = f i) (hg : ∀ i, i < 8 → g' i = g i) : ILm hk en cd lm f' g' s := by
  obtain ⟨H, E, n, m, t, c, ho, ⟨h0, h1, h2, h3, h4, h5⟩, hs⟩ := h
  have hE := ho.2.1.2
  have hn := ho.2.2.1.2
  exact ⟨H, E, n, m, t, c, ho, ⟨h0, h1, h2, h3, fun e he => by rw [hf e (by omega), h4 e he], fun i hi => by rw [hg i (by omega), h5 i hi]⟩, hs⟩
theorem bec (a b c d : Int32) (e f : Nat → Int32) (hk en cd lm : Int32) (f1 g1 : Nat → Int32) : ∃ f2 g2, fX2_become a b c d e f hk en cd lm f1 g1 = some (hk, en, cd, lm, f2, g2) ∧ (∀ i, i < 12 → f2 i = f1 i) ∧ ∀ i, i < 8 → g2 i = g1 i := by
  refine ⟨_, _, rfl, fun i hi => ?_, fun i hi => ?_⟩
  · show va_cpy f1 e 0 0 12 i = f1 i
    rw [pk_cpy_in (Nat.zero_le _) (by omega)]
    congr 1
    omega
  · show va_cpy g1 f 0 0 8 i = g1 i
    rw [pk_cpy_in (Nat.zero_le _) (by omega)]
    congr 1
    omega
/-- what is known, by how late it was: the ring's place, and the row's -/
def ri (x j : Nat) : Nat := (x + 5 - j) % 6
def IHi (known next : Int32) (gh ge gc gl : Nat → Int32) (gf gg : Nat → Nat → Int32) (undos : Int32) (past : Nat → Int32) : Prop :=
  ∃ k x : Nat, k ≤ 6 ∧ x < 6 ∧ known = nI k ∧ next = nI x ∧ undos = nI k ∧ ∀ j, j < k → ILm (gh (ri x j)) (ge (ri x j)) (gc (ri x j)) (gl (ri x j)) (gf (ri x j)) (gg (ri x j)) (fun i => past (24 * (k - 1 - j) + i))
theorem notes1 (K : (Nat → Int32) → Option (Int32 × (Nat → Int32))) (p : Nat → Int32) : fX7_notes_L11 K FU 0 p = K (fun i => if i < 120 then p (i + 24) else p i) := by
  have e120 : (120 : Int32) = nI 120 := by decide
  have e24 : (24 : Int32) = nI 24 := by decide
  rw [← nI_0]
  refine lo2 (F := fX7_notes_L11 K) (a := nI) (b := fun v => fun i => if i < v then p (i + 24) else p i) (E := 120) ?_ ?_ 120 0 FU (by omega) (by decide)
  · intro k j hj
    rw [fX7_notes_L11, e120, if_neg (nI_ge hj (by decide)), e24, nI_add, gd_t (ixt (by omega) (by decide)), gd_t (ixt (by omega) (by decide)), nI_clamp (by omega), nI_clamp (by omega), nI_1]
    congr 1
    funext i
    unfold upd
    by_cases h1 : i = j
    · subst h1
      rw [if_pos rfl, if_neg (by omega), if_pos (by omega)]
    · rw [if_neg h1]
      show (if i < j then p (i + 24) else p i) = (if i < j + 1 then p (i + 24) else p i)
      by_cases h2 : i < j
      · rw [if_pos h2, if_pos (by omega)]
      · rw [if_neg h2, if_neg (by omega)]
  · intro k
    rw [fX7_notes_L11, e120, if_pos (nI_le (Nat.le_refl _) (by decide))]
theorem notes2 (K : (Nat → Int32) → Option (Int32 × (Nat → Int32))) (u : Nat) (hu : u < 6) (s p : Nat → Int32) : fX7_notes_L50 K (nI u) s FU 0 p = K (fun i => if 24 * u ≤ i ∧ i < 24 * u + 24 then s (i - 24 * u) else p i) := by
  have e24 : (24 : Int32) = nI 24 := by decide
  rw [← nI_0]
  have z := lo2 (F := fX7_notes_L50 K (nI u) s) (a := nI) (b := fun v => fun i => if 24 * u ≤ i ∧ i < 24 * u + v then s (i - 24 * u) else p i) (E := 24) (r := K (fun i => if 24 * u ≤ i ∧ i < 24 * u + 24 then s (i - 24 * u) else p i)) ?_ ?_ 24 0 FU (by omega) (by decide)
  · refine Eq.trans ?_ z
    congr 1
    funext i
    rw [if_neg (by omega)]
  · intro k j hj
    rw [fX7_notes_L50, e24, if_neg (nI_ge hj (by decide)), gd_t (ixt (by omega) (by decide)), pk_mul, nI_add, gd_t (ixt (by omega) (by decide)), nI_clamp (by omega), nI_clamp (by omega), nI_1]
    congr 1
    funext i
    unfold upd
    by_cases h1 : i = 24 * u + j
    · subst h1
      rw [if_pos rfl, if_pos (by omega)]
      congr 1
      omega
    · rw [if_neg h1]
      show (if 24 * u ≤ i ∧ i < 24 * u + j then s (i - 24 * u) else p i) = (if 24 * u ≤ i ∧ i < 24 * u + (j + 1) then s (i - 24 * u) else p i)
      by_cases h2 : 24 * u ≤ i ∧ i < 24 * u + j
      · rw [if_pos h2, if_pos (by omega)]
      · rw [if_neg h2, if_neg (by omega)]
  · intro k
    rw [fX7_notes_L50, e24, if_pos (nI_le (Nat.le_refl _) (by decide))]
theorem rem_ok {hk en cd lm : Int32} {f g s : Nat → Int32} {known next undos : Int32} {gh ge gc gl : Nat → Int32} {gf gg : Nat → Nat → Int32} {past : Nat → Int32} (hl : ILm hk en cd lm f g s) (hh : IHi known next gh ge gc gl gf gg undos past) :
    ∃ r r2, fX0_remember known next gh ge gc gl gf gg hk en cd lm f g = some r ∧ fX7_notes undos s past = some r2 ∧ IHi r.1 r.2.1 r.2.2.1 r.2.2.2.1 r.2.2.2.2.1 r.2.2.2.2.2.1 r.2.2.2.2.2.2.1 r.2.2.2.2.2.2.2 r2.1 r2.2 := by
  obtain ⟨k, x, hk6, hx6, rfl, rfl, rfl, hh⟩ := hh
  have e6 : (6 : Int32) = nI 6 := by decide
  have e1 : (1 : Int32) = nI 1 := by decide
  obtain ⟨f2, g2, hb, hf2, hg2⟩ := bec (gh x) (ge x) (gc x) (gl x) (gf x) (gg x) hk en cd lm f g
  have hL := hl.l hf2 hg2
  have hn : (if (6 : Int32) ≤ nI x + 1 then (0 : Int32) else nI x + 1) = nI ((x + 1) % 6) := by
    rw [nI_1, e6]
    by_cases h : 6 ≤ x + 1
    · rw [if_pos (nI_le h (by omega)), show (x + 1) % 6 = 0 by omega]; exact nI_0.symm
    · rw [if_neg (nI_ge (by omega) (by decide)), Nat.mod_eq_of_lt (by omega)]
  have hm : (if (6 : Int32) < nI k + 1 then (6 : Int32) else nI k + 1) = nI (if k = 6 then 6 else k + 1) := by
    rw [nI_1, e6]
    by_cases h : k = 6
    · rw [if_pos h, if_pos (nI_lt (by omega) (by omega))]
    · rw [if_neg h, if_neg (nI_nlt (by omega) (by omega))]
  have hrem : fX0_remember (nI k) (nI x) gh ge gc gl gf gg hk en cd lm f g = some (nI (if k = 6 then 6 else k + 1), nI ((x + 1) % 6), va_up gh x hk, va_up ge x en, va_up gc x cd, va_up gl x lm, va_up gf x f2, va_up gg x g2) := by
    rw [fX0_remember]
    simp only [jn]
    rw [if_neg (nI_pos (by omega)), if_neg (by rw [e6]; exact nI_ge hx6 (by decide)), gd_t (ixt hx6 (by decide)), nI_clamp (by omega), hb, some_bind, ← hn, ← hm]
    by_cases h : (6 : Int32) ≤ nI x + 1
    · rw [if_pos h, if_pos h]
    · rw [if_neg h, if_neg h]
  have hri : ∀ j, j + 1 < 6 → ri ((x + 1) % 6) (j + 1) = ri x j ∧ ri x j ≠ x := by
    intro j hj
    unfold ri
    omega
  have hr0 : ri ((x + 1) % 6) 0 = x := by unfold ri; omega
  by_cases h6 : k = 6
  · subst h6
    refine ⟨_, (nI 6, fun i => if 24 * 5 ≤ i ∧ i < 24 * 5 + 24 then s (i - 24 * 5) else (if i < 120 then past (i + 24) else past i)), hrem, ?_, 6, (x + 1) % 6, by omega, by omega, by rw [if_pos rfl], rfl, rfl, fun j hj => ?_⟩
    · rw [fX7_notes]
      simp only [jn]
      rw [e6, if_pos rfl, notes1, show nI 6 - 1 = nI 5 from nI_pred 5, notes2 _ 5 (by omega), nI_1]
    · show ILm (va_up gh x hk (ri ((x + 1) % 6) j)) (va_up ge x en (ri ((x + 1) % 6) j)) (va_up gc x cd (ri ((x + 1) % 6) j)) (va_up gl x lm (ri ((x + 1) % 6) j)) (va_up gf x f2 (ri ((x + 1) % 6) j)) (va_up gg x g2 (ri ((x + 1) % 6) j)) _
      cases j with
      | zero =>
        rw [hr0]
        simp only [va_up_self]
        refine hL.s (fun i hi => ?_)
        rw [if_pos (by omega)]
        exact congrArg s (by omega)
      | succ j =>
        obtain ⟨q1, q2⟩ := hri j (by omega)
        rw [q1]
        simp only [va_up_ne _ _ q2]
        refine (hh j (by omega)).s (fun i hi => ?_)
        rw [if_neg (by omega), if_pos (by omega)]
        exact congrArg past (by omega)
  · refine ⟨_, (nI (k + 1), fun i => if 24 * k ≤ i ∧ i < 24 * k + 24 then s (i - 24 * k) else past i), hrem, ?_, k + 1, (x + 1) % 6, by omega, by omega, by rw [if_neg h6], rfl, rfl, fun j hj => ?_⟩
    · rw [fX7_notes]
      simp only [jn]
      rw [e6, if_neg (fun z => h6 ((nI_eq (by omega) (by decide)).mp z)), notes2 _ k (by omega), nI_1]
    · show ILm (va_up gh x hk (ri ((x + 1) % 6) j)) (va_up ge x en (ri ((x + 1) % 6) j)) (va_up gc x cd (ri ((x + 1) % 6) j)) (va_up gl x lm (ri ((x + 1) % 6) j)) (va_up gf x f2 (ri ((x + 1) % 6) j)) (va_up gg x g2 (ri ((x + 1) % 6) j)) _
      cases j with
      | zero =>
        rw [hr0]
        simp only [va_up_self]
        refine hL.s (fun i hi => ?_)
        rw [if_pos (by omega)]
        exact congrArg s (by omega)
      | succ j =>
        obtain ⟨q1, q2⟩ := hri j (by omega)
        rw [q1]
        simp only [va_up_ne _ _ q2]
        refine (hh j (by omega)).s (fun i hi => ?_)
        rw [if_neg (by omega)]
        exact congrArg past (by omega)

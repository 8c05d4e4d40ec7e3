theorem jb {R : Type} {G : Int32 → R} {q : Prop} [Decidable q] (u : Nat → Bool) {j : Nat} (hj : j < 31) (hq : q ↔ u j = false) : (if q then G (nI (bo u j) ||| 0) else G (nI (bo u j) ||| ((1 : Int32) <<< (nI j &&& 31)))) = G (nI (bo u (j + 1))) := by
  rw [← bo_or u hj]
  by_cases h : q
  · rw [if_pos h, if_neg (by rw [hq.mp h]; decide)]
  · have h2 : u j = true := by
      cases hu : u j with
      | true => rfl
      | false => exact absurd (hq.mpr hu) h
    rw [if_neg h, if_pos h2]
theorem jb' {R : Type} {G : Int32 → R} {q : Prop} [Decidable q] (u : Nat → Bool) {j : Nat} (hj : j < 31) (hq : q ↔ u j = true) : (if q then G (nI (bo u j) ||| ((1 : Int32) <<< (nI j &&& 31))) else G (nI (bo u j) ||| 0)) = G (nI (bo u (j + 1))) := by
  rw [← bo_or u hj]
  by_cases h : q
  · rw [if_pos h, if_pos (hq.mp h)]
  · rw [if_neg h, if_neg (fun z => h (hq.mpr z))]
theorem imax {a b : Nat} (ha : a < 2 ^ 31) (hb : b < 2 ^ 31) : (if nI a < nI b then nI b else nI a) = nI (if a < b then b else a) := by
  by_cases h : a < b
  · rw [if_pos h, if_pos ((nI_ltI ha hb).mpr h)]
  · rw [if_neg h, if_neg (fun z => h ((nI_ltI ha hb).mp z))]
theorem jmax {R : Type} {G : Int32 → R} {a b : Nat} (ha : a < 2 ^ 31) (hb : b < 2 ^ 31) : (if nI b ≤ nI a then G (nI a) else G (nI b)) = G (nI (if a < b then b else a)) := by
  by_cases h : a < b
  · rw [if_pos h, if_neg (fun z => by have := (nI_leI hb ha).mp z; omega)]
  · rw [if_neg h, if_pos ((nI_leI hb ha).mpr (by omega))]
/-- the most of a row's neighbours that are down, and those at its end -/
def acr (u : Nat → Bool) : Nat → Nat × Nat
  | 0 => (0, 0)
  | j + 1 => (if (acr u j).1 < (if u j then 0 else (acr u j).2 + 1) then (if u j then 0 else (acr u j).2 + 1) else (acr u j).1, if u j then 0 else (acr u j).2 + 1)
theorem acr_le (u : Nat → Bool) : ∀ j, (acr u j).1 ≤ j ∧ (acr u j).2 ≤ j
  | 0 => ⟨Nat.le_refl _, Nat.le_refl _⟩
  | j + 1 => by
    have h := acr_le u j
    simp only [acr]
    constructor
    · split <;> split <;> omega
    · split <;> omega
theorem acr_cong {u v : Nat → Bool} : ∀ {j : Nat}, (∀ k, k < j → u k = v k) → acr u j = acr v j
  | 0, _ => rfl
  | j + 1, h => by rw [acr, acr, acr_cong (fun k hk => h k (by omega)), h j (by omega)]
def alr (u : Nat → Bool) : Nat → Nat × Nat
  | 0 => (0, 0)
  | j + 1 => (if (alr u j).1 < (if 0 < j ∧ u j = u (j - 1) then (alr u j).2 + 1 else 1) then (if 0 < j ∧ u j = u (j - 1) then (alr u j).2 + 1 else 1) else (alr u j).1, if 0 < j ∧ u j = u (j - 1) then (alr u j).2 + 1 else 1)
theorem alr_le (u : Nat → Bool) : ∀ j, (alr u j).1 ≤ j ∧ (alr u j).2 ≤ j
  | 0 => ⟨Nat.le_refl _, Nat.le_refl _⟩
  | j + 1 => by
    have h := alr_le u j
    simp only [alr]
    constructor
    · split <;> split <;> omega
    · split <;> omega
theorem alr_cong {u v : Nat → Bool} : ∀ {j : Nat}, (∀ k, k < j → u k = v k) → alr u j = alr v j
  | 0, _ => rfl
  | j + 1, h => by
    rw [alr, alr, alr_cong (fun k hk => h k (by omega)), h j (by omega)]
    by_cases hj : 0 < j
    · rw [h (j - 1) (by omega)]
    · simp [hj]
def alg (u : Nat → Bool) (n : Nat) : Nat := if (alr u (2 * n)).1 = 2 * n then 99 else (alr u (2 * n)).1
theorem alg_lt {u : Nat → Bool} {n : Nat} (hn : n ≤ 8) : alg u n < 100 := by
  have h := (alr_le u (2 * n)).1
  unfold alg
  split <;> omega
/-- is it so of one of the d last ones below E -/
def an (p : Nat → Bool) (E : Nat) : Nat → Bool
  | 0 => false
  | d + 1 => p (E - (d + 1)) || an p E d
theorem an_step {p : Nat → Bool} {E j : Nat} (h : j < E) : an p E (E - j) = (p j || an p E (E - (j + 1))) := by
  rw [show E - j = (E - (j + 1)) + 1 by omega, an, show E - (E - (j + 1) + 1) = j by omega]
theorem an_0 {p : Nat → Bool} {E : Nat} : an p E (E - E) = false := by rw [Nat.sub_self]; rfl
theorem an_cong {p q : Nat → Bool} {E : Nat} (h : ∀ k, k < E → p k = q k) : ∀ {d : Nat}, d ≤ E → an p E d = an q E d
  | 0, _ => rfl
  | d + 1, hd => by rw [an, an, an_cong h (by omega), h _ (by omega)]
theorem an_iff {p : Nat → Bool} {E : Nat} : ∀ {d : Nat}, d ≤ E → (an p E d = true ↔ ∃ k, E - d ≤ k ∧ k < E ∧ p k = true)
  | 0, _ => by
    constructor
    · intro h; cases h
    · rintro ⟨k, h1, h2, -⟩; omega
  | d + 1, hd => by
    rw [an, Bool.or_eq_true, an_iff (d := d) (by omega)]
    constructor
    · rintro (h | ⟨k, h1, h2, h3⟩)
      · exact ⟨_, Nat.le_refl _, by omega, h⟩
      · exact ⟨k, by omega, h2, h3⟩
    · rintro ⟨k, h1, h2, h3⟩
      by_cases hk : k = E - (d + 1)
      · subst hk; exact Or.inl h3
      · exact Or.inr ⟨k, by omega, h2, h3⟩
/-- the first of the d last ones below E of which it is so, else E -/
def fi (p : Nat → Bool) (E : Nat) : Nat → Nat
  | 0 => E
  | d + 1 => if p (E - (d + 1)) then E - (d + 1) else fi p E d
theorem fi_step {p : Nat → Bool} {E j : Nat} (h : j < E) : fi p E (E - j) = if p j then j else fi p E (E - (j + 1)) := by
  rw [show E - j = (E - (j + 1)) + 1 by omega, fi, show E - (E - (j + 1) + 1) = j by omega]
theorem fi_0 {p : Nat → Bool} {E : Nat} : fi p E (E - E) = E := by rw [Nat.sub_self]; rfl
theorem fi_cong {p q : Nat → Bool} {E : Nat} (h : ∀ k, k < E → p k = q k) : ∀ {d : Nat}, d ≤ E → fi p E d = fi q E d
  | 0, _ => rfl
  | d + 1, hd => by rw [fi, fi, fi_cong h (by omega), h _ (by omega)]
def ct (u : Nat → Bool) : Nat → Nat
  | 0 => 0
  | j + 1 => ct u j + (if u j then 1 else 0)
theorem ct_le (u : Nat → Bool) : ∀ j, ct u j ≤ j
  | 0 => Nat.le_refl _
  | j + 1 => by
    have h := ct_le u j
    rw [ct]
    split <;> omega
theorem ct_cong {u v : Nat → Bool} : ∀ {j : Nat}, (∀ k, k < j → u k = v k) → ct u j = ct v j
  | 0, _ => rfl
  | j + 1, h => by rw [ct, ct, ct_cong (fun k hk => h k (by omega)), h j (by omega)]
section P81
variable {H E n m : Nat} {t c : Nat → Nat} {hk en cd lm : Int32} {f g s : Nat → Int32}
theorem cUpEnds (ho : okV H E n m t c) (hl : isL H E n m t c hk en cd lm f g) {i : Nat} (hi : i < n) : fX2_upEnds en cd f g (nI i) = some (nI (bo (fun e => (c i).testBit (t e)) E)) := by
  obtain ⟨-, rfl, -, -, -, -⟩ := id hl
  have hE := ho.2.1.2
  rw [fX2_upEnds, ← nI_0]
  refine lo2 (F := fX2_upEnds_L4 _ _ _ _ _ _) (a := fun j => nI (bo (fun e => (c i).testBit (t e)) j)) (b := nI) (E := E) ?_ ?_ E 0 FU (by omega) (fu_lt (by omega))
  · intro k j hj
    rw [fX2_upEnds_L4, if_neg (nI_ge hj (by omega)), cUp ho hl hi hj, some_bind, nI_1]
    exact jb (G := fun x => fX2_upEnds_L4 _ _ _ _ _ _ k x (nI (j + 1))) (fun e => (c i).testBit (t e)) (by omega) b2i_0
  · intro k
    rw [fX2_upEnds_L4, if_pos (nI_le (Nat.le_refl _) (by omega))]
theorem mUpIn (ho : okV H E n m t c) (hs : isS H E n m t c s) {r : Nat} (hr : r < 2 ^ 30) : fX7_upIn s (nI r) = some (nI (bo (fun e => (c (r % n)).testBit (t e)) E)) := by
  have q1 := hs.2.1
  have hE := ho.2.1.2
  rw [fX7_upIn, ← nI_0]
  refine lo2 (F := fX7_upIn_L4 _ _ _) (a := fun j => nI (bo (fun e => (c (r % n)).testBit (t e)) j)) (b := nI) (E := E) ?_ ?_ E 0 FU (by omega) (fu_lt (by omega))
  · intro k j hj
    rw [fX7_upIn_L4, q1, if_neg (nI_ge hj (by omega)), mUp ho hs hr hj, some_bind, nI_1]
    exact jb (G := fun x => fX7_upIn_L4 _ _ _ k x (nI (j + 1))) (fun e => (c (r % n)).testBit (t e)) (by omega) b2i_0
  · intro k
    rw [fX7_upIn_L4, q1, if_pos (nI_le (Nat.le_refl _) (by omega))]
theorem cUpRows (ho : okV H E n m t c) (hl : isL H E n m t c hk en cd lm f g) {e : Nat} (he : e < E) : fX2_upRows en cd f g (nI e) = some (nI (bo (fun i => (c i).testBit (t e)) n)) := by
  obtain ⟨-, -, rfl, -, -, -⟩ := id hl
  have hE := ho.2.2.1.2
  rw [fX2_upRows, ← nI_0]
  refine lo2 (F := fX2_upRows_L4 _ _ _ _ _ _) (a := fun j => nI (bo (fun i => (c i).testBit (t e)) j)) (b := nI) (E := n) ?_ ?_ n 0 FU (by omega) (fu_lt (by omega))
  · intro k j hj
    rw [fX2_upRows_L4, if_neg (nI_ge hj (by omega)), cUp ho hl hj he, some_bind, nI_1]
    exact jb (G := fun x => fX2_upRows_L4 _ _ _ _ _ _ k x (nI (j + 1))) (fun i => (c i).testBit (t e)) (by omega) b2i_0
  · intro k
    rw [fX2_upRows_L4, if_pos (nI_le (Nat.le_refl _) (by omega))]
theorem mRowsOf (ho : okV H E n m t c) (hs : isS H E n m t c s) {e : Nat} (he : e < E) : fX7_rowsOf s (nI e) = some (nI (bo (fun i => (c i).testBit (t e)) n)) := by
  have q2 := hs.2.2.1
  have hE := ho.2.2.1.2
  rw [fX7_rowsOf, ← nI_0]
  refine lo2 (F := fX7_rowsOf_L4 _ _ _) (a := fun j => nI (bo (fun i => (c i).testBit (t e)) j)) (b := nI) (E := n) ?_ ?_ n 0 FU (by omega) (fu_lt (by omega))
  · intro k j hj
    rw [fX7_rowsOf_L4, q2, if_neg (nI_ge hj (by omega)), mUp ho hs (by omega) he, some_bind, nI_1, Nat.mod_eq_of_lt hj]
    exact jb (G := fun x => fX7_rowsOf_L4 _ _ _ k x (nI (j + 1))) (fun i => (c i).testBit (t e)) (by omega) b2i_0
  · intro k
    rw [fX7_rowsOf_L4, q2, if_pos (nI_le (Nat.le_refl _) (by omega))]
theorem cAcross (ho : okV H E n m t c) (hl : isL H E n m t c hk en cd lm f g) {i : Nat} (hi : i < n) : fX2_across en cd f g (nI i) = some (nI (acr (fun e => (c i).testBit (t e)) E).1) := by
  obtain ⟨-, rfl, -, -, -, -⟩ := id hl
  have hE := ho.2.1.2
  rw [fX2_across, ← nI_0]
  refine lo3 (F := fX2_across_L7 _ _ _ _ _ _) (a := fun j => nI (acr (fun e => (c i).testBit (t e)) j).1) (b := fun j => nI (acr (fun e => (c i).testBit (t e)) j).2) (c := nI) (E := E) ?_ ?_ E 0 FU (by omega) (fu_lt (by omega))
  · intro k j hj
    have hb := acr_le (fun e => (c i).testBit (t e)) j
    rw [fX2_across_L7, if_neg (nI_ge hj (by omega)), cUp ho hl hi hj, some_bind, nI_1, nI_1]
    simp only [jn, acr]
    by_cases hu : (c i).testBit (t j) = true
    · rw [if_neg (fun z => by rw [hu] at z; exact absurd z (by decide)), if_pos hu, ← nI_0, imax (by omega) (by omega)]
    · have hx : (c i).testBit (t j) = false := by simpa using hu
      rw [if_pos (b2i_0.mpr hx), if_neg hu, imax (by omega) (by omega)]
  · intro k
    rw [fX2_across_L7, if_pos (nI_le (Nat.le_refl _) (by omega))]
theorem mAcross (ho : okV H E n m t c) (hs : isS H E n m t c s) {r : Nat} (hr : r < 2 ^ 30) : fX7_across s (nI r) = some (nI (acr (fun e => (c (r % n)).testBit (t e)) E).1) := by
  have q1 := hs.2.1
  have hE := ho.2.1.2
  rw [fX7_across, ← nI_0]
  refine lo3 (F := fX7_across_L7 _ _ _) (a := fun j => nI (acr (fun e => (c (r % n)).testBit (t e)) j).1) (b := fun j => nI (acr (fun e => (c (r % n)).testBit (t e)) j).2) (c := nI) (E := E) ?_ ?_ E 0 FU (by omega) (fu_lt (by omega))
  · intro k j hj
    have hb := acr_le (fun e => (c (r % n)).testBit (t e)) j
    rw [fX7_across_L7, q1, if_neg (nI_ge hj (by omega)), mUp ho hs hr hj, some_bind, nI_1, nI_1]
    simp only [jn, acr]
    by_cases hu : (c (r % n)).testBit (t j) = true
    · rw [if_neg (fun z => by rw [hu] at z; exact absurd z (by decide)), if_pos hu, ← nI_0, jmax (G := fun x => fX7_across_L7 _ _ _ k x _ _) (by omega) (by omega)]
    · have hx : (c (r % n)).testBit (t j) = false := by simpa using hu
      rw [if_pos (b2i_0.mpr hx), if_neg hu, jmax (G := fun x => fX7_across_L7 _ _ _ k x _ _) (by omega) (by omega)]
  · intro k
    rw [fX7_across_L7, q1, if_pos (nI_le (Nat.le_refl _) (by omega))]
end P81

theorem bo_0 {u : Nat → Bool} : ∀ {j : Nat}, bo u j = 0 ↔ ∀ k, k < j → u k = false
  | 0 => ⟨fun _ k hk => absurd hk (Nat.not_lt_zero k), fun _ => rfl⟩
  | j + 1 => by
    rw [bo]
    constructor
    · intro h k hk
      have h1 : bo u j = 0 := by omega
      by_cases hkj : k = j
      · subst hkj
        cases hu : u k with
        | false => rfl
        | true =>
          rw [hu, if_pos rfl] at h
          have := Nat.two_pow_pos k
          omega
      · exact bo_0.mp h1 k (by omega)
    · intro h
      rw [bo_0.mpr (fun k hk => h k (by omega)), h j (by omega)]
      rfl
theorem bo_an {u : Nat → Bool} {j : Nat} : bo u j = 0 ↔ an u j j = false := by
  rw [bo_0]
  constructor
  · intro h
    cases ha : an u j j with
    | false => rfl
    | true =>
      obtain ⟨k, -, h2, h3⟩ := (an_iff (Nat.le_refl j)).mp ha
      rw [h k h2] at h3
      cases h3
  · intro h k hk
    cases hu : u k with
    | false => rfl
    | true =>
      have h2 := (an_iff (p := u) (Nat.le_refl j)).mpr ⟨k, by omega, hk, hu⟩
      rw [h] at h2
      cases h2
theorem nI_0iff {a : Nat} (h : a < 2 ^ 31) : nI a = 0 ↔ a = 0 := by rw [← nI_0]; exact nI_eq h (by decide)
def pC (E m : Nat) (t c : Nat → Nat) (i : Nat) : Bool := decide (m < (acr (fun e => (c i).testBit (t e)) E).1)
def pE (n m : Nat) (t c : Nat → Nat) (e : Nat) : Bool := decide (m < alg (fun r => (c (r % n)).testBit (t e)) n)
def fine (E n m : Nat) (t c : Nat → Nat) : Bool := !an (pC E m t c) n n && !an (pE n m t c) E E
def alx (u : Nat → Bool) (j : Nat) : Nat := if 0 < j ∧ u j = u (j - 1) then (alr u j).2 + 1 else 1
theorem alr1 (u : Nat → Bool) (j : Nat) : (alr u (j + 1)).1 = (if (alr u j).1 < alx u j then alx u j else (alr u j).1) := rfl
theorem alr2 (u : Nat → Bool) (j : Nat) : (alr u (j + 1)).2 = alx u j := rfl
theorem alx_t {u : Nat → Bool} {j : Nat} (h : u j = u (j - 1)) : alx u j = (alr u j).2 + 1 := by
  cases j with
  | zero => rfl
  | succ j => exact if_pos ⟨Nat.succ_pos j, h⟩
theorem alx_f {u : Nat → Bool} {j : Nat} (h : ¬ u j = u (j - 1)) : alx u j = 1 := if_neg (fun z => h z.2)
theorem alx_z (u : Nat → Bool) : alx u 0 = 1 := rfl
section P82
variable {H E n m : Nat} {t c : Nat → Nat} {hk en cd lm : Int32} {f g s : Nat → Int32}
theorem cRow (hn : 1 ≤ n) (hn8 : n ≤ 8) {r : Nat} (hr : r < 2 ^ 30) : fX2_cardOfRow (nI n) (nI r) = some (nI (r % n)) := by
  rw [fX2_cardOfRow, if_neg (nI_pos (by omega)), if_neg (nI_nle (by omega) (by omega)), gd_t (nzt (by omega) (by omega)), pk_rem (by omega) (by omega) (by omega)]
theorem cAlong (ho : okV H E n m t c) (hl : isL H E n m t c hk en cd lm f g) {e : Nat} (he : e < E) : fX2_along en cd f g (nI e) = some (nI (alg (fun r => (c (r % n)).testBit (t e)) n)) := by
  have hn := ho.2.2.1
  have h0 := cUp ho hl (i := 0) (by omega) he
  obtain ⟨-, -, rfl, -, -, -⟩ := id hl
  have e2 : (2 : Int32) * nI n = nI (2 * n) := by
    have : (2 : Int32) = nI 2 := by decide
    rw [this, pk_mul]
  have e1 : (1 : Int32) = nI 1 := by decide
  rw [nI_0] at h0
  rw [fX2_along, h0, some_bind, e2]
  have key : ∀ k : Int32 → Option Int32, fX2_along_L23 k en (nI n) f g (nI e) (nI (2 * n)) FU (b2i ((c 0).testBit (t e))) 1 1 1 = k (nI (alr (fun r => (c (r % n)).testBit (t e)) (2 * n)).1) := by
    intro k
    have z := lo4 (F := fX2_along_L23 k en (nI n) f g (nI e) (nI (2 * n))) (a := fun j => b2i ((c ((j - 1) % n)).testBit (t e))) (b := fun j => nI (alr (fun r => (c (r % n)).testBit (t e)) j).1) (c := fun j => nI (alr (fun r => (c (r % n)).testBit (t e)) j).2) (d' := nI) (E := 2 * n) (r := k (nI (alr (fun r => (c (r % n)).testBit (t e)) (2 * n)).1)) ?_ ?_ (2 * n - 1) 1 FU (by omega) (fu_lt (by omega))
    · rw [e1]
      simpa [alr, Nat.zero_mod] using z
    · intro q j hj
      have hb := alr_le (fun r => (c (r % n)).testBit (t e)) j
      have hjn : j % n < n := Nat.mod_lt _ (by omega)
      rw [fX2_along_L23, if_neg (nI_ge hj (by omega)), cRow (by omega) (by omega) (by omega), some_bind, cUp ho hl hjn he, some_bind, nI_1, nI_1]
      simp only [jn, b2i_inj, Nat.add_sub_cancel]
      rw [alr1, alr2]
      by_cases hu : (c (j % n)).testBit (t e) = (c ((j - 1) % n)).testBit (t e)
      · rw [if_pos hu, imax (by omega) (by omega), alx_t (u := fun r => (c (r % n)).testBit (t e)) hu]
      · rw [if_neg hu, e1, imax (by omega) (by omega), alx_f (u := fun r => (c (r % n)).testBit (t e)) hu]
    · intro q
      rw [fX2_along_L23, if_pos (nI_le (Nat.le_refl _) (by omega))]
  rw [key]
  have hb := (alr_le (fun r => (c (r % n)).testBit (t e)) (2 * n)).1
  unfold alg
  by_cases h : (alr (fun r => (c (r % n)).testBit (t e)) (2 * n)).1 = 2 * n
  · rw [if_pos h, if_pos (by rw [h])]
    rfl
  · rw [if_neg h, if_neg (fun z => h ((nI_eq (by omega) (by omega)).mp z))]
theorem mAlong (ho : okV H E n m t c) (hs : isS H E n m t c s) {e : Nat} (he : e < E) : fX7_along s (nI e) = some (nI (alg (fun r => (c (r % n)).testBit (t e)) n)) := by
  have hn := ho.2.2.1
  have q2 := hs.2.2.1
  have e2 : (2 : Int32) * nI n = nI (2 * n) := by
    have : (2 : Int32) = nI 2 := by decide
    rw [this, pk_mul]
  have e1 : (1 : Int32) = nI 1 := by decide
  have key : ∀ k : Int32 → Option Int32, fX7_along_L7 k s (nI e) FU 0 0 0 = k (nI (alr (fun r => (c (r % n)).testBit (t e)) (2 * n)).1) := by
    intro k
    rw [← nI_0]
    refine lo3 (F := fX7_along_L7 k s (nI e)) (a := fun j => nI (alr (fun r => (c (r % n)).testBit (t e)) j).1) (b := fun j => nI (alr (fun r => (c (r % n)).testBit (t e)) j).2) (c := nI) (E := 2 * n) ?_ ?_ (2 * n) 0 FU (by omega) (fu_lt (by omega))
    · intro q j hj
      have hb := alr_le (fun r => (c (r % n)).testBit (t e)) j
      rw [fX7_along_L7, q2, e2, if_neg (nI_ge hj (by omega))]
      simp only [jn]
      rw [alr1, alr2]
      by_cases hj0 : 0 < j
      · obtain ⟨i, rfl⟩ : ∃ i, j = i + 1 := ⟨j - 1, by omega⟩
        rw [if_neg (nI_nle (by omega) (by omega)), mUp ho hs (by omega) he, some_bind, nI_pred, mUp ho hs (by omega) he, some_bind, nI_1, nI_1]
        simp only [b2i_inj]
        by_cases hu : (c ((i + 1) % n)).testBit (t e) = (c (i % n)).testBit (t e)
        · rw [if_pos hu, jmax (G := fun x => fX7_along_L7 k s (nI e) q x _ _) (by omega) (by omega), alx_t (u := fun r => (c (r % n)).testBit (t e)) (j := i + 1) hu]
        · rw [if_neg hu, e1, jmax (G := fun x => fX7_along_L7 k s (nI e) q x _ _) (by omega) (by omega), alx_f (u := fun r => (c (r % n)).testBit (t e)) (j := i + 1) hu]
      · obtain rfl : j = 0 := by omega
        rw [if_pos (by decide), nI_1, e1, jmax (G := fun x => fX7_along_L7 k s (nI e) q x _ _) (by omega) (by omega), alx_z]
    · intro q
      rw [fX7_along_L7, q2, e2, if_pos (nI_le (Nat.le_refl _) (by omega))]
  rw [fX7_along, key, q2, e2]
  have hb := (alr_le (fun r => (c (r % n)).testBit (t e)) (2 * n)).1
  unfold alg
  by_cases h : (alr (fun r => (c (r % n)).testBit (t e)) (2 * n)).1 = 2 * n
  · rw [if_pos h, if_pos (by rw [h])]
    rfl
  · rw [if_neg h, if_neg (fun z => h ((nI_eq (by omega) (by omega)).mp z))]
theorem lim_iff {a : Nat} (ha : a < 2 ^ 31) (hm : m < 2 ^ 31) : nI a ≤ nI m ↔ decide (m < a) = false := by
  rw [nI_leI ha hm]
  simp
theorem cLongCards (ho : okV H E n m t c) (hl : isL H E n m t c hk en cd lm f g) : fX2_longCards en cd lm f g = some (nI (bo (pC E m t c) n)) := by
  obtain ⟨-, -, rfl, rfl, -, -⟩ := id hl
  have hE := ho.2.1.2
  have hn := ho.2.2.1
  have hm := ho.2.2.2.1
  rw [fX2_longCards, ← nI_0]
  refine lo2 (F := fX2_longCards_L4 _ _ _ _ _ _) (a := fun j => nI (bo (pC E m t c) j)) (b := nI) (E := n) ?_ ?_ n 0 FU (by omega) (fu_lt (by omega))
  · intro k j hj
    have hb := (acr_le (fun e => (c j).testBit (t e)) E).1
    rw [fX2_longCards_L4, if_neg (nI_ge hj (by omega)), cAcross ho hl hj, some_bind, nI_1]
    exact jb (G := fun x => fX2_longCards_L4 _ _ _ _ _ _ k x (nI (j + 1))) (pC E m t c) (by omega) (lim_iff (by omega) (by omega))
  · intro k
    rw [fX2_longCards_L4, if_pos (nI_le (Nat.le_refl _) (by omega))]
theorem mLongCards (ho : okV H E n m t c) (hs : isS H E n m t c s) : fX7_longCards s = some (nI (bo (pC E m t c) n)) := by
  have q2 := hs.2.2.1
  have q3 := hs.2.2.2.1
  have hE := ho.2.1.2
  have hn := ho.2.2.1
  have hm := ho.2.2.2.1
  rw [fX7_longCards, ← nI_0]
  refine lo2 (F := fX7_longCards_L4 _ _) (a := fun j => nI (bo (pC E m t c) j)) (b := nI) (E := n) ?_ ?_ n 0 FU (by omega) (fu_lt (by omega))
  · intro k j hj
    have hb := (acr_le (fun e => (c j).testBit (t e)) E).1
    rw [fX7_longCards_L4, q2, if_neg (nI_ge hj (by omega)), mAcross ho hs (by omega), some_bind, nI_1, q3, Nat.mod_eq_of_lt hj]
    exact jb (G := fun x => fX7_longCards_L4 _ _ k x (nI (j + 1))) (pC E m t c) (by omega) (lim_iff (by omega) (by omega))
  · intro k
    rw [fX7_longCards_L4, q2, if_pos (nI_le (Nat.le_refl _) (by omega))]
theorem cLongEnds (ho : okV H E n m t c) (hl : isL H E n m t c hk en cd lm f g) : fX2_longEnds en cd lm f g = some (nI (bo (pE n m t c) E)) := by
  obtain ⟨-, rfl, -, rfl, -, -⟩ := id hl
  have hE := ho.2.1.2
  have hn := ho.2.2.1
  have hm := ho.2.2.2.1
  rw [fX2_longEnds, ← nI_0]
  refine lo2 (F := fX2_longEnds_L4 _ _ _ _ _ _) (a := fun j => nI (bo (pE n m t c) j)) (b := nI) (E := E) ?_ ?_ E 0 FU (by omega) (fu_lt (by omega))
  · intro k j hj
    have hb := alg_lt (u := fun r => (c (r % n)).testBit (t j)) hn.2
    rw [fX2_longEnds_L4, if_neg (nI_ge hj (by omega)), cAlong ho hl hj, some_bind, nI_1]
    exact jb (G := fun x => fX2_longEnds_L4 _ _ _ _ _ _ k x (nI (j + 1))) (pE n m t c) (by omega) (lim_iff (by omega) (by omega))
  · intro k
    rw [fX2_longEnds_L4, if_pos (nI_le (Nat.le_refl _) (by omega))]
theorem mLongEnds (ho : okV H E n m t c) (hs : isS H E n m t c s) : fX7_longEnds s = some (nI (bo (pE n m t c) E)) := by
  have q1 := hs.2.1
  have q3 := hs.2.2.2.1
  have hE := ho.2.1.2
  have hn := ho.2.2.1
  have hm := ho.2.2.2.1
  rw [fX7_longEnds, ← nI_0]
  refine lo2 (F := fX7_longEnds_L4 _ _) (a := fun j => nI (bo (pE n m t c) j)) (b := nI) (E := E) ?_ ?_ E 0 FU (by omega) (fu_lt (by omega))
  · intro k j hj
    have hb := alg_lt (u := fun r => (c (r % n)).testBit (t j)) hn.2
    rw [fX7_longEnds_L4, q1, if_neg (nI_ge hj (by omega)), mAlong ho hs hj, some_bind, nI_1, q3]
    exact jb (G := fun x => fX7_longEnds_L4 _ _ k x (nI (j + 1))) (pE n m t c) (by omega) (lim_iff (by omega) (by omega))
  · intro k
    rw [fX7_longEnds_L4, q1, if_pos (nI_le (Nat.le_refl _) (by omega))]
theorem cFine (ho : okV H E n m t c) (hl : isL H E n m t c hk en cd lm f g) : fX2_hasNothingTooLong en cd lm f g = some (b2i (fine E n m t c)) := by
  have hl2 := hl
  obtain ⟨-, rfl, rfl, rfl, -, -⟩ := id hl
  have hE := ho.2.1.2
  have hn := ho.2.2.1
  have hm := ho.2.2.2.1
  have k2 : ∀ k60 k52 : Option Int32, fX2_hasNothingTooLong_L32 k60 k52 (nI E) (nI n) (nI m) f g FU (nI 0) = if an (pE n m t c) E (E - 0) then k52 else k60 := by
    intro k60 k52
    refine lv1 (F := fX2_hasNothingTooLong_L32 k60 k52 (nI E) (nI n) (nI m) f g) (a := nI) (E := E) (v := fun j => if an (pE n m t c) E (E - j) then k52 else k60) ?_ ?_ E 0 FU (by omega) (fu_lt (by omega))
    · intro k j hj ih
      have hb := alg_lt (u := fun r => (c (r % n)).testBit (t j)) hn.2
      rw [fX2_hasNothingTooLong_L32, if_neg (nI_ge hj (by omega)), cAlong ho hl2 hj, some_bind, nI_1, ih, an_step hj]
      by_cases h : nI (alg (fun r => (c (r % n)).testBit (t j)) n) ≤ nI m
      · have h2 : pE n m t c j = false := (lim_iff (by omega) (by omega)).mp h
        rw [if_pos h, h2, Bool.false_or]
      · have h2 : pE n m t c j = true := by
          cases hp : pE n m t c j with
          | true => rfl
          | false => exact absurd ((lim_iff (by omega) (by omega)).mpr hp) h
        rw [if_neg h, h2, Bool.true_or, if_pos rfl]
    · intro k
      rw [fX2_hasNothingTooLong_L32, if_pos (nI_le (Nat.le_refl _) (by omega)), an_0, if_neg (by decide)]
  have k1 : ∀ k30 k22 : Option Int32, fX2_hasNothingTooLong_L2 k30 k22 (nI E) (nI n) (nI m) f g FU (nI 0) = if an (pC E m t c) n (n - 0) then k22 else k30 := by
    intro k30 k22
    refine lv1 (F := fX2_hasNothingTooLong_L2 k30 k22 (nI E) (nI n) (nI m) f g) (a := nI) (E := n) (v := fun j => if an (pC E m t c) n (n - j) then k22 else k30) ?_ ?_ n 0 FU (by omega) (fu_lt (by omega))
    · intro k j hj ih
      have hb := (acr_le (fun e => (c j).testBit (t e)) E).1
      rw [fX2_hasNothingTooLong_L2, if_neg (nI_ge hj (by omega)), cAcross ho hl2 hj, some_bind, nI_1, ih, an_step hj]
      by_cases h : nI (acr (fun e => (c j).testBit (t e)) E).1 ≤ nI m
      · have h2 : pC E m t c j = false := (lim_iff (by omega) (by omega)).mp h
        rw [if_pos h, h2, Bool.false_or]
      · have h2 : pC E m t c j = true := by
          cases hp : pC E m t c j with
          | true => rfl
          | false => exact absurd ((lim_iff (by omega) (by omega)).mpr hp) h
        rw [if_neg h, h2, Bool.true_or, if_pos rfl]
    · intro k
      rw [fX2_hasNothingTooLong_L2, if_pos (nI_le (Nat.le_refl _) (by omega)), an_0, if_neg (by decide)]
  rw [fX2_hasNothingTooLong, ← nI_0, k2, k1, Nat.sub_zero, Nat.sub_zero]
  unfold fine
  cases an (pC E m t c) n n <;> cases an (pE n m t c) E E <;> rfl
theorem mFine (ho : okV H E n m t c) (hs : isS H E n m t c s) : fX7_isFine s = some (b2i (fine E n m t c)) := by
  have hE := ho.2.1.2
  have hn := ho.2.2.1
  have b1 := bo_lt (pC E m t c) n
  have b2 := bo_lt (pE n m t c) E
  have p1 : 2 ^ n ≤ 2 ^ 8 := Nat.pow_le_pow_right (by decide) hn.2
  have p2 : 2 ^ E ≤ 2 ^ 12 := Nat.pow_le_pow_right (by decide) hE
  rw [fX7_isFine, mLongCards ho hs, some_bind, mLongEnds ho hs, some_bind]
  unfold fine
  by_cases h1 : bo (pC E m t c) n = 0
  · rw [if_pos (by rw [h1]; exact nI_0), bo_an.mp h1]
    by_cases h2 : bo (pE n m t c) E = 0
    · rw [if_pos (by rw [h2]; exact nI_0), bo_an.mp h2]; rfl
    · rw [if_neg (fun z => h2 ((nI_0iff (by omega)).mp z))]
      cases ha : an (pE n m t c) E E with
      | true => rfl
      | false => exact absurd (bo_an.mpr ha) h2
  · rw [if_neg (fun z => h1 ((nI_0iff (by omega)).mp z))]
    cases ha : an (pC E m t c) n n with
    | true => rfl
    | false => exact absurd (bo_an.mpr ha) h1
end P82

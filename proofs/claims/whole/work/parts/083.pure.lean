def ex (p : Nat → Bool) : Nat → Bool
  | 0 => false
  | j + 1 => ex p j || p j
theorem ex_iff {p : Nat → Bool} : ∀ {j : Nat}, ex p j = true ↔ ∃ k, k < j ∧ p k = true
  | 0 => by
    constructor
    · intro h; cases h
    · rintro ⟨k, h, -⟩; omega
  | j + 1 => by
    rw [ex, Bool.or_eq_true, ex_iff (j := j)]
    constructor
    · rintro (⟨k, h1, h2⟩ | h)
      · exact ⟨k, by omega, h2⟩
      · exact ⟨j, by omega, h⟩
    · rintro ⟨k, h1, h2⟩
      by_cases hk : k = j
      · subst hk; exact Or.inr h2
      · exact Or.inl ⟨k, by omega, h2⟩
theorem ex_an {p : Nat → Bool} {j : Nat} : ex p j = an p j j := by
  have h1 := @ex_iff p j
  have h2 := @an_iff p j j (Nat.le_refl j)
  rw [Nat.sub_self] at h2
  cases ha : an p j j with
  | true =>
    obtain ⟨k, -, h3, h4⟩ := h2.mp ha
    exact h1.mpr ⟨k, h3, h4⟩
  | false =>
    cases hx : ex p j with
    | false => rfl
    | true =>
      obtain ⟨k, h3, h4⟩ := h1.mp hx
      rw [h2.mpr ⟨k, by omega, h3, h4⟩] at ha
      cases ha
theorem bo_bit (u : Nat → Bool) : ∀ (j k : Nat), (bo u j).testBit k = (decide (k < j) && u k)
  | 0, k => by simp [bo]
  | j + 1, k => by
    have e : bo u (j + 1) = bo u j ||| (if u j then 2 ^ j else 0) := by
      rw [bo]
      cases u j with
      | false => simp
      | true =>
        rw [if_pos rfl, Nat.or_comm, Nat.add_comm]
        have h := bo_lt u j
        have h2 := Nat.two_pow_add_eq_or_of_lt h 1
        rw [Nat.mul_one] at h2
        exact h2
    rw [e, Nat.testBit_or, bo_bit u j k]
    by_cases hkj : k = j
    · subst hkj
      cases u k <;> simp [Nat.testBit_two_pow]
    · cases u j with
      | false =>
        have : (k < j + 1) ↔ (k < j) := by omega
        simp [this]
      | true =>
        have : (k < j + 1) ↔ (k < j) := by omega
        simp [Nat.testBit_two_pow, this, Ne.symm hkj]
theorem bo_true : ∀ j, bo (fun _ => true) j = 2 ^ j - 1
  | 0 => rfl
  | j + 1 => by
    rw [bo, bo_true j, if_pos rfl, Nat.pow_succ]
    have := Nat.two_pow_pos j
    omega
theorem ct_split (u : Nat → Bool) (a : Nat) : ∀ b, ct u (a + b) = ct u a + ct (fun k => u (a + k)) b
  | 0 => rfl
  | b + 1 => by rw [← Nat.add_assoc, ct, ct_split u a b, ct, Nat.add_assoc]
theorem ct_more {u : Nat → Bool} {a : Nat} : ∀ {b : Nat}, (∀ k, a ≤ k → k < a + b → u k = false) → ct u (a + b) = ct u a
  | 0, _ => rfl
  | b + 1, h => by rw [← Nat.add_assoc, ct, ct_more (fun k h1 h2 => h k h1 (by omega)), h (a + b) (by omega) (by omega)]; simp
theorem bc12a : ∀ a, a < 64 → ∀ b, b < 64 → fJ6_bitCount_0f7a4 (nI (64 * a + b)) = some (nI (ct (fun k => (64 * a + b).testBit k) 12)) := by decide +kernel
theorem bc12 (x : Nat) (hx : x < 4096) : fJ6_bitCount_0f7a4 (nI x) = some (nI (ct (fun k => x.testBit k) 12)) := by
  have h := bc12a (x / 64) (by omega) (x % 64) (by omega)
  rwa [Nat.div_add_mod] at h
theorem bit_big {x k j : Nat} (h : x < 2 ^ k) (hj : k ≤ j) : x.testBit j = false := Nat.testBit_lt_two_pow (Nat.lt_of_lt_of_le h (Nat.pow_le_pow_right (by decide) hj))
theorem andnot : ∀ x, x < 64 → ∀ k, k < 6 → (nI x &&& (((1 : Int32) <<< (nI k &&& 31)) ^^^ (-1))) = nI (x &&& (63 ^^^ 2 ^ k)) := by decide +kernel
def wE (E : Nat) (t c : Nat → Nat) (i : Nat) : Nat := bo (fun e => (c i).testBit (t e)) E
def wR (n : Nat) (t c : Nat → Nat) (e : Nat) : Nat := bo (fun i => (c i).testBit (t e)) n
theorem wE_lt {E : Nat} (hE : E ≤ 12) (t c : Nat → Nat) (i : Nat) : wE E t c i < 4096 := Nat.lt_of_lt_of_le (bo_lt _ E) (Nat.pow_le_pow_right (by decide) hE : 2 ^ E ≤ 2 ^ 12)
theorem wR_lt {n : Nat} (hn : n ≤ 8) (t c : Nat → Nat) (e : Nat) : wR n t c e < 256 := Nat.lt_of_lt_of_le (bo_lt _ n) (Nat.pow_le_pow_right (by decide) hn : 2 ^ n ≤ 2 ^ 8)
def rpt (E n : Nat) (t c : Nat → Nat) (p : Nat) : Bool := !an (fun r => !decide (wE E t c r = wE E t c ((r + p) % n))) n n
def unl (n : Nat) (t c : Nat → Nat) (e : Nat) : Bool := !an (fun e2 => decide (wR n t c e2 = wR n t c e)) e e
section P83
variable {H E n m : Nat} {t c : Nat → Nat} {hk en cd lm : Int32} {f g s : Nat → Int32}
theorem cRpt (ho : okV H E n m t c) (hl : isL H E n m t c hk en cd lm f g) {p : Nat} (hp : p ≤ 8) : fX2_repeatsAfter en cd f g (nI p) = some (b2i (rpt E n t c p)) := by
  have hE := ho.2.1.2
  have hn := ho.2.2.1
  obtain ⟨-, -, rfl, -, -, -⟩ := id hl
  have key : ∀ k37 k29 : Option Int32, fX2_repeatsAfter_L2 k37 k29 en (nI n) f g (nI p) FU (nI 0) = if an (fun r => !decide (wE E t c r = wE E t c ((r + p) % n))) n (n - 0) then k29 else k37 := by
    intro k37 k29
    refine lv1 (F := fX2_repeatsAfter_L2 k37 k29 en (nI n) f g (nI p)) (a := nI) (E := n) (v := fun j => if an (fun r => !decide (wE E t c r = wE E t c ((r + p) % n))) n (n - j) then k29 else k37) ?_ ?_ n 0 FU (by omega) (fu_lt (by omega))
    · intro k j hj ih
      have hr : (j + p) % n < n := Nat.mod_lt _ (by omega)
      have l1 := wE_lt hE t c j
      have l2 := wE_lt hE t c ((j + p) % n)
      rw [fX2_repeatsAfter_L2, if_neg (nI_ge hj (by omega)), cUpEnds ho hl hj, some_bind, nI_add, cRow hn.1 hn.2 (by omega), some_bind, cUpEnds ho hl hr, some_bind, nI_1, ih, an_step hj]
      by_cases h : wE E t c j = wE E t c ((j + p) % n)
      · rw [if_pos (by show nI (wE E t c j) = nI (wE E t c ((j + p) % n)); rw [h])]
        simp [h]
      · have hne : ¬ nI (bo (fun e => (c j).testBit (t e)) E) = nI (bo (fun e => (c ((j + p) % n)).testBit (t e)) E) := fun z => h ((nI_eq (a := wE E t c j) (b := wE E t c ((j + p) % n)) (by omega) (by omega)).mp z)
        rw [if_neg hne]
        simp [h]
    · intro k
      rw [fX2_repeatsAfter_L2, if_pos (nI_le (Nat.le_refl _) (by omega)), an_0, if_neg (by decide)]
  rw [fX2_repeatsAfter, ← nI_0, key, Nat.sub_zero]
  unfold rpt
  cases an (fun r => !decide (wE E t c r = wE E t c ((r + p) % n))) n n <;> rfl
theorem cRepeat (ho : okV H E n m t c) (hl : isL H E n m t c hk en cd lm f g) : fX2_repeat en cd f g = some (nI (fi (rpt E n t c) n (n - 1))) := by
  have hn := ho.2.2.1
  obtain ⟨-, -, rfl, -, -, -⟩ := id hl
  have e1 : (1 : Int32) = nI 1 := by decide
  rw [fX2_repeat, e1]
  refine lv1 (F := fX2_repeat_L2 _ _ _ _ _ _) (a := nI) (E := n) (v := fun j => some (nI (fi (rpt E n t c) n (n - j)))) ?_ ?_ (n - 1) 1 FU (by omega) (fu_lt (by omega))
  · intro k j hj ih
    rw [fX2_repeat_L2, if_neg (nI_ge hj (by omega)), cRpt ho hl (by omega), some_bind, nI_1, ih, fi_step hj]
    cases rpt E n t c j <;> rfl
  · intro k
    rw [fX2_repeat_L2, if_pos (nI_le (Nat.le_refl _) (by omega)), fi_0]
theorem mRpt (ho : okV H E n m t c) (hs : isS H E n m t c s) {p : Nat} (hp : p ≤ 8) : fX7_isAgain s (nI p) = some (b2i (rpt E n t c p)) := by
  have hE := ho.2.1.2
  have hn := ho.2.2.1
  have q2 := hs.2.2.1
  have key : ∀ k45 : Int32 → Option Int32, fX7_isAgain_L4 k45 s (nI p) FU (b2i (!ex (fun r => !decide (wE E t c r = wE E t c ((r + p) % n))) 0)) (nI 0) = k45 (b2i (!ex (fun r => !decide (wE E t c r = wE E t c ((r + p) % n))) n)) := by
    intro k45
    refine lo2 (F := fX7_isAgain_L4 k45 s (nI p)) (a := fun j => b2i (!ex (fun r => !decide (wE E t c r = wE E t c ((r + p) % n))) j)) (b := nI) (E := n) ?_ ?_ n 0 FU (by omega) (fu_lt (by omega))
    · intro k j hj
      have l1 := wE_lt hE t c j
      have l2 := wE_lt hE t c ((j + p) % n)
      rw [fX7_isAgain_L4, q2, if_neg (nI_ge hj (by omega)), nI_1]
      simp only [jn, ex]
      cases hx : ex (fun r => !decide (wE E t c r = wE E t c ((r + p) % n))) j with
      | true => rw [if_pos (by decide)]; rfl
      | false =>
        rw [if_neg (by decide), mUpIn ho hs (by omega), some_bind, nI_add, mUpIn ho hs (by omega), some_bind, Nat.mod_eq_of_lt hj]
        by_cases h : wE E t c j = wE E t c ((j + p) % n)
        · rw [if_pos (by show nI (wE E t c j) = nI (wE E t c ((j + p) % n)); rw [h])]
          simp [h, b2i]
        · have hne : ¬ nI (bo (fun e => (c j).testBit (t e)) E) = nI (bo (fun e => (c ((j + p) % n)).testBit (t e)) E) := fun z => h ((nI_eq (a := wE E t c j) (b := wE E t c ((j + p) % n)) (by omega) (by omega)).mp z)
          rw [if_neg hne]
          simp [h, b2i]
    · intro k
      rw [fX7_isAgain_L4, q2, if_pos (nI_le (Nat.le_refl _) (by omega))]
  rw [fX7_isAgain, ← nI_0]
  have e1 : (1 : Int32) = b2i (!ex (fun r => !decide (wE E t c r = wE E t c ((r + p) % n))) 0) := rfl
  rw [e1, key, gd_t (b2i_tf _), ex_an]
  rfl
theorem mRepeat (ho : okV H E n m t c) (hs : isS H E n m t c s) : fX7_repeat s = some (nI (fi (rpt E n t c) n (n - 1))) := by
  have hn := ho.2.2.1
  have e1 : (1 : Int32) = nI 1 := by decide
  rw [fX7_repeat, e1]
  refine lv1 (F := fX7_repeat_L2 _ _) (a := nI) (E := n) (v := fun j => some (nI (fi (rpt E n t c) n (n - j)))) ?_ ?_ (n - 1) 1 FU (by omega) (fu_lt (by omega))
  · intro k j hj ih
    rw [fX7_repeat_L2, mRpt ho hs (by omega), some_bind, nI_1, ih, fi_step hj]
    cases rpt E n t c j <;> rfl
  · intro k
    have hr : rpt E n t c n = true := by
      unfold rpt
      cases ha : an (fun r => !decide (wE E t c r = wE E t c ((r + n) % n))) n n with
      | false => rfl
      | true =>
        obtain ⟨r, -, h2, h3⟩ := (an_iff (Nat.le_refl n)).mp ha
        rw [Nat.add_mod_right, Nat.mod_eq_of_lt h2] at h3
        simp at h3
    rw [fX7_repeat_L2, mRpt ho hs (by omega), some_bind, hr, fi_0]
    rfl
theorem cUnl (ho : okV H E n m t c) (hl : isL H E n m t c hk en cd lm f g) {e : Nat} (he : e < E) : fX2_isLikeAnEarlierOne en cd f g (nI e) = some (b2i (!unl n t c e)) := by
  have hE := ho.2.1.2
  have hn := ho.2.2.1
  have l0 := wR_lt hn.2 t c e
  have key : ∀ k30 k22 : Option Int32, fX2_isLikeAnEarlierOne_L8 k30 k22 en cd f g (nI e) (nI (wR n t c e)) FU (nI 0) = if an (fun e2 => decide (wR n t c e2 = wR n t c e)) e (e - 0) then k22 else k30 := by
    intro k30 k22
    refine lv1 (F := fX2_isLikeAnEarlierOne_L8 k30 k22 en cd f g (nI e) (nI (wR n t c e))) (a := nI) (E := e) (v := fun j => if an (fun e2 => decide (wR n t c e2 = wR n t c e)) e (e - j) then k22 else k30) ?_ ?_ e 0 FU (by omega) (fu_lt (by omega))
    · intro k j hj ih
      have l1 := wR_lt hn.2 t c j
      rw [fX2_isLikeAnEarlierOne_L8, if_neg (nI_ge hj (by omega)), cUpRows ho hl (by omega), some_bind, nI_1, ih, an_step hj]
      by_cases h : wR n t c j = wR n t c e
      · rw [if_pos (by show nI (wR n t c j) = nI (wR n t c e); rw [h])]
        simp [h]
      · have hne : ¬ nI (bo (fun i => (c i).testBit (t j)) n) = nI (wR n t c e) := fun z => h ((nI_eq (a := wR n t c j) (b := wR n t c e) (by omega) (by omega)).mp z)
        rw [if_neg hne]
        simp [h]
    · intro k
      rw [fX2_isLikeAnEarlierOne_L8, if_pos (nI_le (Nat.le_refl _) (by omega)), an_0, if_neg (by decide)]
  rw [fX2_isLikeAnEarlierOne, cUpRows ho hl he, some_bind, ← nI_0]
  refine (key _ _).trans ?_
  rw [Nat.sub_zero]
  unfold unl
  cases an (fun e2 => decide (wR n t c e2 = wR n t c e)) e e <;> rfl
theorem cUnlike (ho : okV H E n m t c) (hl : isL H E n m t c hk en cd lm f g) : fX2_unlikeEnds en cd f g = some (nI (ct (unl n t c) E)) := by
  have hE := ho.2.1.2
  obtain ⟨-, rfl, -, -, -, -⟩ := id hl
  have e1 : (1 : Int32) = nI 1 := by decide
  rw [fX2_unlikeEnds, ← nI_0]
  refine lo2 (F := fX2_unlikeEnds_L4 _ _ _ _ _) (a := fun j => nI (ct (unl n t c) j)) (b := nI) (E := E) ?_ ?_ E 0 FU (by omega) (fu_lt (by omega))
  · intro k j hj
    rw [fX2_unlikeEnds_L4, if_neg (nI_ge hj (by omega)), cUnl ho hl hj, some_bind, nI_1]
    simp only [jn, ct]
    cases unl n t c j with
    | true => rw [if_pos (by decide), e1, nI_add, if_pos rfl]
    | false => rw [if_neg (by decide), ← nI_0, nI_add, if_neg (by decide)]
  · intro k
    rw [fX2_unlikeEnds_L4, if_pos (nI_le (Nat.le_refl _) (by omega))]
theorem mUnlike (ho : okV H E n m t c) (hs : isS H E n m t c s) : fX7_unlikeEnds s = some (nI (ct (unl n t c) E)) := by
  have hE := ho.2.1.2
  have hn := ho.2.2.1
  have q1 := hs.2.1
  have e1 : (1 : Int32) = nI 1 := by decide
  have key : ∀ (k55 : Int32 → Option Int32) (e : Nat), e < E → fX7_unlikeEnds_L19 k55 s (nI e) FU (b2i (!ex (fun e2 => decide (wR n t c e2 = wR n t c e)) 0)) (nI 0) = k55 (b2i (!ex (fun e2 => decide (wR n t c e2 = wR n t c e)) e)) := by
    intro k55 e he
    have l0 := wR_lt hn.2 t c e
    refine lo2 (F := fX7_unlikeEnds_L19 k55 s (nI e)) (a := fun j => b2i (!ex (fun e2 => decide (wR n t c e2 = wR n t c e)) j)) (b := nI) (E := e) ?_ ?_ e 0 FU (by omega) (fu_lt (by omega))
    · intro k j hj
      have l1 := wR_lt hn.2 t c j
      rw [fX7_unlikeEnds_L19, if_neg (nI_ge hj (by omega)), nI_1]
      simp only [jn, ex]
      cases hx : ex (fun e2 => decide (wR n t c e2 = wR n t c e)) j with
      | true => rw [if_pos (by decide)]; rfl
      | false =>
        rw [if_neg (by decide), mRowsOf ho hs (by omega), some_bind, mRowsOf ho hs he, some_bind]
        by_cases h : wR n t c j = wR n t c e
        · rw [if_pos (by show nI (wR n t c j) = nI (wR n t c e); rw [h])]
          simp [h, b2i]
        · have hne : ¬ nI (bo (fun i => (c i).testBit (t j)) n) = nI (bo (fun i => (c i).testBit (t e)) n) := fun z => h ((nI_eq (a := wR n t c j) (b := wR n t c e) (by omega) (by omega)).mp z)
          rw [if_neg hne]
          simp [h, b2i]
    · intro k
      rw [fX7_unlikeEnds_L19, if_pos (nI_le (Nat.le_refl _) (by omega))]
  rw [fX7_unlikeEnds, ← nI_0]
  refine lo2 (F := fX7_unlikeEnds_L4 _ _) (a := fun j => nI (ct (unl n t c) j)) (b := nI) (E := E) ?_ ?_ E 0 FU (by omega) (fu_lt (by omega))
  · intro k j hj
    have e1' : (1 : Int32) = b2i (!ex (fun e2 => decide (wR n t c e2 = wR n t c j)) 0) := rfl
    rw [fX7_unlikeEnds_L4, q1, if_neg (nI_ge hj (by omega)), ← nI_0]
    refine (congrArg (fun x => fX7_unlikeEnds_L19 _ s (nI j) FU x (nI 0)) e1').trans ?_
    rw [key _ j hj, nI_1]
    simp only [jn, ct]
    have hu : unl n t c j = !ex (fun e2 => decide (wR n t c e2 = wR n t c j)) j := by unfold unl; rw [ex_an]
    rw [← hu]
    cases unl n t c j with
    | true => rw [if_neg (by decide), e1, nI_add, if_pos rfl]
    | false => rw [if_pos (by decide), nI_add, if_neg (by decide)]
  · intro k
    rw [fX7_unlikeEnds_L4, q1, if_pos (nI_le (Nat.le_refl _) (by omega))]
end P83

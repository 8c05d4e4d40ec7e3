def pl (q : Nat) : Int32 := nI q - 1
theorem pl_0 : (-1 : Int32) = pl 0 := by decide
theorem pl_s (p : Nat) : pl (p + 1) = nI p := nI_pred p
theorem pl_1 (q : Nat) : pl q + 1 = pl (q + 1) := by
  cases q with
  | zero => decide
  | succ p => rw [pl_s, pl_s, nI_1]
theorem pl_lt0 {p : Nat} (h : p < 100) : ¬ pl (p + 1) < 0 := by rw [pl_s]; exact nI_pos (by omega)
theorem pl_ge {q P : Nat} (h : q ≤ P) (hP : P < 1000) : ¬ nI P ≤ pl q := by
  cases q with
  | zero =>
    intro z
    have : nI P < 0 := fa_trans (b := 0) (by rw [fa_lt]; rw [fa_le] at z; have a1 : (pl 0).toInt = -1 := by decide
                                             have a2 : (0 : Int32).toInt = 0 := by decide
                                             omega) (by decide)
    exact nI_pos (by omega) this
  | succ p => rw [pl_s]; exact nI_ge (by omega) (by omega)
theorem pl_end {P : Nat} (hP : P < 1000) : nI P ≤ pl (P + 1) := by rw [pl_s]; exact nI_le (Nat.le_refl _) (by omega)
theorem pl_eq {q x : Nat} (hq : q < 1000) (hx : x < 1000) : pl q = nI x ↔ q = x + 1 := by
  cases q with
  | zero =>
    constructor
    · intro z
      have := nI_pos (n := x) (by omega)
      rw [← z] at this
      exact absurd (by decide) this
    · intro z; omega
  | succ p =>
    rw [pl_s, nI_eq (by omega) (by omega)]
    omega
theorem pl_m1 : ∀ q, q < 64 → pl q - (-1) = nI q := by decide +kernel
theorem bitOf_ok {q : Nat} (hq : q < 64) : fX4_bitOf (pl q) = some (lN (2 ^ q)) := by
  have h := wb_shl 1 hq
  rw [Nat.one_mul] at h
  rw [fX4_bitOf, pl_m1 q hq]
  exact congrArg some h
theorem bo_orN (u : Nat → Bool) (j : Nat) : bo u j ||| (if u j then 2 ^ j else 0) = bo u (j + 1) := by
  rw [bo]
  cases u j with
  | false => rw [if_neg (by decide), Nat.or_zero, Nat.add_zero]
  | true =>
    rw [if_pos rfl]
    have h := bo_lt u j
    rw [Nat.or_comm, Nat.add_comm, show 2 ^ j = 2 ^ j * 1 by omega, ← Nat.two_pow_add_eq_or_of_lt h]
def upb (H n : Nat) (t c : Nat → Nat) (q r e : Nat) : Bool := (c (r % n)).testBit (t e) != decide (q = H * (r % n) + t e + 1)
def bad (H E n : Nat) (t c rw' en' : Nat → Nat) (up : Nat → Bool) (q i : Nat) : Bool := !(decide (en' i < E) && (upb H n t c q (rw' i) (en' i) == up i))
def su (H E n : Nat) (t c rw' en' : Nat → Nat) (up : Nat → Bool) (N q : Nat) : Bool := !an (bad H E n t c rw' en' up q) N N
def okF (N : Nat) (rw' en' : Nat → Nat) (up : Nat → Bool) (rows ends wasUp facts : Nat → Int32) : Prop := ∀ i, i < N → (rw' i < 100 ∧ en' i < 12) ∧ rows i = nI (rw' i) ∧ ends i = nI (en' i) ∧ wasUp i = b2i (up i) ∧ facts (3 * i) = nI (rw' i) ∧ facts (3 * i + 1) = nI (en' i) ∧ facts (3 * i + 2) = b2i (up i)
theorem hEndN {e E : Nat} (he : e < 2 ^ 20) (hE : E < 2 ^ 20) : fX2_hasEnd (nI E) (nI e) = some (b2i (decide (e < E))) := by
  rw [hasE]
  by_cases h : e < E
  · rw [has1 h (by omega), decide_eq_true h]; rfl
  · rw [has0 (Or.inr (nI_le (by omega) (by omega))), decide_eq_false h]; rfl
theorem mEndN {s : Nat → Int32} {e E : Nat} (he : e < 2 ^ 20) (hE : 1 ≤ E) (hE2 : E < 2 ^ 20) (q1 : s 1 = nI E) : fX7_isEnd s (nI e) = some (b2i (decide (e < E))) := by
  have e1 : nI E - 1 = nI (E - 1) := by rw [show (1 : Int32) = nI 1 by decide, pk_sub hE]
  have h : fX7_in (nI e) 0 (nI E - 1) = some (b2i (decide (e < E))) := by
    rw [e1, fX7_in, if_neg (nI_pos (by omega))]
    by_cases h : e < E
    · rw [if_neg (nI_nlt (by omega) (by omega)), decide_eq_true h]; rfl
    · rw [if_pos (nI_lt (by omega) (by omega)), decide_eq_false h]; rfl
  exact mEnd (by rw [q1]; exact h) (b2i_tf _)
/-- the first one so far -/
def fs1 (u : Nat → Bool) : Nat → Int32
  | 0 => -9
  | j + 1 => if u j then (if ct u j = 0 then pl j else fs1 u j) else fs1 u j
theorem ct_0 {u : Nat → Bool} : ∀ {j : Nat}, ct u j = 0 ↔ ∀ k, k < j → u k = false
  | 0 => ⟨fun _ k hk => absurd hk (Nat.not_lt_zero k), fun _ => rfl⟩
  | j + 1 => by
    rw [ct]
    constructor
    · intro h k hk
      have h1 : ct u j = 0 := by omega
      by_cases hkj : k = j
      · subst hkj
        cases hu : u k with
        | false => rfl
        | true =>
          rw [hu, if_pos rfl] at h
          omega
      · exact ct_0.mp h1 k (by omega)
    · intro h
      rw [ct_0.mpr (fun k hk => h k (by omega)), h j (by omega)]
      rfl
theorem fs1_none {u : Nat → Bool} : ∀ {j : Nat}, (∀ k, k < j → u k = false) → fs1 u j = -9
  | 0, _ => rfl
  | j + 1, h => by
    rw [fs1, h j (by omega)]
    exact fs1_none (fun k hk => h k (by omega))
theorem fs1_first {u : Nat → Bool} {q : Nat} (hq : u q = true) (hb : ∀ k, k < q → u k = false) : ∀ {j : Nat}, q < j → fs1 u j = pl q
  | 0, h => absurd h (Nat.not_lt_zero q)
  | j + 1, h => by
    rw [fs1]
    by_cases hj : q = j
    · subst hj
      rw [hq, if_pos rfl, if_pos (ct_0.mpr hb)]
    · have hn : ¬ ct u j = 0 := fun z => by
        have := ct_0.mp z q (by omega)
        rw [hq] at this
        cases this
      rw [if_neg hn, fs1_first hq hb (j := j) (by omega)]
      split <;> rfl
theorem fi_spec {u : Nat → Bool} {E : Nat} : ∀ {d : Nat}, d ≤ E → (fi u E d = E → ∀ k, E - d ≤ k → k < E → u k = false) ∧ (fi u E d < E → u (fi u E d) = true ∧ ∀ k, E - d ≤ k → k < fi u E d → u k = false)
  | 0, _ => ⟨fun _ k h1 h2 => by omega, fun h => absurd h (Nat.lt_irrefl E)⟩
  | d + 1, hd => by
    have ih := fi_spec (u := u) (E := E) (d := d) (by omega)
    rw [fi]
    cases hu : u (E - (d + 1)) with
    | true =>
      rw [if_pos rfl]
      exact ⟨fun h => by omega, fun _ => ⟨hu, fun k h1 h2 => by omega⟩⟩
    | false =>
      rw [if_neg (by decide)]
      refine ⟨fun h k h1 h2 => ?_, fun h => ⟨(ih.2 h).1, fun k h1 h2 => ?_⟩⟩
      · by_cases hk : k = E - (d + 1)
        · rw [hk]; exact hu
        · exact ih.1 h k (by omega) h2
      · by_cases hk : k = E - (d + 1)
        · rw [hk]; exact hu
        · exact (ih.2 h).2 k (by omega) h2
theorem fs1_fi {u : Nat → Bool} {K : Nat} : fs1 u K = if fi u K K < K then pl (fi u K K) else -9 := by
  have h := fi_spec (u := u) (Nat.le_refl K)
  by_cases hx : fi u K K < K
  · rw [if_pos hx]
    obtain ⟨h1, h2⟩ := h.2 hx
    exact fs1_first h1 (fun k hk => h2 k (by omega) hk) hx
  · rw [if_neg hx]
    have hle : fi u K K ≤ K := fi_le
    exact fs1_none (fun k hk => h.1 (by omega) k (by omega) hk)
theorem ct_bo {u : Nat → Bool} {K : Nat} (hK : K ≤ 64) : ct (fun k => (bo u K).testBit k) 64 = ct u K := by
  have h1 : ct (fun k => (bo u K).testBit k) (K + (64 - K)) = ct (fun k => (bo u K).testBit k) K := by
    refine ct_more (fun k h1 h2 => ?_)
    show (bo u K).testBit k = false
    rw [bo_bit, decide_eq_false (show ¬ k < K by omega)]
    rfl
  rw [show K + (64 - K) = 64 by omega] at h1
  rw [h1]
  refine ct_cong (fun k hk => ?_)
  show (bo u K).testBit k = u k
  rw [bo_bit, decide_eq_true hk, Bool.true_and]
section P88d
variable {H E n m : Nat} {t c : Nat → Nat} {hk en cd lm : Int32} {f g s : Nat → Int32} {N : Nat} {rw' en' : Nat → Nat} {up : Nat → Bool} {rows ends wasUp facts : Nat → Int32}
theorem cHook (ho : okV H E n m t c) (hl : isL H E n m t c hk en cd lm f g) {e : Nat} (he : e < E) : fX2_hookOf en f (nI e) = some (nI (t e)) := by
  obtain ⟨-, rfl, -, -, hf, -⟩ := id hl
  have hE := ho.2.1.2
  rw [fX2_hookOf, hasE, has1 he (by omega), some_bind, if_neg n10, gd_t (ixt (by omega) (by decide)), nI_clamp (by omega), hf e he]
theorem cUpBy (ho : okV H E n m t c) (hl : isL H E n m t c hk en cd lm f g) {q r e : Nat} (hq : q < 100) (hr : r < 2 ^ 30) (he : e < E) : fX4_isUpBy hk en cd f g (pl q) (nI r) (nI e) = some (b2i (upb H n t c q r e)) := by
  have hn := ho.2.2.1
  have hH := ho.1
  have hm : r % n < n := Nat.mod_lt _ (by omega)
  have ht := ho.2.2.2.2.1 e he
  have hx : H * (r % n) ≤ 6 * 8 := Nat.mul_le_mul hH.2 (by omega)
  have hR := cRow (n := n) hn.1 hn.2 hr
  rw [← hl.2.2.1] at hR
  rw [fX4_isUpBy, hR, some_bind, cHook ho hl he, some_bind, fX2_placeOf, some_bind, hl.1, pk_mul, nI_add, cUp ho hl hm he]
  simp only [jn, some_bind]
  unfold upb
  by_cases hp : q = H * (r % n) + t e + 1
  · rw [if_pos ((pl_eq (by omega) (by omega)).mpr hp), decide_eq_true hp]
    cases (c (r % n)).testBit (t e) <;> rfl
  · rw [if_neg (fun z => hp ((pl_eq (by omega) (by omega)).mp z)), decide_eq_false hp]
    cases (c (r % n)).testBit (t e) <;> rfl
end P88d

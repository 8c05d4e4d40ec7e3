def pu (H : Nat) (c : Nat → Nat) (p : Nat) : Nat → Nat := fun i => if i = p / H then c i ^^^ 2 ^ (p % H) else c i
theorem lw1 {A R : Type} {F : Nat → A → R} {a : Nat → A} {E : Nat} {v : Nat → R} (hs : ∀ n j, j < E → F (n + 1) (a (j + 1)) = v (j + 1) → F (n + 1 + 1) (a j) = v j) (he : ∀ n, F (n + 1) (a E) = v E) : ∀ d i n, i + d = E → d < n → F n (a i) = v i := by
  intro d
  induction d with
  | zero =>
    intro i n h1 h2
    obtain ⟨n, rfl⟩ : ∃ k, n = k + 1 := ⟨n - 1, by omega⟩
    obtain rfl : i = E := by omega
    exact he n
  | succ d ih =>
    intro i n h1 h2
    obtain ⟨n, rfl⟩ : ∃ k, n = k + 1 + 1 := ⟨n - 2, by omega⟩
    exact hs n i (by omega) (ih (i + 1) (n + 1) (by omega) (by omega))
theorem andN {a b : Nat} (h : ∀ k, a.testBit k = true → b.testBit k = true) : nI a &&& (nI b ^^^ (-1)) = 0 := by
  apply Int32.toBitVec_inj.1
  show BitVec.ofNat 32 a &&& (BitVec.ofNat 32 b ^^^ BitVec.allOnes 32) = 0#32
  apply BitVec.eq_of_getLsbD_eq
  intro i hi
  have := h i
  rw [BitVec.getLsbD_and, BitVec.getLsbD_xor, BitVec.getLsbD_allOnes, BitVec.getLsbD_ofNat, BitVec.getLsbD_ofNat, BitVec.getLsbD_zero, decide_eq_true hi]
  cases ha : a.testBit i with
  | false => rfl
  | true => rw [this ha]; rfl
theorem u16 {k i : Nat} (h : k < 16) : k ≠ 16 + i := by omega
theorem ne9 {x : Nat} (h : x < 2 ^ 31) : ¬ nI x = -9 := by
  intro z
  have := nI_pos h
  rw [z] at this
  exact this (by decide)
theorem fi_le {p : Nat → Bool} {E : Nat} : ∀ {d : Nat}, fi p E d ≤ E
  | 0 => Nat.le_refl _
  | d + 1 => by
    rw [fi]
    split
    · omega
    · exact fi_le
section P88a
variable {H E n m : Nat} {t c : Nat → Nat} {hk en cd lm : Int32} {f g s : Nat → Int32}
theorem okV.pu (ho : okV H E n m t c) {p : Nat} : okV H E n m t (pu H c p) := by
  refine ⟨ho.1, ho.2.1, ho.2.2.1, ho.2.2.2.1, ho.2.2.2.2.1, fun i hi => ?_⟩
  have hm : p % H < H := Nat.mod_lt _ (by have := ho.1.1; omega)
  show (if i = p / H then c i ^^^ 2 ^ (p % H) else c i) < 2 ^ H
  split
  · exact Nat.xor_lt_two_pow (ho.2.2.2.2.2 i hi) (Nat.pow_lt_pow_right (by decide) hm)
  · exact ho.2.2.2.2.2 i hi
theorem isL.pu (hl : isL H E n m t c hk en cd lm f g) {p : Nat} : isL H E n m t (pu H c p) hk en cd lm f (upd g (p / H) (nI (c (p / H) ^^^ 2 ^ (p % H)))) := by
  refine ⟨hl.1, hl.2.1, hl.2.2.1, hl.2.2.2.1, hl.2.2.2.2.1, fun i hi => ?_⟩
  show upd g (p / H) (nI (c (p / H) ^^^ 2 ^ (p % H))) i = nI (if i = p / H then c i ^^^ 2 ^ (p % H) else c i)
  by_cases h : i = p / H
  · subst h
    rw [pk_us, if_pos rfl]
  · rw [pk_un h, if_neg h, hl.2.2.2.2.2 i hi]
theorem isS.pu (ho : okV H E n m t c) (hs : isS H E n m t c s) {p : Nat} (hp : p < H * n) : isS H E n m t (pu H c p) (upd s (16 + p / H) (nI (c (p / H) ^^^ 2 ^ (p % H)))) := by
  have hE := ho.2.1.2
  have hi := pl_lt hp
  refine ⟨by rw [pk_un (u16 (by omega)), hs.1], by rw [pk_un (u16 (by omega)), hs.2.1], by rw [pk_un (u16 (by omega)), hs.2.2.1], by rw [pk_un (u16 (by omega)), hs.2.2.2.1], fun e he => by rw [pk_un (u16 (by omega)), hs.2.2.2.2.1 e he], fun i hi => ?_⟩
  show upd s (16 + p / H) (nI (c (p / H) ^^^ 2 ^ (p % H))) (16 + i) = nI (if i = p / H then c i ^^^ 2 ^ (p % H) else c i)
  by_cases h : i = p / H
  · subst h
    rw [pk_us, if_pos rfl]
  · rw [pk_un (by omega), if_neg h, hs.2.2.2.2.2 i hi]
theorem pu_at {p : Nat} : pu H c p (p / H) ^^^ 2 ^ (p % H) = c (p / H) := by
  show (if p / H = p / H then c (p / H) ^^^ 2 ^ (p % H) else c (p / H)) ^^^ 2 ^ (p % H) = c (p / H)
  rw [if_pos rfl, Nat.xor_assoc, Nat.xor_self, Nat.xor_zero]
theorem cPunch2 (ho : okV H E n m t c) (hl : isL H E n m t c hk en cd lm f g) {p : Nat} (hp : p < H * n) : fX2_punch (nI H) (nI n) (upd g (p / H) (nI (c (p / H) ^^^ 2 ^ (p % H)))) (nI p) = some g := by
  rw [cPunch ho.pu (hl.pu (p := p)) hp, pu_at, fa_upd_twice, fa_upd_same (hl.2.2.2.2.2 _ (pl_lt hp))]
theorem mTurn (ho : okV H E n m t c) (hs : isS H E n m t c s) {p : Nat} (hp : p < H * n) : fX7_turnsOver s (nI p) = some (upd s (16 + p / H) (nI (c (p / H) ^^^ 2 ^ (p % H)))) := by
  have hH := ho.1
  have hn := ho.2.2.1
  have hHn : H * n ≤ 6 * 8 := Nat.mul_le_mul hH.2 hn.2
  have hi := pl_lt hp
  have hm : p % H < H := Nat.mod_lt _ (by omega)
  have e16 : (16 : Int32) = nI 16 := by decide
  rw [fX7_turnsOver, hs.1, gd_t (nzt (by omega) (by omega)), pk_rem (by omega) (by omega) (by omega), pk_div (by omega) (by omega) (by omega), e16, nI_add, gd_t (ixt (by omega) (by decide)), gd_t (nzt (by omega) (by omega)), gd_t (ixt (by omega) (by decide)), nI_clamp (by omega), hs.2.2.2.2.2 _ hi, shl1 _ (by omega), xorI]
theorem mTurn2 (ho : okV H E n m t c) (hs : isS H E n m t c s) {p : Nat} (hp : p < H * n) : fX7_turnsOver (upd s (16 + p / H) (nI (c (p / H) ^^^ 2 ^ (p % H)))) (nI p) = some s := by
  rw [mTurn ho.pu (hs.pu ho hp) hp, pu_at, fa_upd_twice, fa_upd_same (hs.2.2.2.2.2 _ (pl_lt hp))]
theorem puBit {p i h : Nat} : (pu H c p i).testBit h = ((c i).testBit h != (decide (i = p / H) && decide (h = p % H))) := by
  show (if i = p / H then c i ^^^ 2 ^ (p % H) else c i).testBit h = _
  by_cases hi : i = p / H
  · rw [if_pos hi, Nat.testBit_xor, Nat.testBit_two_pow, decide_eq_true hi, Bool.true_and]
    have : decide (p % H = h) = decide (h = p % H) := by simp [eq_comm]
    rw [this]
  · rw [if_neg hi, decide_eq_false hi, Bool.false_and]
    cases (c i).testBit h <;> rfl
theorem alters (ho : okV H E n m t c) (hl : isL H E n m t c hk en cd lm f g) {p : Nat} (hp : p < H * n) : ∃ al : Bool, fX2_altersAll (nI H) en f (nI p) (nI (bo (pC E m t c) n)) (nI (bo (pE n m t c) E)) = some (b2i al) ∧ (fine E n m t (pu H c p) = true → al = true) := by
  have hH := ho.1
  have hE := ho.2.1
  have hn := ho.2.2.1
  have hHn : H * n ≤ 6 * 8 := Nat.mul_le_mul hH.2 hn.2
  have hi := pl_lt hp
  have hm : p % H < H := Nat.mod_lt _ (by omega)
  rw [fX2_altersAll, if_pos (show (0 : Int32) < nI H by rw [← nI_0]; exact nI_lt (by omega) (by omega)), gd_t (nzt (by omega) (by omega)), pk_rem (by omega) (by omega) (by omega), pk_div (by omega) (by omega) (by omega), shl1 _ (by omega), gd_t (nzt (by omega) (by omega)), cEndsOf ho hl (by omega), some_bind]
  by_cases hf : fine E n m t (pu H c p) = true
  · have hC : ∀ i, i < n → pC E m t (pu H c p) i = false := by
      intro i hi
      unfold fine at hf
      rw [Bool.and_eq_true] at hf
      have h1 := hf.1
      cases hx : pC E m t (pu H c p) i with
      | false => rfl
      | true =>
        rw [(an_iff (p := pC E m t (pu H c p)) (Nat.le_refl n)).mpr ⟨i, by omega, hi, hx⟩] at h1
        exact absurd h1 (by decide)
    have hEn : ∀ e, e < E → pE n m t (pu H c p) e = false := by
      intro e he
      unfold fine at hf
      rw [Bool.and_eq_true] at hf
      have h1 := hf.2
      cases hx : pE n m t (pu H c p) e with
      | false => rfl
      | true =>
        rw [(an_iff (p := pE n m t (pu H c p)) (Nat.le_refl E)).mpr ⟨e, by omega, he, hx⟩] at h1
        exact absurd h1 (by decide)
    refine ⟨true, ?_, fun _ => rfl⟩
    rw [if_pos (andN ?_), if_pos (andN ?_)]
    · rfl
    · intro e he
      rw [bo_bit] at he ⊢
      rw [Bool.and_eq_true] at he
      obtain ⟨h1, h2⟩ := he
      have h1 := of_decide_eq_true h1
      rw [decide_eq_true h1, Bool.true_and]
      refine decide_eq_true ?_
      apply Classical.byContradiction
      intro hne
      have h3 := hEn e h1
      have h4 : pE n m t (pu H c p) e = pE n m t c e := by
        unfold pE
        have : (fun r => (pu H c p (r % n)).testBit (t e)) = (fun r => (c (r % n)).testBit (t e)) := by
          funext r
          rw [puBit, decide_eq_false hne, Bool.and_false]
          cases (c (r % n)).testBit (t e) <;> rfl
        rw [this]
      rw [h4, h2] at h3
      cases h3
    · intro i hi'
      rw [bo_bit, Bool.and_eq_true] at hi'
      obtain ⟨h1, h2⟩ := hi'
      have h1 := of_decide_eq_true h1
      rw [Nat.testBit_two_pow]
      refine decide_eq_true ?_
      apply Classical.byContradiction
      intro hne
      have h3 := hC i h1
      have h4 : pC E m t (pu H c p) i = pC E m t c i := by
        unfold pC
        have : (fun e => (pu H c p i).testBit (t e)) = (fun e => (c i).testBit (t e)) := by
          funext e
          rw [puBit, decide_eq_false (fun z => hne z.symm), Bool.false_and]
          cases (c i).testBit (t e) <;> rfl
        rw [this]
      rw [h4, h2] at h3
      cases h3
  · by_cases g1 : nI (bo (pC E m t c) n) &&& (nI (2 ^ (p / H)) ^^^ -1) = 0
    · rw [if_pos g1]
      by_cases g2 : nI (bo (pE n m t c) E) &&& (nI (bo (fun e => decide (t e = p % H)) E) ^^^ -1) = 0
      · rw [if_pos g2]
        exact ⟨true, rfl, fun _ => rfl⟩
      · rw [if_neg g2]
        exact ⟨false, rfl, fun z => absurd z hf⟩
    · rw [if_neg g1]
      exact ⟨false, rfl, fun z => absurd z hf⟩
def fP (H E n m : Nat) (t c : Nat → Nat) (p : Nat) : Bool := fine E n m t (pu H c p)
def r9 (P x : Nat) : Int32 := if x < P then nI x else -9
theorem cFirst (ho : okV H E n m t c) (hl : isL H E n m t c hk en cd lm f g) {q : Nat} (hq : q ≤ H * n) : fX3_firstThatMends hk en cd lm f g (nI q) = some (r9 (H * n) (fi (fP H E n m t c) (H * n) (H * n - q)), g) := by
  obtain ⟨rfl, -, rfl, -, -, -⟩ := id hl
  have hH := ho.1
  have hn := ho.2.2.1
  have hHn : H * n ≤ 6 * 8 := Nat.mul_le_mul hH.2 hn.2
  rw [fX3_firstThatMends, cLongCards ho hl, some_bind, cLongEnds ho hl, some_bind]
  have key : ∀ k89 k80, fX3_firstThatMends_L19 k89 k80 (nI H) en (nI n) lm f (nI (bo (pC E m t c) n)) (nI (bo (pE n m t c) E)) FU (nI q) g = if fi (fP H E n m t c) (H * n) (H * n - q) < H * n then k80 (nI (fi (fP H E n m t c) (H * n) (H * n - q))) g else k89 g := by
    intro k89 k80
    refine lv1 (F := fun k (x : Int32) => fX3_firstThatMends_L19 k89 k80 (nI H) en (nI n) lm f (nI (bo (pC E m t c) n)) (nI (bo (pE n m t c) E)) k x g) (a := nI) (E := H * n) (v := fun j => if fi (fP H E n m t c) (H * n) (H * n - j) < H * n then k80 (nI (fi (fP H E n m t c) (H * n) (H * n - j))) g else k89 g) ?_ ?_ (H * n - q) q FU (by omega) (fu_lt (by omega))
    · intro k j hj ih
      obtain ⟨al, ha, hal⟩ := alters ho hl hj
      show fX3_firstThatMends_L19 k89 k80 (nI H) en (nI n) lm f (nI (bo (pC E m t c) n)) (nI (bo (pE n m t c) E)) (k + 1) (nI j) g = _
      rw [fX3_firstThatMends_L19, fX2_places, some_bind, pk_mul, if_neg (nI_ge hj (by omega)), ha, some_bind]
      simp only [jn]
      rw [cPunch ho hl hj, some_bind, cFine ho.pu hl.pu, some_bind, cPunch2 ho hl hj, some_bind, nI_1, ih, fi_step hj]
      cases al with
      | false =>
        have hfp : fP H E n m t c j = false := by
          cases hx : fP H E n m t c j with
          | false => rfl
          | true => exact absurd (hal hx) (by decide)
        rw [if_pos (show b2i false = 0 by decide), hfp]
        rfl
      | true =>
        rw [if_neg (show ¬ b2i true = 0 by decide)]
        show (if b2i (fP H E n m t c j) = 0 then _ else _) = _
        cases hx : fP H E n m t c j with
        | false =>
          rw [if_pos (show b2i false = 0 by decide)]
          rfl
        | true =>
          rw [if_neg (show ¬ b2i true = 0 by decide), if_pos rfl, if_pos hj]
    · intro k
      show fX3_firstThatMends_L19 k89 k80 (nI H) en (nI n) lm f (nI (bo (pC E m t c) n)) (nI (bo (pE n m t c) E)) (k + 1) (nI (H * n)) g = _
      rw [fX3_firstThatMends_L19, fX2_places, some_bind, pk_mul, if_pos (nI_le (Nat.le_refl _) (by omega)), fi_0, if_neg (Nat.lt_irrefl _)]
  rw [key]
  unfold r9
  split <;> rfl
theorem r9_ne {P x : Nat} (hP : P ≤ 48) : r9 P x = -9 ↔ ¬ x < P := by
  unfold r9
  by_cases h : x < P
  · rw [if_pos h]
    exact ⟨fun z => absurd z (ne9 (by omega)), fun z => absurd h z⟩
  · rw [if_neg h]
    exact ⟨fun _ => h, fun _ => rfl⟩
/-- the second place for a first one, and whether there is one -/
def sP (H E n m : Nat) (t c : Nat → Nat) (a : Nat) : Nat := fi (fP H E n m t (pu H c a)) (H * n) (H * n - (a + 1))
def qP (H E n m : Nat) (t c : Nat → Nat) (a : Nat) : Bool := decide (sP H E n m t c a < H * n)
theorem cTwo (ho : okV H E n m t c) (hl : isL H E n m t c hk en cd lm f g) (z1 z2 z3 : Int32) : fX3_searchTwo z1 z2 z3 hk en cd lm f g = some (if fi (qP H E n m t c) (H * n) (H * n) < H * n then (2, nI (fi (qP H E n m t c) (H * n) (H * n)), nI (sP H E n m t c (fi (qP H E n m t c) (H * n) (H * n))), g) else (z1, z2, z3, g)) := by
  obtain ⟨rfl, -, rfl, -, -, -⟩ := id hl
  have hH := ho.1
  have hn := ho.2.2.1
  have hHn : H * n ≤ 6 * 8 := Nat.mul_le_mul hH.2 hn.2
  rw [fX3_searchTwo, ← nI_0]
  have key : ∀ k65 k43, fX3_searchTwo_L2 k65 k43 (nI H) en (nI n) lm f FU (nI 0) g = if fi (qP H E n m t c) (H * n) (H * n - 0) < H * n then k43 (nI (fi (qP H E n m t c) (H * n) (H * n - 0))) (nI (sP H E n m t c (fi (qP H E n m t c) (H * n) (H * n - 0)))) g else k65 g := by
    intro k65 k43
    refine lv1 (F := fun k (x : Int32) => fX3_searchTwo_L2 k65 k43 (nI H) en (nI n) lm f k x g) (a := nI) (E := H * n) (v := fun j => if fi (qP H E n m t c) (H * n) (H * n - j) < H * n then k43 (nI (fi (qP H E n m t c) (H * n) (H * n - j))) (nI (sP H E n m t c (fi (qP H E n m t c) (H * n) (H * n - j)))) g else k65 g) ?_ ?_ (H * n) 0 FU (by omega) (fu_lt (by omega))
    · intro k j hj ih
      show fX3_searchTwo_L2 k65 k43 (nI H) en (nI n) lm f (k + 1) (nI j) g = _
      rw [fX3_searchTwo_L2, fX2_places, some_bind, pk_mul, if_neg (nI_ge hj (by omega)), cPunch ho hl hj, some_bind, nI_1, cFirst ho.pu hl.pu (by omega), some_bind, cPunch2 ho hl hj, some_bind, ih, fi_step hj]
      by_cases hx : sP H E n m t c j < H * n
      · have hq : qP H E n m t c j = true := decide_eq_true hx
        refine (if_neg (fun z => ((r9_ne hHn).mp z) hx)).trans ?_
        rw [hq, if_pos rfl, if_pos hj]
        exact congrArg (fun y => k43 (nI j) y g) (if_pos hx)
      · have hq : qP H E n m t c j = false := decide_eq_false hx
        refine (if_pos ((r9_ne hHn).mpr hx)).trans ?_
        rw [hq]
        rfl
    · intro k
      show fX3_searchTwo_L2 k65 k43 (nI H) en (nI n) lm f (k + 1) (nI (H * n)) g = _
      rw [fX3_searchTwo_L2, fX2_places, some_bind, pk_mul, if_pos (nI_le (Nat.le_refl _) (by omega)), fi_0, if_neg (Nat.lt_irrefl _)]
  rw [key, Nat.sub_zero]
  split <;> rfl
theorem mOne (ho : okV H E n m t c) (hs : isS H E n m t c s) (K : Int32 → (Nat → Int32) → Option (Int32 × Int32 × Int32 × (Nat → Int32))) : fX7_mending_L23 K FU 0 (-9) s = K (r9 (H * n) (fi (fP H E n m t c) (H * n) (H * n))) s := by
  obtain ⟨q0, q1, q2, q3, qt, qc⟩ := id hs
  have hH := ho.1
  have hn := ho.2.2.1
  have hHn : H * n ≤ 6 * 8 := Nat.mul_le_mul hH.2 hn.2
  have z := lw1 (F := fun k (x : Int32) => fX7_mending_L23 K k x (-9) s) (a := nI) (E := H * n) (v := fun j => K (r9 (H * n) (fi (fP H E n m t c) (H * n) (H * n - j))) s) ?_ ?_ (H * n) 0 FU (by omega) (fu_lt (by omega))
  · rw [Nat.sub_zero] at z
    exact z
  · intro k j hj ih
    show fX7_mending_L23 K (k + 1 + 1) (nI j) (-9) s = _
    rw [fX7_mending_L23, fX7_places, some_bind, q0, q2, pk_mul, if_neg (nI_ge hj (by omega)), if_pos rfl, mTurn ho hs hj, some_bind, mFine ho.pu (hs.pu ho hj), some_bind, mTurn2 ho hs hj, nI_1, fi_step hj]
    simp only [jn, some_bind]
    show (if b2i (fP H E n m t c j) = 0 then _ else _) = _
    cases hx : fP H E n m t c j with
    | false =>
      rw [if_pos (show b2i false = 0 by decide), if_neg (by decide)]
      exact ih
    | true =>
      rw [if_neg (show ¬ b2i true = 0 by decide), if_pos rfl]
      have hr : r9 (H * n) j = nI j := if_pos hj
      rw [hr, fX7_mending_L23, fX7_places, some_bind, q0, q2, pk_mul, if_neg (ne9 (by omega))]
      split <;> rfl
  · intro k
    show fX7_mending_L23 K (k + 1) (nI (H * n)) (-9) s = _
    rw [fX7_mending_L23, fX7_places, some_bind, q0, q2, pk_mul, if_pos (nI_le (Nat.le_refl _) (by omega)), fi_0]
    exact congrArg (fun y => K y s) (if_neg (Nat.lt_irrefl _)).symm
theorem mIn (ho : okV H E n m t c) (hs : isS H E n m t c s) {q : Nat} (hq : q ≤ H * n) {a : Nat} (ha : a < 48) (K : Int32 → Int32 → (Nat → Int32) → Option (Int32 × Int32 × Int32 × (Nat → Int32))) : fX7_mending_L112 K (nI a) FU (nI q) (-9) (-9) s = if fi (fP H E n m t c) (H * n) (H * n - q) < H * n then K (nI a) (nI (fi (fP H E n m t c) (H * n) (H * n - q))) s else K (-9) (-9) s := by
  obtain ⟨q0, q1, q2, q3, qt, qc⟩ := id hs
  have hH := ho.1
  have hn := ho.2.2.1
  have hHn : H * n ≤ 6 * 8 := Nat.mul_le_mul hH.2 hn.2
  refine lw1 (F := fun k (x : Int32) => fX7_mending_L112 K (nI a) k x (-9) (-9) s) (a := nI) (E := H * n) (v := fun j => if fi (fP H E n m t c) (H * n) (H * n - j) < H * n then K (nI a) (nI (fi (fP H E n m t c) (H * n) (H * n - j))) s else K (-9) (-9) s) ?_ ?_ (H * n - q) q FU (by omega) (fu_lt (by omega))
  · intro k j hj ih
    show fX7_mending_L112 K (nI a) (k + 1 + 1) (nI j) (-9) (-9) s = _
    rw [fX7_mending_L112, fX7_places, some_bind, q0, q2, pk_mul, if_neg (nI_ge hj (by omega)), if_pos rfl, mTurn ho hs hj, some_bind, mFine ho.pu (hs.pu ho hj), some_bind, mTurn2 ho hs hj, nI_1, fi_step hj]
    simp only [jn, some_bind, if_true]
    show (if b2i (fP H E n m t c j) = 0 then _ else _) = _
    cases hx : fP H E n m t c j with
    | false =>
      rw [if_pos (show b2i false = 0 by decide)]
      exact ih
    | true =>
      rw [if_neg (show ¬ b2i true = 0 by decide), if_neg (ne9 (by omega)), if_pos rfl, if_pos hj, fX7_mending_L112, fX7_places, some_bind, q0, q2, pk_mul, if_neg (ne9 (by omega))]
      split <;> rfl
  · intro k
    show fX7_mending_L112 K (nI a) (k + 1) (nI (H * n)) (-9) (-9) s = _
    rw [fX7_mending_L112, fX7_places, some_bind, q0, q2, pk_mul, if_pos (nI_le (Nat.le_refl _) (by omega)), fi_0, if_neg (Nat.lt_irrefl _)]
theorem mTwo (ho : okV H E n m t c) (hs : isS H E n m t c s) (K : Int32 → Int32 → (Nat → Int32) → Option (Int32 × Int32 × Int32 × (Nat → Int32))) : fX7_mending_L86 K FU 0 (-9) (-9) s = if fi (qP H E n m t c) (H * n) (H * n) < H * n then K (nI (fi (qP H E n m t c) (H * n) (H * n))) (nI (sP H E n m t c (fi (qP H E n m t c) (H * n) (H * n)))) s else K (-9) (-9) s := by
  obtain ⟨q0, q1, q2, q3, qt, qc⟩ := id hs
  have hH := ho.1
  have hn := ho.2.2.1
  have hHn : H * n ≤ 6 * 8 := Nat.mul_le_mul hH.2 hn.2
  have z := lw1 (F := fun k (x : Int32) => fX7_mending_L86 K k x (-9) (-9) s) (a := nI) (E := H * n) (v := fun j => if fi (qP H E n m t c) (H * n) (H * n - j) < H * n then K (nI (fi (qP H E n m t c) (H * n) (H * n - j))) (nI (sP H E n m t c (fi (qP H E n m t c) (H * n) (H * n - j)))) s else K (-9) (-9) s) ?_ ?_ (H * n) 0 FU (by omega) (fu_lt (by omega))
  · rw [Nat.sub_zero] at z
    exact z
  · intro k j hj ih
    show fX7_mending_L86 K (k + 1 + 1) (nI j) (-9) (-9) s = _
    rw [fX7_mending_L86, fX7_places, some_bind, q0, q2, pk_mul, if_neg (nI_ge hj (by omega)), if_pos rfl, mTurn ho hs hj, some_bind, nI_1, mIn ho.pu (hs.pu ho hj) (by omega) (by omega), mTurn2 ho hs hj, some_bind, some_bind, fi_step hj]
    by_cases hx : sP H E n m t c j < H * n
    · have hq : qP H E n m t c j = true := decide_eq_true hx
      have hx2 : fi (fP H E n m t (pu H c j)) (H * n) (H * n - (j + 1)) < H * n := hx
      rw [if_pos hx2, hq, if_pos rfl, if_pos hj, fX7_mending_L86, fX7_places, some_bind, q0, q2, pk_mul, if_neg (ne9 (by omega))]
      split <;> rfl
    · have hq : qP H E n m t c j = false := decide_eq_false hx
      have hx2 : ¬ fi (fP H E n m t (pu H c j)) (H * n) (H * n - (j + 1)) < H * n := hx
      rw [if_neg hx2, hq]
      exact ih
  · intro k
    show fX7_mending_L86 K (k + 1) (nI (H * n)) (-9) (-9) s = _
    rw [fX7_mending_L86, fX7_places, some_bind, q0, q2, pk_mul, if_pos (nI_le (Nat.le_refl _) (by omega)), fi_0, if_neg (Nat.lt_irrefl _)]
/-- how few, which -/
def mdg (H E n m : Nat) (t c : Nat → Nat) : Int32 × Int32 × Int32 :=
  if fine E n m t c then (0, -9, -9) else if fi (fP H E n m t c) (H * n) (H * n) < H * n then (1, nI (fi (fP H E n m t c) (H * n) (H * n)), -9) else if fi (qP H E n m t c) (H * n) (H * n) < H * n then (2, nI (fi (qP H E n m t c) (H * n) (H * n)), nI (sP H E n m t c (fi (qP H E n m t c) (H * n) (H * n)))) else (-9, -9, -9)
theorem mMending (ho : okV H E n m t c) (hs : isS H E n m t c s) (z1 z2 : Int32) : fX7_mending z1 z2 s = some ((mdg H E n m t c).1, (mdg H E n m t c).2.1, (mdg H E n m t c).2.2, s) := by
  have hH := ho.1
  have hn := ho.2.2.1
  have hHn : H * n ≤ 6 * 8 := Nat.mul_le_mul hH.2 hn.2
  rw [fX7_mending, mFine ho hs, some_bind]
  unfold mdg
  cases hx : fine E n m t c with
  | true => rfl
  | false =>
    rw [if_pos (show b2i false = 0 by decide), if_neg (show ¬ false = true by decide), mOne ho hs]
    by_cases h1 : fi (fP H E n m t c) (H * n) (H * n) < H * n
    · rw [if_neg (fun z => ((r9_ne hHn).mp z) h1), if_pos h1]
      show some ((1 : Int32), r9 _ _, (-9 : Int32), s) = _
      unfold r9
      rw [if_pos h1]
    · rw [if_pos ((r9_ne hHn).mpr h1), if_neg h1]
      have hr : r9 (H * n) (fi (fP H E n m t c) (H * n) (H * n)) = -9 := (r9_ne hHn).mpr h1
      rw [hr, mTwo ho hs]
      by_cases h2 : fi (qP H E n m t c) (H * n) (H * n) < H * n
      · rw [if_pos h2, if_pos h2, if_neg (ne9 (by omega))]
      · rw [if_neg h2, if_neg h2]
        rfl
theorem cSearch (ho : okV H E n m t c) (hl : isL H E n m t c hk en cd lm f g) (z1 z2 z3 z4 z5 z6 z7 : Int32) (z8 z9 : Nat → Int32) : ∃ f2 g2, fX3_search z1 z2 z3 z4 z5 z6 z7 z8 z9 hk en cd lm f g = some ((mdg H E n m t c).1, (mdg H E n m t c).2.1, (mdg H E n m t c).2.2, hk, en, cd, lm, f2, g2) := by
  have hH := ho.1
  have hE := ho.2.1
  have hn := ho.2.2.1
  have hHn : H * n ≤ 6 * 8 := Nat.mul_le_mul hH.2 hn.2
  obtain ⟨f2, g2, hb, hf2, hg2⟩ := bec z4 z5 z6 z7 z8 z9 hk en cd lm f g
  have hl2 : isL H E n m t c hk en cd lm f2 g2 := ⟨hl.1, hl.2.1, hl.2.2.1, hl.2.2.2.1, fun e he => by rw [hf2 e (by omega), hl.2.2.2.2.1 e he], fun i hi => by rw [hg2 i (by omega), hl.2.2.2.2.2 i hi]⟩
  refine ⟨f2, g2, ?_⟩
  rw [fX3_search, hb, some_bind]
  show (fX2_hasNothingTooLong en cd lm f2 g2).bind _ = _
  rw [cFine ho hl2, some_bind]
  have e0 : (0 : Int32) = nI 0 := by decide
  unfold mdg
  cases hx : fine E n m t c with
  | true => rfl
  | false =>
    rw [if_pos (show b2i false = 0 by decide), if_neg (show ¬ false = true by decide)]
    have hF := cFirst ho hl2 (q := 0) (by omega)
    rw [nI_0, Nat.sub_zero] at hF
    show (fX3_firstThatMends hk en cd lm f2 g2 0).bind _ = _
    rw [hF, some_bind]
    by_cases h1 : fi (fP H E n m t c) (H * n) (H * n) < H * n
    · show (if r9 _ _ = -9 then _ else _) = _
      rw [if_neg (fun z => ((r9_ne hHn).mp z) h1), if_pos h1]
      show some ((1 : Int32), r9 _ _, (-9 : Int32), _) = _
      unfold r9
      rw [if_pos h1]
    · show (if r9 _ _ = -9 then _ else _) = _
      rw [if_pos ((r9_ne hHn).mpr h1), if_neg h1]
      show (fX3_searchTwo (-9) (r9 _ _) (-9) hk en cd lm f2 g2).bind _ = _
      have hr : r9 (H * n) (fi (fP H E n m t c) (H * n) (H * n)) = -9 := (r9_ne hHn).mpr h1
      rw [hr, cTwo ho hl2, some_bind]
      by_cases h2 : fi (qP H E n m t c) (H * n) (H * n) < H * n
      · rw [if_pos h2, if_pos h2]
      · rw [if_neg h2, if_neg h2]
theorem op_mends {thr low high : Int32} (hl : ILm hk en cd lm f g s) (z1 z2 z3 z4 z5 z6 z7 : Int32) (z8 z9 : Nat → Int32) (v : Int32) : ∃ a b, fX6_mends hk en cd lm f g z1 z2 z3 z4 z5 z6 z7 z8 z9 v = some a ∧ fX7_mends thr low high s v = some b ∧ a.1 = b.1 ∧ b.2.2.2.2 = s := by
  obtain ⟨H, E, n, m, t, c, ho, hL, hS⟩ := id hl
  obtain ⟨f2, g2, hc⟩ := cSearch ho hL z1 z2 z3 z4 z5 z6 z7 z8 z9
  rw [fX6_mends, fX7_mends, fX7_in]
  by_cases h1 : v < -1
  · rw [if_pos h1, if_pos h1, some_bind, if_pos rfl]
    exact ⟨_, _, rfl, rfl, rfl, rfl⟩
  · rw [if_neg h1, if_neg h1]
    by_cases h2 : v ≤ 1
    · rw [if_pos h2, if_neg (Int32.not_lt.mpr h2), some_bind, if_neg n10, hc, some_bind, mMending ho hS, some_bind]
      by_cases h0 : v = 0
      · subst h0
        rw [if_pos rfl, if_neg (by decide), if_pos rfl]
        exact ⟨_, _, rfl, rfl, rfl, rfl⟩
      · rw [if_neg h0]
        by_cases h3 : v = 1
        · subst h3
          rw [if_pos rfl, if_neg (by decide), if_neg h0]
          exact ⟨_, _, rfl, rfl, rfl, rfl⟩
        · rw [if_neg h3]
          have h4 : v = -1 := by
            rw [fa_eq] at h0 h3 ⊢
            rw [fa_lt] at h1
            rw [fa_le] at h2
            have a1 : (-1 : Int32).toInt = -1 := by decide
            have a2 : (1 : Int32).toInt = 1 := by decide
            have a3 : (0 : Int32).toInt = 0 := by decide
            omega
          subst h4
          rw [if_pos rfl]
          exact ⟨_, _, rfl, rfl, rfl, rfl⟩
    · rw [if_neg h2, if_pos (Int32.not_le.mp h2), some_bind, if_pos rfl]
      exact ⟨_, _, rfl, rfl, rfl, rfl⟩
end P88a

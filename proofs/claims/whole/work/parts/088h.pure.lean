def nm (tx : Nat → Nat) (a b : Nat) : Nat := if 2 < b - a ∨ tx a = 48 then 0 else if b - a = 1 then tx a - 48 else 10 * (tx a - 48) + (tx (a + 1) - 48)
def Fg (tx : Nat → Nat) (a b : Nat) : Prop := ∀ q, a ≤ q → q < b → fgb tx q = true
def allB (tx : Nat → Nat) (q a b : Nat) : Bool := !an (fun i => !decide (tx i - 48 < q)) b (b - a)
theorem Fg.at {tx : Nat → Nat} {a b q : Nat} (h : Fg tx a b) (h1 : a ≤ q) (h2 : q < b) : 48 ≤ tx q ∧ tx q ≤ 57 := by
  have := h q h1 h2
  unfold fgb at this
  simpa using this
theorem allB_iff {tx : Nat → Nat} {q a b : Nat} (hab : a ≤ b) : allB tx q a b = true ↔ ∀ i, a ≤ i → i < b → tx i - 48 < q := by
  unfold allB
  rw [Bool.not_eq_true', ← Bool.not_eq_true, an_iff (by omega)]
  constructor
  · intro h i h1 h2
    apply Classical.byContradiction
    intro h3
    exact h ⟨i, by omega, h2, by simpa using h3⟩
  · rintro h ⟨i, h1, h2, h3⟩
    have := h i (by omega) h2
    simp at h3
    omega
theorem mkk6 : ∀ k, k ≤ 8 → (nI (mkk k) = 6 ↔ k = 2) := by decide +kernel
theorem mkk7 : ∀ k, k ≤ 8 → (nI (mkk k) = 7 ↔ k = 1) := by decide +kernel
theorem mkk0 : ∀ k, k ≤ 8 → (nI (mkk k) = 0 ↔ k = 0) := by decide +kernel
section P88i
variable {L : Nat} {tx : Nat → Nat} {lets text : Nat → Int32}
theorem nm_le {a b : Nat} (ha : a < b) (hF : Fg tx a b) : nm tx a b ≤ 99 := by
  have h1 := hF.at (Nat.le_refl a) ha
  unfold nm
  by_cases h : 2 < b - a ∨ tx a = 48
  · rw [if_pos h]
    omega
  · rw [if_neg h]
    by_cases h2 : b - a = 1
    · rw [if_pos h2]
      omega
    · rw [if_neg h2]
      have h3 := hF.at (q := a + 1) (by omega) (by omega)
      omega
theorem cFgAt (hT : okT L tx lets text) {p : Nat} (hp : p < L) (h : 48 ≤ tx p) : fX1_figureAt (nI L) lets (nI p) = some (nI (tx p - 48)) := by
  have e120 : (120 : Int32) = nI 120 := by decide
  have e48 : (48 : Int32) = nI 48 := by decide
  have hL := hT.1
  rw [fX1_figureAt, if_neg (nI_pos (by omega)), if_neg (nI_ge hp (by omega)), e120, if_neg (nI_ge (by omega) (by decide)), gd_t (ixt (by omega) (by decide)), nI_clamp (by omega), (hT.2 p hp).2.1, e48, pk_sub h]
theorem cNum (hT : okT L tx lets text) {a b : Nat} (ha : a < b) (hb : b ≤ L) (hF : Fg tx a b) : fX5_number (nI a) (nI b) (nI L) lets = some (nI (nm tx a b)) := by
  have hL := hT.1
  have h1 := hF.at (Nat.le_refl a) ha
  have e2 : (2 : Int32) = nI 2 := by decide
  have e1 : (1 : Int32) = nI 1 := by decide
  have e10 : (10 : Int32) = nI 10 := by decide
  rw [fX5_number, cFgAt hT (by omega) h1.1, some_bind, pk_sub (by omega), e2]
  unfold nm
  by_cases h2 : 2 < b - a
  · rw [if_pos (nI_lt h2 (by omega)), if_pos (Or.inl h2)]
    rfl
  · rw [if_neg (nI_nlt (by omega) (by decide))]
    by_cases h3 : tx a = 48
    · rw [if_pos (Or.inr h3), if_pos ((nI_0iff (by omega)).mpr (by omega))]
      rfl
    · rw [if_neg (show ¬ (2 < b - a ∨ tx a = 48) by omega), if_neg (fun z => h3 (by have := (nI_0iff (by omega)).mp z; omega)), e1]
      by_cases h4 : b - a = 1
      · rw [if_pos (by rw [h4]), if_pos h4]
      · have h5 := hF.at (q := a + 1) (by omega) (by omega)
        rw [if_neg (fun z => h4 ((nI_eq (by omega) (by decide)).mp z)), if_neg h4, nI_add, cFgAt hT (by omega) h5.1, some_bind, e10, pk_mul, nI_add]
theorem mTk0 {len fr to tk v : Int32} {p : Nat} (hp : p < 2 ^ 20) : fX7_takes len fr to tk (nI p) text v = some (fr, to, tk, nI p) := by
  rw [fX7_takes, if_neg (ne9 (by omega))]
theorem mTkF {len fr to tk : Int32} : fX7_takes len fr to tk (-9) text 0 = some (fr, to, tk, fr) := by
  rw [fX7_takes, if_pos rfl, if_pos rfl]
theorem mTkT (hT : okT L tx lets text) {p : Nat} (hp : p ≤ L) (z1 z2 : Int32) : fX7_takes (nI L) z1 (nI p) z2 (-9) text 1 = some (nI (tBl L tx p), nI (tTo L tx p), nI (mkk (tK L tx p)), -9) := by
  rw [fX7_takes, if_pos rfl, if_neg n10, mSteps hT hp, some_bind]
theorem in_any (v lo hi : Int32) : ∃ r, fX7_in v lo hi = some r := by
  rw [fX7_in]
  split
  · exact ⟨_, rfl⟩
  · split <;> exact ⟨_, rfl⟩
theorem mNum0 (hT : okT L tx lets text) {a b p : Nat} (ha : a < 2 ^ 10) (hp : p < 2 ^ 20) (tk lo hi : Int32) : ∃ x, fX7_number (nI L) (nI a) (nI b) tk (nI p) text lo hi = some (x, nI a, nI b, tk, nI p) := by
  rw [fX7_number]
  simp only [jn, mTk0 hp]
  rw [nI_1, mAt hT (by omega), mAt hT (by omega)]
  obtain ⟨r1, h1⟩ := in_any (nI b - nI a) 1 2
  rw [h1]
  have h2 : ∀ (v : Int32) (X : Option (Int32 × Int32 × Int32 × Int32 × Int32)), ((fX7_in v lo hi).bind (fun _ => X)) = X := by
    intro v X
    obtain ⟨r2, h2⟩ := in_any v lo hi
    rw [h2, some_bind]
  simp only [some_bind, ite_self, h2]
  split <;> exact ⟨_, rfl⟩
theorem mNum' (hT : okT L tx lets text) {a b K hi : Nat} (hab : a ≤ b) (hb : b ≤ L) (hK : K ≤ 8) (hF : K = 2 → a < b ∧ Fg tx a b) (hhi : hi < 100) : (K = 2 ∧ (1 ≤ nm tx a b ∧ nm tx a b ≤ hi) ∧ fX7_number (nI L) (nI a) (nI b) (nI (mkk K)) (-9) text 1 (nI hi) = some (nI (nm tx a b), nI (tBl L tx b), nI (tTo L tx b), nI (mkk (tK L tx b)), -9)) ∨ ((K = 2 → ¬ (1 ≤ nm tx a b ∧ nm tx a b ≤ hi)) ∧ ∃ x, fX7_number (nI L) (nI a) (nI b) (nI (mkk K)) (-9) text 1 (nI hi) = some (x, nI a, nI b, nI (mkk K), nI a)) := by
  have hL := hT.1
  have e1 : (1 : Int32) = nI 1 := by decide
  have e2 : (2 : Int32) = nI 2 := by decide
  have e10 : (10 : Int32) = nI 10 := by decide
  have e48 : (48 : Int32) = nI 48 := by decide
  obtain ⟨Y, hY⟩ : ∃ Y, fX7_number (nI L) (nI a) (nI b) (nI (mkk K)) (-9) text 1 (nI hi) = Y := ⟨_, rfl⟩
  rw [hY]
  rw [fX7_number] at hY
  simp only [jn, mTkF, mTkT hT hb, some_bind] at hY
  by_cases h6 : K = 2
  · subst h6
    obtain ⟨hlt, hF⟩ := hF rfl
    have h1 := hF.at (Nat.le_refl a) hlt
    simp only [if_pos ((mkk6 2 (by decide)).mpr rfl)] at hY
    rw [pk_sub hab, nI_1, mAt hT (by omega), mAt hT (by omega), tAt_in (show a < L by omega), e1, e2, rngN (by omega) (by decide) (by decide)] at hY
    simp only [some_bind] at hY
    unfold nm
    by_cases h3 : b - a = 1
    · rw [if_pos (by rw [h3]), if_neg (show ¬ b2i (decide (1 ≤ b - a) && decide (b - a ≤ 2)) = 0 by rw [h3]; decide), if_pos (by rw [h3]), e48, pk_sub h1.1, rngN (by omega) (by decide) (by omega), some_bind] at hY
      by_cases h4 : tx a = 48
      · rw [if_pos (show b2i (decide (1 ≤ tx a - 48) && decide (tx a - 48 ≤ hi)) = 0 by rw [h4]; rfl)] at hY
        rw [if_pos (Or.inr h4)]
        exact Or.inr ⟨fun _ => by omega, _, hY.symm⟩
      · rw [if_neg (show ¬ (2 < b - a ∨ tx a = 48) by omega), if_pos h3]
        by_cases h5 : 1 ≤ tx a - 48 ∧ tx a - 48 ≤ hi
        · rw [if_neg (show ¬ b2i (decide (1 ≤ tx a - 48) && decide (tx a - 48 ≤ hi)) = 0 by rw [decide_eq_true h5.1, decide_eq_true h5.2]; decide)] at hY
          exact Or.inl ⟨rfl, h5, hY.symm⟩
        · rw [if_pos (b2i_0.mpr (by simpa using h5))] at hY
          exact Or.inr ⟨fun _ => h5, _, hY.symm⟩
    · have h7 := hF.at (q := a + 1) (by omega) (by omega)
      rw [if_neg (fun z => h3 ((nI_eq (by omega) (by decide)).mp z)), if_neg (fun z => h3 ((nI_eq (by omega) (by decide)).mp z)), tAt_in (show a + 1 < L by omega), e48, pk_sub h1.1, e10, pk_mul, nI_add, pk_sub (by omega), rngN (by omega) (by decide) (by omega), some_bind] at hY
      by_cases h8 : 2 < b - a
      · rw [if_pos (b2i_0.mpr (by simp; omega))] at hY
        rw [if_pos (Or.inl h8)]
        exact Or.inr ⟨fun _ => by omega, _, hY.symm⟩
      · rw [if_neg (show ¬ b2i (decide (1 ≤ b - a) && decide (b - a ≤ 2)) = 0 by rw [show b - a = 2 by omega]; decide)] at hY
        by_cases h4 : tx a = 48
        · rw [if_pos (show nI (tx a) = nI 48 by rw [h4])] at hY
          rw [if_pos (Or.inr h4)]
          exact Or.inr ⟨fun _ => by omega, _, hY.symm⟩
        · rw [if_neg (show ¬ nI (tx a) = nI 48 from fun z => h4 ((nI_eq (by omega) (by decide)).mp z)), show 10 * (tx a - 48) + tx (a + 1) - 48 = 10 * (tx a - 48) + (tx (a + 1) - 48) by omega] at hY
          rw [if_neg (show ¬ (2 < b - a ∨ tx a = 48) by omega), if_neg h3]
          by_cases h5 : 1 ≤ 10 * (tx a - 48) + (tx (a + 1) - 48) ∧ 10 * (tx a - 48) + (tx (a + 1) - 48) ≤ hi
          · rw [if_neg (show ¬ b2i (decide (1 ≤ 10 * (tx a - 48) + (tx (a + 1) - 48)) && decide (10 * (tx a - 48) + (tx (a + 1) - 48) ≤ hi)) = 0 by rw [decide_eq_true h5.1, decide_eq_true h5.2]; decide)] at hY
            exact Or.inl ⟨rfl, h5, hY.symm⟩
          · rw [if_pos (b2i_0.mpr (by simpa using h5))] at hY
            exact Or.inr ⟨fun _ => h5, _, hY.symm⟩
  · simp only [if_neg (fun z => h6 ((mkk6 K hK).mp z))] at hY
    rw [nI_1, mAt hT (by omega), mAt hT (by omega)] at hY
    simp only [some_bind] at hY
    refine Or.inr ⟨fun z => absurd z h6, ?_⟩
    by_cases h3 : nI b - nI a = 1
    · rw [if_pos h3] at hY
      exact ⟨_, hY.symm⟩
    · rw [if_neg h3] at hY
      exact ⟨_, hY.symm⟩
theorem mNum (hT : okT L tx lets text) {a b K hi : Nat} (hab : a ≤ b) (hb : b ≤ L) (hK : K ≤ 8) (hF : K = 2 → a < b ∧ Fg tx a b) (hhi : hi < 100) : ∃ x, fX7_number (nI L) (nI a) (nI b) (nI (mkk K)) (-9) text 1 (nI hi) = if K = 2 ∧ 1 ≤ nm tx a b ∧ nm tx a b ≤ hi then some (nI (nm tx a b), nI (tBl L tx b), nI (tTo L tx b), nI (mkk (tK L tx b)), -9) else some (x, nI a, nI b, nI (mkk K), nI a) := by
  rcases mNum' hT hab hb hK hF hhi with ⟨h1, h2, h3⟩ | ⟨h1, x, h3⟩
  · exact ⟨0, by rw [h3, if_pos ⟨h1, h2⟩]⟩
  · exact ⟨x, by rw [h3, if_neg (fun z => h1 z.1 z.2)]⟩
theorem cAre (hT : okT L tx lets text) {a b q : Nat} (hab : a ≤ b) (hb : b ≤ L) (hF : Fg tx a b) (hq : q < 100) : fX5_areFiguresBelow (nI a) (nI b) (nI L) lets (nI q) = some (b2i (allB tx q a b)) := by
  have hL := hT.1
  rw [fX5_areFiguresBelow]
  have key := lv1 (F := fun k (x : Nat) => fX5_areFiguresBelow_L5 (some (1 : Int32)) (some (0 : Int32)) (nI b) (nI L) lets (nI q) k (nI (a + x))) (a := fun j => j) (E := b - a) (v := fun j => some (b2i (!an (fun i => !decide (tx i - 48 < q)) b (b - (a + j))))) ?_ ?_ (b - a) 0 FU (by omega) (fu_lt (by omega))
  · exact key
  · intro k j hj ih
    have h1 := hF.at (q := a + j) (by omega) (by omega)
    show fX5_areFiguresBelow_L5 _ _ _ _ _ _ (k + 1) (nI (a + j)) = _
    have ih : fX5_areFiguresBelow_L5 (some (1 : Int32)) (some (0 : Int32)) (nI b) (nI L) lets (nI q) k (nI (a + (j + 1))) = some (b2i (!an (fun i => !decide (tx i - 48 < q)) b (b - (a + (j + 1))))) := ih
    rw [fX5_areFiguresBelow_L5, if_neg (nI_ge (by omega) (by omega)), cFgAt hT (by omega) h1.1, some_bind, nI_1, show a + j + 1 = a + (j + 1) by omega, ih, an_step (show a + j < b by omega), show a + j + 1 = a + (j + 1) by omega]
    by_cases h2 : tx (a + j) - 48 < q
    · rw [if_pos (nI_lt h2 (by omega)), decide_eq_true h2]
      rfl
    · rw [if_neg (nI_nlt (by omega) (by omega)), decide_eq_false h2]
      rfl
  · intro k
    show fX5_areFiguresBelow_L5 _ _ _ _ _ _ (k + 1) (nI (a + (b - a))) = _
    rw [fX5_areFiguresBelow_L5, if_pos (nI_le (by omega) (by omega)), show b - (a + (b - a)) = 0 by omega]
    rfl
theorem mAre (hT : okT L tx lets text) {a b q K lo hi : Nat} (hab : a ≤ b) (hb : b ≤ L) (hK : K ≤ 8) (hF : K = 2 → Fg tx a b) (hq : q < 100) (hlo : lo < 100) (hhi : hi < 100) : fX7_areFigures (nI L) (nI a) (nI b) (nI (mkk K)) text (nI lo) (nI hi) (nI q) = some (b2i (decide (K = 2) && (decide (lo ≤ b - a) && decide (b - a ≤ hi)) && allB tx q a b)) := by
  have hL := hT.1
  have out : ∀ n p, fX7_areFigures_L39 (fun v => gd (tf v) (some v)) (nI L) (nI b) text (nI q) (n + 1) 0 p = some 0 := by
    intro n p
    rw [fX7_areFigures_L39]
    split
    · rfl
    · rw [if_pos rfl]; rfl
  have hFU : ∀ p, fX7_areFigures_L39 (fun v => gd (tf v) (some v)) (nI L) (nI b) text (nI q) FU 0 p = some 0 := by
    intro p
    rw [show FU = 2999 + 1 from rfl]
    exact out 2999 p
  rw [fX7_areFigures]
  simp only [jn]
  rw [hFU]
  by_cases h6 : K = 2
  · subst h6
    rw [if_pos ((mkk6 2 (by decide)).mpr rfl), pk_sub hab, rngN (by omega) (by omega) (by omega), some_bind, decide_eq_true rfl, Bool.true_and]
    by_cases h3 : lo ≤ b - a ∧ b - a ≤ hi
    · rw [decide_eq_true h3.1, decide_eq_true h3.2]
      rw [Bool.true_and, if_neg (show ¬ b2i true = 0 by decide), Bool.true_and]
      have hF := hF rfl
      have key := lw1 (F := fun k (x : Nat) => fX7_areFigures_L39 (fun v => gd (tf v) (some v)) (nI L) (nI b) text (nI q) k 1 (nI (a + x))) (a := fun j => j) (E := b - a) (v := fun j => some (b2i (!an (fun i => !decide (tx i - 48 < q)) b (b - (a + j))))) ?_ ?_ (b - a) 0 FU (by omega) (fu_lt (by omega))
      · exact key
      · intro k j hj ih
        have h1 := hF.at (q := a + j) (by omega) (by omega)
        have e48 : (48 : Int32) = nI 48 := by decide
        show fX7_areFigures_L39 _ _ _ _ _ (k + 1 + 1) 1 (nI (a + j)) = _
        have ih : fX7_areFigures_L39 (fun v => gd (tf v) (some v)) (nI L) (nI b) text (nI q) (k + 1) 1 (nI (a + (j + 1))) = some (b2i (!an (fun i => !decide (tx i - 48 < q)) b (b - (a + (j + 1))))) := ih
        rw [fX7_areFigures_L39, if_neg (nI_ge (by omega) (by omega)), if_neg n10, mAt hT (by omega), some_bind, tAt_in (by omega)]
        simp only [jn]
        rw [nI_1, out, show a + j + 1 = a + (j + 1) by omega, ih, an_step (show a + j < b by omega), show a + j + 1 = a + (j + 1) by omega, e48, pk_sub h1.1]
        by_cases h2 : tx (a + j) - 48 < q
        · rw [if_neg (nI_ge h2 (by omega)), decide_eq_true h2]
          rfl
        · rw [if_pos (nI_le (by omega) (by omega)), decide_eq_false h2]
          rfl
      · intro k
        show fX7_areFigures_L39 _ _ _ _ _ (k + 1) 1 (nI (a + (b - a))) = _
        rw [fX7_areFigures_L39, if_pos (nI_le (by omega) (by omega)), show b - (a + (b - a)) = 0 by omega]
        rfl
    · have h4 : (decide (lo ≤ b - a) && decide (b - a ≤ hi)) = false := by simpa using h3
      rw [h4, if_pos b2i_f]
      rfl
  · rw [if_neg (fun z => h6 ((mkk6 K hK).mp z)), decide_eq_false h6]
    rfl
end P88i

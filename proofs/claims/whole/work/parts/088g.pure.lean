def okT (L : Nat) (tx : Nat → Nat) (lets text : Nat → Int32) : Prop := L ≤ 120 ∧ ∀ i, i < L → tx i < 256 ∧ lets i = nI (tx i) ∧ text i &&& 255 = nI (tx i)
def tAt (L : Nat) (tx : Nat → Nat) (p : Nat) : Int32 := if p < L then nI (tx p) else -1
def sp (tx : Nat → Nat) (q : Nat) : Bool := decide (tx q = 32)
def fgb (tx : Nat → Nat) (q : Nat) : Bool := decide (48 ≤ tx q) && decide (tx q ≤ 57)
def ltb (tx : Nat → Nat) (q : Nat) : Bool := decide (97 ≤ tx q) && decide (tx q ≤ 122)
def tBl (L : Nat) (tx : Nat → Nat) (p : Nat) : Nat := fi (fun q => !sp tx q) L (L - p)
def tFg (L : Nat) (tx : Nat → Nat) (p : Nat) : Nat := fi (fun q => !fgb tx q) L (L - p)
def tWd (L : Nat) (tx : Nat → Nat) (p : Nat) : Nat := fi (fun q => !ltb tx q) L (L - p)
theorem fi_ge {p : Nat → Bool} {E : Nat} : ∀ {d : Nat}, d ≤ E → E - d ≤ fi p E d
  | 0, _ => Nat.le_refl _
  | d + 1, hd => by
    have h := fi_ge (p := p) (E := E) (d := d) (by omega)
    rw [fi]
    split <;> omega
theorem fi_all {p : Nat → Bool} {E d : Nat} (hd : d ≤ E) {k : Nat} (h1 : E - d ≤ k) (h2 : k < fi p E d) : p k = false := by
  have h := fi_spec (u := p) (E := E) hd
  have hle : fi p E d ≤ E := fi_le
  by_cases hx : fi p E d = E
  · exact h.1 hx k h1 (by omega)
  · exact (h.2 (by omega)).2 k h1 h2
section P88g
variable {L : Nat} {tx : Nat → Nat} {lets text : Nat → Int32}
theorem cAt (hT : okT L tx lets text) {p : Nat} (hp : p < 2 ^ 20) : fX1_at (nI L) lets (nI p) = some (tAt L tx p) := by
  have e120 : (120 : Int32) = nI 120 := by decide
  have hL := hT.1
  unfold tAt
  by_cases h : p < L
  · rw [fX1_at, if_neg (nI_pos (by omega)), if_neg (nI_ge h (by omega)), e120, if_neg (nI_ge (by omega) (by decide)), gd_t (ixt (by omega) (by decide)), nI_clamp (by omega), (hT.2 p h).2.1, if_pos h]
  · rw [fX1_at, if_neg (nI_pos (by omega)), if_pos (nI_le (by omega) (by omega)), if_neg h]
theorem mAt (hT : okT L tx lets text) {p : Nat} (hp : p < 2 ^ 20) : fX7_at (nI L) text (nI p) = some (tAt L tx p) := by
  have hL := hT.1
  unfold tAt
  by_cases h : p < L
  · rw [fX7_at, if_neg (nI_ge h (by omega)), gd_t (ixt (by omega) (by decide)), nI_clamp (by omega), (hT.2 p h).2.2, if_pos h]
  · rw [fX7_at, if_pos (nI_le (by omega) (by omega)), if_neg h]
theorem tAt_in {p : Nat} (h : p < L) : tAt L tx p = nI (tx p) := if_pos h
theorem tAt_out {p : Nat} (h : ¬ p < L) : tAt L tx p = -1 := if_neg h
theorem rngN {x a b : Nat} (hx : x < 2 ^ 20) (ha : a < 2 ^ 20) (hb : b < 2 ^ 20) : fX7_in (nI x) (nI a) (nI b) = some (b2i (decide (a ≤ x) && decide (x ≤ b))) := by
  rw [fX7_in]
  by_cases h : a ≤ x
  · rw [if_neg (nI_nlt h (by omega)), decide_eq_true h, Bool.true_and]
    by_cases h2 : x ≤ b
    · rw [if_neg (nI_nlt h2 (by omega)), decide_eq_true h2]
      rfl
    · rw [if_pos (nI_lt (by omega) (by omega)), decide_eq_false h2]
      rfl
  · rw [if_pos (nI_lt (by omega) (by omega)), decide_eq_false h, Bool.false_and]
    rfl
theorem cFig (hT : okT L tx lets text) {p : Nat} (hp : p < L) : fX5_isFigure (nI (tx p)) = some (b2i (fgb tx p)) := by
  have h := (hT.2 p hp).1
  exact rngN (a := 48) (b := 57) (by omega) (by decide) (by decide)
theorem cLet (hT : okT L tx lets text) {p : Nat} (hp : p < L) : fX5_isWordLetter (nI (tx p)) = some (b2i (ltb tx p)) := by
  have h := (hT.2 p hp).1
  exact rngN (a := 97) (b := 122) (by omega) (by decide) (by decide)
theorem mFig (hT : okT L tx lets text) {p : Nat} (hp : p < L) : fX7_in (nI (tx p)) 48 57 = some (b2i (fgb tx p)) := cFig hT hp
theorem mLet (hT : okT L tx lets text) {p : Nat} (hp : p < L) : fX7_in (nI (tx p)) 97 122 = some (b2i (ltb tx p)) := cLet hT hp
theorem cBlk (hT : okT L tx lets text) {p : Nat} (hp : p ≤ L) : fX5_placeBehindBlanks (nI L) lets (nI p) = some (nI (tBl L tx p)) := by
  have hL := hT.1
  rw [fX5_placeBehindBlanks]
  refine lv1 (F := fX5_placeBehindBlanks_L2 (fun v => some v) (nI L) lets) (a := nI) (E := L) (v := fun j => some (nI (fi (fun q => !sp tx q) L (L - j)))) ?_ ?_ (L - p) p FU (by omega) (fu_lt (by omega))
  · intro k j hj ih
    have h := (hT.2 j hj).1
    have e32 : (32 : Int32) = nI 32 := by decide
    rw [fX5_placeBehindBlanks_L2, if_neg (nI_ge hj (by omega)), cAt hT (by omega), some_bind, tAt_in hj, nI_1, ih, fi_step hj]
    by_cases hs : tx j = 32
    · rw [if_pos (by rw [hs]; rfl), if_neg (by simp [sp, hs])]
    · rw [if_neg (fun z => by rw [e32] at z; exact hs ((nI_eq (by omega) (by decide)).mp z)), if_pos (by simp [sp, hs])]
  · intro k
    rw [fX5_placeBehindBlanks_L2, if_pos (nI_le (Nat.le_refl _) (by omega)), fi_0]
theorem cFgs (hT : okT L tx lets text) {p : Nat} (hp : p ≤ L) : fX5_placeBehindFigures (nI L) lets (nI p) = some (nI (tFg L tx p)) := by
  have hL := hT.1
  rw [fX5_placeBehindFigures]
  refine lv1 (F := fX5_placeBehindFigures_L2 (fun v => some v) (nI L) lets) (a := nI) (E := L) (v := fun j => some (nI (fi (fun q => !fgb tx q) L (L - j)))) ?_ ?_ (L - p) p FU (by omega) (fu_lt (by omega))
  · intro k j hj ih
    rw [fX5_placeBehindFigures_L2, if_neg (nI_ge hj (by omega)), cAt hT (by omega), some_bind, tAt_in hj, cFig hT hj, some_bind, nI_1, ih, fi_step hj]
    cases fgb tx j <;> rfl
  · intro k
    rw [fX5_placeBehindFigures_L2, if_pos (nI_le (Nat.le_refl _) (by omega)), fi_0]
theorem cWds (hT : okT L tx lets text) {p : Nat} (hp : p ≤ L) : fX5_placeBehindWord (nI L) lets (nI p) = some (nI (tWd L tx p)) := by
  have hL := hT.1
  rw [fX5_placeBehindWord]
  refine lv1 (F := fX5_placeBehindWord_L2 (fun v => some v) (nI L) lets) (a := nI) (E := L) (v := fun j => some (nI (fi (fun q => !ltb tx q) L (L - j)))) ?_ ?_ (L - p) p FU (by omega) (fu_lt (by omega))
  · intro k j hj ih
    rw [fX5_placeBehindWord_L2, if_neg (nI_ge hj (by omega)), cAt hT (by omega), some_bind, tAt_in hj, cLet hT hj, some_bind, nI_1, ih, fi_step hj]
    cases ltb tx j <;> rfl
  · intro k
    rw [fX5_placeBehindWord_L2, if_pos (nI_le (Nat.le_refl _) (by omega)), fi_0]
theorem mBlk (hT : okT L tx lets text) {p : Nat} (hp : p ≤ L) (K : Int32 → Option (Int32 × Int32 × Int32)) : fX7_steps_L8 K (nI L) text FU (nI p) = K (nI (tBl L tx p)) := by
  have hL := hT.1
  refine lv1 (F := fX7_steps_L8 K (nI L) text) (a := nI) (E := L) (v := fun j => K (nI (fi (fun q => !sp tx q) L (L - j)))) ?_ ?_ (L - p) p FU (by omega) (fu_lt (by omega))
  · intro k j hj ih
    have h := (hT.2 j hj).1
    have e32 : (32 : Int32) = nI 32 := by decide
    rw [fX7_steps_L8, mAt hT (by omega), some_bind, tAt_in hj, nI_1, ih, fi_step hj]
    by_cases hs : tx j = 32
    · rw [if_pos (by rw [hs]; rfl), if_neg (by simp [sp, hs])]
    · rw [if_neg (fun z => by rw [e32] at z; exact hs ((nI_eq (by omega) (by decide)).mp z)), if_pos (by simp [sp, hs])]
  · intro k
    rw [fX7_steps_L8, mAt hT (by omega), some_bind, tAt_out (Nat.lt_irrefl _), if_neg (by decide), fi_0]
theorem mFgs (hT : okT L tx lets text) {p : Nat} (hp : p ≤ L) (K : Int32 → Option (Int32 × Int32 × Int32)) : fX7_steps_L79 K (nI L) text FU (nI p) = K (nI (tFg L tx p)) := by
  have hL := hT.1
  refine lv1 (F := fX7_steps_L79 K (nI L) text) (a := nI) (E := L) (v := fun j => K (nI (fi (fun q => !fgb tx q) L (L - j)))) ?_ ?_ (L - p) p FU (by omega) (fu_lt (by omega))
  · intro k j hj ih
    rw [fX7_steps_L79, mAt hT (by omega), some_bind, tAt_in hj, mFig hT hj, some_bind, nI_1, ih, fi_step hj]
    cases fgb tx j <;> rfl
  · intro k
    rw [fX7_steps_L79, mAt hT (by omega), some_bind, tAt_out (Nat.lt_irrefl _), fi_0]
    rfl
theorem mWds (hT : okT L tx lets text) {p : Nat} (hp : p ≤ L) (K : Int32 → Option (Int32 × Int32 × Int32)) : fX7_steps_L137 K (nI L) text FU (nI p) = K (nI (tWd L tx p)) := by
  have hL := hT.1
  refine lv1 (F := fX7_steps_L137 K (nI L) text) (a := nI) (E := L) (v := fun j => K (nI (fi (fun q => !ltb tx q) L (L - j)))) ?_ ?_ (L - p) p FU (by omega) (fu_lt (by omega))
  · intro k j hj ih
    rw [fX7_steps_L137, mAt hT (by omega), some_bind, tAt_in hj, mLet hT hj, some_bind, nI_1, ih, fi_step hj]
    cases ltb tx j <;> rfl
  · intro k
    rw [fX7_steps_L137, mAt hT (by omega), some_bind, tAt_out (Nat.lt_irrefl _), fi_0]
    rfl
end P88g
def bytN : List (List Nat) := [[104, 111, 111, 107, 115], [116, 105, 101, 115], [99, 97, 114, 100], [99, 108, 111, 116, 104], [108, 105, 109, 105, 116]]
def wc (w i : Nat) : Nat := (bytN.getD w []).getD i 0
theorem wc_ok : ∀ w, w < 5 → wLenI w = nI (wLen w) ∧ wLen w ≤ 5 ∧ ∀ i, i < wLen w → wCh w i = nI (wc w i) ∧ wc w i < 256 := by decide +kernel
def isW (tx : Nat → Nat) (w a b : Nat) : Bool := decide (b - a = wLen w) && !an (fun i => !decide (tx (a + i) = wc w i)) (wLen w) (wLen w)
theorem txI {x y : Nat} (hx : x < 256) (hy : y < 256) : nI x = nI y ↔ x = y := nI_eq (by omega) (by omega)
section P88h
variable {L : Nat} {tx : Nat → Nat} {lets text : Nat → Int32}
theorem cIs (hT : okT L tx lets text) {w a b : Nat} (hw : w < 5) (ha : a ≤ b) (hb : b ≤ L) : fX1_isFrom (nI L) lets (nI a) (nI b) w = some (b2i (isW tx w a b)) := by
  have hL := hT.1
  obtain ⟨w1, w2, w3⟩ := wc_ok w hw
  rw [fX1_isFrom, pk_sub ha, w1]
  unfold isW
  by_cases hx : b - a = wLen w
  · rw [if_pos (by rw [hx]), decide_eq_true hx, Bool.true_and, ← nI_0]
    have key := lv1 (F := fX1_isFrom_L15 (some (1 : Int32)) (some (0 : Int32)) (nI L) lets (nI a) w) (a := nI) (E := wLen w) (v := fun j => some (b2i (!an (fun i => !decide (tx (a + i) = wc w i)) (wLen w) (wLen w - j)))) ?_ ?_ (wLen w) 0 FU (by omega) (fu_lt (by omega))
    · rw [Nat.sub_zero] at key
      exact key
    · intro k j hj ih
      have h := (hT.2 (a + j) (by omega)).1
      have h3 := w3 j hj
      rw [fX1_isFrom_L15, w1, if_neg (nI_ge hj (by omega)), nI_add, cAt hT (by omega), some_bind, gd_t (ixt hj (by omega)), nI_clamp (by omega), h3.1, tAt_in (by omega), nI_1, ih, an_step hj]
      by_cases he : tx (a + j) = wc w j
      · rw [if_pos (by rw [he]), decide_eq_true he]
        rfl
      · rw [if_neg (fun z => he ((txI h h3.2).mp z)), decide_eq_false he]
        rfl
    · intro k
      rw [fX1_isFrom_L15, w1, if_pos (nI_le (Nat.le_refl _) (by omega)), an_0]
      rfl
  · rw [if_neg (fun z => hx ((nI_eq (by omega) (by omega)).mp z)), decide_eq_false hx, Bool.false_and]
    rfl
theorem mEq (hT : okT L tx lets text) {p x : Nat} (hp : p < L) (hx : x < 256) {R : Type} (A B : R) : (if tAt L tx p = nI x then A else B) = if decide (tx p = x) then A else B := by
  have h := (hT.2 p hp).1
  rw [tAt_in hp]
  by_cases he : tx p = x
  · rw [if_pos (by rw [he]), if_pos (by simpa using he)]
  · rw [if_neg (fun z => he ((txI h hx).mp z)), if_neg (by simpa using he)]
theorem mIs5 (hT : okT L tx lets text) {a b c0 c1 c2 c3 c4 : Nat} (ha : a ≤ b) (hb : b ≤ L) (h0 : c0 < 256) (h1 : c1 < 256) (h2 : c2 < 256) (h3 : c3 < 256) (h4 : c4 < 256) (hz : 0 < c4) : fX7_isWord (nI L) (nI a) (nI b) text (nI c0) (nI c1) (nI c2) (nI c3) (nI c4) = some (b2i (decide (b - a = 5) && (decide (tx a = c0) && (decide (tx (a + 1) = c1) && (decide (tx (a + 2) = c2) && (decide (tx (a + 3) = c3) && decide (tx (a + 4) = c4))))))) := by
  have hL := hT.1
  have e2 : (2 : Int32) = nI 2 := by decide
  have e3 : (3 : Int32) = nI 3 := by decide
  have e4 : (4 : Int32) = nI 4 := by decide
  have e5 : (5 : Int32) = nI 5 := by decide
  rw [fX7_isWord]
  simp only [jn]
  rw [if_neg (nI_ne0 hz (by omega)), if_neg (nI_ne0 hz (by omega)), pk_sub ha, nI_1, e2, e3, e4, e5, nI_add, nI_add, nI_add, mAt hT (by omega), mAt hT (by omega), mAt hT (by omega), mAt hT (by omega), mAt hT (by omega)]
  by_cases hx : b - a = 5
  · rw [if_pos (by rw [hx]), decide_eq_true hx, Bool.true_and]
    simp only [some_bind]
    rw [mEq hT (by omega) h0, mEq hT (by omega) h1, mEq hT (by omega) h2, mEq hT (by omega) h3, mEq hT (by omega) h4]
    cases decide (tx a = c0) <;> cases decide (tx (a + 1) = c1) <;> cases decide (tx (a + 2) = c2) <;> cases decide (tx (a + 3) = c3) <;> cases decide (tx (a + 4) = c4) <;> rfl
  · rw [if_neg (fun z => hx ((nI_eq (by omega) (by omega)).mp z)), decide_eq_false hx, Bool.false_and]
    rfl
theorem mIs4 (hT : okT L tx lets text) {a b c0 c1 c2 c3 : Nat} (ha : a ≤ b) (hb : b ≤ L) (h0 : c0 < 256) (h1 : c1 < 256) (h2 : c2 < 256) (h3 : c3 < 256) : fX7_isWord (nI L) (nI a) (nI b) text (nI c0) (nI c1) (nI c2) (nI c3) 0 = some (b2i (decide (b - a = 4) && (decide (tx a = c0) && (decide (tx (a + 1) = c1) && (decide (tx (a + 2) = c2) && decide (tx (a + 3) = c3)))))) := by
  have hL := hT.1
  have e2 : (2 : Int32) = nI 2 := by decide
  have e3 : (3 : Int32) = nI 3 := by decide
  have e4 : (4 : Int32) = nI 4 := by decide
  rw [fX7_isWord]
  simp only [jn, if_true]
  rw [pk_sub ha, nI_1, e2, e3, e4, nI_add, nI_add, mAt hT (by omega), mAt hT (by omega), mAt hT (by omega), mAt hT (by omega)]
  by_cases hx : b - a = 4
  · rw [if_pos (by rw [hx]), decide_eq_true hx, Bool.true_and]
    simp only [some_bind]
    rw [mEq hT (by omega) h0, mEq hT (by omega) h1, mEq hT (by omega) h2, mEq hT (by omega) h3]
    cases decide (tx a = c0) <;> cases decide (tx (a + 1) = c1) <;> cases decide (tx (a + 2) = c2) <;> cases decide (tx (a + 3) = c3) <;> rfl
  · rw [if_neg (fun z => hx ((nI_eq (by omega) (by omega)).mp z)), decide_eq_false hx, Bool.false_and]
    rfl
def wk (tx : Nat → Nat) (a b : Nat) : Nat := if isW tx 0 a b then 4 else if isW tx 1 a b then 5 else if isW tx 2 a b then 6 else if isW tx 3 a b then 7 else if isW tx 4 a b then 8 else 3
def mkk (k : Nat) : Nat := [0, 7, 6, 8, 1, 2, 3, 4, 5].getD k 8
theorem cKind (hT : okT L tx lets text) {a b : Nat} (ha : a ≤ b) (hb : b ≤ L) : fX5_kindOfWord (nI a) (nI b) (nI L) lets = some (nI (wk tx a b)) := by
  rw [fX5_kindOfWord, cIs hT (by decide) ha hb, some_bind, cIs hT (by decide) ha hb, some_bind, cIs hT (by decide) ha hb, some_bind, cIs hT (by decide) ha hb, some_bind, cIs hT (by decide) ha hb, some_bind]
  unfold wk
  cases isW tx 0 a b <;> cases isW tx 1 a b <;> cases isW tx 2 a b <;> cases isW tx 3 a b <;> cases isW tx 4 a b <;> rfl
theorem mKind (hT : okT L tx lets text) {a b : Nat} (ha : a ≤ b) (hb : b ≤ L) : fX7_wordOf (nI L) (nI a) (nI b) text = some (nI (mkk (wk tx a b))) := by
  have w0 : fX7_isWord (nI L) (nI a) (nI b) text 104 111 111 107 115 = some (b2i (isW tx 0 a b)) := by
    refine (mIs5 hT (c0 := 104) (c1 := 111) (c2 := 111) (c3 := 107) (c4 := 115) ha hb (by decide) (by decide) (by decide) (by decide) (by decide) (by decide)).trans ?_
    show _ = some (b2i (decide (b - a = 5) && !(!decide (tx (a + 0) = 104) || (!decide (tx (a + 1) = 111) || (!decide (tx (a + 2) = 111) || (!decide (tx (a + 3) = 107) || (!decide (tx (a + 4) = 115) || false)))))))
    simp only [Bool.not_or, Bool.not_not, Bool.not_false, Bool.and_true, Nat.add_zero]
  have w1 : fX7_isWord (nI L) (nI a) (nI b) text 116 105 101 115 0 = some (b2i (isW tx 1 a b)) := by
    refine (mIs4 hT (c0 := 116) (c1 := 105) (c2 := 101) (c3 := 115) ha hb (by decide) (by decide) (by decide) (by decide)).trans ?_
    show _ = some (b2i (decide (b - a = 4) && !(!decide (tx (a + 0) = 116) || (!decide (tx (a + 1) = 105) || (!decide (tx (a + 2) = 101) || (!decide (tx (a + 3) = 115) || false))))))
    simp only [Bool.not_or, Bool.not_not, Bool.not_false, Bool.and_true, Nat.add_zero]
  have w2 : fX7_isWord (nI L) (nI a) (nI b) text 99 97 114 100 0 = some (b2i (isW tx 2 a b)) := by
    refine (mIs4 hT (c0 := 99) (c1 := 97) (c2 := 114) (c3 := 100) ha hb (by decide) (by decide) (by decide) (by decide)).trans ?_
    show _ = some (b2i (decide (b - a = 4) && !(!decide (tx (a + 0) = 99) || (!decide (tx (a + 1) = 97) || (!decide (tx (a + 2) = 114) || (!decide (tx (a + 3) = 100) || false))))))
    simp only [Bool.not_or, Bool.not_not, Bool.not_false, Bool.and_true, Nat.add_zero]
  have w3 : fX7_isWord (nI L) (nI a) (nI b) text 99 108 111 116 104 = some (b2i (isW tx 3 a b)) := by
    refine (mIs5 hT (c0 := 99) (c1 := 108) (c2 := 111) (c3 := 116) (c4 := 104) ha hb (by decide) (by decide) (by decide) (by decide) (by decide) (by decide)).trans ?_
    show _ = some (b2i (decide (b - a = 5) && !(!decide (tx (a + 0) = 99) || (!decide (tx (a + 1) = 108) || (!decide (tx (a + 2) = 111) || (!decide (tx (a + 3) = 116) || (!decide (tx (a + 4) = 104) || false)))))))
    simp only [Bool.not_or, Bool.not_not, Bool.not_false, Bool.and_true, Nat.add_zero]
  have w4 : fX7_isWord (nI L) (nI a) (nI b) text 108 105 109 105 116 = some (b2i (isW tx 4 a b)) := by
    refine (mIs5 hT (c0 := 108) (c1 := 105) (c2 := 109) (c3 := 105) (c4 := 116) ha hb (by decide) (by decide) (by decide) (by decide) (by decide) (by decide)).trans ?_
    show _ = some (b2i (decide (b - a = 5) && !(!decide (tx (a + 0) = 108) || (!decide (tx (a + 1) = 105) || (!decide (tx (a + 2) = 109) || (!decide (tx (a + 3) = 105) || (!decide (tx (a + 4) = 116) || false)))))))
    simp only [Bool.not_or, Bool.not_not, Bool.not_false, Bool.and_true, Nat.add_zero]
  rw [fX7_wordOf, w0, w1, w2, w3, w4]
  unfold wk
  cases isW tx 0 a b <;> cases isW tx 1 a b <;> cases isW tx 2 a b <;> cases isW tx 3 a b <;> cases isW tx 4 a b <;> rfl
/-- the token behind p: its kind, where it begins, where it ends -/
def tK (L : Nat) (tx : Nat → Nat) (p : Nat) : Nat := if tBl L tx p < L then (if fgb tx (tBl L tx p) then 2 else if ltb tx (tBl L tx p) then wk tx (tBl L tx p) (tWd L tx (tBl L tx p)) else if tx (tBl L tx p) = 59 then 1 else 3) else 0
def tTo (L : Nat) (tx : Nat → Nat) (p : Nat) : Nat := if tBl L tx p < L then (if fgb tx (tBl L tx p) then tFg L tx (tBl L tx p) else if ltb tx (tBl L tx p) then tWd L tx (tBl L tx p) else tBl L tx p + 1) else tBl L tx p
theorem tBl_in {p : Nat} (hp : p ≤ L) : p ≤ tBl L tx p ∧ tBl L tx p ≤ L := by
  have h := fi_ge (p := fun q => !sp tx q) (E := L) (d := L - p) (by omega)
  have h2 : fi (fun q => !sp tx q) L (L - p) ≤ L := fi_le
  exact ⟨by show p ≤ fi _ _ _; omega, h2⟩
theorem tFg_in {p : Nat} (hp : p < L) (h : fgb tx p = true) : p < tFg L tx p ∧ tFg L tx p ≤ L ∧ ∀ q, p ≤ q → q < tFg L tx p → fgb tx q = true := by
  have h2 : fi (fun q => !fgb tx q) L (L - p) ≤ L := fi_le
  have h3 := fi_ge (p := fun q => !fgb tx q) (E := L) (d := L - (p + 1)) (by omega)
  refine ⟨?_, h2, fun q q1 q2 => ?_⟩
  · show p < fi _ _ _
    rw [fi_step hp, if_neg (by simp [h])]
    omega
  · have := fi_all (p := fun q => !fgb tx q) (E := L) (d := L - p) (by omega) (k := q) (by omega) q2
    simpa using this
theorem tWd_in {p : Nat} (hp : p < L) (h : ltb tx p = true) : p < tWd L tx p ∧ tWd L tx p ≤ L := by
  have h2 : fi (fun q => !ltb tx q) L (L - p) ≤ L := fi_le
  have h3 := fi_ge (p := fun q => !ltb tx q) (E := L) (d := L - (p + 1)) (by omega)
  refine ⟨?_, h2⟩
  show p < fi _ _ _
  rw [fi_step hp, if_neg (by simp [h])]
  omega
theorem wk_in {a b : Nat} : 3 ≤ wk tx a b ∧ wk tx a b ≤ 8 := by
  unfold wk
  repeat' split
  all_goals decide
theorem tok_in {p : Nat} (hp : p ≤ L) : p ≤ tBl L tx p ∧ tBl L tx p ≤ tTo L tx p ∧ tTo L tx p ≤ L ∧ tK L tx p ≤ 8 ∧ (tK L tx p ≠ 0 → tBl L tx p < tTo L tx p) ∧ (tK L tx p = 2 → ∀ q, tBl L tx p ≤ q → q < tTo L tx p → fgb tx q = true) := by
  have h := tBl_in (tx := tx) hp
  unfold tK tTo
  generalize tBl L tx p = a at h
  by_cases ha : a < L
  · rw [if_pos ha, if_pos ha]
    cases hf : fgb tx a with
    | true =>
      have h2 := tFg_in ha hf
      simp only [if_true]
      exact ⟨h.1, by omega, h2.2.1, by decide, fun _ => h2.1, fun _ => h2.2.2⟩
    | false =>
      simp only [Bool.false_eq_true, if_false]
      cases hl : ltb tx a with
      | true =>
        have h2 := tWd_in ha hl
        have h3 := wk_in (tx := tx) (a := a) (b := tWd L tx a)
        simp only [if_true]
        exact ⟨h.1, by omega, h2.2, h3.2, fun _ => h2.1, fun z => by omega⟩
      | false =>
        simp only [Bool.false_eq_true, if_false]
        refine ⟨h.1, by omega, by omega, by split <;> decide, fun _ => by omega, fun z => ?_⟩
        revert z
        split <;> intro z <;> exact absurd z (by decide)
  · rw [if_neg ha, if_neg ha]
    exact ⟨h.1, Nat.le_refl _, h.2, by decide, fun z => absurd rfl z, fun z => absurd z (by decide)⟩
theorem cNext (hT : okT L tx lets text) {p : Nat} (hp : p ≤ L) (z1 z2 : Int32) : fX5_nextToken z1 z2 (nI p) (nI L) lets = some (nI (tK L tx p), nI (tBl L tx p), nI (tTo L tx p)) := by
  have hL := hT.1
  have h := tBl_in (tx := tx) hp
  rw [fX5_nextToken, cBlk hT hp, some_bind, cAt hT (by omega), some_bind]
  unfold tK tTo
  generalize tBl L tx p = a at h
  by_cases ha : a < L
  · rw [if_pos ha, if_pos ha, tAt_in ha, cFig hT ha, cLet hT ha]
    cases hf : fgb tx a with
    | true =>
      rw [some_bind, if_neg (show ¬ b2i true = 0 by decide), cFgs hT h.2]
      rfl
    | false =>
      rw [some_bind, if_pos b2i_f, some_bind]
      cases hl : ltb tx a with
      | true =>
        have h2 := tWd_in ha hl
        rw [if_neg (show ¬ b2i true = 0 by decide), cWds hT h.2, some_bind, cKind hT (by omega) h2.2]
        rfl
      | false =>
        have e59 : (59 : Int32) = nI 59 := by decide
        have hx := (hT.2 a ha).1
        rw [if_pos b2i_f, if_pos (nI_lt ha (by omega)), nI_1]
        simp only [jn]
        by_cases he : tx a = 59
        · rw [if_pos (by rw [he]; rfl), he]
          rfl
        · rw [if_neg (fun z => by rw [e59] at z; exact he ((txI hx (by decide)).mp z)), if_neg (by decide), if_neg (by decide), if_neg he, if_neg (by decide), if_neg (by decide)]
          rfl
  · rw [tAt_out ha, if_neg ha, if_neg ha]
    show (if nI a < nI L then _ else _) = _
    rw [if_neg (nI_nlt (by omega) (by omega))]
    rfl
theorem mSteps (hT : okT L tx lets text) {p : Nat} (hp : p ≤ L) (z1 z2 : Int32) : fX7_steps (nI L) z1 (nI p) z2 text = some (nI (tBl L tx p), nI (tTo L tx p), nI (mkk (tK L tx p))) := by
  have hL := hT.1
  have h := tBl_in (tx := tx) hp
  rw [fX7_steps, mBlk hT hp, mAt hT (by omega), some_bind, some_bind, some_bind, some_bind]
  unfold tK tTo
  generalize tBl L tx p = a at h
  by_cases ha : a < L
  · have hx := (hT.2 a ha).1
    rw [if_pos ha, if_pos ha, tAt_in ha, mFig hT ha, mLet hT ha, if_pos (nI_pos' (by omega))]
    cases hf : fgb tx a with
    | true =>
      rw [some_bind, if_neg (show ¬ b2i true = 0 by decide), mFgs hT h.2]
      rfl
    | false =>
      rw [some_bind, if_pos b2i_f, some_bind]
      cases hl : ltb tx a with
      | true =>
        have h2 := tWd_in ha hl
        rw [if_neg (show ¬ b2i true = 0 by decide), mWds hT h.2, mKind hT (by omega) h2.2]
        rfl
      | false =>
        have e59 : (59 : Int32) = nI 59 := by decide
        rw [if_pos b2i_f, nI_1]
        simp only [jn]
        by_cases he : tx a = 59
        · rw [if_pos (by rw [he]; rfl), he]
          rfl
        · rw [if_neg (fun z => by rw [e59] at z; exact he ((txI hx (by decide)).mp z)), if_neg (by decide), if_neg (by decide), if_neg he, if_neg (by decide), if_neg (by decide)]
          rfl
  · rw [tAt_out ha, if_neg ha, if_neg ha]
    rfl
end P88h

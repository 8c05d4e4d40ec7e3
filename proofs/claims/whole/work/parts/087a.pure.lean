theorem cpo_t {a b c n0 n1 : Nat} (h0 : n0 < 2 ^ 31) (h1 : n1 < 2 ^ 31) (h2 : a + c ≤ n0) (h3 : b + c ≤ n1) : cpo (nI a) (nI b) (nI c) n0 n1 = true := by
  unfold cpo
  refine decide_eq_true ⟨nI_pos (by omega), nI_pos (by omega), nI_pos (by omega), ?_, ?_⟩
  · rw [nI_clamp (by omega), nI_clamp (by omega)]; exact h2
  · rw [nI_clamp (by omega), nI_clamp (by omega)]; exact h3
theorem drops1 (K : (Nat → Int32) → Option (Int32 × Int32 × Int32 × (Nat → Int32) × (Nat → Int32))) (s : Nat → Int32) {n i : Nat} (hn : n ≤ 8) (hs : s 2 = nI n) (hi : i < n) : fX7_drops_L34 K FU (nI i) s = K (fun k => if 16 + i ≤ k ∧ k < 16 + i + (n - 1 - i) then s (k + 1) else s k) := by
  have z := lo2 (F := fX7_drops_L34 K) (a := fun v => nI (i + v)) (b := fun v => fun k => if 16 + i ≤ k ∧ k < 16 + i + v then s (k + 1) else s k) (E := n - 1 - i) (r := K (fun k => if 16 + i ≤ k ∧ k < 16 + i + (n - 1 - i) then s (k + 1) else s k)) ?_ ?_ (n - 1 - i) 0 FU (by omega) (fu_lt (by omega))
  · refine Eq.trans ?_ z
    show fX7_drops_L34 K FU (nI i) s = fX7_drops_L34 K FU (nI i) _
    congr 1
    funext k
    rw [if_neg (by omega)]
  · intro k j hj
    have e16 : (16 : Int32) = nI 16 := by decide
    have q : (if 16 + i ≤ 2 ∧ 2 < 16 + i + j then s (2 + 1) else s 2) = nI n := by
      rw [if_neg (by omega), hs]
    rw [fX7_drops_L34, q, nI_1, if_neg (nI_ge (by omega) (by omega)), e16, nI_add, nI_1, gd_t (ixt (by omega) (by decide)), gd_t (ixt (by omega) (by decide)), nI_clamp (by omega), nI_clamp (by omega)]
    show fX7_drops_L34 K k (nI (i + j + 1)) _ = fX7_drops_L34 K k (nI (i + j + 1)) _
    congr 1
    funext x
    unfold upd
    by_cases h1 : x = 16 + (i + j)
    · subst h1
      rw [if_pos rfl]
      show (if 16 + i ≤ 16 + (i + j) + 1 ∧ 16 + (i + j) + 1 < 16 + i + j then s (16 + (i + j) + 1 + 1) else s (16 + (i + j) + 1)) = (if 16 + i ≤ 16 + (i + j) ∧ 16 + (i + j) < 16 + i + (j + 1) then s (16 + (i + j) + 1) else s (16 + (i + j)))
      rw [if_neg (by omega), if_pos (by omega)]
    · rw [if_neg h1]
      show (if 16 + i ≤ x ∧ x < 16 + i + j then s (x + 1) else s x) = (if 16 + i ≤ x ∧ x < 16 + i + (j + 1) then s (x + 1) else s x)
      by_cases h2 : 16 + i ≤ x ∧ x < 16 + i + j
      · rw [if_pos h2, if_pos (by omega)]
      · rw [if_neg h2, if_neg (by omega)]
  · intro k
    have q : (if 16 + i ≤ 2 ∧ 2 < 16 + i + (n - 1 - i) then s (2 + 1) else s 2) = nI n := by
      rw [if_neg (by omega), hs]
    rw [fX7_drops_L34, q, nI_1, if_pos (nI_le (by omega) (by omega))]
section P87a
variable {hk en cd lm : Int32} {f g s : Nat → Int32} {known next undos thr : Int32} {gh ge gc gl : Nat → Int32} {gf gg : Nat → Nat → Int32} {past : Nat → Int32}
theorem op_drops (hl : ILm hk en cd lm f g s) (hh : IHi known next gh ge gc gl gf gg undos past) (v1 : Int32) :
    ∃ a b, fX6_drops hk en cd lm f g known next gh ge gc gl gf gg v1 = some a ∧ fX7_drops thr undos s past v1 = some b ∧ a.1 = b.1 ∧ ILm hk en a.2.1 lm f a.2.2.1 b.2.2.2.1 ∧ IHi a.2.2.2.1 a.2.2.2.2.1 a.2.2.2.2.2.1 a.2.2.2.2.2.2.1 a.2.2.2.2.2.2.2.1 a.2.2.2.2.2.2.2.2.1 a.2.2.2.2.2.2.2.2.2.1 a.2.2.2.2.2.2.2.2.2.2 b.2.2.1 b.2.2.2.2 := by
  obtain ⟨r, r2, hr1, hr2, hI⟩ := rem_ok hl hh
  obtain ⟨H, E, n, m, t, c, ho, hL, hS⟩ := id hl
  obtain ⟨rfl, rfl, rfl, rfl, hf, hg⟩ := id hL
  obtain ⟨q0, q1, q2, q3, qt, qc⟩ := id hS
  have hH := ho.1
  have hE := ho.2.1
  have hn := ho.2.2.1
  have e1 : (1 : Int32) = nI 1 := by decide
  have e16 : (16 : Int32) = nI 16 := by decide
  rw [fX6_drops, fX7_drops]
  rcases rng v1 hn.1 (by omega) with ⟨-, w1, w2⟩ | ⟨i, hi, rfl, w1⟩
  · rw [has0 w2, some_bind, mCard (by rw [q2]; exact w1) (by decide), some_bind, if_pos rfl, if_pos rfl]
    exact ⟨_, _, rfl, rfl, rfl, hl, hh⟩
  · rw [has1 hi (by omega), some_bind, mCard (by rw [q2]; exact w1) (by decide), some_bind, if_neg n10, if_neg n10, q2]
    by_cases h1 : n = 1
    · subst h1
      rw [if_neg (show ¬ (1 : Int32) < nI 1 by decide), if_pos (show nI 1 = (1 : Int32) by decide)]
      exact ⟨_, _, rfl, rfl, rfl, hl, hh⟩
    · have g1 : (1 : Int32) < nI n := by rw [e1]; exact nI_lt (by omega) (by omega)
      have g2 : ¬ nI n = 1 := by rw [e1]; exact fun z => h1 ((nI_eq (by omega) (by decide)).mp z)
      have g3 : ¬ nI n ≤ 1 := by rw [e1]; exact nI_ge (by omega) (by omega)
      have ec : nI n - nI i - 1 = nI (n - i - 1) := by rw [pk_sub (by omega), e1, pk_sub (by omega)]
      have en1 : nI n - 1 = nI (n - 1) := by rw [e1, pk_sub (by omega)]
      have hto : fX2_takeOut (nI n) g (nI i) = some (nI (n - 1), va_cpy g g (i + 1) i (n - i - 1)) := by
        rw [fX2_takeOut, has1 hi (by omega), some_bind, if_neg n10, if_neg g3, ec, nI_1, gd_t (cpo_t (by decide) (by decide) (by omega) (by omega)), en1, nI_clamp (by omega), nI_clamp (by omega), nI_clamp (by omega)]
      rw [if_pos g1, if_neg g2, hr1, some_bind, hr2, some_bind, hto, some_bind, drops1 _ s hn.2 q2 hi]
      have q22 : (fun k => if 16 + i ≤ k ∧ k < 16 + i + (n - 1 - i) then s (k + 1) else s k) 2 = nI n := by
        show (if 16 + i ≤ 2 ∧ 2 < 16 + i + (n - 1 - i) then s (2 + 1) else s 2) = nI n
        rw [if_neg (by omega), q2]
      simp only [q22, pk_us, en1, e16, nI_add]
      rw [gd_t (ixt (by omega) (by decide)), nI_clamp (by omega)]
      refine ⟨_, _, rfl, rfl, ?_, ?_, hI⟩
      · show nI (n - 1) = upd (upd _ 2 (nI (n - 1))) (16 + (n - 1)) 0 2
        rw [pk_un (by omega), pk_us]
      · refine ⟨H, E, n - 1, m, t, fun k => if k < i then c k else c (k + 1), ⟨ho.1, ho.2.1, by omega, ho.2.2.2.1, ho.2.2.2.2.1, fun k hk => ?_⟩, ⟨rfl, rfl, rfl, rfl, hf, fun k hk => ?_⟩, ?_, ?_, ?_, ?_, fun e he => ?_, fun k hk => ?_⟩
        · show (if k < i then c k else c (k + 1)) < 2 ^ H
          split
          · exact ho.2.2.2.2.2 k (by omega)
          · exact ho.2.2.2.2.2 (k + 1) (by omega)
        · show va_cpy g g (i + 1) i (n - i - 1) k = nI (if k < i then c k else c (k + 1))
          by_cases hki : k < i
          · rw [pk_cpy_out (Or.inl hki), if_pos hki, hg k (by omega)]
          · rw [pk_cpy_in (by omega) (by omega), if_neg hki, show i + 1 + (k - i) = k + 1 by omega, hg (k + 1) (by omega)]
        · show upd (upd _ 2 (nI (n - 1))) (16 + (n - 1)) 0 0 = nI H
          rw [pk_un (by omega), pk_un (by omega), if_neg (by omega), q0]
        · show upd (upd _ 2 (nI (n - 1))) (16 + (n - 1)) 0 1 = nI E
          rw [pk_un (by omega), pk_un (by omega), if_neg (by omega), q1]
        · show upd (upd _ 2 (nI (n - 1))) (16 + (n - 1)) 0 2 = nI (n - 1)
          rw [pk_un (by omega), pk_us]
        · show upd (upd _ 2 (nI (n - 1))) (16 + (n - 1)) 0 3 = nI m
          rw [pk_un (by omega), pk_un (by omega), if_neg (by omega), q3]
        · show upd (upd _ 2 (nI (n - 1))) (16 + (n - 1)) 0 (4 + e) = nI (t e)
          rw [pk_un (by omega), pk_un (by omega), if_neg (by omega), qt e he]
        · show upd (upd _ 2 (nI (n - 1))) (16 + (n - 1)) 0 (16 + k) = nI (if k < i then c k else c (k + 1))
          rw [pk_un (by omega), pk_un (by omega)]
          by_cases hki : k < i
          · rw [if_neg (by omega), if_pos hki, qc k (by omega)]
          · rw [if_pos (by omega), if_neg hki, show 16 + k + 1 = 16 + (k + 1) by omega, qc (k + 1) (by omega)]
theorem ct_bits {u v : Nat → Bool} {E : Nat} (hE : E ≤ 12) : ct (fun k => (bo u E ^^^ bo v E).testBit k) 12 = ct (fun k => u k != v k) E := by
  have h1 : ct (fun k => (bo u E ^^^ bo v E).testBit k) (E + (12 - E)) = ct (fun k => (bo u E ^^^ bo v E).testBit k) E := by
    refine ct_more (fun k h1 h2 => ?_)
    show (bo u E ^^^ bo v E).testBit k = false
    rw [Nat.testBit_xor, bo_bit, bo_bit, decide_eq_false (show ¬ k < E by omega)]
    rfl
  rw [show E + (12 - E) = 12 by omega] at h1
  rw [h1]
  refine ct_cong (fun k hk => ?_)
  show (bo u E ^^^ bo v E).testBit k = (u k != v k)
  rw [Nat.testBit_xor, bo_bit, bo_bit, decide_eq_true hk]
  cases u k <;> cases v k <;> rfl
theorem ct_sym {u v : Nat → Bool} {E : Nat} : ct (fun k => u k != v k) E = ct (fun k => v k != u k) E := by
  refine ct_cong (fun k hk => ?_)
  show (u k != v k) = (v k != u k)
  cases u k <;> cases v k <;> rfl
theorem chg1 {H E n m : Nat} {t c : Nat → Nat} (ho : okV H E n m t c) (hs : isS H E n m t c s) {i j : Nat} (hi : i < n) (hj : j < n) (K : Int32 → Option (Int32 × Int32 × Int32 × (Nat → Int32) × (Nat → Int32))) : fX7_changes_L40 K s (nI i) (nI j) FU 0 0 = K (nI (ct (fun e => (c i).testBit (t e) != (c j).testBit (t e)) E)) := by
  have hE := ho.2.1.2
  have hn := ho.2.2.1
  have q1 := hs.2.1
  have e1 : (1 : Int32) = nI 1 := by decide
  rw [← nI_0]
  refine lo2 (F := fX7_changes_L40 K s (nI i) (nI j)) (a := fun j' => nI (ct (fun e => (c i).testBit (t e) != (c j).testBit (t e)) j')) (b := nI) (E := E) ?_ ?_ E 0 FU (by omega) (fu_lt (by omega))
  · intro k e he
    rw [fX7_changes_L40, q1, if_neg (nI_ge he (by omega)), mUp ho hs (by omega) he, some_bind, mUp ho hs (by omega) he, some_bind, Nat.mod_eq_of_lt hi, Nat.mod_eq_of_lt hj, nI_1]
    simp only [jn, ct, b2i_inj]
    by_cases h : (c i).testBit (t e) = (c j).testBit (t e)
    · rw [if_pos h, ← nI_0, nI_add, if_neg (by rw [h]; simp)]
    · rw [if_neg h, e1, nI_add, if_pos (by simpa using h)]
  · intro k
    rw [fX7_changes_L40, q1, if_pos (nI_le (Nat.le_refl _) (by omega))]
theorem op_changes (hl : ILm hk en cd lm f g s) (hh : IHi known next gh ge gc gl gf gg undos past) (v1 v2 : Int32) :
    ∃ a b, fX6_changes hk en cd lm f g known next gh ge gc gl gf gg v1 v2 = some a ∧ fX7_changes thr undos s past v1 v2 = some b ∧ a.1 = b.1 ∧ ILm hk en cd lm f a.2.1 b.2.2.2.1 ∧ IHi a.2.2.1 a.2.2.2.1 a.2.2.2.2.1 a.2.2.2.2.2.1 a.2.2.2.2.2.2.1 a.2.2.2.2.2.2.2.1 a.2.2.2.2.2.2.2.2.1 a.2.2.2.2.2.2.2.2.2 b.2.2.1 b.2.2.2.2 := by
  obtain ⟨r, r2, hr1, hr2, hI⟩ := rem_ok hl hh
  obtain ⟨H, E, n, m, t, c, ho, hL, hS⟩ := id hl
  obtain ⟨rfl, rfl, rfl, rfl, hf, hg⟩ := id hL
  obtain ⟨q0, q1, q2, q3, qt, qc⟩ := id hS
  have hH := ho.1
  have hE := ho.2.1
  have hn := ho.2.2.1
  have e16 : (16 : Int32) = nI 16 := by decide
  rw [fX6_changes, fX7_changes]
  rcases rng v1 hn.1 (by omega) with ⟨-, w1, w2⟩ | ⟨i, hi, rfl, w1⟩
  · rw [has0 w2, some_bind, mCard (by rw [q2]; exact w1) (by decide), some_bind, if_pos rfl, if_pos rfl]
    exact ⟨_, _, rfl, rfl, rfl, hl, hh⟩
  · rw [has1 hi (by omega), some_bind, mCard (by rw [q2]; exact w1) (by decide), some_bind, if_neg n10, if_neg n10]
    rcases rng v2 hn.1 (by omega) with ⟨-, w3, w4⟩ | ⟨j, hj, rfl, w3⟩
    · rw [has0 w4, some_bind, mCard (by rw [q2]; exact w3) (by decide), some_bind, if_pos rfl, if_pos rfl]
      exact ⟨_, _, rfl, rfl, rfl, hl, hh⟩
    · rw [has1 hj (by omega), some_bind, mCard (by rw [q2]; exact w3) (by decide), some_bind, if_neg n10, if_neg n10]
      by_cases hij : i = j
      · subst hij
        rw [if_pos rfl, if_pos rfl]
        exact ⟨_, _, rfl, rfl, rfl, hl, hh⟩
      · have hij2 : ¬ nI i = nI j := fun z => hij ((nI_eq (by omega) (by omega)).mp z)
        have ho2 : okV H E n m t (fun k => if k = j then c i else if k = i then c j else c k) := by
          refine ⟨ho.1, ho.2.1, ho.2.2.1, ho.2.2.2.1, ho.2.2.2.2.1, fun k hk => ?_⟩
          show (if k = j then c i else if k = i then c j else c k) < 2 ^ H
          split
          · exact ho.2.2.2.2.2 i hi
          · split
            · exact ho.2.2.2.2.2 j hj
            · exact ho.2.2.2.2.2 k hk
        have hL2 : isL H E n m t (fun k => if k = j then c i else if k = i then c j else c k) (nI H) (nI E) (nI n) (nI m) f (upd (upd g i (nI (c j))) j (nI (c i))) := by
          refine ⟨rfl, rfl, rfl, rfl, hf, fun k hk => ?_⟩
          show upd (upd g i (nI (c j))) j (nI (c i)) k = nI (if k = j then c i else if k = i then c j else c k)
          unfold upd
          split
          · rfl
          · split
            · rfl
            · exact hg k hk
        have hsw : fX2_swap (nI n) g (nI i) (nI j) = some (upd (upd g i (nI (c j))) j (nI (c i))) := by
          rw [fX2_swap, has1 hi (by omega), some_bind, if_neg n10, has1 hj (by omega), some_bind, if_neg n10, gd_t (ixt (by omega) (by decide)), gd_t (ixt (by omega) (by decide)), gd_t (ixt (by omega) (by decide)), gd_t (ixt (by omega) (by decide)), nI_clamp (by omega), nI_clamp (by omega), hg i hi, hg j hj]
        have u1 := cUpEnds ho2 hL2 hi
        have u2 := cUpEnds ho2 hL2 hj
        simp only [if_neg hij, if_true] at u1 u2
        have b1 := bo_lt (fun e => (c j).testBit (t e)) E
        have b2 := bo_lt (fun e => (c i).testBit (t e)) E
        have p2 : 2 ^ E ≤ 2 ^ 12 := Nat.pow_le_pow_right (by decide) hE.2
        have hx : bo (fun e => (c j).testBit (t e)) E ^^^ bo (fun e => (c i).testBit (t e)) E < 4096 := Nat.xor_lt_two_pow (n := 12) (by omega) (by omega)
        rw [if_neg hij2, if_neg hij2, hr1, some_bind, hr2, some_bind, hsw, some_bind, u1, some_bind, u2, some_bind, xorI, bc12 _ hx, some_bind, chg1 ho hS hi hj, e16, nI_add, nI_add, gd_t (ixt (by omega) (by decide)), gd_t (ixt (by omega) (by decide)), gd_t (ixt (by omega) (by decide)), gd_t (ixt (by omega) (by decide)), nI_clamp (by omega), nI_clamp (by omega), qc i hi, qc j hj, ct_bits hE.2]
        refine ⟨_, _, rfl, rfl, ?_, ?_, hI⟩
        · exact congrArg nI ct_sym
        · refine ⟨H, E, n, m, t, _, ho2, hL2, ?_, ?_, ?_, ?_, fun e he => ?_, fun k hk => ?_⟩
          · show upd (upd s (16 + i) (nI (c j))) (16 + j) (nI (c i)) 0 = nI H
            rw [pk_un (by omega), pk_un (by omega), q0]
          · show upd (upd s (16 + i) (nI (c j))) (16 + j) (nI (c i)) 1 = nI E
            rw [pk_un (by omega), pk_un (by omega), q1]
          · show upd (upd s (16 + i) (nI (c j))) (16 + j) (nI (c i)) 2 = nI n
            rw [pk_un (by omega), pk_un (by omega), q2]
          · show upd (upd s (16 + i) (nI (c j))) (16 + j) (nI (c i)) 3 = nI m
            rw [pk_un (by omega), pk_un (by omega), q3]
          · show upd (upd s (16 + i) (nI (c j))) (16 + j) (nI (c i)) (4 + e) = nI (t e)
            rw [pk_un (by omega), pk_un (by omega), qt e he]
          · show upd (upd s (16 + i) (nI (c j))) (16 + j) (nI (c i)) (16 + k) = nI (if k = j then c i else if k = i then c j else c k)
            by_cases hkj : k = j
            · subst hkj
              rw [pk_us, if_pos rfl]
            · rw [pk_un (by omega), if_neg hkj]
              by_cases hki : k = i
              · subst hki
                rw [pk_us, if_pos rfl]
              · rw [pk_un (by omega), if_neg hki, qc k hk]
theorem undo1 (K : (Nat → Int32) → Option (Int32 × Int32 × Int32 × (Nat → Int32))) (u : Nat) (hu : u < 6) (p s : Nat → Int32) : fX7_undo_L27 K (nI u) p FU 0 s = K (fun i => if i < 24 then p (24 * u + i) else s i) := by
  have e24 : (24 : Int32) = nI 24 := by decide
  rw [← nI_0]
  refine lo2 (F := fX7_undo_L27 K (nI u) p) (a := nI) (b := fun v => fun i => if i < v then p (24 * u + i) else s i) (E := 24) ?_ ?_ 24 0 FU (by omega) (by decide)
  · intro k j hj
    rw [fX7_undo_L27, e24, if_neg (nI_ge hj (by decide)), pk_mul, nI_add, gd_t (ixt (by omega) (by decide)), gd_t (ixt (by omega) (by decide)), nI_clamp (by omega), nI_clamp (by omega), nI_1]
    congr 1
    funext i
    unfold upd
    by_cases h1 : i = j
    · subst h1
      rw [if_pos rfl]
      show _ = (if i < i + 1 then p (24 * u + i) else s i)
      rw [if_pos (by omega)]
    · rw [if_neg h1]
      show (if i < j then p (24 * u + i) else s i) = (if i < j + 1 then p (24 * u + i) else s i)
      by_cases h2 : i < j
      · rw [if_pos h2, if_pos (by omega)]
      · rw [if_neg h2, if_neg (by omega)]
  · intro k
    rw [fX7_undo_L27, e24, if_pos (nI_le (Nat.le_refl _) (by decide))]
theorem op_undo (hl : ILm hk en cd lm f g s) (hh : IHi known next gh ge gc gl gf gg undos past) :
    ∃ a b, fX6_undo hk en cd lm f g known next gh ge gc gl gf gg = some a ∧ fX7_undo thr undos s past = some b ∧ a.1 = b.1 ∧ ILm a.2.1 a.2.2.1 a.2.2.2.1 a.2.2.2.2.1 a.2.2.2.2.2.1 a.2.2.2.2.2.2.1 b.2.2.2 ∧ IHi a.2.2.2.2.2.2.2.1 a.2.2.2.2.2.2.2.2 gh ge gc gl gf gg b.2.2.1 past := by
  obtain ⟨k, x, hk6, hx6, rfl, rfl, rfl, hh2⟩ := id hh
  have e6 : (6 : Int32) = nI 6 := by decide
  have e5 : (5 : Int32) = nI 5 := by decide
  have e1 : (1 : Int32) = nI 1 := by decide
  rw [fX6_undo, fX7_undo, fX0_restore]
  simp only [jn]
  by_cases h0 : k = 0
  · subst h0
    rw [if_neg (show ¬ (0 : Int32) < nI 0 by decide), some_bind, if_pos (show nI 0 = (0 : Int32) by decide), if_pos rfl]
    exact ⟨_, _, rfl, rfl, rfl, hl, hh⟩
  · have g1 : (0 : Int32) < nI k := by rw [← nI_0]; exact nI_lt (by omega) (by omega)
    have g2 : ¬ nI k = 0 := nI_ne0 (by omega) (by omega)
    have ek : nI k - 1 = nI (k - 1) := by rw [e1, pk_sub (by omega)]
    have hy : ri x 0 < 6 := by unfold ri; omega
    obtain ⟨f2, g2', hb, hf2, hg2⟩ := bec hk en cd lm f g (gh (ri x 0)) (ge (ri x 0)) (gc (ri x 0)) (gl (ri x 0)) (gf (ri x 0)) (gg (ri x 0))
    have hin : ∀ v : Int32, v = nI (ri x 0) → (if (6 : Int32) ≤ v then some ((1 : Int32), nI k - 1, v, hk, en, cd, lm, f, g) else gd (ix v 6) ((fX2_become hk en cd lm f g (gh v.toNatClampNeg) (ge v.toNatClampNeg) (gc v.toNatClampNeg) (gl v.toNatClampNeg) (gf v.toNatClampNeg) (gg v.toNatClampNeg)).bind (fun u1 => some ((1 : Int32), nI k - 1, v, u1.1, u1.2.1, u1.2.2.1, u1.2.2.2.1, u1.2.2.2.2.1, u1.2.2.2.2.2)))) = some (1, nI (k - 1), nI (ri x 0), gh (ri x 0), ge (ri x 0), gc (ri x 0), gl (ri x 0), f2, g2') := by
      rintro v rfl
      rw [e6, if_neg (nI_ge hy (by decide)), gd_t (ixt hy (by decide)), nI_clamp (by omega), hb, some_bind, ek]
    have hx : (if nI x ≤ 0 then (if (6 : Int32) ≤ 5 then some ((1 : Int32), nI k - 1, (5 : Int32), hk, en, cd, lm, f, g) else gd (ix 5 6) ((fX2_become hk en cd lm f g (gh (5 : Int32).toNatClampNeg) (ge (5 : Int32).toNatClampNeg) (gc (5 : Int32).toNatClampNeg) (gl (5 : Int32).toNatClampNeg) (gf (5 : Int32).toNatClampNeg) (gg (5 : Int32).toNatClampNeg)).bind (fun u1 => some ((1 : Int32), nI k - 1, (5 : Int32), u1.1, u1.2.1, u1.2.2.1, u1.2.2.2.1, u1.2.2.2.2.1, u1.2.2.2.2.2)))) else (if (6 : Int32) ≤ nI x - 1 then some ((1 : Int32), nI k - 1, nI x - 1, hk, en, cd, lm, f, g) else gd (ix (nI x - 1) 6) ((fX2_become hk en cd lm f g (gh (nI x - 1).toNatClampNeg) (ge (nI x - 1).toNatClampNeg) (gc (nI x - 1).toNatClampNeg) (gl (nI x - 1).toNatClampNeg) (gf (nI x - 1).toNatClampNeg) (gg (nI x - 1).toNatClampNeg)).bind (fun u1 => some ((1 : Int32), nI k - 1, nI x - 1, u1.1, u1.2.1, u1.2.2.1, u1.2.2.2.1, u1.2.2.2.2.1, u1.2.2.2.2.2))))) = some (1, nI (k - 1), nI (ri x 0), gh (ri x 0), ge (ri x 0), gc (ri x 0), gl (ri x 0), f2, g2') := by
      by_cases hx0 : x = 0
      · subst hx0
        rw [if_pos (show nI 0 ≤ (0 : Int32) by decide)]
        exact hin 5 (by decide)
      · rw [if_neg (nI_nle (by omega) (by omega))]
        refine hin (nI x - 1) ?_
        rw [e1, pk_sub (by omega)]
        exact congrArg nI (by unfold ri; omega)
    rw [if_pos g1, if_neg g2, hx, some_bind, if_neg n10, ek, undo1 _ (k - 1) (by omega)]
    refine ⟨_, _, rfl, rfl, rfl, ?_, ?_⟩
    · refine ((hh2 0 (by omega)).l hf2 hg2).s (fun i hi => ?_)
      show (if i < 24 then past (24 * (k - 1) + i) else s i) = past (24 * (k - 1 - 0) + i)
      rw [if_pos hi, Nat.sub_zero]
    · refine ⟨k - 1, ri x 0, by omega, hy, rfl, rfl, rfl, fun j hj => ?_⟩
      have hr : ri (ri x 0) j = ri x (j + 1) := by unfold ri; omega
      rw [hr]
      refine (hh2 (j + 1) (by omega)).s (fun i hi => ?_)
      exact congrArg past (by omega)
end P87a

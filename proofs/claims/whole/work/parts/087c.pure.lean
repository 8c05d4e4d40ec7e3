theorem b2iadd (a : Nat) (u : Bool) : nI a + b2i u = nI (a + if u then 1 else 0) := by
  cases u
  · show nI a + nI 0 = nI (a + 0)
    rw [nI_add]
  · show nI a + nI 1 = nI (a + 1)
    rw [nI_add]
theorem keep1 (K : (Nat → Int32) → Option (Int32 × Int32 × (Nat → Int32) × (Nat → Int32))) (u : Nat) (hu : u < 2) (s p : Nat → Int32) : fX7_keep_L18 K s (nI u) FU 0 p = K (fun i => if 24 * u ≤ i ∧ i < 24 * u + 24 then s (i - 24 * u) else p i) := by
  have e24 : (24 : Int32) = nI 24 := by decide
  rw [← nI_0]
  have z := lo2 (F := fX7_keep_L18 K s (nI u)) (a := nI) (b := fun v => fun i => if 24 * u ≤ i ∧ i < 24 * u + v then s (i - 24 * u) else p i) (E := 24) (r := K (fun i => if 24 * u ≤ i ∧ i < 24 * u + 24 then s (i - 24 * u) else p i)) ?_ ?_ 24 0 FU (by omega) (by decide)
  · refine Eq.trans ?_ z
    congr 1
    funext i
    rw [if_neg (by omega)]
  · intro k j hj
    rw [fX7_keep_L18, e24, if_neg (nI_ge hj (by decide)), gd_t (ixt (by omega) (by decide)), pk_mul, nI_add, gd_t (ixt (by omega) (by decide)), nI_clamp (by omega), nI_clamp (by omega), nI_1]
    congr 1
    funext i
    unfold upd
    by_cases h1 : i = 24 * u + j
    · subst h1
      rw [if_pos rfl, if_pos (by omega)]
      exact congrArg s (by omega)
    · rw [if_neg h1]
      show (if 24 * u ≤ i ∧ i < 24 * u + j then s (i - 24 * u) else p i) = (if 24 * u ≤ i ∧ i < 24 * u + (j + 1) then s (i - 24 * u) else p i)
      by_cases h2 : 24 * u ≤ i ∧ i < 24 * u + j
      · rw [if_pos h2, if_pos (by omega)]
      · rw [if_neg h2, if_neg (by omega)]
  · intro k
    rw [fX7_keep_L18, e24, if_pos (nI_le (Nat.le_refl _) (by decide))]
theorem back1 (K : (Nat → Int32) → Option (Int32 × Int32 × Int32 × (Nat → Int32))) (u : Nat) (hu : u < 2) (p s : Nat → Int32) : fX7_back_L30 K p (nI u) FU 0 s = K (fun i => if i < 24 then p (24 * u + i) else s i) := by
  have e24 : (24 : Int32) = nI 24 := by decide
  rw [← nI_0]
  refine lo2 (F := fX7_back_L30 K p (nI u)) (a := nI) (b := fun v => fun i => if i < v then p (24 * u + i) else s i) (E := 24) ?_ ?_ 24 0 FU (by omega) (by decide)
  · intro k j hj
    rw [fX7_back_L30, e24, if_neg (nI_ge hj (by decide)), pk_mul, nI_add, gd_t (ixt (by omega) (by decide)), gd_t (ixt (by omega) (by decide)), nI_clamp (by omega), nI_clamp (by omega), nI_1]
    congr 1
    funext i
    unfold upd
    by_cases h1 : i = j
    · subst h1
      rw [if_pos rfl]
      show _ = (if i < i + 1 then p (24 * u + i) else s i)
      rw [if_pos (by omega)]
    · rw [if_neg h1]
      show (if i < j then p (24 * u + i) else s i) = (if i < j + 1 then p (24 * u + i) else s i)
      by_cases h2 : i < j
      · rw [if_pos h2, if_pos (by omega)]
      · rw [if_neg h2, if_neg (by omega)]
  · intro k
    rw [fX7_back_L30, e24, if_pos (nI_le (Nat.le_refl _) (by decide))]
theorem lt2 {v : Int32} (h : ¬ v < 0) (h2 : nI 1 < v) : ¬ v < 2 := by
  intro z
  rw [fa_lt] at h2 z
  have a1 : (nI 1).toInt = 1 := nI_toInt (by decide)
  have a2 : (2 : Int32).toInt = 2 := by decide
  omega
section P87c
variable {hk en cd lm : Int32} {f g s : Nat → Int32} {known next undos thr : Int32} {gh ge gc gl : Nat → Int32} {gf gg : Nat → Nat → Int32} {past : Nat → Int32}
variable {ih ie ic il isK kept isM : Nat → Int32} {if' ig : Nat → Nat → Int32}
theorem ILm.cards (hl : ILm hk en cd lm f g s) : cd = s 2 := by
  obtain ⟨H, E, n, m, t, c, ho, hL, hS⟩ := hl
  rw [hL.2.2.1, hS.2.2.1]
theorem op_keep (hl : ILm hk en cd lm f g s) (hi : IIm ih ie ic il if' ig isK kept isM) (v : Int32) : ∃ a b, fX6_keep hk en cd lm f g ih ie ic il if' ig isK v = some a ∧ fX7_keep thr s kept isM v = some b ∧ a.1 = b.1 ∧ IIm a.2.1 a.2.2.1 a.2.2.2.1 a.2.2.2.2.1 a.2.2.2.2.2.1 a.2.2.2.2.2.2.1 a.2.2.2.2.2.2.2 b.2.2.1 b.2.2.2 := by
  have hin : fX7_in v 0 1 = fX7_in v 0 (nI 1) := by rw [show (1 : Int32) = nI 1 by decide]
  have e2 : (2 : Int32) = nI 2 := by decide
  rw [fX6_keep, fX7_keep, hin]
  rcases in_r v 1 (by decide) with ⟨w3, h1 | ⟨h1, h2⟩⟩ | ⟨u, hu, rfl, w3⟩
  · rw [w3, some_bind, if_pos h1, if_pos rfl]
    exact ⟨_, _, rfl, rfl, rfl, hi⟩
  · rw [w3, some_bind, if_neg h1, if_neg (lt2 h1 h2), if_pos rfl]
    exact ⟨_, _, rfl, rfl, rfl, hi⟩
  · obtain ⟨f2, g2, hb, hf2, hg2⟩ := bec (ih u) (ie u) (ic u) (il u) (if' u) (ig u) hk en cd lm f g
    have hL := hl.l hf2 hg2
    rw [w3, some_bind, if_neg (nI_pos (n := u) (by omega)), if_pos (show nI u < 2 by rw [e2]; exact nI_lt (by omega) (by decide)), if_neg n10, keep1 _ u (by omega), gd_t (ixt (by omega) (by decide)), gd_t (ixt (by omega) (by decide)), nI_clamp (by omega), hb, some_bind, gd_t (ixt (by omega) (by decide)), nar1]
    refine ⟨_, _, rfl, rfl, hl.cards, ?_⟩
    intro j hj
    show (upd isK u 1 j = 0 ∧ upd isM u 1 j = 0) ∨ (upd isK u 1 j = 1 ∧ upd isM u 1 j = 1 ∧ ILm (va_up ih u hk j) (va_up ie u en j) (va_up ic u cd j) (va_up il u lm j) (va_up if' u f2 j) (va_up ig u g2 j) (fun i => (if 24 * u ≤ 24 * j + i ∧ 24 * j + i < 24 * u + 24 then s (24 * j + i - 24 * u) else kept (24 * j + i))))
    by_cases hju : j = u
    · subst hju
      refine Or.inr ⟨pk_us, pk_us, ?_⟩
      simp only [va_up_self]
      refine hL.s (fun i hi => ?_)
      rw [if_pos (by omega)]
      exact congrArg s (by omega)
    · simp only [va_up_ne _ _ hju, pk_un hju]
      rcases hi j hj with h | ⟨h1, h2, h3⟩
      · exact Or.inl h
      · refine Or.inr ⟨h1, h2, h3.s (fun i hi => ?_)⟩
        rw [if_neg (by omega)]
theorem op_back (hl : ILm hk en cd lm f g s) (hh : IHi known next gh ge gc gl gf gg undos past) (hi : IIm ih ie ic il if' ig isK kept isM) (v : Int32) : ∃ a b, fX6_back hk en cd lm f g known ih ie ic il if' ig isK v = some a ∧ fX7_back thr undos s kept isM v = some b ∧ a.1 = b.1 ∧ ILm a.2.1 a.2.2.1 a.2.2.2.1 a.2.2.2.2.1 a.2.2.2.2.2.1 a.2.2.2.2.2.2.1 b.2.2.2 ∧ IHi a.2.2.2.2.2.2.2 next gh ge gc gl gf gg b.2.2.1 past := by
  have hin : fX7_in v 0 1 = fX7_in v 0 (nI 1) := by rw [show (1 : Int32) = nI 1 by decide]
  have e2 : (2 : Int32) = nI 2 := by decide
  rw [fX6_back, fX7_back, hin]
  rcases in_r v 1 (by decide) with ⟨w3, h1 | ⟨h1, h2⟩⟩ | ⟨u, hu, rfl, w3⟩
  · rw [w3, some_bind, if_pos h1, if_pos rfl]
    exact ⟨_, _, rfl, rfl, rfl, hl, hh⟩
  · rw [w3, some_bind, if_neg h1, if_neg (lt2 h1 h2), if_pos rfl]
    exact ⟨_, _, rfl, rfl, rfl, hl, hh⟩
  · rw [w3, some_bind, if_neg (nI_pos (n := u) (by omega)), if_pos (show nI u < 2 by rw [e2]; exact nI_lt (by omega) (by decide)), if_neg n10, gd_t (ixt (by omega) (by decide)), gd_t (ixt (by omega) (by decide)), gd_t (ixt (by omega) (by decide)), nI_clamp (by omega)]
    rcases hi u (by omega) with ⟨h1, h2⟩ | ⟨h1, h2, h3⟩
    · rw [h1, h2, if_pos rfl, if_pos rfl]
      exact ⟨_, _, rfl, rfl, rfl, hl, hh⟩
    · obtain ⟨f2, g2, hb, hf2, hg2⟩ := bec hk en cd lm f g (ih u) (ie u) (ic u) (il u) (if' u) (ig u)
      have hL := (h3.l hf2 hg2).s (s' := fun i => if i < 24 then kept (24 * u + i) else s i) (fun i hi => if_pos hi)
      rw [h1, h2, if_neg n10, if_neg n10, back1 _ u (by omega), hb, some_bind, fX0_empty, some_bind]
      refine ⟨_, _, rfl, rfl, hL.cards, hL, ?_⟩
      obtain ⟨k, x, hk6, hx6, -, rfl, -, -⟩ := hh
      exact ⟨0, x, by omega, hx6, rfl, rfl, rfl, fun j hj => absurd hj (Nat.not_lt_zero j)⟩
theorem three (v : Int32) : (v = 0 ∧ fX7_in v 0 2 = some 1) ∨ (v = 1 ∧ fX7_in v 0 2 = some 1) ∨ (v = 2 ∧ fX7_in v 0 2 = some 1) ∨ (¬ v = 0 ∧ ¬ v = 1 ∧ ¬ v = 2 ∧ fX7_in v 0 2 = some 0) := by
  have hin : fX7_in v 0 2 = fX7_in v 0 (nI 2) := by rw [show (2 : Int32) = nI 2 by decide]
  rw [hin]
  rcases in_r v 2 (by decide) with ⟨w, h⟩ | ⟨j, hj, rfl, w⟩
  · refine Or.inr (Or.inr (Or.inr ⟨?_, ?_, ?_, w⟩))
    · rintro rfl
      revert h; decide
    · rintro rfl
      revert h; decide
    · rintro rfl
      revert h; decide
  · rcases j with _ | _ | _ | j
    · exact Or.inl ⟨by decide, w⟩
    · exact Or.inr (Or.inl ⟨by decide, w⟩)
    · exact Or.inr (Or.inr (Or.inl ⟨by decide, w⟩))
    · omega
theorem op_card (hl : ILm hk en cd lm f g s) (v1 v2 : Int32) : ∃ a, fX6_card en cd f g v1 v2 = some a ∧ fX7_card thr s v1 v2 = some (a, 0) := by
  obtain ⟨H, E, n, m, t, c, ho, hL, hS⟩ := id hl
  obtain ⟨rfl, rfl, rfl, rfl, hf, hg⟩ := id hL
  obtain ⟨q0, q1, q2, q3, qt, qc⟩ := id hS
  have hn := ho.2.2.1
  have e16 : (16 : Int32) = nI 16 := by decide
  rw [fX6_card, fX7_card]
  rcases rng v1 hn.1 (by omega) with ⟨-, w1, w2⟩ | ⟨i, hi, rfl, w1⟩
  · rw [has0 w2, some_bind, mCard (by rw [q2]; exact w1) (by decide), some_bind, if_pos rfl, if_pos rfl]
    exact ⟨_, rfl, rfl⟩
  · rw [has1 hi (by omega), some_bind, mCard (by rw [q2]; exact w1) (by decide), some_bind, if_neg n10, if_neg n10]
    rcases three v2 with ⟨rfl, w⟩ | ⟨rfl, w⟩ | ⟨rfl, w⟩ | ⟨h0, h1, h2, w⟩
    · rw [w, some_bind, if_neg n10, if_pos rfl, if_pos rfl, fX2_holesOf, has1 hi (by omega), some_bind, if_neg n10, gd_t (ixt (by omega) (by decide)), some_bind, e16, nI_add, gd_t (ixt (by omega) (by decide)), nI_clamp (by omega), nI_clamp (by omega), hg i hi, qc i hi]
      exact ⟨_, rfl, rfl⟩
    · rw [w, some_bind, if_neg n10, if_neg n10, if_neg n10, if_pos rfl, if_pos rfl, cUpEnds ho hL hi, mUpIn ho hS (by omega), Nat.mod_eq_of_lt hi]
      exact ⟨_, rfl, rfl⟩
    · rw [w, some_bind, if_neg n10, if_neg (show ¬ (2 : Int32) = 0 by decide), if_neg (show ¬ (2 : Int32) = 1 by decide), if_pos rfl, if_neg (show ¬ (2 : Int32) = 0 by decide), if_neg (show ¬ (2 : Int32) = 1 by decide), cAcross ho hL hi, mAcross ho hS (by omega), Nat.mod_eq_of_lt hi]
      exact ⟨_, rfl, rfl⟩
    · rw [w, some_bind, if_neg h0, if_neg h1, if_neg h2, if_pos rfl]
      exact ⟨_, rfl, rfl⟩
theorem op_end (hl : ILm hk en cd lm f g s) (v1 v2 : Int32) : ∃ a, fX6_end en cd f g v1 v2 = some a ∧ fX7_end thr s v1 v2 = some (a, 0) := by
  obtain ⟨H, E, n, m, t, c, ho, hL, hS⟩ := id hl
  obtain ⟨rfl, rfl, rfl, rfl, hf, hg⟩ := id hL
  obtain ⟨q0, q1, q2, q3, qt, qc⟩ := id hS
  have hE := ho.2.1
  have e4 : (4 : Int32) = nI 4 := by decide
  rw [fX6_end, fX7_end]
  rcases rng v1 hE.1 (by omega) with ⟨-, w1, w2⟩ | ⟨i, hi, rfl, w1⟩
  · rw [hasE, has0 w2, some_bind, mEnd (by rw [q1]; exact w1) (by decide), some_bind, if_pos rfl, if_pos rfl]
    exact ⟨_, rfl, rfl⟩
  · rw [hasE, has1 hi (by omega), some_bind, mEnd (by rw [q1]; exact w1) (by decide), some_bind, if_neg n10, if_neg n10]
    rcases three v2 with ⟨rfl, w⟩ | ⟨rfl, w⟩ | ⟨rfl, w⟩ | ⟨h0, h1, h2, w⟩
    · rw [w, some_bind, if_neg n10, if_pos rfl, if_pos rfl, fX2_hookOf, hasE, has1 hi (by omega), some_bind, if_neg n10, gd_t (ixt (by omega) (by decide)), some_bind, e4, nI_add, gd_t (ixt (by omega) (by decide)), nI_clamp (by omega), nI_clamp (by omega), hf i hi, qt i hi]
      exact ⟨_, rfl, rfl⟩
    · rw [w, some_bind, if_neg n10, if_neg n10, if_neg n10, if_pos rfl, if_pos rfl, cAlong ho hL hi, mAlong ho hS hi]
      exact ⟨_, rfl, rfl⟩
    · rw [w, some_bind, if_neg n10, if_neg (show ¬ (2 : Int32) = 0 by decide), if_neg (show ¬ (2 : Int32) = 1 by decide), if_pos rfl, if_neg (show ¬ (2 : Int32) = 0 by decide), if_neg (show ¬ (2 : Int32) = 1 by decide), cUpRows ho hL hi, mRowsOf ho hS hi]
      exact ⟨_, rfl, rfl⟩
    · rw [w, some_bind, if_neg h0, if_neg h1, if_neg h2, if_pos rfl]
      exact ⟨_, rfl, rfl⟩
theorem op_cloth (hl : ILm hk en cd lm f g s) (v1 v2 : Int32) : ∃ a, fX6_cloth en cd f g v1 v2 = some a ∧ fX7_cloth thr s v1 v2 = some (a, 0) := by
  obtain ⟨H, E, n, m, t, c, ho, hL, hS⟩ := id hl
  obtain ⟨rfl, rfl, rfl, rfl, hf, hg⟩ := id hL
  obtain ⟨q0, q1, q2, q3, qt, qc⟩ := id hS
  have hE := ho.2.1
  have hn := ho.2.2.1
  have e9 : (9999 : Int32) = nI 9999 := by decide
  rw [fX6_cloth, fX7_cloth, e9]
  rcases in_r v1 9999 (by decide) with ⟨w, h1 | ⟨h1, h2⟩⟩ | ⟨r, hr, rfl, w⟩
  · rw [w, some_bind, if_pos h1, if_pos rfl]
    exact ⟨_, rfl, rfl⟩
  · rw [w, some_bind, if_neg h1, if_pos h2, if_pos rfl]
    exact ⟨_, rfl, rfl⟩
  · rw [w, some_bind, if_neg (nI_pos (n := r) (by omega)), if_neg (nI_nlt hr (by decide)), if_neg n10]
    rcases rng v2 hE.1 (by omega) with ⟨-, w1, w2⟩ | ⟨e, he, rfl, w1⟩
    · rw [hasE, has0 w2, some_bind, mEnd (by rw [q1]; exact w1) (by decide), some_bind, if_pos rfl, if_pos rfl]
      exact ⟨_, rfl, rfl⟩
    · have hm : r % n < n := Nat.mod_lt _ (by omega)
      rw [hasE, has1 he (by omega), some_bind, mEnd (by rw [q1]; exact w1) (by decide), some_bind, if_neg n10, if_neg n10, cRow hn.1 hn.2 (by omega), some_bind, cUp ho hL hm he, some_bind, mUp ho hS (by omega) he, some_bind]
      cases (c (r % n)).testBit (t e)
      · exact ⟨_, rfl, rfl⟩
      · exact ⟨_, rfl, rfl⟩
theorem cEndsOf {H E n m : Nat} {t c : Nat → Nat} (ho : okV H E n m t c) (hl : isL H E n m t c hk en cd lm f g) {h : Nat} (hh : h < 6) : fX2_endsOf en f (nI h) = some (nI (bo (fun e => decide (t e = h)) E)) := by
  obtain ⟨-, rfl, -, -, hf, -⟩ := id hl
  have hE := ho.2.1.2
  have hH := ho.1.2
  rw [fX2_endsOf, ← nI_0]
  refine lo2 (F := fX2_endsOf_L4 _ _ _ _) (a := fun j => nI (bo (fun e => decide (t e = h)) j)) (b := nI) (E := E) ?_ ?_ E 0 FU (by omega) (fu_lt (by omega))
  · intro k j hj
    have ht := ho.2.2.2.2.1 j hj
    rw [fX2_endsOf_L4, if_neg (nI_ge hj (by omega)), gd_t (ixt (by omega) (by decide)), nI_clamp (by omega), hf j hj, nI_1]
    refine jb' (G := fun x => fX2_endsOf_L4 _ _ _ _ k x (nI (j + 1))) (fun e => decide (t e = h)) (by omega) ?_
    rw [nI_eq (by omega) (by omega)]
    simp
  · intro k
    rw [fX2_endsOf_L4, if_pos (nI_le (Nat.le_refl _) (by omega))]
theorem cFree {H E n m : Nat} {t c : Nat → Nat} (ho : okV H E n m t c) (hl : isL H E n m t c hk en cd lm f g) : fX2_hooksWithoutEnds hk en f = some (nI (bo (fun h => !ex (fun e => decide (t e = h)) E) H)) := by
  obtain ⟨rfl, -, -, -, -, -⟩ := id hl
  have hE := ho.2.1.2
  have hH := ho.1.2
  rw [fX2_hooksWithoutEnds, ← nI_0]
  refine lo2 (F := fX2_hooksWithoutEnds_L4 _ _ _ _) (a := fun j => nI (bo (fun h => !ex (fun e => decide (t e = h)) E) j)) (b := nI) (E := H) ?_ ?_ H 0 FU (by omega) (fu_lt (by omega))
  · intro k j hj
    have b1 := bo_lt (fun e => decide (t e = j)) E
    have p2 : 2 ^ E ≤ 2 ^ 12 := Nat.pow_le_pow_right (by decide) hE
    rw [fX2_hooksWithoutEnds_L4, if_neg (nI_ge hj (by omega)), cEndsOf ho hl (by omega), some_bind, nI_1]
    refine jb' (G := fun x => fX2_hooksWithoutEnds_L4 _ _ _ _ k x (nI (j + 1))) (fun h => !ex (fun e => decide (t e = h)) E) (by omega) ?_
    rw [nI_0iff (by omega), bo_an]
    show _ ↔ (!ex (fun e => decide (t e = j)) E) = true
    rw [ex_an]
    cases an (fun e => decide (t e = j)) E E <;> decide
  · intro k
    rw [fX2_hooksWithoutEnds_L4, if_pos (nI_le (Nat.le_refl _) (by omega))]
theorem mFree {H E n m : Nat} {t c : Nat → Nat} (ho : okV H E n m t c) (hs : isS H E n m t c s) : fX7_freeHooks s = some (nI (bo (fun h => !ex (fun e => decide (t e = h)) E) H)) := by
  have hE := ho.2.1.2
  have hH := ho.1.2
  obtain ⟨q0, q1, q2, q3, qt, qc⟩ := id hs
  have e1 : (1 : Int32) = nI 1 := by decide
  have e4 : (4 : Int32) = nI 4 := by decide
  have p1 := Nat.two_pow_pos H
  have hst : nI (2 ^ H) - 1 = nI (bo (fun h => !ex (fun e => decide (t e = h)) 0) H) := by
    rw [e1, pk_sub (by omega)]
    exact congrArg nI (bo_true H).symm
  rw [fX7_freeHooks, q0, shl1 H (by omega), hst, ← nI_0]
  refine lo2 (F := fX7_freeHooks_L13 _ _) (a := fun j => nI (bo (fun h => !ex (fun e => decide (t e = h)) j) H)) (b := nI) (E := E) ?_ ?_ E 0 FU (by omega) (fu_lt (by omega))
  · intro k j hj
    have ht := ho.2.2.2.2.1 j hj
    have b1 := bo_lt (fun h => !ex (fun e => decide (t e = h)) j) H
    have p2 : 2 ^ H ≤ 2 ^ 6 := Nat.pow_le_pow_right (by decide) hH
    have hb : bo (fun h => !ex (fun e => decide (t e = h)) j) H &&& (63 ^^^ 2 ^ t j) = bo (fun h => !ex (fun e => decide (t e = h)) (j + 1)) H := by
      apply Nat.eq_of_testBit_eq
      intro i
      rw [Nat.testBit_and, Nat.testBit_xor, bo_bit, bo_bit, Nat.testBit_two_pow]
      by_cases hi : i < H
      · have h63 : (63 : Nat).testBit i = true := by
          have := Nat.testBit_two_pow_sub_one 6 i
          rw [show (2 : Nat) ^ 6 - 1 = 63 by decide] at this
          rw [this]
          exact decide_eq_true (by omega)
        rw [decide_eq_true hi, h63]
        show (true && !ex (fun e => decide (t e = i)) j && (true ^^ decide (t j = i))) = (true && !(ex (fun e => decide (t e = i)) j || decide (t j = i)))
        cases ex (fun e => decide (t e = i)) j <;> cases decide (t j = i) <;> rfl
      · rw [decide_eq_false hi]
        rfl
    rw [fX7_freeHooks_L13, q1, if_neg (nI_ge hj (by omega)), e4, nI_add, gd_t (ixt (by omega) (by decide)), nI_clamp (by omega), qt j hj, andnot _ (by omega) _ (by omega), nI_1, hb]
  · intro k
    rw [fX7_freeHooks_L13, q1, if_pos (nI_le (Nat.le_refl _) (by omega))]
theorem op_told (hl : ILm hk en cd lm f g s) (v : Int32) : ∃ a, fX6_told hk en cd lm f g v = some a ∧ fX7_told thr s v = some (a, 0) := by
  obtain ⟨H, E, n, m, t, c, ho, hL, hS⟩ := id hl
  rw [fX6_told, fX7_told]
  by_cases h0 : v = 0
  · rw [if_pos h0, if_pos h0, cRepeat ho hL, mRepeat ho hS]
    exact ⟨_, rfl, rfl⟩
  rw [if_neg h0, if_neg h0]
  by_cases h1 : v = 1
  · rw [if_pos h1, if_pos h1, cUnlike ho hL, mUnlike ho hS]
    exact ⟨_, rfl, rfl⟩
  rw [if_neg h1, if_neg h1]
  by_cases h2 : v = 2
  · rw [if_pos h2, if_pos h2, cLongCards ho hL, mLongCards ho hS]
    exact ⟨_, rfl, rfl⟩
  rw [if_neg h2, if_neg h2]
  by_cases h3 : v = 3
  · rw [if_pos h3, if_pos h3, cLongEnds ho hL, mLongEnds ho hS]
    exact ⟨_, rfl, rfl⟩
  rw [if_neg h3, if_neg h3]
  by_cases h4 : v = 4
  · rw [if_pos h4, if_pos h4, cFree ho hL, mFree ho hS]
    exact ⟨_, rfl, rfl⟩
  rw [if_neg h4, if_neg h4]
  exact ⟨_, rfl, rfl⟩
theorem hol_in {H : Nat} {c : Nat → Nat} (hH : 1 ≤ H) (hH6 : H ≤ 6) {j : Nat} (hc : c j < 2 ^ H) : ct (fun k => (c ((H * j + k) / H)).testBit ((H * j + k) % H)) H = ct (fun k => (c j).testBit k) 12 := by
  have h1 : ct (fun k => (c j).testBit k) (H + (12 - H)) = ct (fun k => (c j).testBit k) H := ct_more (fun k h1 h2 => bit_big hc h1)
  rw [show H + (12 - H) = 12 by omega] at h1
  rw [h1]
  refine ct_cong (fun k hk => ?_)
  show (c ((H * j + k) / H)).testBit ((H * j + k) % H) = (c j).testBit k
  rw [Nat.mul_add_div (by omega), Nat.div_eq_of_lt hk, Nat.add_zero, Nat.mul_add_mod, Nat.mod_eq_of_lt hk]
theorem cHoles {H E n m : Nat} {t c : Nat → Nat} (ho : okV H E n m t c) (hl : isL H E n m t c hk en cd lm f g) : fX2_allHoles cd g = some (nI (ct (fun k => (c (k / H)).testBit (k % H)) (H * n))) := by
  obtain ⟨-, -, rfl, -, -, hg⟩ := id hl
  have hn := ho.2.2.1
  have hH := ho.1
  rw [fX2_allHoles, ← nI_0]
  have z := lo2 (F := fX2_allHoles_L4 (fun v => some v) (nI n) g) (a := fun j => nI (ct (fun k => (c (k / H)).testBit (k % H)) (H * j))) (b := nI) (E := n) (r := some (nI (ct (fun k => (c (k / H)).testBit (k % H)) (H * n)))) ?_ ?_ n 0 FU (by omega) (fu_lt (by omega))
  · rw [Nat.mul_zero] at z
    exact z
  · intro k j hj
    have h64 := ho.c64 hj
    rw [fX2_allHoles_L4, if_neg (nI_ge hj (by omega)), fX2_holesOf, has1 hj (by omega), some_bind, if_neg n10, gd_t (ixt (by omega) (by decide)), some_bind, nI_clamp (by omega), hg j hj, bc12 _ (by omega), some_bind, nI_add, nI_1, ← hol_in hH.1 hH.2 (ho.2.2.2.2.2 j hj), ← ct_split, ← Nat.mul_succ]
  · intro k
    rw [fX2_allHoles_L4, if_pos (nI_le (Nat.le_refl _) (by omega))]
theorem mHoles {H E n m : Nat} {t c : Nat → Nat} (ho : okV H E n m t c) (hs : isS H E n m t c s) : fX7_holes s = some (nI (ct (fun k => (c (k / H)).testBit (k % H)) (H * n))) := by
  obtain ⟨q0, q1, q2, q3, qt, qc⟩ := id hs
  have hn := ho.2.2.1
  have hH := ho.1
  have hHn : H * n ≤ 6 * 8 := Nat.mul_le_mul hH.2 hn.2
  have e16 : (16 : Int32) = nI 16 := by decide
  have e1 : (1 : Int32) = nI 1 := by decide
  rw [fX7_holes, ← nI_0]
  refine lo2 (F := fX7_holes_L4 _ _) (a := fun j => nI (ct (fun k => (c (k / H)).testBit (k % H)) j)) (b := nI) (E := H * n) ?_ ?_ (H * n) 0 FU (by omega) (fu_lt (by omega))
  · intro k j hj
    have hi := pl_lt hj
    have hm : j % H < H := Nat.mod_lt _ (by omega)
    have h64 := ho.c64 hi
    rw [fX7_holes_L4, fX7_places, some_bind, q0, q2, pk_mul, if_neg (nI_ge hj (by omega)), gd_t (nzt (by omega) (by omega)), pk_rem (by omega) (by omega) (by omega), pk_div (by omega) (by omega) (by omega), e16, nI_add, gd_t (ixt (by omega) (by decide)), gd_t (nzt (by omega) (by omega)), nI_clamp (by omega), qc _ hi, bitv _ h64 _ (by omega), nI_1]
    rw [b2iadd]
    rfl
  · intro k
    rw [fX7_holes_L4, fX7_places, some_bind, q0, q2, pk_mul, if_pos (nI_le (Nat.le_refl _) (by omega))]
theorem op_count {len typed : Int32} {let' text : Nat → Int32} {seen many : Int32} {rows ends wasUp facts : Nat → Int32} (hl : ILm hk en cd lm f g s) (hh : IHi known next gh ge gc gl gf gg undos past) (ht : ITx len let' typed text) (hf : IFa seen rows ends wasUp many facts) (v : Int32) : ∃ a, fX6_count hk en cd lm g len known seen v = some a ∧ fX7_count thr undos many typed s v = some (a, 0) := by
  obtain ⟨H, E, n, m, t, c, ho, hL, hS⟩ := id hl
  obtain ⟨L, tx, -, rfl, rfl, -⟩ := ht
  obtain ⟨N, -, -, -, -, rfl, rfl, -⟩ := hf
  obtain ⟨k, x, -, -, rfl, -, rfl, -⟩ := hh
  obtain ⟨q0, q1, q2, q3, -, -⟩ := id hS
  obtain ⟨r0, r1, r2, r3, -, -⟩ := id hL
  rw [fX6_count, fX7_count]
  by_cases h4 : v = 4
  · subst h4
    rw [if_neg (by decide), if_neg (by decide), if_neg (by decide), if_neg (by decide), if_pos rfl, if_pos rfl, cHoles ho hL, mHoles ho hS]
    exact ⟨_, rfl, rfl⟩
  by_cases h5 : v = 5
  · subst h5
    exact ⟨_, rfl, rfl⟩
  by_cases h6 : v = 6
  · subst h6
    exact ⟨_, rfl, rfl⟩
  by_cases h7 : v = 7
  · subst h7
    exact ⟨_, rfl, rfl⟩
  rw [if_neg h4, if_neg h4, if_neg h5, if_neg h5, if_neg h6, if_neg h6, if_neg h7, if_neg h7]
  by_cases h0 : v = 0
  · subst h0
    rw [if_pos rfl, r0, ← q0]
    exact ⟨_, rfl, rfl⟩
  by_cases h1 : v = 1
  · subst h1
    rw [if_neg h0, if_pos rfl, r1, ← q1]
    exact ⟨_, rfl, rfl⟩
  by_cases h2 : v = 2
  · subst h2
    rw [if_neg h0, if_neg h1, if_pos rfl, r2, ← q2]
    exact ⟨_, rfl, rfl⟩
  by_cases h3 : v = 3
  · subst h3
    rw [if_neg h0, if_neg h1, if_neg h2, if_pos rfl, r3, ← q3]
    exact ⟨_, rfl, rfl⟩
  rw [if_neg h0, if_neg h1, if_neg h2, if_neg h3]
  have hin : fX7_in v 0 3 = some 0 := by
    have e3 : (3 : Int32) = nI 3 := by decide
    rw [e3]
    rcases in_r v 3 (by decide) with ⟨w, -⟩ | ⟨j, hj, rfl, -⟩
    · exact w
    · rcases j with _ | _ | _ | _ | j
      · exact absurd (by decide) h0
      · exact absurd (by decide) h1
      · exact absurd (by decide) h2
      · exact absurd (by decide) h3
      · omega
  rw [hin, some_bind, if_pos rfl]
  exact ⟨_, rfl, rfl⟩
end P87c

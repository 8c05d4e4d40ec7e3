theorem and2p {x j : Nat} : x &&& 2 ^ j = 0 ↔ x.testBit j = false := by
  constructor
  · intro h
    have h1 : (x &&& 2 ^ j).testBit j = false := by rw [h]; simp
    rw [Nat.testBit_and, Nat.testBit_two_pow, decide_eq_true rfl, Bool.and_true] at h1
    exact h1
  · intro h
    apply Nat.eq_of_testBit_eq
    intro i
    rw [Nat.testBit_and, Nat.testBit_two_pow]
    by_cases hi : j = i
    · subst hi; simp [h]
    · simp [hi]
section P88e
variable {H E n m : Nat} {t c : Nat → Nat} {hk en cd lm : Int32} {f g s : Nat → Int32} {N : Nat} {rw' en' : Nat → Nat} {up : Nat → Bool} {rows ends wasUp facts : Nat → Int32}
theorem cSus (ho : okV H E n m t c) (hl : isL H E n m t c hk en cd lm f g) (hN : N ≤ 8) (hF : okF N rw' en' up rows ends wasUp facts) {q : Nat} (hq : q < 100) : fX4_isSuspect (nI N) rows ends wasUp hk en cd f g (pl q) = some (b2i (su H E n t c rw' en' up N q)) := by
  have hE := ho.2.1
  have key : ∀ k63 k55 : Option Int32, fX4_isSuspect_L2 k63 k55 (nI N) rows ends wasUp hk en cd f g (pl q) FU (nI 0) = if an (bad H E n t c rw' en' up q) N (N - 0) then k55 else k63 := by
    intro k63 k55
    refine lv1 (F := fX4_isSuspect_L2 k63 k55 (nI N) rows ends wasUp hk en cd f g (pl q)) (a := nI) (E := N) (v := fun j => if an (bad H E n t c rw' en' up q) N (N - j) then k55 else k63) ?_ ?_ N 0 FU (by omega) (fu_lt (by omega))
    · intro k j hj ih
      obtain ⟨⟨p0, p0'⟩, p1, p2, p3, -, -, -⟩ := hF j hj
      have e8 : (8 : Int32) = nI 8 := by decide
      have hh : fX2_hasEnd en (nI (en' j)) = some (b2i (decide (en' j < E))) := by rw [hl.2.1]; exact hEndN (by omega) (by omega)
      rw [fX4_isSuspect_L2, if_neg (nI_ge hj (by omega)), if_neg (show ¬ (8 : Int32) ≤ nI j by rw [e8]; exact nI_ge (by omega) (by decide)), gd_t (ixt (by omega) (by decide)), nI_clamp (by omega), p2, hh, some_bind, gd_t (ixt (by omega) (by decide)), gd_t (ixt (by omega) (by decide)), p1, p3, nI_1, ih, an_step hj]
      unfold bad
      by_cases he : en' j < E
      · rw [decide_eq_true he, if_neg (show ¬ b2i true = 0 by decide), cUpBy ho hl hq (by omega) he, some_bind, gd_t (ixt (by omega) (by decide)), Bool.true_and]
        by_cases hu : upb H n t c q (rw' j) (en' j) = up j
        · rw [if_pos (b2i_inj.mpr hu), hu]
          simp
        · rw [if_neg (fun z => hu (b2i_inj.mp z))]
          have : (upb H n t c q (rw' j) (en' j) == up j) = false := by simpa using hu
          rw [this]
          rfl
      · rw [decide_eq_false he, if_pos (show b2i false = 0 by decide)]
        rfl
    · intro k
      rw [fX4_isSuspect_L2, if_pos (nI_le (Nat.le_refl _) (by omega)), an_0, if_neg (by decide)]
  rw [fX4_isSuspect, ← nI_0, key, Nat.sub_zero]
  unfold su
  cases an (bad H E n t c rw' en' up q) N N <;> rfl
theorem mSo (ho : okV H E n m t c) (hs : isS H E n m t c s) (hN : N ≤ 8) (hF : okF N rw' en' up rows ends wasUp facts) : fX7_areSo (nI N) s facts = some (b2i (!an (fun i => !(decide (en' i < E) && ((c (rw' i % n)).testBit (t (en' i)) == up i))) N N)) := by
  have hE := ho.2.1
  have q1 := hs.2.1
  have key : ∀ K : Int32 → Option Int32, fX7_areSo_L4 K (nI N) s facts FU 1 (nI 0) = K (b2i (!an (fun i => !(decide (en' i < E) && ((c (rw' i % n)).testBit (t (en' i)) == up i))) N (N - 0))) := by
    intro K
    refine lw1 (F := fun k (x : Int32) => fX7_areSo_L4 K (nI N) s facts k 1 x) (a := nI) (E := N) (v := fun j => K (b2i (!an (fun i => !(decide (en' i < E) && ((c (rw' i % n)).testBit (t (en' i)) == up i))) N (N - j)))) ?_ ?_ N 0 FU (by omega) (fu_lt (by omega))
    · intro k j hj ih
      obtain ⟨⟨p0, p0'⟩, -, -, -, p5, p6, p7⟩ := hF j hj
      have e3 : (3 : Int32) = nI 3 := by decide
      have e2 : (2 : Int32) = nI 2 := by decide
      have out : ∀ x, fX7_areSo_L4 K (nI N) s facts (k + 1) 0 x = K 0 := by
        intro x
        rw [fX7_areSo_L4]
        split
        · rfl
        · rw [if_pos rfl]
      have ih2 : fX7_areSo_L4 K (nI N) s facts (k + 1) 1 (nI (j + 1)) = K (b2i (!an (fun i => !(decide (en' i < E) && ((c (rw' i % n)).testBit (t (en' i)) == up i))) N (N - (j + 1)))) := ih
      show fX7_areSo_L4 K (nI N) s facts (k + 1 + 1) 1 (nI j) = _
      rw [fX7_areSo_L4, if_neg (nI_ge hj (by omega)), if_neg n10, e3, pk_mul, nI_1, e2, nI_add, gd_t (ixt (by omega) (by decide)), nI_clamp (by omega), p6, mEndN (by omega) hE.1 (by omega) q1, some_bind]
      simp only [jn]
      rw [out, nI_1, gd_t (ixt (by omega) (by decide)), nI_clamp (by omega), p5]
      rw [an_step hj]
      by_cases he : en' j < E
      · rw [decide_eq_true he, if_neg (show ¬ b2i true = 0 by decide), mUp ho hs (by omega) he, some_bind, gd_t (ixt (by omega) (by decide)), nI_clamp (by omega), p7, ih2]
        cases hup : up j with
        | true =>
          rw [if_pos b2i_t]
          cases hc : (c (rw' j % n)).testBit (t (en' j)) with
          | true =>
            rw [if_pos b2i_t]
            simp [he, hc, hup]
          | false =>
            rw [if_neg (by decide)]
            simp [he, hc, hup]
            rfl
        | false =>
          rw [if_neg (show ¬ b2i false = 1 by decide)]
          cases hc : (c (rw' j % n)).testBit (t (en' j)) with
          | true =>
            rw [if_neg (by decide)]
            simp [he, hc, hup]
            rfl
          | false =>
            rw [if_pos b2i_f]
            simp [he, hc, hup]
      · rw [decide_eq_false he, if_pos (show b2i false = 0 by decide)]
        simp [he]
        rfl
    · intro k
      show fX7_areSo_L4 K (nI N) s facts (k + 1) 1 (nI N) = _
      rw [fX7_areSo_L4, if_pos (nI_le (Nat.le_refl _) (by omega)), an_0]
      rfl
  rw [fX7_areSo, ← nI_0]
  refine (key _).trans ?_
  show gd (tf _) (some _) = _
  rw [gd_t (b2i_tf _), Nat.sub_zero]
theorem mSus (ho : okV H E n m t c) (hs : isS H E n m t c s) (hN : N ≤ 8) (hF : okF N rw' en' up rows ends wasUp facts) {q : Nat} (hq : q < H * n + 1) : fX7_isSuspect (nI N) s facts (pl q) = some (b2i (su H E n t c rw' en' up N q), s) := by
  have hH := ho.1
  have hn := ho.2.2.1
  have hHn : H * n ≤ 6 * 8 := Nat.mul_le_mul hH.2 hn.2
  rw [fX7_isSuspect]
  simp only [jn]
  cases q with
  | zero =>
    have h0 : pl 0 < 0 := by decide
    rw [if_pos h0, mSo ho hs hN hF, some_bind, if_pos h0, gd_t (b2i_tf _)]
    have : an (fun i => !(decide (en' i < E) && ((c (rw' i % n)).testBit (t (en' i)) == up i))) N N = an (bad H E n t c rw' en' up 0) N N := by
      refine an_cong (fun i hi => ?_) (Nat.le_refl N)
      unfold bad upb
      rw [decide_eq_false (show ¬ 0 = H * (rw' i % n) + t (en' i) + 1 by omega)]
      cases (c (rw' i % n)).testBit (t (en' i)) <;> rfl
    rw [this]
    rfl
  | succ p =>
    have hp : p < H * n := by omega
    have h0 : ¬ pl (p + 1) < 0 := pl_lt0 (by omega)
    rw [if_neg h0]
    rw [pl_s] at h0 ⊢
    rw [mTurn ho hs hp, some_bind, mSo ho.pu (hs.pu ho hp) hN hF, some_bind, if_neg h0, mTurn2 ho hs hp, some_bind, gd_t (b2i_tf _)]
    have : an (fun i => !(decide (en' i < E) && ((pu H c p (rw' i % n)).testBit (t (en' i)) == up i))) N N = an (bad H E n t c rw' en' up (p + 1)) N N := by
      refine an_cong (fun i hi => ?_) (Nat.le_refl N)
      unfold bad upb
      by_cases he : en' i < E
      · have ht := ho.2.2.2.2.1 _ he
        have hd : (decide (rw' i % n = p / H) && decide (t (en' i) = p % H)) = decide (p + 1 = H * (rw' i % n) + t (en' i) + 1) := by
          by_cases hx : p = H * (rw' i % n) + t (en' i)
          · have h1 : p / H = rw' i % n := by rw [hx, Nat.mul_add_div (by omega), Nat.div_eq_of_lt ht, Nat.add_zero]
            have h2 : p % H = t (en' i) := by rw [hx, Nat.mul_add_mod, Nat.mod_eq_of_lt ht]
            rw [h1, h2, decide_eq_true rfl, decide_eq_true rfl, decide_eq_true (by omega)]
            rfl
          · rw [decide_eq_false (show ¬ p + 1 = H * (rw' i % n) + t (en' i) + 1 by omega)]
            by_cases h1 : rw' i % n = p / H
            · by_cases h2 : t (en' i) = p % H
              · exfalso
                apply hx
                rw [h1, h2, Nat.div_add_mod]
              · rw [decide_eq_false h2, Bool.and_false]
            · rw [decide_eq_false h1, Bool.false_and]
        rw [puBit, hd]
      · rw [decide_eq_false he, Bool.false_and, Bool.false_and]
    rw [this]
    rfl
theorem cBits (ho : okV H E n m t c) (hl : isL H E n m t c hk en cd lm f g) (hN : N ≤ 8) (hF : okF N rw' en' up rows ends wasUp facts) : fX4_suspectBits (nI N) rows ends wasUp hk en cd f g = some (lN (bo (su H E n t c rw' en' up N) (H * n + 1))) := by
  have hH := ho.1
  have hn := ho.2.2.1
  have hHn : H * n ≤ 6 * 8 := Nat.mul_le_mul hH.2 hn.2
  have e0 : (0 : Int64) = lN 0 := by decide
  rw [fX4_suspectBits, pl_0, e0]
  refine lo2 (F := fX4_suspectBits_L5 _ _ _ _ _ _ _ _ _ _) (a := fun j => lN (bo (su H E n t c rw' en' up N) j)) (b := pl) (E := H * n + 1) ?_ ?_ (H * n + 1) 0 FU (by omega) (fu_lt (by omega))
  · intro k j hj
    have b1 := bo_lt (su H E n t c rw' en' up N) j
    have p1 : 2 ^ j ≤ 2 ^ 49 := Nat.pow_le_pow_right (by decide) (by omega)
    rw [fX4_suspectBits_L5, fX2_places, some_bind, hl.1, hl.2.2.1, pk_mul, if_neg (pl_ge (by omega) (by omega)), ← hl.1, ← hl.2.2.1, cSus ho hl hN hF (by omega), some_bind, bitOf_ok (by omega)]
    simp only [jn, some_bind]
    rw [pl_1, ← bo_orN]
    cases su H E n t c rw' en' up N j with
    | false => rw [if_pos (show b2i false = 0 by decide), if_neg (by decide), e0, wb_or (by omega) (by decide)]
    | true => rw [if_neg (show ¬ b2i true = 0 by decide), if_pos rfl, wb_or (by omega) (by omega)]
  · intro k
    rw [fX4_suspectBits_L5, fX2_places, some_bind, hl.1, hl.2.2.1, pk_mul, if_pos (pl_end (by omega))]
theorem cCount {u : Nat → Bool} {K : Nat} (hK : K ≤ 49) : fJ13_bitCount_95d88 (lN (bo u K)) = some (nI (ct u K)) := by
  have b1 := bo_lt u K
  have p1 : 2 ^ K ≤ 2 ^ 49 := Nat.pow_le_pow_right (by decide) hK
  have := ct_le u K
  rw [bc49 _ (by omega), ct_bo (by omega), Nat.mod_eq_of_lt (by omega)]
theorem cFirstS (ho : okV H E n m t c) (hl : isL H E n m t c hk en cd lm f g) (hN : N ≤ 8) (hF : okF N rw' en' up rows ends wasUp facts) : fX4_firstSuspect (nI N) rows ends wasUp hk en cd f g = some (fs1 (su H E n t c rw' en' up N) (H * n + 1)) := by
  have hH := ho.1
  have hn := ho.2.2.1
  have hHn : H * n ≤ 6 * 8 := Nat.mul_le_mul hH.2 hn.2
  rw [fX4_firstSuspect, pl_0, fs1_fi]
  have key := lv1 (F := fX4_firstSuspect_L2 (some (-9)) (fun v => some v) (nI N) rows ends wasUp hk en cd f g) (a := pl) (E := H * n + 1) (v := fun j => some (if fi (su H E n t c rw' en' up N) (H * n + 1) (H * n + 1 - j) < H * n + 1 then pl (fi (su H E n t c rw' en' up N) (H * n + 1) (H * n + 1 - j)) else -9)) ?_ ?_ (H * n + 1) 0 FU (by omega) (fu_lt (by omega))
  · rw [Nat.sub_zero] at key
    exact key
  · intro k j hj ih
    rw [fX4_firstSuspect_L2, fX2_places, some_bind, hl.1, hl.2.2.1, pk_mul, if_neg (pl_ge (by omega) (by omega)), ← hl.1, ← hl.2.2.1, cSus ho hl hN hF (by omega), some_bind, pl_1, ih, fi_step hj]
    cases su H E n t c rw' en' up N j with
    | false => rfl
    | true => rw [if_neg (show ¬ b2i true = 0 by decide), if_pos rfl, if_pos hj]
  · intro k
    rw [fX4_firstSuspect_L2, fX2_places, some_bind, hl.1, hl.2.2.1, pk_mul, if_pos (pl_end (by omega)), fi_0, if_neg (Nat.lt_irrefl _)]
theorem mSusp (ho : okV H E n m t c) (hs : isS H E n m t c s) (hN : N ≤ 8) (hF : okF N rw' en' up rows ends wasUp facts) (K : Int32 → Int32 → (Nat → Int32) → Option (Int32 × Int32 × (Nat → Int32))) : fX7_suspects_L25 K (nI N) facts FU 0 (-9) (-1) s = K (nI (ct (su H E n t c rw' en' up N) (H * n + 1))) (fs1 (su H E n t c rw' en' up N) (H * n + 1)) s := by
  have hH := ho.1
  have hn := ho.2.2.1
  have hHn : H * n ≤ 6 * 8 := Nat.mul_le_mul hH.2 hn.2
  rw [pl_0, ← nI_0]
  refine lo3 (F := fun k x y z => fX7_suspects_L25 K (nI N) facts k x y z s) (a := fun j => nI (ct (su H E n t c rw' en' up N) j)) (b := fs1 (su H E n t c rw' en' up N)) (c := pl) (E := H * n + 1) ?_ ?_ (H * n + 1) 0 FU (by omega) (fu_lt (by omega))
  · intro k j hj
    have hct := ct_le (su H E n t c rw' en' up N) j
    show fX7_suspects_L25 K (nI N) facts (k + 1) _ _ _ s = fX7_suspects_L25 K (nI N) facts k _ _ _ s
    rw [fX7_suspects_L25, fX7_places, some_bind, hs.1, hs.2.2.1, pk_mul, if_neg (pl_ge (by omega) (by omega)), mSus ho hs hN hF hj, some_bind, pl_1]
    simp only [jn]
    rw [ct, fs1]
    cases su H E n t c rw' en' up N j with
    | false =>
      rw [if_pos (show b2i false = 0 by decide)]
      rfl
    | true =>
      rw [if_neg (show ¬ b2i true = 0 by decide), if_pos rfl, if_pos rfl, nI_1]
      by_cases h0 : ct (su H E n t c rw' en' up N) j = 0
      · rw [if_pos h0, if_pos (by rw [h0]; exact nI_0)]
      · rw [if_neg h0, if_neg (fun z => h0 ((nI_0iff (by omega)).mp z))]
  · intro k
    show fX7_suspects_L25 K (nI N) facts (k + 1) _ _ _ s = _
    rw [fX7_suspects_L25, fX7_places, some_bind, hs.1, hs.2.2.1, pk_mul, if_pos (pl_end (by omega))]
theorem op_suspects {thr seen many : Int32} (hl : ILm hk en cd lm f g s) (hf : IFa seen rows ends wasUp many facts) (v : Int32) : ∃ a, fX6_suspects hk en cd f g seen rows ends wasUp v = some a ∧ fX7_suspects thr many s facts v = some (a, 0, s) := by
  obtain ⟨H, E, n, m, t, c, ho, hL, hS⟩ := id hl
  obtain ⟨N, rw', en', up, hN, rfl, rfl, hF⟩ := hf
  have hF : okF N rw' en' up rows ends wasUp facts := hF
  have hH := ho.1
  have hn := ho.2.2.1
  have hHn : H * n ≤ 6 * 8 := Nat.mul_le_mul hH.2 hn.2
  have hin : fX7_in v 0 1 = fX7_in v 0 (nI 1) := by rw [show (1 : Int32) = nI 1 by decide]
  rw [fX6_suspects, fX7_suspects, hin]
  rcases in_r v 1 (by decide) with ⟨w, h⟩ | ⟨j, hj, rfl, w⟩
  · have h0 : ¬ v = 0 := by
      rintro rfl
      revert h; decide
    have h1 : ¬ v = 1 := by
      rintro rfl
      revert h; decide
    rw [w, some_bind, if_neg h0, if_neg h1, if_pos rfl]
    exact ⟨_, rfl, rfl⟩
  · rw [w, some_bind, if_neg n10, mSusp ho hS hN hF]
    rcases j with _ | _ | j
    · rw [if_pos (show nI 0 = 0 by decide), if_pos (show nI 0 = 0 by decide), fX4_howManySuspects, cBits ho hL hN hF, some_bind, cCount (by omega), some_bind, some_bind]
      exact ⟨_, rfl, rfl⟩
    · rw [if_neg (show ¬ nI (0 + 1) = 0 by decide), if_pos (show nI (0 + 1) = 1 by decide), if_neg (show ¬ nI (0 + 1) = 0 by decide), cFirstS ho hL hN hF, some_bind]
      exact ⟨_, rfl, rfl⟩
    · omega
end P88e

theorem rng (v : Int32) {n : Nat} (h1 : 1 ≤ n) (h2 : n < 2 ^ 20) : (¬ (0 ≤ v ∧ v < nI n) ∧ fX7_in v 0 (nI n - 1) = some 0 ∧ (v < 0 ∨ nI n ≤ v)) ∨ ∃ j, j < n ∧ v = nI j ∧ fX7_in v 0 (nI n - 1) = some 1 := by
  obtain ⟨k, rfl⟩ : ∃ k, n = k + 1 := ⟨n - 1, by omega⟩
  rw [nI_pred]
  rcases pk_ix v (n := k + 1) (by omega) with h | h | ⟨j, hj, rfl⟩
  · refine Or.inl ⟨fun z => ?_, ?_, Or.inl h⟩
    · have := z.1
      rw [fa_le] at this
      rw [fa_lt] at h
      omega
    · rw [fX7_in, if_pos h]
  · have h3 : ¬ v < 0 := by
      rw [fa_le, nI_toInt (by omega)] at h
      rw [fa_lt]
      show ¬ v.toInt < 0
      omega
    have h4 : nI k < v := by
      rw [fa_le, nI_toInt (by omega)] at h
      rw [fa_lt, nI_toInt (by omega)]
      omega
    refine Or.inl ⟨fun z => ?_, ?_, Or.inr h⟩
    · have := z.2
      rw [fa_lt] at this
      rw [fa_le] at h
      omega
    · rw [fX7_in, if_neg h3, if_pos h4]
  · refine Or.inr ⟨j, hj, rfl, ?_⟩
    rw [fX7_in, if_neg (nI_pos (by omega)), if_neg (nI_nlt (by omega) (by omega))]
theorem has0 {v : Int32} {n : Nat} (h : v < 0 ∨ nI n ≤ v) : fX2_hasCard (nI n) v = some 0 := by
  rw [fX2_hasCard]
  rcases h with h | h
  · rw [if_pos h]
  · by_cases h0 : v < 0
    · rw [if_pos h0]
    · rw [if_neg h0, if_pos h]
theorem has1 {j n : Nat} (h : j < n) (hn : n < 2 ^ 31) : fX2_hasCard (nI n) (nI j) = some 1 := by
  rw [fX2_hasCard, if_neg (nI_pos (by omega)), if_neg (nI_ge h hn)]
theorem hasE (n v : Int32) : fX2_hasEnd n v = fX2_hasCard n v := rfl
theorem hasH (n v : Int32) : fX2_hasHook n v = fX2_hasCard n v := rfl
theorem mCard {s : Nat → Int32} {v : Int32} {r : Int32} (h : fX7_in v 0 (s 2 - 1) = some r) (hr : tf r = true) : fX7_isCard s v = some r := by rw [fX7_isCard, h, some_bind, gd_t hr]
theorem mHook {s : Nat → Int32} {v : Int32} {r : Int32} (h : fX7_in v 0 (s 0 - 1) = some r) (hr : tf r = true) : fX7_isHook s v = some r := by rw [fX7_isHook, h, some_bind, gd_t hr]
theorem mEnd {s : Nat → Int32} {v : Int32} {r : Int32} (h : fX7_in v 0 (s 1 - 1) = some r) (hr : tf r = true) : fX7_isEnd s v = some r := by rw [fX7_isEnd, h, some_bind, gd_t hr]
theorem xorI (a b : Nat) : nI a ^^^ nI b = nI (a ^^^ b) := by
  unfold nI
  apply Int32.toBitVec_inj.mp
  simp [Int32.toBitVec_ofNat']
theorem pl_lt {H n p : Nat} (h : p < H * n) : p / H < n := Nat.div_lt_of_lt_mul h
theorem cPunch {H E n m : Nat} {t c : Nat → Nat} {hk en cd lm : Int32} {f g : Nat → Int32} (ho : okV H E n m t c) (hl : isL H E n m t c hk en cd lm f g) {p : Nat} (hp : p < H * n) : fX2_punch (nI H) (nI n) g (nI p) = some (upd g (p / H) (nI (c (p / H) ^^^ 2 ^ (p % H)))) := by
  have hH := ho.1
  have hn := ho.2.2.1
  have hHn : H * n ≤ 6 * 8 := Nat.mul_le_mul hH.2 hn.2
  have hi := pl_lt hp
  have hm : p % H < H := Nat.mod_lt _ (by omega)
  rw [fX2_punch, if_neg (nI_pos (by omega)), fX2_places, some_bind, pk_mul, if_neg (nI_ge hp (by omega)), if_neg (nI_nle (by omega) (by omega)), gd_t (nzt (by omega) (by omega)), pk_rem (by omega) (by omega) (by omega), pk_div (by omega) (by omega) (by omega), gd_t (ixt (by omega) (by decide)), gd_t (nzt (by omega) (by omega)), gd_t (ixt (by omega) (by decide)), nI_clamp (by omega), hl.2.2.2.2.2 _ hi, shl1 _ (by omega), xorI]
section P85
variable {hk en cd lm : Int32} {f g s : Nat → Int32} {known next undos thr : Int32} {gh ge gc gl : Nat → Int32} {gf gg : Nat → Nat → Int32} {past : Nat → Int32}
theorem op_punches (hl : ILm hk en cd lm f g s) (hh : IHi known next gh ge gc gl gf gg undos past) (v1 v2 : Int32) :
    ∃ a b, fX6_punches hk en cd lm f g known next gh ge gc gl gf gg v1 v2 = some a ∧ fX7_punches thr undos s past v1 v2 = some b ∧ a.1 = b.1 ∧ ILm hk en cd lm f a.2.1 b.2.2.2.1 ∧ IHi a.2.2.1 a.2.2.2.1 a.2.2.2.2.1 a.2.2.2.2.2.1 a.2.2.2.2.2.2.1 a.2.2.2.2.2.2.2.1 a.2.2.2.2.2.2.2.2.1 a.2.2.2.2.2.2.2.2.2 b.2.2.1 b.2.2.2.2 := by
  obtain ⟨r, r2, hr1, hr2, hI⟩ := rem_ok hl hh
  obtain ⟨H, E, n, m, t, c, ho, hL, hS⟩ := id hl
  have hH := ho.1
  have hn := ho.2.2.1
  obtain ⟨rfl, rfl, rfl, rfl, hf, hg⟩ := id hL
  obtain ⟨q0, q1, q2, q3, qt, qc⟩ := id hS
  rw [fX6_punches, fX7_punches]
  rcases rng v1 hn.1 (by omega) with ⟨-, w1, w2⟩ | ⟨i, hi, rfl, w1⟩
  · rw [has0 w2, some_bind, mCard (by rw [q2]; exact w1) (by decide), some_bind, if_pos rfl, if_pos rfl]
    exact ⟨_, _, rfl, rfl, rfl, hl, hh⟩
  · rw [has1 hi (by omega), some_bind, mCard (by rw [q2]; exact w1) (by decide), some_bind, if_neg (by decide), if_neg (by decide)]
    rcases rng v2 hH.1 (by omega) with ⟨-, w3, w4⟩ | ⟨h, hh2, rfl, w3⟩
    · rw [hasH, has0 w4, some_bind, mHook (by rw [q0]; exact w3) (by decide), some_bind, if_pos rfl, if_pos rfl]
      exact ⟨_, _, rfl, rfl, rfl, hl, hh⟩
    · have e16 : (16 : Int32) = nI 16 := by decide
      have hdiv : (H * i + h) / H = i := by rw [Nat.mul_add_div (by omega), Nat.div_eq_of_lt hh2, Nat.add_zero]
      have hmod : (H * i + h) % H = h := by rw [Nat.mul_add_mod, Nat.mod_eq_of_lt hh2]
      have hb : H * i + h < H * n := by
        have : H * (i + 1) ≤ H * n := Nat.mul_le_mul_left H hi
        rw [Nat.mul_succ] at this
        omega
      have hHn : H * n ≤ 6 * 8 := Nat.mul_le_mul hH.2 hn.2
      have hx : c i ^^^ 2 ^ h < 2 ^ H := Nat.xor_lt_two_pow (ho.2.2.2.2.2 i hi) (Nat.pow_lt_pow_right (by decide) hh2)
      have hpu : fX2_punch (nI H) (nI n) g (nI (H * i + h)) = some (upd g i (nI (c i ^^^ 2 ^ h))) := by
        rw [cPunch ho hL hb, hdiv, hmod]
      rw [hasH, has1 hh2 (by omega), some_bind, mHook (by rw [q0]; exact w3) (by decide), some_bind, if_neg (by decide), if_neg (by decide), hr1, some_bind, hr2, some_bind, fX2_placeOf, some_bind, pk_mul, nI_add, hpu, some_bind, fX2_holesOf, has1 hi (by omega), some_bind, if_neg (by decide), gd_t (ixt (by omega) (by decide)), some_bind, nI_clamp (by omega), e16, nI_add, gd_t (ixt (by omega) (by decide)), gd_t (ixt (by omega) (by decide)), gd_t (ixt (by omega) (by decide)), nI_clamp (by omega), qc i hi, shl1 h (by omega), xorI]
      refine ⟨_, _, rfl, rfl, ?_, ?_, hI⟩
      · show ((upd g i (nI (c i ^^^ 2 ^ h)) i >>> (nI h &&& 31)) &&& 1) = ((upd s (16 + i) (nI (c i ^^^ 2 ^ h)) (16 + i) >>> (nI h &&& 31)) &&& 1)
        rw [pk_us, pk_us]
      · refine ⟨H, E, n, m, t, fun k => if k = i then c i ^^^ 2 ^ h else c k, ⟨ho.1, ho.2.1, ho.2.2.1, ho.2.2.2.1, ho.2.2.2.2.1, fun k hk => ?_⟩, ⟨rfl, rfl, rfl, rfl, hf, fun k hk => ?_⟩, ?_, ?_, ?_, ?_, fun e he => ?_, fun k hk => ?_⟩
        · show (if k = i then c i ^^^ 2 ^ h else c k) < 2 ^ H
          split
          · exact hx
          · exact ho.2.2.2.2.2 k hk
        · show upd g i (nI (c i ^^^ 2 ^ h)) k = nI (if k = i then c i ^^^ 2 ^ h else c k)
          unfold upd
          split
          · rfl
          · exact hg k hk
        · show upd s (16 + i) (nI (c i ^^^ 2 ^ h)) 0 = nI H
          rw [pk_un (by omega), q0]
        · show upd s (16 + i) (nI (c i ^^^ 2 ^ h)) 1 = nI E
          rw [pk_un (by omega), q1]
        · show upd s (16 + i) (nI (c i ^^^ 2 ^ h)) 2 = nI n
          rw [pk_un (by omega), q2]
        · show upd s (16 + i) (nI (c i ^^^ 2 ^ h)) 3 = nI m
          rw [pk_un (by omega), q3]
        · show upd s (16 + i) (nI (c i ^^^ 2 ^ h)) (4 + e) = nI (t e)
          have := ho.2.1.2
          rw [pk_un (by omega), qt e he]
        · show upd s (16 + i) (nI (c i ^^^ 2 ^ h)) (16 + k) = nI (if k = i then c i ^^^ 2 ^ h else c k)
          by_cases hki : k = i
          · subst hki
            rw [pk_us, if_pos rfl]
          · rw [pk_un (by omega), qc k hk, if_neg hki]
end P85

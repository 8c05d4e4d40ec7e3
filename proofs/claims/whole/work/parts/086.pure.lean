theorem n10 : ¬ (1 : Int32) = 0 := by decide
theorem becomes_ok {undos v : Int32} {s past : Nat → Int32} {p : Nat} (hp : p < 24) {r2 : Int32 × (Nat → Int32)} (hn : fX7_notes undos s past = some r2) :
    fX7_becomes undos s past (nI p) v = if s p = v then some (-2, undos, s, past) else some (s p, r2.1, upd s p v, r2.2) := by
  rw [fX7_becomes, gd_t (ixt hp (by decide)), nI_clamp (by omega), hn, some_bind, gd_t (ixt hp (by decide))]
theorem hasHo (h v : Int32) : fX2_hasHoles h v = fX2_hasCard ((1 : Int32) <<< (h &&& 31)) v := rfl
section P86
variable {hk en cd lm : Int32} {f g s : Nat → Int32} {known next undos thr : Int32} {gh ge gc gl : Nat → Int32} {gf gg : Nat → Nat → Int32} {past : Nat → Int32}
theorem op_ties (hl : ILm hk en cd lm f g s) (hh : IHi known next gh ge gc gl gf gg undos past) (v1 v2 : Int32) :
    ∃ a b, fX6_ties hk en cd lm f g known next gh ge gc gl gf gg v1 v2 = some a ∧ fX7_ties thr undos s past v1 v2 = some b ∧ a.1 = b.1 ∧ ILm hk en cd lm a.2.1 g b.2.2.2.1 ∧ IHi a.2.2.1 a.2.2.2.1 a.2.2.2.2.1 a.2.2.2.2.2.1 a.2.2.2.2.2.2.1 a.2.2.2.2.2.2.2.1 a.2.2.2.2.2.2.2.2.1 a.2.2.2.2.2.2.2.2.2 b.2.2.1 b.2.2.2.2 := by
  obtain ⟨r, r2, hr1, hr2, hI⟩ := rem_ok hl hh
  obtain ⟨H, E, n, m, t, c, ho, hL, hS⟩ := id hl
  have hH := ho.1
  have hE := ho.2.1
  have hn := ho.2.2.1
  obtain ⟨rfl, rfl, rfl, rfl, hf, hg⟩ := id hL
  obtain ⟨q0, q1, q2, q3, qt, qc⟩ := id hS
  rw [fX6_ties, fX7_ties]
  rcases rng v1 hE.1 (by omega) with ⟨-, w1, w2⟩ | ⟨i, hi, rfl, w1⟩
  · rw [hasE, has0 w2, some_bind, mEnd (by rw [q1]; exact w1) (by decide), some_bind, if_pos rfl, if_pos rfl]
    exact ⟨_, _, rfl, rfl, rfl, hl, hh⟩
  · rw [hasE, has1 hi (by omega), some_bind, mEnd (by rw [q1]; exact w1) (by decide), some_bind, if_neg n10, if_neg n10]
    rcases rng v2 hH.1 (by omega) with ⟨-, w3, w4⟩ | ⟨h, hh2, rfl, w3⟩
    · rw [hasH, has0 w4, some_bind, mHook (by rw [q0]; exact w3) (by decide), some_bind, if_pos rfl, if_pos rfl]
      exact ⟨_, _, rfl, rfl, rfl, hl, hh⟩
    · have e4 : (4 : Int32) = nI 4 := by decide
      have hti := ho.2.2.2.2.1 i hi
      rw [hasH, has1 hh2 (by omega), some_bind, mHook (by rw [q0]; exact w3) (by decide), some_bind, if_neg n10, if_neg n10, fX2_hookOf, hasE, has1 hi (by omega), some_bind, if_neg n10, gd_t (ixt (by omega) (by decide)), some_bind, nI_clamp (by omega), hf i hi, e4, nI_add, becomes_ok (by omega) hr2, qt i hi, hr1, some_bind, fX2_tie, hasE, has1 hi (by omega), some_bind, if_neg n10, gd_t (ixt (by omega) (by decide)), some_bind, nI_clamp (by omega)]
      by_cases he : nI (t i) = nI h
      · rw [if_pos he, if_pos he, some_bind]
        exact ⟨_, _, rfl, rfl, rfl, hl, hh⟩
      · rw [if_neg he, if_neg he, some_bind]
        refine ⟨_, _, rfl, rfl, rfl, ?_, hI⟩
        refine ⟨H, E, n, m, fun k => if k = i then h else t k, c, ⟨ho.1, ho.2.1, ho.2.2.1, ho.2.2.2.1, fun k hk => ?_, ho.2.2.2.2.2⟩, ⟨rfl, rfl, rfl, rfl, fun k hk => ?_, hg⟩, ?_, ?_, ?_, ?_, fun e he => ?_, fun k hk => ?_⟩
        · show (if k = i then h else t k) < H
          split
          · exact hh2
          · exact ho.2.2.2.2.1 k hk
        · show upd f i (nI h) k = nI (if k = i then h else t k)
          unfold upd
          split
          · rfl
          · exact hf k hk
        · show upd s (4 + i) (nI h) 0 = nI H
          rw [pk_un (by omega), q0]
        · show upd s (4 + i) (nI h) 1 = nI E
          rw [pk_un (by omega), q1]
        · show upd s (4 + i) (nI h) 2 = nI n
          rw [pk_un (by omega), q2]
        · show upd s (4 + i) (nI h) 3 = nI m
          rw [pk_un (by omega), q3]
        · show upd s (4 + i) (nI h) (4 + e) = nI (if e = i then h else t e)
          by_cases hei : e = i
          · subst hei
            rw [pk_us, if_pos rfl]
          · rw [pk_un (by omega), qt e he, if_neg hei]
        · show upd s (4 + i) (nI h) (16 + k) = nI (c k)
          rw [pk_un (by omega), qc k hk]
theorem op_limits (hl : ILm hk en cd lm f g s) (hh : IHi known next gh ge gc gl gf gg undos past) (v1 : Int32) :
    ∃ a b, fX6_limits hk en cd lm f g known next gh ge gc gl gf gg v1 = some a ∧ fX7_limits thr undos s past v1 = some b ∧ a.1 = b.1 ∧ ILm hk en cd a.2.1 f g b.2.2.2.1 ∧ IHi a.2.2.1 a.2.2.2.1 a.2.2.2.2.1 a.2.2.2.2.2.1 a.2.2.2.2.2.2.1 a.2.2.2.2.2.2.2.1 a.2.2.2.2.2.2.2.2.1 a.2.2.2.2.2.2.2.2.2 b.2.2.1 b.2.2.2.2 := by
  obtain ⟨r, r2, hr1, hr2, hI⟩ := rem_ok hl hh
  obtain ⟨H, E, n, m, t, c, ho, hL, hS⟩ := id hl
  obtain ⟨rfl, rfl, rfl, rfl, hf, hg⟩ := id hL
  obtain ⟨q0, q1, q2, q3, qt, qc⟩ := id hS
  have hm := ho.2.2.2.1
  have hE := ho.2.1
  have e3 : (3 : Int32) = nI 3 := by decide
  rw [fX6_limits, fX7_limits, fX7_in]
  by_cases h1 : v1 < 1
  · rw [if_pos h1, if_pos h1, some_bind, if_pos rfl]
    exact ⟨_, _, rfl, rfl, rfl, hl, hh⟩
  · rw [if_neg h1, if_neg h1]
    by_cases h2 : v1 ≤ 12
    · have h3 : ¬ (12 : Int32) < v1 := Int32.not_lt.mpr h2
      obtain ⟨k, hk12, rfl⟩ : ∃ k, (1 ≤ k ∧ k ≤ 12) ∧ v1 = nI k := by
        have h0 : ¬ v1 < 0 := fun z => h1 (by rw [fa_lt] at z ⊢; have a0 : (0 : Int32).toInt = 0 := by decide
                                              have a1 : (1 : Int32).toInt = 1 := by decide
                                              omega)
        obtain ⟨j, hj, rfl⟩ := nI_of h0
        refine ⟨j, ⟨?_, ?_⟩, rfl⟩
        · rw [show (1 : Int32) = nI 1 by decide, nI_ltI hj (by decide)] at h1
          omega
        · rw [show (12 : Int32) = nI 12 by decide, nI_leI hj (by decide)] at h2
          exact h2
      rw [if_pos h2, if_neg h3, some_bind, if_neg n10, e3, becomes_ok (by decide) hr2, q3, hr1, some_bind]
      by_cases he : nI m = nI k
      · rw [if_pos he, if_pos he, some_bind]
        exact ⟨_, _, rfl, rfl, rfl, hl, hh⟩
      · rw [if_neg he, if_neg he, some_bind]
        refine ⟨_, _, rfl, rfl, rfl, ?_, hI⟩
        refine ⟨H, E, n, k, t, c, ⟨ho.1, ho.2.1, ho.2.2.1, hk12, ho.2.2.2.2⟩, ⟨rfl, rfl, rfl, rfl, hf, hg⟩, ?_, ?_, ?_, ?_, fun e he => ?_, fun i hi => ?_⟩
        · show upd s 3 (nI k) 0 = nI H
          rw [pk_un (by omega), q0]
        · show upd s 3 (nI k) 1 = nI E
          rw [pk_un (by omega), q1]
        · show upd s 3 (nI k) 2 = nI n
          rw [pk_un (by omega), q2]
        · show upd s 3 (nI k) 3 = nI k
          exact pk_us
        · show upd s 3 (nI k) (4 + e) = nI (t e)
          rw [pk_un (by omega), qt e he]
        · show upd s 3 (nI k) (16 + i) = nI (c i)
          rw [pk_un (by omega), qc i hi]
    · have h3 : (12 : Int32) < v1 := Int32.not_le.mp h2
      rw [if_neg h2, if_pos h3, some_bind, if_pos rfl]
      exact ⟨_, _, rfl, rfl, rfl, hl, hh⟩
theorem op_adds (hl : ILm hk en cd lm f g s) (hh : IHi known next gh ge gc gl gf gg undos past) (v1 : Int32) :
    ∃ a b, fX6_adds hk en cd lm f g known next gh ge gc gl gf gg v1 = some a ∧ fX7_adds thr undos s past v1 = some b ∧ a.1 = b.1 ∧ ILm hk en a.2.1 lm f a.2.2.1 b.2.2.2.1 ∧ IHi a.2.2.2.1 a.2.2.2.2.1 a.2.2.2.2.2.1 a.2.2.2.2.2.2.1 a.2.2.2.2.2.2.2.1 a.2.2.2.2.2.2.2.2.1 a.2.2.2.2.2.2.2.2.2.1 a.2.2.2.2.2.2.2.2.2.2 b.2.2.1 b.2.2.2.2 := by
  obtain ⟨r, r2, hr1, hr2, hI⟩ := rem_ok hl hh
  obtain ⟨H, E, n, m, t, c, ho, hL, hS⟩ := id hl
  obtain ⟨rfl, rfl, rfl, rfl, hf, hg⟩ := id hL
  obtain ⟨q0, q1, q2, q3, qt, qc⟩ := id hS
  have hH := ho.1
  have hE := ho.2.1
  have hn := ho.2.2.1
  have e8 : (8 : Int32) = nI 8 := by decide
  have e16 : (16 : Int32) = nI 16 := by decide
  have hp : 1 ≤ 2 ^ H := Nat.two_pow_pos H
  have hp2 : 2 ^ H ≤ 2 ^ 6 := Nat.pow_le_pow_right (by decide) hH.2
  rw [fX6_adds, fX7_adds, hasHo, q0, shl1 H (by omega)]
  rcases rng v1 hp (by omega) with ⟨-, w1, w2⟩ | ⟨x, hx, rfl, w1⟩
  · rw [has0 w2, some_bind, w1, some_bind, if_pos rfl, if_pos rfl]
    exact ⟨_, _, rfl, rfl, rfl, hl, hh⟩
  · rw [has1 hx (by omega), some_bind, w1, some_bind, if_neg n10, if_neg n10, q2, e8]
    by_cases h8 : n = 8
    · subst h8
      rw [if_neg (nI_nlt (Nat.le_refl _) (by decide)), if_pos rfl]
      exact ⟨_, _, rfl, rfl, rfl, hl, hh⟩
    · rw [if_pos (nI_lt (by omega) (by decide)), if_neg (fun z => h8 ((nI_eq (by omega) (by decide)).mp z)), hr1, some_bind, hr2, some_bind, fX2_putBehind, if_neg (nI_pos (by omega)), e8, if_neg (nI_ge (by omega) (by decide)), gd_t (ixt (by omega) (by decide)), some_bind, nI_clamp (by omega), nI_1, e16, nI_add, gd_t (ixt (by omega) (by decide)), nI_clamp (by omega)]
      refine ⟨_, _, rfl, rfl, ?_, ?_, hI⟩
      · show nI (n + 1) = upd (upd s (16 + n) (nI x)) 2 (upd s (16 + n) (nI x) 2 + 1) 2
        rw [pk_us, pk_un (by omega), q2, nI_1]
      · refine ⟨H, E, n + 1, m, t, fun k => if k = n then x else c k, ⟨ho.1, ho.2.1, by omega, ho.2.2.2.1, ho.2.2.2.2.1, fun k hk => ?_⟩, ⟨rfl, rfl, rfl, rfl, hf, fun k hk => ?_⟩, ?_, ?_, ?_, ?_, fun e he => ?_, fun k hk => ?_⟩
        · show (if k = n then x else c k) < 2 ^ H
          split
          · exact hx
          · exact ho.2.2.2.2.2 k (by omega)
        · show upd g n (nI x) k = nI (if k = n then x else c k)
          unfold upd
          split
          · rfl
          · exact hg k (by omega)
        · show upd (upd s (16 + n) (nI x)) 2 (upd s (16 + n) (nI x) 2 + 1) 0 = nI H
          rw [pk_un (by omega), pk_un (by omega), q0]
        · show upd (upd s (16 + n) (nI x)) 2 (upd s (16 + n) (nI x) 2 + 1) 1 = nI E
          rw [pk_un (by omega), pk_un (by omega), q1]
        · show upd (upd s (16 + n) (nI x)) 2 (upd s (16 + n) (nI x) 2 + 1) 2 = nI (n + 1)
          rw [pk_us, pk_un (by omega), q2, nI_1]
        · show upd (upd s (16 + n) (nI x)) 2 (upd s (16 + n) (nI x) 2 + 1) 3 = nI m
          rw [pk_un (by omega), pk_un (by omega), q3]
        · show upd (upd s (16 + n) (nI x)) 2 (upd s (16 + n) (nI x) 2 + 1) (4 + e) = nI (t e)
          rw [pk_un (by omega), pk_un (by omega), qt e he]
        · show upd (upd s (16 + n) (nI x)) 2 (upd s (16 + n) (nI x) 2 + 1) (16 + k) = nI (if k = n then x else c k)
          by_cases hkn : k = n
          · subst hkn
            rw [pk_un (by omega), pk_us, if_pos rfl]
          · rw [pk_un (by omega), pk_un (by omega), qc k (by omega), if_neg hkn]
end P86

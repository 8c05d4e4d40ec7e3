def ITx (len : Int32) (let' : Nat → Int32) (typed : Int32) (text : Nat → Int32) : Prop := ∃ (L : Nat) (tx : Nat → Nat), L ≤ 120 ∧ len = nI L ∧ typed = nI L ∧ ∀ i, i < L → tx i < 256 ∧ let' i = nI (tx i) ∧ text i &&& 255 = nI (tx i)
def IFa (seen : Int32) (rows ends wasUp : Nat → Int32) (many : Int32) (facts : Nat → Int32) : Prop := ∃ (N : Nat) (rw' en' : Nat → Nat) (up : Nat → Bool), N ≤ 8 ∧ seen = nI N ∧ many = nI N ∧ ∀ i, i < N → (rw' i < 100 ∧ en' i < 12) ∧ rows i = nI (rw' i) ∧ ends i = nI (en' i) ∧ wasUp i = b2i (up i) ∧ facts (3 * i) = nI (rw' i) ∧ facts (3 * i + 1) = nI (en' i) ∧ facts (3 * i + 2) = b2i (up i)
def IIm (ih ie ic il : Nat → Int32) (if' ig : Nat → Nat → Int32) (isK : Nat → Int32) (kept isM : Nat → Int32) : Prop := ∀ j, j < 2 → (isK j = 0 ∧ isM j = 0) ∨ (isK j = 1 ∧ isM j = 1 ∧ ILm (ih j) (ie j) (ic j) (il j) (if' j) (ig j) (fun i => kept (24 * j + i)))
theorem byte255 : ∀ b, b < 256 → (nI b).toInt8.toInt32 &&& 255 = nI b := by decide +kernel
theorem nar1 : vp_nar .boolean (1 : Int32) = 1 := by decide
theorem nar0 : vp_nar .boolean (0 : Int32) = 0 := by decide
theorem in_r (v : Int32) (n : Nat) (hn : n < 2 ^ 30) : (fX7_in v 0 (nI n) = some 0 ∧ (v < 0 ∨ (¬ v < 0 ∧ nI n < v))) ∨ ∃ j, j ≤ n ∧ v = nI j ∧ fX7_in v 0 (nI n) = some 1 := by
  by_cases h : v < 0
  · exact Or.inl ⟨by rw [fX7_in, if_pos h], Or.inl h⟩
  · obtain ⟨j, hj, rfl⟩ := nI_of h
    by_cases h2 : j ≤ n
    · exact Or.inr ⟨j, h2, rfl, by rw [fX7_in, if_neg h, if_neg (nI_nlt h2 (by omega))]⟩
    · have h3 : nI n < nI j := nI_lt (by omega) hj
      exact Or.inl ⟨by rw [fX7_in, if_neg h, if_pos h3], Or.inr ⟨h, h3⟩⟩
section P87b
variable {hk en cd lm : Int32} {f g s : Nat → Int32} {known next undos thr : Int32} {gh ge gc gl : Nat → Int32} {gf gg : Nat → Nat → Int32} {past : Nat → Int32}
theorem op_type {len typed : Int32} {let' text : Nat → Int32} (hi : ITx len let' typed text) (v : Int32) : ∃ a b, fX6_type len let' v = some a ∧ fX7_type thr typed text v = some b ∧ a.1 = b.1 ∧ ITx a.2.1 a.2.2 b.2.2.1 b.2.2.2 := by
  obtain ⟨L, tx, hL, rfl, rfl, h⟩ := id hi
  have e255 : (255 : Int32) = nI 255 := by decide
  have e120 : (120 : Int32) = nI 120 := by decide
  rw [fX6_type, fX7_type, e255]
  rcases in_r v 255 (by decide) with ⟨w, h1 | ⟨h1, h2⟩⟩ | ⟨j, hj, rfl, w⟩
  · rw [w, some_bind, if_pos h1, if_pos rfl]
    exact ⟨_, _, rfl, rfl, rfl, hi⟩
  · rw [w, some_bind, if_neg h1, if_neg (fun z => (fa_of_lt h2).2.1 z), if_pos rfl]
    exact ⟨_, _, rfl, rfl, rfl, hi⟩
  · rw [w, some_bind, if_neg (nI_pos (by omega)), if_pos (nI_le hj (by decide)), if_neg n10, fX1_append, if_neg (nI_pos (by omega)), e120]
    by_cases h8 : L = 120
    · subst h8
      rw [if_neg (nI_nlt (Nat.le_refl _) (by decide)), some_bind, if_pos rfl, if_pos rfl]
      exact ⟨_, _, rfl, rfl, rfl, hi⟩
    · rw [if_pos (nI_lt (by omega) (by decide)), if_neg (fun z => h8 ((nI_eq (by omega) (by decide)).mp z)), gd_t (ixt (by omega) (by decide)), some_bind, if_neg n10, gd_t (ixt (by omega) (by decide)), nI_1, nI_clamp (by omega), pk_vb]
      refine ⟨_, _, rfl, rfl, rfl, L + 1, fun i => if i = L then j else tx i, by omega, rfl, rfl, fun i hi' => ?_⟩
      show (if i = L then j else tx i) < 256 ∧ upd let' L (nI j) i = nI (if i = L then j else tx i) ∧ upd text L (nI j).toInt8.toInt32 i &&& 255 = nI (if i = L then j else tx i)
      by_cases hiL : i = L
      · subst hiL
        rw [if_pos rfl, pk_us, pk_us]
        exact ⟨by omega, rfl, byte255 j (by omega)⟩
      · rw [if_neg hiL, pk_un hiL, pk_un hiL]
        exact h i (by omega)
theorem op_clear {len typed : Int32} {let' text : Nat → Int32} (hi : ITx len let' typed text) : ∃ a b, fX6_clear len = some a ∧ fX7_clear thr typed = some b ∧ a.1 = b.1 ∧ ITx a.2 let' b.2.2 text := by
  obtain ⟨L, tx, hL, rfl, rfl, h⟩ := id hi
  exact ⟨_, _, rfl, rfl, rfl, 0, tx, by omega, rfl, rfl, fun i hi => absurd hi (Nat.not_lt_zero i)⟩
theorem op_forget {seen many : Int32} {rows ends wasUp facts : Nat → Int32} (hi : IFa seen rows ends wasUp many facts) : ∃ a b, fX6_forget seen = some a ∧ fX7_forget thr many = some b ∧ a.1 = b.1 ∧ IFa a.2 rows ends wasUp b.2.2 facts := by
  obtain ⟨N, rw', en', up, hN, rfl, rfl, h⟩ := id hi
  exact ⟨_, _, rfl, rfl, rfl, 0, rw', en', up, by omega, rfl, rfl, fun i hi => absurd hi (Nat.not_lt_zero i)⟩
theorem op_sees {seen many : Int32} {rows ends wasUp facts : Nat → Int32} (hi : IFa seen rows ends wasUp many facts) (v1 v2 v3 : Int32) : ∃ a b, fX6_sees seen rows ends wasUp v1 v2 v3 = some a ∧ fX7_sees thr many facts v1 v2 v3 = some b ∧ a.1 = b.1 ∧ IFa a.2.1 a.2.2.1 a.2.2.2.1 a.2.2.2.2 b.2.2.1 b.2.2.2 := by
  obtain ⟨N, rw', en', up, hN, rfl, rfl, h⟩ := id hi
  have e99 : (99 : Int32) = nI 99 := by decide
  have e11 : (11 : Int32) = nI 11 := by decide
  have e12 : (12 : Int32) = nI 12 := by decide
  have e8 : (8 : Int32) = nI 8 := by decide
  have e1 : (1 : Int32) = nI 1 := by decide
  have e2 : (2 : Int32) = nI 2 := by decide
  have e3 : (3 : Int32) = nI 3 := by decide
  rw [fX6_sees, fX7_sees, e99, e11, e12]
  rcases in_r v1 99 (by decide) with ⟨w, h1 | ⟨h1, h2⟩⟩ | ⟨r, hr, rfl, w⟩
  · rw [w, some_bind, if_pos h1, if_pos rfl]
    exact ⟨_, _, rfl, rfl, rfl, hi⟩
  · rw [w, some_bind, if_neg h1, if_pos h2, if_pos rfl]
    exact ⟨_, _, rfl, rfl, rfl, hi⟩
  · rw [w, some_bind, if_neg (nI_pos (n := r) (by omega)), if_neg (nI_nlt hr (by decide)), if_neg n10]
    rcases in_r v2 11 (by decide) with ⟨w2, h1 | ⟨h1, h2⟩⟩ | ⟨e, he, rfl, w2⟩
    · rw [w2, some_bind, if_pos h1, if_pos rfl]
      exact ⟨_, _, rfl, rfl, rfl, hi⟩
    · have h3 : nI 12 ≤ v2 := by
        rw [fa_le]
        rw [fa_lt] at h2
        have a1 : (nI 11).toInt = 11 := nI_toInt (by decide)
        have a2 : (nI 12).toInt = 12 := nI_toInt (by decide)
        omega
      rw [w2, some_bind, if_neg h1, if_pos h3, if_pos rfl]
      exact ⟨_, _, rfl, rfl, rfl, hi⟩
    · rw [w2, some_bind, if_neg (nI_pos (n := e) (by omega)), if_neg (nI_ge (by omega) (by decide)), if_neg n10]
      have hin : fX7_in v3 0 1 = fX7_in v3 0 (nI 1) := by rw [e1]
      rw [hin]
      rcases in_r v3 1 (by decide) with ⟨w3, h1 | ⟨h1, h2⟩⟩ | ⟨u, hu, rfl, w3⟩
      · rw [w3, some_bind, if_pos h1, if_pos rfl]
        exact ⟨_, _, rfl, rfl, rfl, hi⟩
      · rw [w3, some_bind, if_neg h1, if_neg (show ¬ v3 ≤ 1 from fun z => (fa_of_lt h2).2.1 z), if_pos rfl]
        exact ⟨_, _, rfl, rfl, rfl, hi⟩
      · rw [w3, some_bind, if_neg (nI_pos (n := u) (by omega)), if_pos (show nI u ≤ 1 from nI_le hu (by decide)), if_neg n10]
        simp only [jn, fX4_note]
        rw [if_neg (nI_pos (n := N) (by omega)), if_neg (nI_pos (n := N) (by omega)), e8]
        by_cases h8 : N = 8
        · subst h8
          rw [if_neg (nI_nlt (Nat.le_refl _) (by decide)), if_pos rfl]
          simp only [some_bind, if_true]
          refine ⟨(-3, nI 8, rows, ends, wasUp), _, ?_, rfl, rfl, hi⟩
          split <;> rfl
        · obtain ⟨b, hb⟩ : ∃ b : Bool, nI u = b2i b := by
            rcases Nat.le_one_iff_eq_zero_or_eq_one.mp hu with rfl | rfl
            · exact ⟨false, by decide⟩
            · exact ⟨true, by decide⟩
          have hnar : ∀ x : Bool, vp_nar .boolean (b2i x) = b2i x := by
            intro x
            cases x
            · exact nar0
            · exact nar1
          have hcl : (if nI u = 1 then ((if nI N < nI 8 then gd (ix (nI N) 8) (gd (ix (nI N) 8) (gd (ix (nI N) 8) (some ((1 : Int32), nI N + 1, upd rows (nI N).toNatClampNeg (nI r), upd ends (nI N).toNatClampNeg (nI e), upd wasUp (nI N).toNatClampNeg (vp_nar .boolean 1))))) else some ((0 : Int32), nI N, rows, ends, wasUp)).bind fun u1 => if u1.1 = 0 then some ((-3 : Int32), u1.2.1, u1.2.2.1, u1.2.2.2.1, u1.2.2.2.2) else some (u1.2.1, u1.2.1, u1.2.2.1, u1.2.2.2.1, u1.2.2.2.2)) else ((if nI N < nI 8 then gd (ix (nI N) 8) (gd (ix (nI N) 8) (gd (ix (nI N) 8) (some ((1 : Int32), nI N + 1, upd rows (nI N).toNatClampNeg (nI r), upd ends (nI N).toNatClampNeg (nI e), upd wasUp (nI N).toNatClampNeg (vp_nar .boolean 0))))) else some ((0 : Int32), nI N, rows, ends, wasUp)).bind fun u1 => if u1.1 = 0 then some ((-3 : Int32), u1.2.1, u1.2.2.1, u1.2.2.2.1, u1.2.2.2.2) else some (u1.2.1, u1.2.1, u1.2.2.1, u1.2.2.2.1, u1.2.2.2.2))) = some (nI (N + 1), nI (N + 1), upd rows N (nI r), upd ends N (nI e), upd wasUp N (b2i b)) := by
            rw [hb, if_pos (nI_lt (show N < 8 by omega) (by decide)), if_pos (nI_lt (show N < 8 by omega) (by decide))]
            simp only [gd_t (ixt (show N < 8 by omega) (by decide)), some_bind, if_neg n10, nI_1, nI_clamp (show N < 2 ^ 31 by omega), nar0, nar1]
            cases b
            · rfl
            · rfl
          refine ⟨_, (nI (N + 1), 0, nI (N + 1), upd (upd (upd facts (3 * N) (nI r)) (3 * N + 1) (nI e)) (3 * N + 2) (b2i b)), hcl, ?_, rfl, ?_⟩
          · rw [if_neg (fun z => h8 ((nI_eq (by omega) (by decide)).mp z)), e3, pk_mul, nI_1, e2, nI_add, gd_t (ixt (by omega) (by decide)), gd_t (ixt (by omega) (by decide)), gd_t (ixt (by omega) (by decide)), nI_1, nI_clamp (by omega), nI_clamp (by omega), nI_clamp (by omega), hb]
          · refine ⟨N + 1, fun i => if i = N then r else rw' i, fun i => if i = N then e else en' i, fun i => if i = N then b else up i, by omega, rfl, rfl, fun i hi' => ?_⟩
            by_cases hiN : i = N
            · subst hiN
              simp only [if_true]
              refine ⟨⟨by omega, by omega⟩, pk_us, pk_us, pk_us, ?_, ?_, ?_⟩
              · rw [pk_un (by omega), pk_un (by omega), pk_us]
              · rw [pk_un (by omega), pk_us]
              · rw [pk_us]
            · simp only [if_neg hiN]
              obtain ⟨p1, p2, p3, p4, p5, p6, p7⟩ := h i (by omega)
              refine ⟨p1, ?_, ?_, ?_, ?_, ?_, ?_⟩
              · rw [pk_un hiN, p2]
              · rw [pk_un hiN, p3]
              · rw [pk_un hiN, p4]
              · rw [pk_un (by omega), pk_un (by omega), pk_un (by omega), p5]
              · rw [pk_un (by omega), pk_un (by omega), pk_un (by omega), p6]
              · rw [pk_un (by omega), pk_un (by omega), pk_un (by omega), p7]
end P87b

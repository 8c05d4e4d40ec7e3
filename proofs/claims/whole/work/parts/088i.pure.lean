def n1 (k : Nat) : Nat := if k = 0 then 1 else k
theorem n1_in {k : Nat} (h : k ≤ 8) : 1 ≤ n1 k ∧ n1 k ≤ 8 ∧ k ≤ n1 k := by
  unfold n1
  split <;> omega
def ID (hh ht ct dh de dc dl : Int32) (df dg : Nat → Int32) (hh' ht' : Int32) (d : Nat → Int32) : Prop := ∃ (H E k m : Nat) (t c : Nat → Nat) (bH bT : Bool), okV H E (n1 k) m t c ∧ isL H E (n1 k) m t c dh de dc dl df dg ∧ k ≤ 8 ∧ (k = 0 → c 0 = 0) ∧ ct = nI k ∧ (hh = b2i bH ∧ hh' = b2i bH ∧ ht = b2i bT ∧ ht' = b2i bT) ∧ (bT = false → E = 2 ∧ t 0 = 0) ∧ d 0 = nI H ∧ d 1 = nI E ∧ d 2 = nI k ∧ d 3 = nI m ∧ (∀ e, e < E → d (4 + e) = nI (t e)) ∧ ∀ i, i < n1 k → d (16 + i) = nI (c i)
def stOK (L : Nat) (tx : Nat → Nat) (lets : Nat → Int32) (b w : Nat) (hh ht ct dh de dc dl : Int32) (df dg : Nat → Int32) (fr to tk fl hh' ht' : Int32) (d : Nat → Int32) : Prop :=
  (tK L tx b ≠ 2 ∧ fl = nI (tBl L tx b)) ∨ (tK L tx b = 2 ∧ ∃ C, fX5_takesFigures (nI (tBl L tx b)) (nI (tTo L tx b)) hh ht ct (nI L) lets dh de dc dl df dg (nI w) = some C ∧ ((C.1 = 0 ∧ fl = nI (tBl L tx b)) ∨ (C.1 = 1 ∧ fr = nI (tBl L tx (tTo L tx b)) ∧ to = nI (tTo L tx (tTo L tx b)) ∧ tk = nI (mkk (tK L tx (tTo L tx b))) ∧ fl = -9 ∧ ID C.2.1 C.2.2.1 C.2.2.2.1 C.2.2.2.2.1 C.2.2.2.2.2.1 C.2.2.2.2.2.2.1 C.2.2.2.2.2.2.2.1 C.2.2.2.2.2.2.2.2.1 C.2.2.2.2.2.2.2.2.2 hh' ht' d)))
section P88j
variable {L : Nat} {tx : Nat → Nat} {lets text : Nat → Int32} {hh ht ct dh de dc dl : Int32} {df dg : Nat → Int32} {hh' ht' : Int32} {d : Nat → Int32}
theorem tf1 : tf 1 = true := by decide
theorem tf0 : tf 0 = true := by decide
theorem tokF (hT : okT L tx lets text) {b : Nat} (hb : b ≤ L) : tBl L tx b < 2 ^ 10 ∧ tTo L tx b ≤ L ∧ tBl L tx b ≤ tTo L tx b ∧ tK L tx b ≤ 8 ∧ (tK L tx b = 2 → tBl L tx b < tTo L tx b ∧ Fg tx (tBl L tx b) (tTo L tx b)) := by
  have hL := hT.1
  obtain ⟨h1, h2, h3, h4, h5, h6⟩ := tok_in (tx := tx) hb
  exact ⟨by omega, h3, h2, h4, fun z => ⟨h5 (by omega), h6 z⟩⟩
theorem cHooks (hT : okT L tx lets text) {a b : Nat} (ha : a < b) (hb : b ≤ L) (hF : Fg tx a b) : fX5_takesFigures (nI a) (nI b) hh ht ct (nI L) lets dh de dc dl df dg (nI 4) = if 1 ≤ nm tx a b ∧ nm tx a b ≤ 6 then some (1, 1, ht, ct, nI (nm tx a b), de, dc, dl, upd (upd df 0 0) 1 (if nm tx a b ≤ 1 then 0 else 1), dg) else some (0, hh, ht, ct, dh, de, dc, dl, df, dg) := by
  have e1 : (1 : Int32) = nI 1 := by decide
  have e6 : (6 : Int32) = nI 6 := by decide
  have hle := nm_le ha hF
  rw [fX5_takesFigures, if_pos (show nI 4 = 4 by decide), fX5_takesHooks, cNum hT ha hb hF, some_bind]
  by_cases h1 : 1 ≤ nm tx a b
  · rw [if_neg (show ¬ nI (nm tx a b) < 1 by rw [e1]; exact nI_nlt h1 (by omega)), e6]
    by_cases h2 : nm tx a b ≤ 6
    · rw [if_pos (nI_le h2 (by decide)), if_pos ⟨h1, h2⟩, fX2_takeHooks]
      simp only [jn]
      by_cases h3 : nm tx a b ≤ 1
      · rw [if_pos (show nI (nm tx a b) ≤ 1 by rw [e1]; exact nI_le h3 (by decide)), if_pos h3]
        rfl
      · rw [if_neg (show ¬ nI (nm tx a b) ≤ 1 by rw [e1]; exact nI_ge (by omega) (by omega)), if_neg h3]
        rfl
    · rw [if_neg (nI_ge (by omega) (by omega)), if_neg (fun z => h2 z.2)]
      rfl
  · rw [if_pos (show nI (nm tx a b) < 1 by rw [e1]; exact nI_lt (by omega) (by decide)), if_neg (fun z => h1 z.1)]
    rfl
theorem cLimit (hT : okT L tx lets text) {a b : Nat} (ha : a < b) (hb : b ≤ L) (hF : Fg tx a b) : fX5_takesFigures (nI a) (nI b) hh ht ct (nI L) lets dh de dc dl df dg (nI 8) = if 1 ≤ nm tx a b ∧ nm tx a b ≤ 12 then some (1, hh, ht, ct, dh, de, dc, nI (nm tx a b), df, dg) else some (0, hh, ht, ct, dh, de, dc, dl, df, dg) := by
  have e1 : (1 : Int32) = nI 1 := by decide
  have e12 : (12 : Int32) = nI 12 := by decide
  have hle := nm_le ha hF
  rw [fX5_takesFigures, if_neg (show ¬ nI 8 = 4 by decide), if_neg (show ¬ nI 8 = 5 by decide), if_neg (show ¬ nI 8 = 6 by decide), if_neg (show ¬ nI 8 = 7 by decide), if_pos (show nI 8 = 8 by decide), fX5_takesLimit, cNum hT ha hb hF, some_bind]
  by_cases h1 : 1 ≤ nm tx a b
  · rw [if_neg (show ¬ nI (nm tx a b) < 1 by rw [e1]; exact nI_nlt h1 (by omega)), e12]
    by_cases h2 : nm tx a b ≤ 12
    · rw [if_pos (nI_le h2 (by decide)), if_pos ⟨h1, h2⟩]
      rfl
    · rw [if_neg (nI_ge (by omega) (by omega)), if_neg (fun z => h2 z.2)]
      rfl
  · rw [if_pos (show nI (nm tx a b) < 1 by rw [e1]; exact nI_lt (by omega) (by decide)), if_neg (fun z => h1 z.1)]
    rfl
theorem stHooks (hT : okT L tx lets text) (hI : ID hh ht ct dh de dc dl df dg hh' ht' d) {b : Nat} (hb : b ≤ L) (h1 : hh' = 0) (h2 : ht' = 0) (h3 : d 2 = 0) (z1 z2 : Int32) : ∃ M, fX7_readsHooks (nI L) z1 (nI b) z2 (-9) hh' ht' d text = some M ∧ stOK L tx lets b 4 hh ht ct dh de dc dl df dg M.1 M.2.1 M.2.2.1 M.2.2.2.1 M.2.2.2.2.1 ht' M.2.2.2.2.2 := by
  obtain ⟨t1, t2, t3, t4, t5⟩ := tokF hT hb
  have hL := hT.1
  obtain ⟨x, hx⟩ := mNum hT (hi := 6) t3 t2 t4 t5 (by decide)
  have e6 : (6 : Int32) = nI 6 := by decide
  rw [← e6] at hx
  rw [fX7_readsHooks]
  simp only [jn]
  rw [if_pos h1, if_pos h2, if_pos h3, mTkT hT hb, some_bind, hx]
  by_cases hk : tK L tx b = 2 ∧ 1 ≤ nm tx (tBl L tx b) (tTo L tx b) ∧ nm tx (tBl L tx b) (tTo L tx b) ≤ 6
  · obtain ⟨k2, k3, k4⟩ := id hk
    obtain ⟨t6, t7⟩ := t5 k2
    have hC := cHooks (hh := hh) (ht := ht) (ct := ct) (dh := dh) (de := de) (dc := dc) (dl := dl) (df := df) (dg := dg) hT t6 t2 t7
    rw [if_pos ⟨k3, k4⟩] at hC
    obtain ⟨H, E, k, m, t, c, bH, bT, ho, hl, i1, i2, i3, ⟨i4, i5, i6, i7⟩, i8, i9, i10, i11, i12, i13, i14⟩ := hI
    have k0 : k = 0 := (nI_0iff (by omega)).mp (i11.symm.trans h3)
    have hbT : bT = false := b2i_0.mp (i7.symm.trans h2)
    subst k0 hbT
    obtain ⟨rfl, ht0⟩ := i8 rfl
    have c0 := i2 rfl
    have hg : ix 5 24 = true := by decide
    have fin : ∀ q : Nat → Int32, (q 0 = nI (nm tx (tBl L tx b) (tTo L tx b)) ∧ q 1 = d 1 ∧ q 2 = d 2 ∧ q 3 = d 3 ∧ q 4 = d 4 ∧ q 16 = d 16) → q 5 = (if nm tx (tBl L tx b) (tTo L tx b) ≤ 1 then 0 else 1) → stOK L tx lets b 4 hh ht ct dh de dc dl df dg (nI (tBl L tx (tTo L tx b))) (nI (tTo L tx (tTo L tx b))) (nI (mkk (tK L tx (tTo L tx b)))) (-9) 1 ht' q := by
      intro q ⟨q0, q1, q2, q3, q4, q16⟩ q5
      refine Or.inr ⟨k2, _, hC, Or.inr ⟨rfl, rfl, rfl, rfl, rfl, nm tx (tBl L tx b) (tTo L tx b), 2, 0, m, fun e => if e = 1 then (if nm tx (tBl L tx b) (tTo L tx b) ≤ 1 then 0 else 1) else 0, c, true, false, ?_, ?_, by decide, fun _ => c0, i3, ⟨rfl, rfl, i6, i7⟩, fun _ => ⟨rfl, rfl⟩, q0, q1.trans i10, q2.trans i11, q3.trans i12, ?_, ?_⟩⟩
      · refine ⟨⟨k3, k4⟩, by decide, by decide, ho.2.2.2.1, ?_, ?_⟩
        · intro e he
          show (if e = 1 then (if nm tx (tBl L tx b) (tTo L tx b) ≤ 1 then 0 else 1) else 0) < _
          split
          · split <;> omega
          · omega
        · intro i hi
          have : i = 0 := by
            have : n1 0 = 1 := rfl
            omega
          subst this
          rw [c0]
          exact Nat.two_pow_pos _
      · obtain ⟨l1, l2, l3, l4, l5, l6⟩ := hl
        refine ⟨rfl, l2, l3, l4, ?_, l6⟩
        intro e he
        show upd (upd df 0 0) 1 (if nm tx (tBl L tx b) (tTo L tx b) ≤ 1 then 0 else 1) e = nI (if e = 1 then (if nm tx (tBl L tx b) (tTo L tx b) ≤ 1 then 0 else 1) else 0)
        by_cases h : e = 1
        · subst h
          rw [pk_us, if_pos rfl]
          split <;> rfl
        · rw [pk_un h, if_neg h, show e = 0 by omega, pk_us]
          rfl
      · intro e he
        show q (4 + e) = nI (if e = 1 then (if nm tx (tBl L tx b) (tTo L tx b) ≤ 1 then 0 else 1) else 0)
        by_cases h : e = 1
        · subst h
          rw [if_pos rfl, show q (4 + 1) = _ from q5]
          split <;> rfl
        · rw [if_neg h, show e = 0 by omega]
          have := i13 0 (by decide)
          rw [ht0] at this
          exact q4.trans this
      · intro i hi
        have : i = 0 := by
          have : n1 0 = 1 := rfl
          omega
        subst this
        exact q16.trans (i14 0 (by decide))
    rw [if_pos hk, some_bind, if_pos rfl]
    simp only []
    rw [gd_t hg, gd_t hg]
    by_cases h5 : nm tx (tBl L tx b) (tTo L tx b) = 1
    · rw [if_pos (show nI (nm tx (tBl L tx b) (tTo L tx b)) = 1 by rw [h5]; rfl)]
      refine ⟨_, rfl, ?_⟩
      refine fin _ ⟨rfl, rfl, rfl, rfl, rfl, rfl⟩ ?_
      rw [if_pos (by omega)]
      rfl
    · rw [if_neg (show ¬ nI (nm tx (tBl L tx b) (tTo L tx b)) = 1 from fun z => h5 ((nI_eq (by omega) (by decide)).mp (show nI (nm tx (tBl L tx b) (tTo L tx b)) = nI 1 from z)))]
      refine ⟨_, rfl, ?_⟩
      refine fin _ ⟨rfl, rfl, rfl, rfl, rfl, rfl⟩ ?_
      rw [if_neg (by omega)]
      rfl
  · rw [if_neg hk, some_bind]
    simp only []
    rw [if_neg (ne9 (by omega))]
    refine ⟨_, rfl, ?_⟩
    by_cases k2 : tK L tx b = 2
    · obtain ⟨t6, t7⟩ := t5 k2
      have hC := cHooks (hh := hh) (ht := ht) (ct := ct) (dh := dh) (de := de) (dc := dc) (dl := dl) (df := df) (dg := dg) hT t6 t2 t7
      rw [if_neg (fun z => hk ⟨k2, z⟩)] at hC
      exact Or.inr ⟨k2, _, hC, Or.inl ⟨rfl, rfl⟩⟩
    · exact Or.inl ⟨k2, rfl⟩
theorem stHooks0 (hT : okT L tx lets text) {a b : Nat} (ha : a < 2 ^ 10) (h : ¬ (hh' = 0 ∧ ht' = 0 ∧ d 2 = 0)) (z2 : Int32) : ∃ M, fX7_readsHooks (nI L) (nI a) (nI b) z2 (-9) hh' ht' d text = some M ∧ M.2.2.2.1 = nI a := by
  obtain ⟨x, hx⟩ := mNum0 (b := b) (p := a) hT ha (by omega) z2 1 6
  rw [fX7_readsHooks]
  simp only [jn, mTkF, some_bind, hx, if_neg (ne9 (show a < 2 ^ 31 by omega))]
  by_cases h1 : hh' = 0
  · rw [if_pos h1]
    by_cases h2 : ht' = 0
    · rw [if_pos h2, if_neg (fun z => h ⟨h1, h2, z⟩)]
      exact ⟨_, rfl, rfl⟩
    · rw [if_neg h2]
      exact ⟨_, rfl, rfl⟩
  · rw [if_neg h1]
    exact ⟨_, rfl, rfl⟩
theorem stLimit (hT : okT L tx lets text) (hI : ID hh ht ct dh de dc dl df dg hh' ht' d) {b : Nat} (hb : b ≤ L) (z1 z2 : Int32) : ∃ M, fX7_readsLimit (nI L) z1 (nI b) z2 (-9) d text = some M ∧ stOK L tx lets b 8 hh ht ct dh de dc dl df dg M.1 M.2.1 M.2.2.1 M.2.2.2.1 hh' ht' M.2.2.2.2 := by
  obtain ⟨t1, t2, t3, t4, t5⟩ := tokF hT hb
  have hL := hT.1
  obtain ⟨x, hx⟩ := mNum hT (hi := 12) t3 t2 t4 t5 (by decide)
  have e12 : (12 : Int32) = nI 12 := by decide
  rw [← e12] at hx
  rw [fX7_readsLimit, mTkT hT hb, some_bind, hx]
  by_cases hk : tK L tx b = 2 ∧ 1 ≤ nm tx (tBl L tx b) (tTo L tx b) ∧ nm tx (tBl L tx b) (tTo L tx b) ≤ 12
  · obtain ⟨k2, k3, k4⟩ := id hk
    obtain ⟨t6, t7⟩ := t5 k2
    have hC := cLimit (hh := hh) (ht := ht) (ct := ct) (dh := dh) (de := de) (dc := dc) (dl := dl) (df := df) (dg := dg) hT t6 t2 t7
    rw [if_pos ⟨k3, k4⟩] at hC
    obtain ⟨H, E, k, m, t, c, bH, bT, ho, hl, i1, i2, i3, i4, i8, i9, i10, i11, i12, i13, i14⟩ := hI
    rw [if_pos hk, some_bind]
    refine ⟨_, rfl, Or.inr ⟨k2, _, hC, Or.inr ⟨rfl, rfl, rfl, rfl, rfl, H, E, k, nm tx (tBl L tx b) (tTo L tx b), t, c, bH, bT, ?_, ?_, i1, i2, i3, i4, i8, ?_, ?_, ?_, ?_, ?_, ?_⟩⟩⟩
    · exact ⟨ho.1, ho.2.1, ho.2.2.1, ⟨k3, k4⟩, ho.2.2.2.2.1, ho.2.2.2.2.2⟩
    · exact ⟨hl.1, hl.2.1, hl.2.2.1, rfl, hl.2.2.2.2.1, hl.2.2.2.2.2⟩
    · exact (show upd d 3 (nI (nm tx (tBl L tx b) (tTo L tx b))) 0 = d 0 from pk_un (by decide)).trans i9
    · exact (show upd d 3 (nI (nm tx (tBl L tx b) (tTo L tx b))) 1 = d 1 from pk_un (by decide)).trans i10
    · exact (show upd d 3 (nI (nm tx (tBl L tx b) (tTo L tx b))) 2 = d 2 from pk_un (by decide)).trans i11
    · exact (show upd d 3 (nI (nm tx (tBl L tx b) (tTo L tx b))) 3 = (nI (nm tx (tBl L tx b) (tTo L tx b))) from pk_us)
    · exact fun e he => (show upd d 3 (nI (nm tx (tBl L tx b) (tTo L tx b))) (4 + e) = d (4 + e) from pk_un (by omega)).trans (i13 e he)
    · exact fun i hi => (show upd d 3 (nI (nm tx (tBl L tx b) (tTo L tx b))) (16 + i) = d (16 + i) from pk_un (by omega)).trans (i14 i hi)
  · rw [if_neg hk, some_bind]
    refine ⟨_, rfl, ?_⟩
    by_cases k2 : tK L tx b = 2
    · obtain ⟨t6, t7⟩ := t5 k2
      have hC := cLimit (hh := hh) (ht := ht) (ct := ct) (dh := dh) (de := de) (dc := dc) (dl := dl) (df := df) (dg := dg) hT t6 t2 t7
      rw [if_neg (fun z => hk ⟨k2, z⟩)] at hC
      exact Or.inr ⟨k2, _, hC, Or.inl ⟨rfl, rfl⟩⟩
    · exact Or.inl ⟨k2, rfl⟩
end P88j

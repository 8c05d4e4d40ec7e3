def fill4 (F g : Nat → Int32) (j : Nat) : Nat → Int32 := fun k => if 4 ≤ k ∧ k < 4 + j then F (k - 4) else g k
theorem fill4_0 (F g : Nat → Int32) : fill4 F g 0 = g := by
  funext k
  exact if_neg (by omega)
theorem fill4_s (F g : Nat → Int32) (j : Nat) : upd (fill4 F g j) (4 + j) (F j) = fill4 F g (j + 1) := by
  funext k
  by_cases h : k = 4 + j
  · subst h
    rw [pk_us]
    show _ = if _ then _ else _
    rw [if_pos (by omega), Nat.add_sub_cancel_left]
  · rw [pk_un h]
    show (if _ then _ else _) = if _ then _ else _
    by_cases h2 : 4 ≤ k ∧ k < 4 + j
    · rw [if_pos h2, if_pos (by omega)]
    · rw [if_neg h2, if_neg (by omega)]
theorem fill4_in {F g : Nat → Int32} {j e : Nat} (h : e < j) : fill4 F g j (4 + e) = F e := by
  show (if _ then _ else _) = _
  rw [if_pos (by omega), Nat.add_sub_cancel_left]
theorem fill4_out {F g : Nat → Int32} {j k : Nat} (h : k < 4 ∨ 4 + j ≤ k) : fill4 F g j k = g k := by
  show (if _ then _ else _) = _
  rw [if_neg (by omega)]
def orf (u : Nat → Bool) (t : Nat → Nat) : Nat → Nat
  | 0 => 0
  | j + 1 => orf u t j ||| (if u j then 2 ^ t j else 0)
theorem orf_lt {u : Nat → Bool} {t : Nat → Nat} {H : Nat} : ∀ {j : Nat}, (∀ e, e < j → t e < H) → orf u t j < 2 ^ H
  | 0, _ => Nat.two_pow_pos H
  | j + 1, h => by
    rw [orf]
    refine Nat.or_lt_two_pow (orf_lt (fun e he => h e (by omega))) ?_
    split
    · exact Nat.pow_lt_pow_right (by decide) (h j (by omega))
    · exact Nat.two_pow_pos H
theorem sh0 : ∀ j, j < 31 → nI 0 <<< (nI j &&& 31) = 0 := by decide +kernel
theorem or0 (x : Nat) : nI x ||| 0 = nI x := by
  rw [← nI_0, fa_or, Nat.or_zero]
section P88k
variable {L : Nat} {tx : Nat → Nat} {lets text : Nat → Int32} {hh ht ct dh de dc dl : Int32} {df dg : Nat → Int32} {hh' ht' : Int32} {d : Nat → Int32}
theorem cTiesL (hT : okT L tx lets text) {a b : Nat} (hab : a ≤ b) (hb : b ≤ L) (hF : Fg tx a b) (h12 : b - a ≤ 12) (K : (Nat → Int32) → Option (Int32 × Int32 × Int32 × (Nat → Int32))) : fX5_takesTies_L42 K (nI a) (nI L) lets (nI (b - a)) (nI (b - a)) FU 0 df = K (fa_fill (fun e => nI (tx (a + e) - 48)) df (b - a)) := by
  have hL := hT.1
  have key := lo2 (F := fX5_takesTies_L42 K (nI a) (nI L) lets (nI (b - a)) (nI (b - a))) (a := nI) (b := fa_fill (fun e => nI (tx (a + e) - 48)) df) (E := b - a) (r := K (fa_fill (fun e => nI (tx (a + e) - 48)) df (b - a))) ?_ ?_ (b - a) 0 FU (by omega) (fu_lt (by omega))
  · rw [fa_fill_0] at key
    rw [← nI_0]
    exact key
  · intro k j hj
    have h1 := hF.at (q := a + j) (by omega) (by omega)
    have hs : upd (fa_fill (fun e => nI (tx (a + e) - 48)) df j) j (nI (tx (a + j) - 48)) = fa_fill (fun e => nI (tx (a + e) - 48)) df (j + 1) := fa_fill_succ (fun e => nI (tx (a + e) - 48)) df j
    rw [fX5_takesTies_L42, if_neg (nI_ge hj (by omega)), nI_add, cFgAt hT (by omega) h1.1, some_bind, fX2_tie, hasE, has1 hj (by omega), some_bind, if_neg n10, gd_t (ixt (by omega) (by decide)), nI_clamp (by omega), some_bind, nI_1, hs]
  · intro k
    rw [fX5_takesTies_L42, if_pos (nI_le (Nat.le_refl _) (by omega))]
theorem cTies (hT : okT L tx lets text) {a b H : Nat} (hab : a ≤ b) (hb : b ≤ L) (hF : Fg tx a b) (hH : H ≤ 6) : fX5_takesFigures (nI a) (nI b) hh ht ct (nI L) lets (nI H) de dc dl df dg (nI 5) = if b - a ≤ 12 ∧ allB tx H a b = true then some (1, hh, 1, ct, nI H, nI (b - a), dc, dl, fa_fill (fun e => nI (tx (a + e) - 48)) df (b - a), dg) else some (0, hh, ht, ct, nI H, de, dc, dl, df, dg) := by
  have hL := hT.1
  have e12 : (12 : Int32) = nI 12 := by decide
  rw [fX5_takesFigures, if_neg (show ¬ nI 5 = 4 by decide), if_pos (show nI 5 = 5 by decide), fX5_takesTies, pk_sub hab, e12]
  by_cases h : b - a ≤ 12
  · rw [if_neg (nI_nlt h (by decide)), cAre hT hab hb hF (by omega), some_bind, cTiesL hT hab hb hF h]
    cases hB : allB tx H a b with
    | true =>
      rw [if_neg (show ¬ b2i true = 0 by decide), if_pos ⟨h, rfl⟩]
      rfl
    | false =>
      rw [if_pos b2i_f, if_neg (fun z => by cases z.2)]
      rfl
  · rw [if_pos (nI_lt (by omega) (by omega)), if_neg (fun z => h z.1)]
    rfl
theorem mTiesL (hT : okT L tx lets text) {a b : Nat} (hab : a ≤ b) (hb : b ≤ L) (hF : Fg tx a b) (h12 : b - a ≤ 12) (K : (Nat → Int32) → Option (Int32 × Int32 × Int32 × Int32 × Int32 × (Nat → Int32))) : fX7_readsTies_L82 K (nI L) (nI a) text FU 0 (upd d 1 (nI (b - a))) = K (fill4 (fun e => nI (tx (a + e) - 48)) (upd d 1 (nI (b - a))) (b - a)) := by
  have hL := hT.1
  have key := lo2 (F := fX7_readsTies_L82 K (nI L) (nI a) text) (a := nI) (b := fill4 (fun e => nI (tx (a + e) - 48)) (upd d 1 (nI (b - a)))) (E := b - a) (r := K (fill4 (fun e => nI (tx (a + e) - 48)) (upd d 1 (nI (b - a))) (b - a))) ?_ ?_ (b - a) 0 FU (by omega) (fu_lt (by omega))
  · rw [fill4_0] at key
    rw [← nI_0]
    exact key
  · intro k j hj
    have h1 := hF.at (q := a + j) (by omega) (by omega)
    have e4 : (4 : Int32) = nI 4 := by decide
    have e48 : (48 : Int32) = nI 48 := by decide
    have hs : upd (fill4 (fun e => nI (tx (a + e) - 48)) (upd d 1 (nI (b - a))) j) (4 + j) (nI (tx (a + j) - 48)) = fill4 (fun e => nI (tx (a + e) - 48)) (upd d 1 (nI (b - a))) (j + 1) := fill4_s (fun e => nI (tx (a + e) - 48)) (upd d 1 (nI (b - a))) j
    rw [fX7_readsTies_L82, fill4_out (Or.inl (by decide)), pk_us, if_neg (nI_ge hj (by omega)), nI_add, mAt hT (by omega), some_bind, e4, nI_add, gd_t (ixt (by omega) (by decide)), nI_clamp (by omega), tAt_in (by omega), e48, pk_sub h1.1, nI_1, hs]
  · intro k
    rw [fX7_readsTies_L82, fill4_out (Or.inl (by decide)), pk_us, if_pos (nI_le (Nat.le_refl _) (by omega))]
theorem stTies (hT : okT L tx lets text) (hI : ID hh ht ct dh de dc dl df dg hh' ht' d) {b : Nat} (hb : b ≤ L) (h2 : ht' = 0) (h3 : d 2 = 0) (z1 z2 : Int32) : ∃ M, fX7_readsTies (nI L) z1 (nI b) z2 (-9) ht' d text = some M ∧ stOK L tx lets b 5 hh ht ct dh de dc dl df dg M.1 M.2.1 M.2.2.1 M.2.2.2.1 hh' M.2.2.2.2.1 M.2.2.2.2.2 := by
  obtain ⟨t1, t2, t3, t4, t5⟩ := tokF hT hb
  have hL := hT.1
  obtain ⟨H, E, k, m, t, c, bH, bT, ho, hl, i1, i2, i3, ⟨i4, i5, i6, i7⟩, i8, i9, i10, i11, i12, i13, i14⟩ := hI
  obtain ⟨rfl, l2, l3, l4, l5, l6⟩ := hl
  have hH := ho.1
  have hA : fX7_areFigures (nI L) (nI (tBl L tx b)) (nI (tTo L tx b)) (nI (mkk (tK L tx b))) text 1 12 (nI H) = _ := mAre hT (lo := 1) (hi := 12) (q := H) t3 t2 t4 (fun z => (t5 z).2) (by omega) (by decide) (by decide)
  rw [fX7_readsTies]
  simp only [jn]
  rw [if_pos h2, if_pos h3, mTkT hT hb, some_bind]
  simp only [if_true]
  rw [i9, hA, some_bind]
  cases hB : (decide (tK L tx b = 2) && (decide (1 ≤ tTo L tx b - tBl L tx b) && decide (tTo L tx b - tBl L tx b ≤ 12)) && allB tx H (tBl L tx b) (tTo L tx b)) with
  | true =>
    have hB2 : (tK L tx b = 2 ∧ 1 ≤ tTo L tx b - tBl L tx b ∧ tTo L tx b - tBl L tx b ≤ 12) ∧ allB tx H (tBl L tx b) (tTo L tx b) = true := by simpa using hB
    obtain ⟨⟨k2, k3, k4⟩, k5⟩ := hB2
    obtain ⟨t6, t7⟩ := t5 k2
    have hC := cTies (hh := hh) (ht := ht) (ct := ct) (de := de) (dc := dc) (dl := dl) (df := df) (dg := dg) hT t3 t2 t7 hH.2
    rw [if_pos ⟨k4, k5⟩] at hC
    have k6 := (allB_iff t3).mp k5
    have k0 : k = 0 := (nI_0iff (by omega)).mp (i11.symm.trans h3)
    subst k0
    have c0 := i2 rfl
    rw [if_neg (show ¬ b2i true = 0 by decide)]
    try rw [if_neg n10]
    rw [pk_sub t3, mTiesL hT t3 t2 t7 k4, mTkT hT t2, some_bind]
    refine ⟨_, rfl, Or.inr ⟨k2, _, hC, Or.inr ⟨rfl, rfl, rfl, rfl, rfl, H, tTo L tx b - tBl L tx b, 0, m, fun e => tx (tBl L tx b + e) - 48, c, bH, true, ?_, ?_, by decide, fun _ => c0, i3, ⟨i4, i5, rfl, rfl⟩, (fun z => by cases z), ?_, ?_, ?_, ?_, ?_, ?_⟩⟩⟩
    · exact ⟨hH, ⟨k3, k4⟩, ho.2.2.1, ho.2.2.2.1, fun e he => k6 _ (by omega) (by omega), ho.2.2.2.2.2⟩
    · exact ⟨rfl, rfl, l3, l4, fun e he => fa_fill_in (f := fun e => nI (tx (tBl L tx b + e) - 48)) (g := df) he, l6⟩
    · exact (show fill4 (fun e => nI (tx (tBl L tx b + e) - 48)) (upd d 1 (nI (tTo L tx b - tBl L tx b))) (tTo L tx b - tBl L tx b) 0 = upd d 1 (nI (tTo L tx b - tBl L tx b)) 0 from fill4_out (Or.inl (by decide))).trans ((pk_un (by decide)).trans i9)
    · exact (show fill4 (fun e => nI (tx (tBl L tx b + e) - 48)) (upd d 1 (nI (tTo L tx b - tBl L tx b))) (tTo L tx b - tBl L tx b) 1 = upd d 1 (nI (tTo L tx b - tBl L tx b)) 1 from fill4_out (Or.inl (by decide))).trans pk_us
    · exact (show fill4 (fun e => nI (tx (tBl L tx b + e) - 48)) (upd d 1 (nI (tTo L tx b - tBl L tx b))) (tTo L tx b - tBl L tx b) 2 = upd d 1 (nI (tTo L tx b - tBl L tx b)) 2 from fill4_out (Or.inl (by decide))).trans ((pk_un (by decide)).trans i11)
    · exact (show fill4 (fun e => nI (tx (tBl L tx b + e) - 48)) (upd d 1 (nI (tTo L tx b - tBl L tx b))) (tTo L tx b - tBl L tx b) 3 = upd d 1 (nI (tTo L tx b - tBl L tx b)) 3 from fill4_out (Or.inl (by decide))).trans ((pk_un (by decide)).trans i12)
    · exact fun e he => (show fill4 (fun e => nI (tx (tBl L tx b + e) - 48)) (upd d 1 (nI (tTo L tx b - tBl L tx b))) (tTo L tx b - tBl L tx b) (4 + e) = nI (tx (tBl L tx b + e) - 48) from fill4_in he)
    · exact fun i hi => (show fill4 (fun e => nI (tx (tBl L tx b + e) - 48)) (upd d 1 (nI (tTo L tx b - tBl L tx b))) (tTo L tx b - tBl L tx b) (16 + i) = upd d 1 (nI (tTo L tx b - tBl L tx b)) (16 + i) from fill4_out (Or.inr (by omega))).trans ((pk_un (by omega)).trans (i14 i hi))
  | false =>
    rw [if_pos b2i_f]
    try rw [if_pos trivial]
    rw [mTkF, some_bind]
    refine ⟨_, rfl, ?_⟩
    by_cases k2 : tK L tx b = 2
    · obtain ⟨t6, t7⟩ := t5 k2
      have hC := cTies (hh := hh) (ht := ht) (ct := ct) (de := de) (dc := dc) (dl := dl) (df := df) (dg := dg) hT t3 t2 t7 hH.2
      rw [if_neg (fun z => by
        rw [decide_eq_true k2, decide_eq_true (show 1 ≤ tTo L tx b - tBl L tx b by omega), decide_eq_true z.1, z.2] at hB
        cases hB)] at hC
      exact Or.inr ⟨k2, _, hC, Or.inl ⟨rfl, rfl⟩⟩
    · exact Or.inl ⟨k2, rfl⟩
theorem stTies0 {a : Nat} (ha : a < 2 ^ 10) (h : ¬ (ht' = 0 ∧ d 2 = 0)) (len z1 z2 : Int32) : ∃ M, fX7_readsTies len (nI a) z1 z2 (-9) ht' d text = some M ∧ M.2.2.2.1 = nI a := by
  rw [fX7_readsTies]
  simp only [jn, mTkF, some_bind, if_neg (ne9 (show a < 2 ^ 31 by omega)), mTk0 (show a < 2 ^ 20 by omega)]
  by_cases h2 : ht' = 0
  · rw [if_pos h2, if_neg (fun z => h ⟨h2, z⟩)]
    exact ⟨_, rfl, rfl⟩
  · rw [if_neg h2]
    exact ⟨_, rfl, rfl⟩
theorem idPut {H E k m : Nat} {t c : Nat → Nat} {bH bT : Bool} (ho : okV H E (n1 k) m t c) (hl : isL H E (n1 k) m t c dh de dc dl df dg) (hk : k < 8) (i4 : hh = b2i bH ∧ hh' = b2i bH ∧ ht = b2i bT ∧ ht' = b2i bT) (i8 : bT = false → E = 2 ∧ t 0 = 0) (i9 : d 0 = nI H) (i10 : d 1 = nI E) (i12 : d 3 = nI m) (i13 : ∀ e, e < E → d (4 + e) = nI (t e)) (i14 : ∀ i, i < n1 k → d (16 + i) = nI (c i)) {x : Nat} (hx : x < 2 ^ H) : ID hh ht (nI (k + 1)) dh de (nI (k + 1)) dl df (upd dg k (nI x)) hh' ht' (upd (upd d (16 + k) (nI x)) 2 (nI (k + 1))) := by
  have hn := n1_in (k := k) (by omega)
  have hE := ho.2.1
  have e1 : n1 (k + 1) = k + 1 := if_neg (by omega)
  refine ⟨H, E, k + 1, m, t, fun i => if i = k then x else c i, bH, bT, ?_, ?_, by omega, fun z => by omega, rfl, i4, i8, ?_, ?_, pk_us, ?_, ?_, ?_⟩
  · rw [e1]
    refine ⟨ho.1, ho.2.1, by omega, ho.2.2.2.1, ho.2.2.2.2.1, fun i hi => ?_⟩
    show (if i = k then x else c i) < _
    by_cases h : i = k
    · rw [if_pos h]
      exact hx
    · rw [if_neg h]
      exact ho.2.2.2.2.2 i (by omega)
  · rw [e1]
    refine ⟨hl.1, hl.2.1, rfl, hl.2.2.2.1, hl.2.2.2.2.1, fun i hi => ?_⟩
    show upd dg k (nI x) i = nI (if i = k then x else c i)
    by_cases h : i = k
    · subst h
      rw [if_pos rfl, pk_us]
    · rw [if_neg h, pk_un h]
      exact hl.2.2.2.2.2 i (by omega)
  · exact (pk_un (by decide)).trans ((pk_un (by omega)).trans i9)
  · exact (pk_un (by decide)).trans ((pk_un (by omega)).trans i10)
  · exact (pk_un (by decide)).trans ((pk_un (by omega)).trans i12)
  · exact fun e he => (pk_un (by omega)).trans ((pk_un (by omega)).trans (i13 e he))
  · intro i hi
    rw [pk_un (by omega)]
    show upd d (16 + k) (nI x) (16 + i) = nI (if i = k then x else c i)
    by_cases h : i = k
    · subst h
      rw [if_pos rfl, pk_us]
    · rw [if_neg h, pk_un (by omega)]
      exact i14 i (by omega)
theorem cPut {k : Nat} (hk : k < 8) (x : Int32) : fX5_takeHoles (nI k) dc dg x = some (nI (k + 1), nI (k + 1), upd dg k x) := by
  have e8 : (8 : Int32) = nI 8 := by decide
  rw [fX5_takeHoles, fX2_putBehind, if_neg (nI_pos (by omega)), e8, if_neg (nI_ge hk (by decide)), gd_t (ixt hk (by decide)), nI_clamp (by omega), some_bind, nI_1]
theorem shb {tx : Nat → Nat} {a j : Nat} (hj : j < 31) (h1 : 48 ≤ tx (a + j)) (h2 : tx (a + j) - 48 < 2) : nI (bo (fun h => decide (tx (a + h) = 49)) j) ||| (nI (tx (a + j) - 48) <<< (nI j &&& 31)) = nI (bo (fun h => decide (tx (a + h) = 49)) (j + 1)) := by
  rw [← bo_or _ hj]
  by_cases h : tx (a + j) = 49
  · rw [if_pos (by simpa using h), h]
    rfl
  · rw [if_neg (by simpa using h), show tx (a + j) - 48 = 0 by omega, sh0 j hj]
theorem cCardL (hT : okT L tx lets text) {a b H : Nat} (hab : a ≤ b) (hb : b ≤ L) (hF : Fg tx a b) (hH : b - a = H) (hH6 : H ≤ 6) (hB : allB tx 2 a b = true) (K : Int32 → Option (Int32 × Int32 × Int32 × (Nat → Int32))) : fX5_takesCard_L33 K (nI a) (nI L) lets (nI H) FU 0 0 = K (nI (bo (fun h => decide (tx (a + h) = 49)) H)) := by
  have hL := hT.1
  have h6 := (allB_iff hab).mp hB
  rw [← nI_0]
  refine lo2 (F := fX5_takesCard_L33 K (nI a) (nI L) lets (nI H)) (a := fun j => nI (bo (fun h => decide (tx (a + h) = 49)) j)) (b := nI) (E := H) ?_ ?_ H 0 FU (by omega) (fu_lt (by omega))
  · intro k j hj
    have h1 := hF.at (q := a + j) (by omega) (by omega)
    rw [fX5_takesCard_L33, if_neg (nI_ge hj (by omega)), nI_add, cFgAt hT (by omega) h1.1, some_bind, shb (by omega) h1.1 (h6 _ (by omega) (by omega)), nI_1]
  · intro k
    rw [fX5_takesCard_L33, if_pos (nI_le (Nat.le_refl _) (by omega))]
theorem mCardL (hT : okT L tx lets text) {a b H : Nat} (hab : a ≤ b) (hb : b ≤ L) (hF : Fg tx a b) (hH : b - a = H) (hH6 : H ≤ 6) (hB : allB tx 2 a b = true) (d0 : d 0 = nI H) (K : Int32 → Option (Int32 × Int32 × Int32 × Int32 × (Nat → Int32))) : fX7_readsCard_L63 K (nI L) (nI a) d text FU 0 0 = K (nI (bo (fun h => decide (tx (a + h) = 49)) H)) := by
  have hL := hT.1
  have h6 := (allB_iff hab).mp hB
  have e48 : (48 : Int32) = nI 48 := by decide
  rw [← nI_0]
  refine lo2 (F := fX7_readsCard_L63 K (nI L) (nI a) d text) (a := fun j => nI (bo (fun h => decide (tx (a + h) = 49)) j)) (b := nI) (E := H) ?_ ?_ H 0 FU (by omega) (fu_lt (by omega))
  · intro k j hj
    have h1 := hF.at (q := a + j) (by omega) (by omega)
    rw [fX7_readsCard_L63, d0, if_neg (nI_ge hj (by omega)), nI_add, mAt hT (by omega), some_bind, tAt_in (by omega), e48, pk_sub h1.1, shb (by omega) h1.1 (h6 _ (by omega) (by omega)), nI_1]
  · intro k
    rw [fX7_readsCard_L63, d0, if_pos (nI_le (Nat.le_refl _) (by omega))]
theorem cCard (hT : okT L tx lets text) {a b H k : Nat} (hab : a ≤ b) (hb : b ≤ L) (hF : Fg tx a b) (hH : H ≤ 6) (hk : k < 8) : fX5_takesFigures (nI a) (nI b) hh ht (nI k) (nI L) lets (nI H) de dc dl df dg (nI 6) = if b - a = H ∧ allB tx 2 a b = true then some (1, hh, ht, nI (k + 1), nI H, de, nI (k + 1), dl, df, upd dg k (nI (bo (fun h => decide (tx (a + h) = 49)) H))) else some (0, hh, ht, nI k, nI H, de, dc, dl, df, dg) := by
  have hL := hT.1
  have hA : fX5_areFiguresBelow (nI a) (nI b) (nI L) lets 2 = _ := cAre hT (q := 2) hab hb hF (by decide)
  rw [fX5_takesFigures, if_neg (show ¬ nI 6 = 4 by decide), if_neg (show ¬ nI 6 = 5 by decide), if_pos (show nI 6 = 6 by decide), fX5_takesCard, pk_sub hab, hA]
  by_cases h : b - a = H
  · rw [if_pos (by rw [h]), some_bind]
    cases hB : allB tx 2 a b with
    | true =>
      rw [if_neg (show ¬ b2i true = 0 by decide), cCardL hT hab hb hF h hH hB, cPut hk, if_pos ⟨h, rfl⟩]
      rfl
    | false =>
      rw [if_pos b2i_f, if_neg (fun z => by cases z.2)]
      rfl
  · rw [if_neg (fun z => h ((nI_eq (by omega) (by omega)).mp z)), if_neg (fun z => h z.1)]
    rfl
theorem stCard (hT : okT L tx lets text) (hI : ID hh ht ct dh de dc dl df dg hh' ht' d) {b : Nat} (hb : b ≤ L) (h3 : ¬ 8 ≤ d 2) (z1 z2 : Int32) : ∃ M, fX7_readsCard (nI L) z1 (nI b) z2 (-9) d text = some M ∧ stOK L tx lets b 6 hh ht ct dh de dc dl df dg M.1 M.2.1 M.2.2.1 M.2.2.2.1 hh' ht' M.2.2.2.2 := by
  obtain ⟨t1, t2, t3, t4, t5⟩ := tokF hT hb
  have hL := hT.1
  obtain ⟨H, E, k, m, t, c, bH, bT, ho, hl, i1, i2, rfl, i4, i8, i9, i10, i11, i12, i13, i14⟩ := hI
  obtain rfl : dh = nI H := hl.1
  have hH := ho.1
  have e16 : (16 : Int32) = nI 16 := by decide
  have hk8 : k < 8 := by
    rw [i11] at h3
    apply Classical.byContradiction
    intro z
    exact h3 (nI_le (a := 8) (by omega) (by omega))
  have hA : fX7_areFigures (nI L) (nI (tBl L tx b)) (nI (tTo L tx b)) (nI (mkk (tK L tx b))) text (nI H) (nI H) 2 = _ := mAre hT (lo := H) (hi := H) (q := 2) t3 t2 t4 (fun z => (t5 z).2) (by decide) (by omega) (by omega)
  rw [fX7_readsCard]
  simp only [jn]
  rw [if_neg h3, mTkT hT hb, some_bind]
  simp only [if_true]
  rw [i9, hA, some_bind]
  cases hB : (decide (tK L tx b = 2) && (decide (H ≤ tTo L tx b - tBl L tx b) && decide (tTo L tx b - tBl L tx b ≤ H)) && allB tx 2 (tBl L tx b) (tTo L tx b)) with
  | true =>
    have hB2 : (tK L tx b = 2 ∧ H ≤ tTo L tx b - tBl L tx b ∧ tTo L tx b - tBl L tx b ≤ H) ∧ allB tx 2 (tBl L tx b) (tTo L tx b) = true := by simpa using hB
    obtain ⟨⟨k2, k3, k4⟩, k5⟩ := hB2
    obtain ⟨t6, t7⟩ := t5 k2
    have hC := cCard (hh := hh) (ht := ht) (de := de) (dc := dc) (dl := dl) (df := df) (dg := dg) hT t3 t2 t7 hH.2 hk8
    rw [if_pos ⟨by omega, k5⟩] at hC
    rw [if_neg (show ¬ b2i true = 0 by decide)]
    try rw [if_neg n10]
    rw [mCardL hT t3 t2 t7 (by omega) hH.2 k5 i9, i11, e16, nI_add, gd_t (ixt (by omega) (by decide)), nI_clamp (by omega), pk_un (by omega), i11, nI_1, mTkT hT t2, some_bind]
    exact ⟨_, rfl, Or.inr ⟨k2, _, hC, Or.inr ⟨rfl, rfl, rfl, rfl, rfl, idPut ho hl hk8 i4 i8 i9 i10 i12 i13 i14 (bo_lt _ H)⟩⟩⟩
  | false =>
    rw [if_pos b2i_f]
    try rw [if_pos trivial]
    rw [mTkF, some_bind]
    refine ⟨_, rfl, ?_⟩
    by_cases k2 : tK L tx b = 2
    · obtain ⟨t6, t7⟩ := t5 k2
      have hC := cCard (hh := hh) (ht := ht) (de := de) (dc := dc) (dl := dl) (df := df) (dg := dg) hT t3 t2 t7 hH.2 hk8
      rw [if_neg (fun z => by
        rw [decide_eq_true k2, decide_eq_true (show H ≤ tTo L tx b - tBl L tx b by omega), decide_eq_true (show tTo L tx b - tBl L tx b ≤ H by omega), z.2] at hB
        cases hB)] at hC
      exact Or.inr ⟨k2, _, hC, Or.inl ⟨rfl, rfl⟩⟩
    · exact Or.inl ⟨k2, rfl⟩
theorem stCard0 {a : Nat} (ha : a < 2 ^ 10) (h : 8 ≤ d 2) (len z1 z2 : Int32) : ∃ M, fX7_readsCard len (nI a) z1 z2 (-9) d text = some M ∧ M.2.2.2.1 = nI a := by
  rw [fX7_readsCard]
  simp only [jn, mTkF, some_bind, if_neg (ne9 (show a < 2 ^ 31 by omega)), mTk0 (show a < 2 ^ 20 by omega)]
  rw [if_pos h]
  exact ⟨_, rfl, rfl⟩
theorem orf_up {u : Nat → Bool} {t : Nat → Nat} {j : Nat} (h : u j = true) (ht : t j < 31) : nI (orf u t j) ||| ((1 : Int32) <<< (nI (t j) &&& 31)) = nI (orf u t (j + 1)) := by
  rw [shl1 _ ht, fa_or, orf, if_pos h]
theorem orf_dn {u : Nat → Bool} {t : Nat → Nat} {j : Nat} (h : u j = false) : nI (orf u t j) ||| 0 = nI (orf u t (j + 1)) := by
  rw [or0, orf, if_neg (by rw [h]; decide), Nat.or_zero]
theorem cClothL (hT : okT L tx lets text) {a b H E n m : Nat} {t c : Nat → Nat} (ho : okV H E n m t c) (hl : isL H E n m t c dh de dc dl df dg) (hab : a ≤ b) (hb : b ≤ L) (hF : Fg tx a b) (hE : b - a = E) (hB : allB tx 2 a b = true) (K : Int32 → Int32 → Option (Int32 × Int32 × Int32 × (Nat → Int32))) : fX5_takesCloth_L35 K (nI a) (nI L) lets de df FU 0 0 0 = K (nI (orf (fun e => decide (tx (a + e) = 49)) t E)) (nI (orf (fun e => !decide (tx (a + e) = 49)) t E)) := by
  have hL := hT.1
  have h6 := (allB_iff hab).mp hB
  have hE12 := ho.2.1
  have hH6 := ho.1
  rw [← nI_0]
  refine lo3 (F := fX5_takesCloth_L35 K (nI a) (nI L) lets de df) (a := fun j => nI (orf (fun e => decide (tx (a + e) = 49)) t j)) (b := fun j => nI (orf (fun e => !decide (tx (a + e) = 49)) t j)) (c := nI) (E := E) ?_ ?_ E 0 FU (by omega) (fu_lt (by omega))
  · intro k j hj
    have h1 := hF.at (q := a + j) (by omega) (by omega)
    have h2 := h6 (a + j) (by omega) (by omega)
    have htj := ho.2.2.2.2.1 j hj
    rw [fX5_takesCloth_L35, cHook ho hl hj, hl.2.1, if_neg (nI_ge hj (by omega)), some_bind, nI_add, cFgAt hT (by omega) h1.1, some_bind, nI_1]
    simp only [jn]
    by_cases h : tx (a + j) = 49
    · rw [if_pos (show nI (tx (a + j) - 48) = 1 by rw [h]; rfl)]
      try rw [if_neg n10, if_neg n10]
      rw [orf_up (u := fun e => decide (tx (a + e) = 49)) (by simpa using h) (by omega), orf_dn (u := fun e => !decide (tx (a + e) = 49)) (by simpa using h)]
    · rw [if_neg (show ¬ nI (tx (a + j) - 48) = 1 by rw [show tx (a + j) - 48 = 0 by omega]; decide)]
      try rw [if_pos trivial, if_pos trivial]
      rw [orf_up (u := fun e => !decide (tx (a + e) = 49)) (by simpa using h) (by omega), orf_dn (u := fun e => decide (tx (a + e) = 49)) (by simpa using h)]
  · intro k
    rw [fX5_takesCloth_L35, hl.2.1, if_pos (nI_le (Nat.le_refl _) (by omega))]
theorem mClothL (hT : okT L tx lets text) {a b H E n m : Nat} {t c : Nat → Nat} (ho : okV H E n m t c) (d1 : d 1 = nI E) (dt : ∀ e, e < E → d (4 + e) = nI (t e)) (hab : a ≤ b) (hb : b ≤ L) (hF : Fg tx a b) (hE : b - a = E) (hB : allB tx 2 a b = true) (K : Int32 → Int32 → Option (Int32 × Int32 × Int32 × Int32 × (Nat → Int32))) : fX7_readsCloth_L62 K (nI L) (nI a) d text 1 FU 0 0 0 = K (nI (orf (fun e => decide (tx (a + e) = 49)) t E)) (nI (orf (fun e => !decide (tx (a + e) = 49)) t E)) := by
  have hL := hT.1
  have h6 := (allB_iff hab).mp hB
  have hE12 := ho.2.1
  have hH6 := ho.1
  rw [← nI_0]
  refine lo3 (F := fX7_readsCloth_L62 K (nI L) (nI a) d text 1) (a := fun j => nI (orf (fun e => decide (tx (a + e) = 49)) t j)) (b := fun j => nI (orf (fun e => !decide (tx (a + e) = 49)) t j)) (c := nI) (E := E) ?_ ?_ E 0 FU (by omega) (fu_lt (by omega))
  · intro k j hj
    have h1 := hF.at (q := a + j) (by omega) (by omega)
    have h2 := h6 (a + j) (by omega) (by omega)
    have htj := ho.2.2.2.2.1 j hj
    have e4 : (4 : Int32) = nI 4 := by decide
    rw [fX7_readsCloth_L62, d1, if_neg (nI_ge hj (by omega)), if_neg n10, nI_add, mAt hT (by omega), some_bind, e4, nI_add, gd_t (ixt (by omega) (by decide)), nI_clamp (by omega), dt j hj, tAt_in (by omega), nI_1]
    simp only [jn, some_bind]
    by_cases h : tx (a + j) = 49
    · rw [if_pos (show nI (tx (a + j)) = 49 by rw [h]; rfl), if_neg (show ¬ nI (tx (a + j)) = 48 by rw [h]; decide), orf_up (u := fun e => decide (tx (a + e) = 49)) (by simpa using h) (by omega), orf_dn (u := fun e => !decide (tx (a + e) = 49)) (by simpa using h)]
    · have h8 : tx (a + j) = 48 := by omega
      rw [if_neg (show ¬ nI (tx (a + j)) = 49 by rw [h8]; decide), if_pos (show nI (tx (a + j)) = 48 by rw [h8]; rfl), orf_up (u := fun e => !decide (tx (a + e) = 49)) (by simpa using h) (by omega), orf_dn (u := fun e => decide (tx (a + e) = 49)) (by simpa using h)]
  · intro k
    rw [fX7_readsCloth_L62, d1, if_pos (nI_le (Nat.le_refl _) (by omega))]
theorem mCloth0 {len fr : Int32} (K : Int32 → Int32 → Option (Int32 × Int32 × Int32 × Int32 × (Nat → Int32))) : fX7_readsCloth_L62 K len fr d text 0 FU 0 0 0 = K 0 0 := by
  show fX7_readsCloth_L62 K len fr d text 0 (2999 + 1) 0 0 0 = K 0 0
  rw [fX7_readsCloth_L62]
  split
  · rfl
  · rw [if_pos rfl]
theorem cCloth (hT : okT L tx lets text) {a b H E n m k : Nat} {t c : Nat → Nat} (ho : okV H E n m t c) (hl : isL H E n m t c dh de dc dl df dg) (hab : a ≤ b) (hb : b ≤ L) (hF : Fg tx a b) (hk : k < 8) : fX5_takesFigures (nI a) (nI b) hh ht (nI k) (nI L) lets dh de dc dl df dg (nI 7) = if (b - a = E ∧ allB tx 2 a b = true) ∧ orf (fun e => decide (tx (a + e) = 49)) t E &&& orf (fun e => !decide (tx (a + e) = 49)) t E = 0 then some (1, hh, ht, nI (k + 1), dh, de, nI (k + 1), dl, df, upd dg k (nI (orf (fun e => decide (tx (a + e) = 49)) t E))) else some (0, hh, ht, nI k, dh, de, dc, dl, df, dg) := by
  have hL := hT.1
  have hE12 := ho.2.1
  have hA : fX5_areFiguresBelow (nI a) (nI b) (nI L) lets 2 = _ := cAre hT (q := 2) hab hb hF (by decide)
  rw [fX5_takesFigures, if_neg (show ¬ nI 7 = 4 by decide), if_neg (show ¬ nI 7 = 5 by decide), if_neg (show ¬ nI 7 = 6 by decide), if_pos (show nI 7 = 7 by decide), fX5_takesCloth, pk_sub hab, hA]
  by_cases h : b - a = E
  · rw [if_pos (show nI (b - a) = de by rw [h, hl.2.1]), some_bind]
    cases hB : allB tx 2 a b with
    | true =>
      have hlt := orf_lt (u := fun e => decide (tx (a + e) = 49)) (t := t) (H := H) (j := E) ho.2.2.2.2.1
      have h64 : 2 ^ H ≤ 2 ^ 6 := Nat.pow_le_pow_right (by decide) ho.1.2
      have hand : orf (fun e => decide (tx (a + e) = 49)) t E &&& orf (fun e => !decide (tx (a + e) = 49)) t E < 2 ^ 31 := Nat.lt_of_le_of_lt Nat.and_le_left (by omega)
      rw [if_neg (show ¬ b2i true = 0 by decide), cClothL hT ho hl hab hb hF h hB, fa_and, cPut hk]
      by_cases hz : orf (fun e => decide (tx (a + e) = 49)) t E &&& orf (fun e => !decide (tx (a + e) = 49)) t E = 0
      · rw [if_pos (by rw [hz]; rfl), if_pos ⟨⟨h, rfl⟩, hz⟩]
        rfl
      · rw [if_neg (fun z => hz ((nI_0iff hand).mp z)), if_neg (fun z => hz z.2)]
        rfl
    | false =>
      rw [if_pos b2i_f, if_neg (fun z => by cases z.1.2)]
      rfl
  · rw [if_neg (fun z => h (by rw [hl.2.1] at z; exact (nI_eq (by omega) (by omega)).mp z)), if_neg (fun z => h z.1.1)]
    rfl
theorem stCloth (hT : okT L tx lets text) (hI : ID hh ht ct dh de dc dl df dg hh' ht' d) {b : Nat} (hb : b ≤ L) (h3 : ¬ 8 ≤ d 2) (z1 z2 : Int32) : ∃ M, fX7_readsCloth (nI L) z1 (nI b) z2 (-9) d text = some M ∧ stOK L tx lets b 7 hh ht ct dh de dc dl df dg M.1 M.2.1 M.2.2.1 M.2.2.2.1 hh' ht' M.2.2.2.2 := by
  obtain ⟨t1, t2, t3, t4, t5⟩ := tokF hT hb
  have hL := hT.1
  obtain ⟨H, E, k, m, t, c, bH, bT, ho, hl, i1, i2, rfl, i4, i8, i9, i10, i11, i12, i13, i14⟩ := hI
  have hE := ho.2.1
  have e16 : (16 : Int32) = nI 16 := by decide
  have hk8 : k < 8 := by
    rw [i11] at h3
    apply Classical.byContradiction
    intro z
    exact h3 (nI_le (a := 8) (by omega) (by omega))
  have hA : fX7_areFigures (nI L) (nI (tBl L tx b)) (nI (tTo L tx b)) (nI (mkk (tK L tx b))) text (nI E) (nI E) 2 = _ := mAre hT (lo := E) (hi := E) (q := 2) t3 t2 t4 (fun z => (t5 z).2) (by decide) (by omega) (by omega)
  have hlt := orf_lt (u := fun e => decide (tx (tBl L tx b + e) = 49)) (t := t) (H := H) (j := E) ho.2.2.2.2.1
  have h64 : 2 ^ H ≤ 2 ^ 6 := Nat.pow_le_pow_right (by decide) ho.1.2
  have hand : orf (fun e => decide (tx (tBl L tx b + e) = 49)) t E &&& orf (fun e => !decide (tx (tBl L tx b + e) = 49)) t E < 2 ^ 31 := Nat.lt_of_le_of_lt Nat.and_le_left (by omega)
  have bad' : ¬ ((tTo L tx b - tBl L tx b = E ∧ allB tx 2 (tBl L tx b) (tTo L tx b) = true) ∧ orf (fun e => decide (tx (tBl L tx b + e) = 49)) t E &&& orf (fun e => !decide (tx (tBl L tx b + e) = 49)) t E = 0) ∨ tK L tx b ≠ 2 → ∀ (fr to tk hq tq : Int32) (q : Nat → Int32), stOK L tx lets b 7 hh ht (nI k) dh de dc dl df dg fr to tk (nI (tBl L tx b)) hq tq q := by
    intro z fr to tk hq tq q
    by_cases k2 : tK L tx b = 2
    · obtain ⟨t6, t7⟩ := t5 k2
      have hC := cCloth (hh := hh) (ht := ht) hT ho hl t3 t2 t7 hk8
      rw [if_neg (z.resolve_right (fun y => y k2))] at hC
      exact Or.inr ⟨k2, _, hC, Or.inl ⟨rfl, rfl⟩⟩
    · exact Or.inl ⟨k2, rfl⟩
  rw [fX7_readsCloth]
  simp only [jn]
  rw [if_neg h3, mTkT hT hb, some_bind]
  simp only [if_true]
  rw [i10, hA, some_bind]
  cases hB : (decide (tK L tx b = 2) && (decide (E ≤ tTo L tx b - tBl L tx b) && decide (tTo L tx b - tBl L tx b ≤ E)) && allB tx 2 (tBl L tx b) (tTo L tx b)) with
  | true =>
    have hB2 : (tK L tx b = 2 ∧ E ≤ tTo L tx b - tBl L tx b ∧ tTo L tx b - tBl L tx b ≤ E) ∧ allB tx 2 (tBl L tx b) (tTo L tx b) = true := by simpa using hB
    obtain ⟨⟨k2, k3, k4⟩, k5⟩ := hB2
    obtain ⟨t6, t7⟩ := t5 k2
    rw [if_neg (show ¬ b2i true = 0 by decide), mClothL hT ho i10 i13 t3 t2 t7 (by omega) k5]
    try rw [if_neg n10]
    rw [fa_and]
    by_cases hz : orf (fun e => decide (tx (tBl L tx b + e) = 49)) t E &&& orf (fun e => !decide (tx (tBl L tx b + e) = 49)) t E = 0
    · have hC := cCloth (hh := hh) (ht := ht) hT ho hl t3 t2 t7 hk8
      rw [if_pos ⟨⟨by omega, k5⟩, hz⟩] at hC
      rw [if_pos (by rw [hz]; rfl)]
      try rw [if_neg n10]
      rw [i11, e16, nI_add, gd_t (ixt (by omega) (by decide)), nI_clamp (by omega), pk_un (by omega), i11, nI_1, mTkT hT t2, some_bind]
      exact ⟨_, rfl, Or.inr ⟨k2, _, hC, Or.inr ⟨rfl, rfl, rfl, rfl, rfl, idPut ho hl hk8 i4 i8 i9 i10 i12 i13 i14 hlt⟩⟩⟩
    · rw [if_neg (fun z => hz ((nI_0iff hand).mp z))]
      try rw [if_pos trivial]
      rw [mTkF, some_bind]
      exact ⟨_, rfl, bad' (Or.inl (fun z => hz z.2)) _ _ _ _ _ _⟩
  | false =>
    rw [if_pos b2i_f, mCloth0]
    try rw [if_pos trivial]
    try rw [if_pos trivial]
    rw [mTkF, some_bind]
    refine ⟨_, rfl, bad' ?_ _ _ _ _ _ _⟩
    by_cases k2 : tK L tx b = 2
    · refine Or.inl (fun z => ?_)
      rw [decide_eq_true k2, decide_eq_true (show E ≤ tTo L tx b - tBl L tx b by omega), decide_eq_true (show tTo L tx b - tBl L tx b ≤ E by omega), z.1.2] at hB
      cases hB
    · exact Or.inr k2
theorem stCloth0 {a : Nat} (ha : a < 2 ^ 10) (h : 8 ≤ d 2) (len z1 z2 : Int32) : ∃ M, fX7_readsCloth len (nI a) z1 z2 (-9) d text = some M ∧ M.2.2.2.1 = nI a := by
  rw [fX7_readsCloth]
  simp only [jn, mTkF, some_bind, if_neg (ne9 (show a < 2 ^ 31 by omega)), mTk0 (show a < 2 ^ 20 by omega)]
  rw [if_pos h, mCloth0]
  exact ⟨_, rfl, rfl⟩
end P88k

theorem ct_and {u v : Nat → Bool} : ∀ j, ct (fun q => u q && v q) j ≤ ct u j
  | 0 => Nat.le_refl _
  | j + 1 => by
    have h := ct_and (u := u) (v := v) j
    rw [ct, ct]
    show ct (fun q => u q && v q) j + (if (u j && v j) = true then 1 else 0) ≤ _
    cases u j <;> cases v j <;> simp <;> omega
theorem lN_0 {x : Nat} (hx : x < 2 ^ 64) : lN x = 0 ↔ x = 0 := by
  constructor
  · intro h
    have h2 : (lN x).toBitVec.toNat = (0 : Int64).toBitVec.toNat := by rw [h]
    rw [wb_tn hx] at h2
    exact h2
  · rintro rfl
    decide
def stp (W : Nat → Nat → Nat) (r e : Nat) (x : Int32 × Nat) : Int32 × Nat := if W r e < x.2 then (nI (12 * r + e), W r e) else x
def inn (W : Nat → Nat → Nat) (r : Nat) (x : Int32 × Nat) : Nat → Int32 × Nat
  | 0 => x
  | j + 1 => stp W r j (inn W r x j)
def oul (W : Nat → Nat → Nat) (E : Nat) (x : Int32 × Nat) : Nat → Int32 × Nat
  | 0 => x
  | j + 1 => inn W j (oul W E x j) E
theorem inn_le {W : Nat → Nat → Nat} {r : Nat} {x : Int32 × Nat} : ∀ j, (inn W r x j).2 ≤ x.2
  | 0 => Nat.le_refl _
  | j + 1 => by
    have h := inn_le (W := W) (r := r) (x := x) j
    rw [inn, stp]
    split
    · show W r j ≤ x.2
      omega
    · exact h
theorem oul_le {W : Nat → Nat → Nat} {E : Nat} {x : Int32 × Nat} : ∀ j, (oul W E x j).2 ≤ x.2
  | 0 => Nat.le_refl _
  | j + 1 => Nat.le_trans (inn_le (W := W) (r := j) (x := oul W E x j) E) (oul_le j)
theorem inn_eq {W : Nat → Nat → Nat} {r : Nat} {x y : Int32 × Nat} (hx : W r 0 < x.2) (hy : W r 0 < y.2) : ∀ j, inn W r x (j + 1) = inn W r y (j + 1)
  | 0 => by
    show stp W r 0 x = stp W r 0 y
    rw [stp, stp, if_pos hx, if_pos hy]
  | j + 1 => by
    show stp W r (j + 1) (inn W r x (j + 1)) = stp W r (j + 1) (inn W r y (j + 1))
    rw [inn_eq hx hy j]
theorem oul_eq {W : Nat → Nat → Nat} {E : Nat} (hE : 1 ≤ E) {x y : Int32 × Nat} (hx : W 0 0 < x.2) (hy : W 0 0 < y.2) : ∀ j, oul W E x (j + 1) = oul W E y (j + 1)
  | 0 => by
    obtain ⟨e, rfl⟩ : ∃ e, E = e + 1 := ⟨E - 1, by omega⟩
    show inn W 0 x (e + 1) = inn W 0 y (e + 1)
    exact inn_eq hx hy e
  | j + 1 => by
    show inn W (j + 1) (oul W E x (j + 1)) E = inn W (j + 1) (oul W E y (j + 1)) E
    rw [oul_eq hE hx hy j]
def wUp (H n : Nat) (t c : Nat → Nat) (u : Nat → Bool) (r e : Nat) : Nat := ct (fun q => u q && upb H n t c q r e) (H * n + 1)
def wv (H n : Nat) (t c : Nat → Nat) (u : Nat → Bool) (r e : Nat) : Nat := if wUp H n t c u r e < ct u (H * n + 1) - wUp H n t c u r e then ct u (H * n + 1) - wUp H n t c u r e else wUp H n t c u r e
theorem wUp_le {H n : Nat} {t c : Nat → Nat} {u : Nat → Bool} {r e : Nat} : wUp H n t c u r e ≤ ct u (H * n + 1) := ct_and _
theorem wv_le {H n : Nat} {t c : Nat → Nat} {u : Nat → Bool} {r e : Nat} : wv H n t c u r e ≤ ct u (H * n + 1) := by
  have h := wUp_le (H := H) (n := n) (t := t) (c := c) (u := u) (r := r) (e := e)
  unfold wv
  split <;> omega
section P88f
variable {H E n m : Nat} {t c : Nat → Nat} {hk en cd lm : Int32} {f g s : Nat → Int32} {N : Nat} {rw' en' : Nat → Nat} {up : Nat → Bool} {rows ends wasUp facts : Nat → Int32}
theorem cSay (ho : okV H E n m t c) (hl : isL H E n m t c hk en cd lm f g) {u : Nat → Bool} {r e : Nat} (hr : r < n) (he : e < E) : fX4_howManySayUp hk en cd f g (lN (bo u (H * n + 1))) (nI r) (nI e) = some (nI (wUp H n t c u r e)) := by
  have hH := ho.1
  have hn := ho.2.2.1
  have hHn : H * n ≤ 6 * 8 := Nat.mul_le_mul hH.2 hn.2
  have b1 := bo_lt u (H * n + 1)
  have p1 : 2 ^ (H * n + 1) ≤ 2 ^ 49 := Nat.pow_le_pow_right (by decide) (by omega)
  rw [fX4_howManySayUp, pl_0, ← nI_0]
  refine lo2 (F := fX4_howManySayUp_L6 _ _ _ _ _ _ _ _ _) (a := fun j => nI (ct (fun q => u q && upb H n t c q r e) j)) (b := pl) (E := H * n + 1) ?_ ?_ (H * n + 1) 0 FU (by omega) (fu_lt (by omega))
  · intro k j hj
    have p2 : 2 ^ j ≤ 2 ^ 49 := Nat.pow_le_pow_right (by decide) (by omega)
    have hand : bo u (H * n + 1) &&& 2 ^ j < 2 ^ 64 := Nat.lt_of_le_of_lt (Nat.and_le_left) (by omega)
    have hb : lg_cmp (lN (bo u (H * n + 1)) &&& lN (2 ^ j)) 0 = 0 ↔ u j = false := by
      rw [lcmp0, wb_and (by omega) (by omega), lN_0 hand, and2p, bo_bit, decide_eq_true hj, Bool.true_and]
    rw [fX4_howManySayUp_L6, fX2_places, some_bind, hl.1, hl.2.2.1, pk_mul, if_neg (pl_ge (by omega) (by omega)), ← hl.1, ← hl.2.2.1, bitOf_ok (by omega), some_bind, cUpBy ho hl (by omega) (by omega) he, pl_1, ct, ← b2iadd]
    show _ = fX4_howManySayUp_L6 _ _ _ _ _ _ _ _ _ k (nI (ct (fun q => u q && upb H n t c q r e) j) + b2i (u j && upb H n t c j r e)) (pl (j + 1))
    cases hu : u j with
    | false =>
      simp only [jn]
      rw [if_pos (hb.mpr hu)]
      rfl
    | true =>
      simp only [jn]
      rw [if_neg (fun z => by rw [hb.mp z] at hu; cases hu)]
      cases upb H n t c j r e <;> rfl
  · intro k
    rw [fX4_howManySayUp_L6, fX2_places, some_bind, hl.1, hl.2.2.1, pk_mul, if_pos (pl_end (by omega))]
    rfl
theorem mSay (ho : okV H E n m t c) (hs : isS H E n m t c s) (hN : N ≤ 8) (hF : okF N rw' en' up rows ends wasUp facts) {r e : Nat} (hr : r < n) (he : e < E) : fX7_upBy (nI N) s facts (nI r) (nI e) = some (nI (wUp H n t c (su H E n t c rw' en' up N) r e), s) := by
  have hH := ho.1
  have hn := ho.2.2.1
  have hE := ho.2.1
  have ht := ho.2.2.2.2.1 e he
  have hHn : H * n ≤ 6 * 8 := Nat.mul_le_mul hH.2 hn.2
  have hx : H * r ≤ 6 * 8 := Nat.mul_le_mul hH.2 (by omega)
  rw [fX7_upBy, pl_0, ← nI_0]
  refine lo2 (F := fun k x y => fX7_upBy_L5 _ (nI N) facts (nI r) (nI e) k x y s) (a := fun j => nI (ct (fun q => su H E n t c rw' en' up N q && upb H n t c q r e) j)) (b := pl) (E := H * n + 1) ?_ ?_ (H * n + 1) 0 FU (by omega) (fu_lt (by omega))
  · intro k j hj
    have e4 : (4 : Int32) = nI 4 := by decide
    show fX7_upBy_L5 _ (nI N) facts (nI r) (nI e) (k + 1) _ _ s = fX7_upBy_L5 _ (nI N) facts (nI r) (nI e) k _ _ s
    rw [fX7_upBy_L5, fX7_places, some_bind, hs.1, hs.2.2.1, pk_mul, if_neg (pl_ge (by omega) (by omega)), mSus ho hs hN hF hj]
    obtain ⟨z, z1, z2, hz⟩ : ∃ z : Int32 × (Nat → Int32), z.1 = b2i (su H E n t c rw' en' up N j) ∧ z.2 = s ∧ (b2i (su H E n t c rw' en' up N j), s) = z := ⟨_, rfl, rfl, rfl⟩
    rw [hz, some_bind, z1, z2, pl_1, ct, ← b2iadd]
    show _ = fX7_upBy_L5 _ (nI N) facts (nI r) (nI e) k (nI (ct (fun q => su H E n t c rw' en' up N q && upb H n t c q r e) j) + b2i (su H E n t c rw' en' up N j && upb H n t c j r e)) (pl (j + 1)) s
    simp only [jn]
    have hu : fX7_isUp s (nI r) (nI e) = some (b2i ((c r).testBit (t e))) := by rw [mUp ho hs (by omega) he, Nat.mod_eq_of_lt hr]
    have hup : upb H n t c j r e = ((c r).testBit (t e) != decide (j = H * r + t e + 1)) := by rw [upb, Nat.mod_eq_of_lt hr]
    rw [hu, some_bind, hup]
    cases su H E n t c rw' en' up N j with
    | false => rw [Bool.false_and, b2i_f, Int32.add_zero, if_pos rfl]
    | true =>
      rw [if_neg (show ¬ b2i true = 0 by decide)]
      cases j with
      | zero =>
        rw [if_pos (show pl 0 < 0 by decide), decide_eq_false (show ¬ 0 = H * r + t e + 1 by omega)]
        cases (c r).testBit (t e) <;> rfl
      | succ p =>
        have h0 : ¬ pl (p + 1) < 0 := pl_lt0 (by omega)
        rw [if_neg h0]
        rw [pl_s] at h0 ⊢
        have hm : p % H < H := Nat.mod_lt _ (by omega)
        have hd : p / H ≤ p := Nat.div_le_self _ _
        rw [hs.1, gd_t (nzt (by omega) (by omega)), gd_t (nzt (by omega) (by omega)), pk_rem (by omega) (by omega) (by omega), pk_div (by omega) (by omega) (by omega), e4, nI_add, gd_t (ixt (by omega) (by decide)), nI_clamp (by omega), hs.2.2.2.2.1 e he]
        by_cases h1 : p / H = r
        · rw [if_pos (by rw [h1])]
          by_cases h2 : p % H = t e
          · rw [if_pos (by rw [h2]), decide_eq_true (show p + 1 = H * r + t e + 1 by rw [← h1, ← h2, Nat.div_add_mod])]
            cases (c r).testBit (t e) <;> rfl
          · rw [if_neg (fun z => h2 ((nI_eq (by omega) (by omega)).mp z)), decide_eq_false (show ¬ p + 1 = H * r + t e + 1 by
              intro z
              apply h2
              rw [show p = H * r + t e by omega, Nat.mul_add_mod, Nat.mod_eq_of_lt ht])]
            cases (c r).testBit (t e) <;> rfl
        · rw [if_neg (fun z => h1 ((nI_eq (by omega) (by omega)).mp z)), decide_eq_false (show ¬ p + 1 = H * r + t e + 1 by
            intro z
            apply h1
            rw [show p = H * r + t e by omega, Nat.mul_add_div (by omega), Nat.div_eq_of_lt ht, Nat.add_zero])]
          cases (c r).testBit (t e) <;> rfl
  · intro k
    show fX7_upBy_L5 _ (nI N) facts (nI r) (nI e) (k + 1) _ _ s = _
    rw [fX7_upBy_L5, fX7_places, some_bind, hs.1, hs.2.2.1, pk_mul, if_pos (pl_end (by omega))]
    rfl
theorem lkMax {a b : Nat} (h : b ≤ a) (ha : a < 2 ^ 31) : (if nI b < nI a - nI b then nI a - nI b else nI b) = nI (if b < a - b then a - b else b) := by
  rw [pk_sub h, imax (by omega) (by omega)]
theorem cInn (ho : okV H E n m t c) (hl : isL H E n m t c hk en cd lm f g) {u : Nat → Bool} {r : Nat} (hr : r < n) {x : Int32 × Nat} (hx : x.2 < 2 ^ 30) (K : Int32 → Int32 → Option Int32) : fX4_whereToLook_L46 K hk en cd f g (lN (bo u (H * n + 1))) (nI (ct u (H * n + 1))) (nI r) FU x.1 (nI x.2) 0 = K (inn (wv H n t c u) r x E).1 (nI (inn (wv H n t c u) r x E).2) := by
  have hH := ho.1
  have hn := ho.2.2.1
  have hE := ho.2.1
  have hHn : H * n ≤ 6 * 8 := Nat.mul_le_mul hH.2 hn.2
  have hct := ct_le u (H * n + 1)
  rw [← nI_0]
  refine lo3 (F := fX4_whereToLook_L46 K hk en cd f g (lN (bo u (H * n + 1))) (nI (ct u (H * n + 1))) (nI r)) (a := fun j => (inn (wv H n t c u) r x j).1) (b := fun j => nI (inn (wv H n t c u) r x j).2) (c := nI) (E := E) ?_ ?_ E 0 FU (by omega) (fu_lt (by omega))
  · intro k j hj
    have hle := inn_le (W := wv H n t c u) (r := r) (x := x) j
    have hw := wUp_le (H := H) (n := n) (t := t) (c := c) (u := u) (r := r) (e := j)
    have hv := wv_le (H := H) (n := n) (t := t) (c := c) (u := u) (r := r) (e := j)
    have e12 : (12 : Int32) = nI 12 := by decide
    rw [fX4_whereToLook_L46, hl.2.1, if_neg (nI_ge hj (by omega)), ← hl.2.1, cSay ho hl hr hj, some_bind, lkMax hw (by omega)]
    simp only [jn]
    rw [show (if wUp H n t c u r j < ct u (H * n + 1) - wUp H n t c u r j then ct u (H * n + 1) - wUp H n t c u r j else wUp H n t c u r j) = wv H n t c u r j from rfl, nI_1, e12, pk_mul, nI_add, inn, stp]
    by_cases h : wv H n t c u r j < (inn (wv H n t c u) r x j).2
    · rw [if_neg (nI_ge h (by omega)), if_pos h]
    · rw [if_pos (nI_le (by omega) (by omega)), if_neg h]
  · intro k
    rw [fX4_whereToLook_L46, hl.2.1, if_pos (nI_le (Nat.le_refl _) (by omega))]
theorem mInn (ho : okV H E n m t c) (hs : isS H E n m t c s) (hN : N ≤ 8) (hF : okF N rw' en' up rows ends wasUp facts) {r : Nat} (hr : r < n) {x : Int32 × Nat} (hx : x.2 < 2 ^ 30) (K : Int32 → Int32 → (Nat → Int32) → Option (Int32 × Int32 × (Nat → Int32))) : fX7_look_L40 K (nI N) facts (nI (ct (su H E n t c rw' en' up N) (H * n + 1))) (nI r) FU x.1 (nI x.2) 0 s = K (inn (wv H n t c (su H E n t c rw' en' up N)) r x E).1 (nI (inn (wv H n t c (su H E n t c rw' en' up N)) r x E).2) s := by
  have hH := ho.1
  have hn := ho.2.2.1
  have hE := ho.2.1
  have hHn : H * n ≤ 6 * 8 := Nat.mul_le_mul hH.2 hn.2
  have hct := ct_le (su H E n t c rw' en' up N) (H * n + 1)
  rw [← nI_0]
  refine lo3 (F := fun k y1 y2 y3 => fX7_look_L40 K (nI N) facts (nI (ct (su H E n t c rw' en' up N) (H * n + 1))) (nI r) k y1 y2 y3 s) (a := fun j => (inn (wv H n t c (su H E n t c rw' en' up N)) r x j).1) (b := fun j => nI (inn (wv H n t c (su H E n t c rw' en' up N)) r x j).2) (c := nI) (E := E) ?_ ?_ E 0 FU (by omega) (fu_lt (by omega))
  · intro k j hj
    have hle := inn_le (W := wv H n t c (su H E n t c rw' en' up N)) (r := r) (x := x) j
    have hw := wUp_le (H := H) (n := n) (t := t) (c := c) (u := su H E n t c rw' en' up N) (r := r) (e := j)
    have hv := wv_le (H := H) (n := n) (t := t) (c := c) (u := su H E n t c rw' en' up N) (r := r) (e := j)
    have e12 : (12 : Int32) = nI 12 := by decide
    show fX7_look_L40 K (nI N) facts _ (nI r) (k + 1) _ _ _ s = fX7_look_L40 K (nI N) facts _ (nI r) k _ _ _ s
    rw [fX7_look_L40, hs.2.1, if_neg (nI_ge hj (by omega)), mSay ho hs hN hF hr hj, some_bind]
    simp only [jn]
    rw [pk_sub hw, nI_1, e12, pk_mul, nI_add, inn, stp]
    have key : ∀ {R : Type} (G : Int32 → R), (if nI (wUp H n t c (su H E n t c rw' en' up N) r j) ≤ nI (ct (su H E n t c rw' en' up N) (H * n + 1) - wUp H n t c (su H E n t c rw' en' up N) r j) then G (nI (ct (su H E n t c rw' en' up N) (H * n + 1) - wUp H n t c (su H E n t c rw' en' up N) r j)) else G (nI (wUp H n t c (su H E n t c rw' en' up N) r j))) = G (nI (wv H n t c (su H E n t c rw' en' up N) r j)) := by
      intro R G
      unfold wv
      by_cases h : wUp H n t c (su H E n t c rw' en' up N) r j < ct (su H E n t c rw' en' up N) (H * n + 1) - wUp H n t c (su H E n t c rw' en' up N) r j
      · rw [if_pos (nI_le (by omega) (by omega)), if_pos h]
      · rw [if_neg h]
        by_cases h2 : wUp H n t c (su H E n t c rw' en' up N) r j ≤ ct (su H E n t c rw' en' up N) (H * n + 1) - wUp H n t c (su H E n t c rw' en' up N) r j
        · rw [if_pos (nI_le h2 (by omega)), show ct (su H E n t c rw' en' up N) (H * n + 1) - wUp H n t c (su H E n t c rw' en' up N) r j = wUp H n t c (su H E n t c rw' en' up N) r j by omega]
        · rw [if_neg (nI_ge (by omega) (by omega))]
    refine (key (fun z => if nI (inn (wv H n t c (su H E n t c rw' en' up N)) r x j).2 ≤ z then (if nI (inn (wv H n t c (su H E n t c rw' en' up N)) r x j).2 ≤ z then fX7_look_L40 K (nI N) facts _ (nI r) k _ _ _ s else fX7_look_L40 K (nI N) facts _ (nI r) k _ z _ s) else (if nI (inn (wv H n t c (su H E n t c rw' en' up N)) r x j).2 ≤ z then fX7_look_L40 K (nI N) facts _ (nI r) k _ _ _ s else fX7_look_L40 K (nI N) facts _ (nI r) k _ z _ s))).trans ?_
    by_cases h : wv H n t c (su H E n t c rw' en' up N) r j < (inn (wv H n t c (su H E n t c rw' en' up N)) r x j).2
    · simp only [if_neg (nI_ge h (show _ < 2 ^ 31 by omega)), if_pos h]
    · have hq : (inn (wv H n t c (su H E n t c rw' en' up N)) r x j).2 ≤ wv H n t c (su H E n t c rw' en' up N) r j := by omega
      simp only [if_pos (nI_le hq (show _ < 2 ^ 31 by omega)), if_neg h]
  · intro k
    show fX7_look_L40 K (nI N) facts _ (nI r) (k + 1) _ _ _ s = _
    rw [fX7_look_L40, hs.2.1, if_pos (nI_le (Nat.le_refl _) (by omega))]
theorem cOut (ho : okV H E n m t c) (hl : isL H E n m t c hk en cd lm f g) {u : Nat → Bool} {x : Int32 × Nat} (hx : x.2 < 2 ^ 30) (K : Int32 → Option Int32) : fX4_whereToLook_L34 K hk en cd f g (lN (bo u (H * n + 1))) (nI (ct u (H * n + 1))) FU x.1 (nI x.2) 0 = K (oul (wv H n t c u) E x n).1 := by
  have hn := ho.2.2.1
  rw [← nI_0]
  refine lo3 (F := fX4_whereToLook_L34 K hk en cd f g (lN (bo u (H * n + 1))) (nI (ct u (H * n + 1)))) (a := fun j => (oul (wv H n t c u) E x j).1) (b := fun j => nI (oul (wv H n t c u) E x j).2) (c := nI) (E := n) ?_ ?_ n 0 FU (by omega) (fu_lt (by omega))
  · intro k j hj
    have hle := oul_le (W := wv H n t c u) (E := E) (x := x) j
    rw [fX4_whereToLook_L34, hl.2.2.1, if_neg (nI_ge hj (by omega)), ← hl.2.2.1, cInn ho hl hj (Nat.lt_of_le_of_lt hle hx), nI_1]
    rfl
  · intro k
    rw [fX4_whereToLook_L34, hl.2.2.1, if_pos (nI_le (Nat.le_refl _) (by omega))]
theorem mOut (ho : okV H E n m t c) (hs : isS H E n m t c s) (hN : N ≤ 8) (hF : okF N rw' en' up rows ends wasUp facts) (h1 : 1 < ct (su H E n t c rw' en' up N) (H * n + 1)) {x : Int32 × Nat} (hx : x.2 < 2 ^ 30) (K : Int32 → (Nat → Int32) → Option (Int32 × Int32 × (Nat → Int32))) : fX7_look_L21 K (nI N) facts (nI (ct (su H E n t c rw' en' up N) (H * n + 1))) FU x.1 (nI x.2) 0 s = K (oul (wv H n t c (su H E n t c rw' en' up N)) E x n).1 s := by
  have hH := ho.1
  have hn := ho.2.2.1
  have hHn : H * n ≤ 6 * 8 := Nat.mul_le_mul hH.2 hn.2
  have hct := ct_le (su H E n t c rw' en' up N) (H * n + 1)
  have e1 : (1 : Int32) = nI 1 := by decide
  rw [← nI_0]
  refine lo3 (F := fun k y1 y2 y3 => fX7_look_L21 K (nI N) facts (nI (ct (su H E n t c rw' en' up N) (H * n + 1))) k y1 y2 y3 s) (a := fun j => (oul (wv H n t c (su H E n t c rw' en' up N)) E x j).1) (b := fun j => nI (oul (wv H n t c (su H E n t c rw' en' up N)) E x j).2) (c := nI) (E := n) ?_ ?_ n 0 FU (by omega) (fu_lt (by omega))
  · intro k j hj
    have hle := oul_le (W := wv H n t c (su H E n t c rw' en' up N)) (E := E) (x := x) j
    show fX7_look_L21 K (nI N) facts _ (k + 1) _ _ _ s = fX7_look_L21 K (nI N) facts _ k _ _ _ s
    rw [fX7_look_L21, hs.2.2.1, if_neg (nI_ge hj (by omega)), if_neg (show ¬ nI (ct (su H E n t c rw' en' up N) (H * n + 1)) ≤ 1 by rw [e1]; exact nI_ge h1 (by omega)), mInn ho hs hN hF hj (Nat.lt_of_le_of_lt hle hx), nI_1]
    rfl
  · intro k
    show fX7_look_L21 K (nI N) facts _ (k + 1) _ _ _ s = _
    rw [fX7_look_L21, hs.2.2.1, if_pos (nI_le (Nat.le_refl _) (by omega))]
theorem op_look {thr seen many : Int32} (hl : ILm hk en cd lm f g s) (hf : IFa seen rows ends wasUp many facts) : ∃ a, fX6_look hk en cd f g seen rows ends wasUp = some a ∧ fX7_look thr many s facts = some (a, 0, s) := by
  obtain ⟨H, E, n, m, t, c, ho, hL, hS⟩ := id hl
  obtain ⟨N, rw', en', up, hN, rfl, rfl, hF⟩ := id hf
  have hF : okF N rw' en' up rows ends wasUp facts := hF
  have hH := ho.1
  have hn := ho.2.2.1
  have hE := ho.2.1
  have hHn : H * n ≤ 6 * 8 := Nat.mul_le_mul hH.2 hn.2
  have hct := ct_le (su H E n t c rw' en' up N) (H * n + 1)
  have e1 : (1 : Int32) = nI 1 := by decide
  have e1000 : (1000 : Int32) = nI 1000 := by decide
  have hsus : fX7_suspects 0 (nI N) s facts 0 = some (nI (ct (su H E n t c rw' en' up N) (H * n + 1)), 0, s) := by
    rw [fX7_suspects, mSusp ho hS hN hF]
    rfl
  rw [fX6_look, fX4_whereToLook, cBits ho hL hN hF, some_bind, cCount (by omega), some_bind, fX7_look, hsus, some_bind]
  by_cases h1 : 1 < ct (su H E n t c rw' en' up N) (H * n + 1)
  · have e9 : ∀ z : Nat, ((-9 : Int32), z).1 = -9 := fun _ => rfl
    rw [if_pos (show (1 : Int32) < nI (ct (su H E n t c rw' en' up N) (H * n + 1)) by rw [e1]; exact nI_lt h1 (by omega)), nI_1]
    have c1 := cOut (u := su H E n t c rw' en' up N) ho hL (x := ((-9 : Int32), ct (su H E n t c rw' en' up N) (H * n + 1) + 1)) (by show ct (su H E n t c rw' en' up N) (H * n + 1) + 1 < 2 ^ 30; omega) (fun v => some v)
    have m1 := mOut ho hS hN hF h1 (x := ((-9 : Int32), 1000)) (by show 1000 < 2 ^ 30; decide) (fun v z => some (v, (0 : Int32), z))
    refine ⟨_, (congrArg (fun z => z.bind (fun u => some u)) c1).trans rfl, m1.trans ?_⟩
    obtain ⟨j, rfl⟩ : ∃ j, n = j + 1 := ⟨n - 1, by omega⟩
    have hw := wv_le (H := H) (n := j + 1) (t := t) (c := c) (u := su H E (j + 1) t c rw' en' up N) (r := 0) (e := 0)
    rw [oul_eq (x := ((-9 : Int32), 1000)) (y := ((-9 : Int32), ct (su H E (j + 1) t c rw' en' up N) (H * (j + 1) + 1) + 1)) hE.1 (by show _ < 1000; omega) (by show _ < ct (su H E (j + 1) t c rw' en' up N) (H * (j + 1) + 1) + 1; omega) j]
  · rw [if_neg (show ¬ (1 : Int32) < nI (ct (su H E n t c rw' en' up N) (H * n + 1)) by rw [e1]; exact nI_nlt (by omega) (by decide))]
    refine ⟨_, rfl, ?_⟩
    show fX7_look_L21 _ (nI N) facts (nI (ct (su H E n t c rw' en' up N) (H * n + 1))) (2999 + 1) (-9) 1000 0 s = _
    rw [fX7_look_L21, hS.2.2.1, if_neg (by rw [← nI_0]; exact nI_ge (by omega) (by omega)), if_pos (show nI (ct (su H E n t c rw' en' up N) (H * n + 1)) ≤ 1 by rw [e1]; exact nI_le (by omega) (by decide))]
end P88f

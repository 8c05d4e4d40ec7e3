abbrev RC : Type := Int32 × Int32 × Int32 × Int32 × Int32 × Int32 × Int32 × Int32 × Int32 × Int32 × Int32 × (Nat → Int32) × (Nat → Int32)
abbrev KC : Type := Int32 → Int32 → Int32 → Int32 → Int32 → Int32 → Int32 → Int32 → Int32 → Int32 → (Nat → Int32) → (Nat → Int32) → Option RC
abbrev RM : Type := Int32 × Int32 × Int32 × Int32 × Int32 × Int32 × Int32 × (Nat → Int32)
abbrev KM : Type := Int32 → Int32 → Int32 → Int32 → Int32 → Int32 → Int32 → (Nat → Int32) → Option RM
def rdOK (k23 : Int32 → KC) (k32 : KC) (k152 : KM) (x : Option RC) (y : Option RM) : Prop :=
  (∃ p, p < 2 ^ 10 ∧ (∃ kd to hh ht ct dh de dc dl df dg, x = k32 kd (nI p) to hh ht ct dh de dc dl df dg) ∧ ∃ v fr to tk hh ht d, y = k152 v fr to tk (nI p) hh ht d) ∨
  (∃ q kd fr to hh ht ct dh de dc dl df dg fr' to' tk' hh' ht' d, q < 2 ^ 10 ∧ x = k23 (nI q) kd fr to hh ht ct dh de dc dl df dg ∧ y = k152 (nI q) fr' to' tk' (-9) hh' ht' d ∧ ID hh ht ct dh de dc dl df dg hh' ht' d)
def mTail (k152 : KM) (L : Nat) (text : Nat → Int32) (n : Nat) (v fr to tk fl hh ht : Int32) (d : Nat → Int32) : Option RM := if tk = 7 then (fX7_takes (nI L) fr to tk fl text 1).bind (fun u3 => fX7_reads_L34 k152 (nI L) text n (v + 1) u3.1 u3.2.1 u3.2.2.1 u3.2.2.2 hh ht d) else (fX7_takes (nI L) fr to tk fl text 0).bind (fun u3 => fX7_reads_L34 k152 (nI L) text n (v + 1) u3.1 u3.2.1 u3.2.2.1 u3.2.2.2 hh ht d)
def cTail (k46 : KC) (k23 : Int32 → KC) (k32 : KC) (L : Nat) (lets : Nat → Int32) (n : Nat) (v : Int32) (u3 : RC) : Option RC := if u3.1 = 0 then k32 u3.2.1 u3.2.2.1 u3.2.2.2.1 u3.2.2.2.2.1 u3.2.2.2.2.2.1 u3.2.2.2.2.2.2.1 u3.2.2.2.2.2.2.2.1 u3.2.2.2.2.2.2.2.2.1 u3.2.2.2.2.2.2.2.2.2.1 u3.2.2.2.2.2.2.2.2.2.2.1 u3.2.2.2.2.2.2.2.2.2.2.2.1 u3.2.2.2.2.2.2.2.2.2.2.2.2 else fX5_read_L6 k46 k23 k32 (nI L) lets n (v + 1) u3.2.1 u3.2.2.1 u3.2.2.2.1 u3.2.2.2.2.1 u3.2.2.2.2.2.1 u3.2.2.2.2.2.2.1 u3.2.2.2.2.2.2.2.1 u3.2.2.2.2.2.2.2.2.1 u3.2.2.2.2.2.2.2.2.2.1 u3.2.2.2.2.2.2.2.2.2.2.1 u3.2.2.2.2.2.2.2.2.2.2.2.1 u3.2.2.2.2.2.2.2.2.2.2.2.2
section P88l
variable {L : Nat} {tx : Nat → Nat} {lets text : Nat → Int32} {hh ht ct dh de dc dl : Int32} {df dg : Nat → Int32} {hh' ht' : Int32} {d : Nat → Int32}
theorem tail0 (k152 : KM) {n p : Nat} (hp : p < 2 ^ 20) (v fr to tk : Int32) : mTail k152 L text (n + 1) v fr to tk (nI p) hh' ht' d = k152 (v + 1) fr to tk (nI p) hh' ht' d := by
  unfold mTail
  rw [mTk0 hp, mTk0 hp, some_bind, ite_self]
  rw [fX7_reads_L34, if_neg (ne9 (by omega))]
theorem tail1 (hT : okT L tx lets text) (k152 : KM) {n b : Nat} (hb : b ≤ L) (hk : tK L tx b = 1) (v : Int32) : mTail k152 L text n v (nI (tBl L tx b)) (nI (tTo L tx b)) (nI (mkk (tK L tx b))) (-9) hh' ht' d = fX7_reads_L34 k152 (nI L) text n (v + 1) (nI (tBl L tx (tTo L tx b))) (nI (tTo L tx (tTo L tx b))) (nI (mkk (tK L tx (tTo L tx b)))) (-9) hh' ht' d := by
  have t2 := (tokF hT hb).2.1
  unfold mTail
  rw [if_pos ((mkk7 _ (tokF hT hb).2.2.2.1).mpr hk), mTkT hT t2, some_bind]
theorem tail2 (hT : okT L tx lets text) (k152 : KM) {n b : Nat} (hb : b ≤ L) (hk : ¬ tK L tx b = 1) (v : Int32) : mTail k152 L text (n + 1) v (nI (tBl L tx b)) (nI (tTo L tx b)) (nI (mkk (tK L tx b))) (-9) hh' ht' d = k152 (v + 1) (nI (tBl L tx b)) (nI (tTo L tx b)) (nI (mkk (tK L tx b))) (nI (tBl L tx b)) hh' ht' d := by
  have t := tokF hT hb
  unfold mTail
  rw [if_neg (fun z => hk ((mkk7 _ t.2.2.2.1).mp z)), mTkF, some_bind]
  show fX7_reads_L34 k152 (nI L) text (n + 1) (v + 1) (nI (tBl L tx b)) (nI (tTo L tx b)) (nI (mkk (tK L tx b))) (nI (tBl L tx b)) hh' ht' d = _
  rw [fX7_reads_L34, if_neg (ne9 (by omega))]
theorem body (hT : okT L tx lets text) (k46 : KC) (k23 : Int32 → KC) (k32 : KC) (k152 : KM) {b q w n1 n2 : Nat} (hb : b ≤ L) (fr0 : Int32) (hc : fX5_canStartItem hh ht ct (nI w) = some 1) {fr to tk fl : Int32} (hst : stOK L tx lets b w hh ht ct dh de dc dl df dg fr to tk fl hh' ht' d) (hih : ∀ (T' : Nat) (kd fr hh ht ct dh de dc dl : Int32) (df dg : Nat → Int32) (hh' ht' : Int32) (d : Nat → Int32), T' ≤ L → b < T' → ID hh ht ct dh de dc dl df dg hh' ht' d → rdOK k23 k32 k152 (fX5_read_L6 k46 k23 k32 (nI L) lets n1 (nI q + 1) kd fr (nI T') hh ht ct dh de dc dl df dg) (fX7_reads_L34 k152 (nI L) text (n2 + 1) (nI q + 1) (nI (tBl L tx T')) (nI (tTo L tx T')) (nI (mkk (tK L tx T'))) (-9) hh' ht' d)) :
    rdOK k23 k32 k152 ((fX5_readsItem (nI w) fr0 (nI b) hh ht ct (nI L) lets dh de dc dl df dg).bind (cTail k46 k23 k32 L lets n1 (nI q))) (mTail k152 L text (n2 + 1) (nI q) fr to tk fl hh' ht' d) := by
  obtain ⟨t1, t2, t3, t4, t5⟩ := tokF hT hb
  have tb := (tok_in (tx := tx) hb).1
  rw [fX5_readsItem, hc, some_bind, if_neg n10, cNext hT hb, some_bind]
  rcases hst with ⟨k2, rfl⟩ | ⟨k2, C, hC, ⟨c1, rfl⟩ | ⟨c1, rfl, rfl, rfl, rfl, hI⟩⟩
  · simp only []
    rw [if_neg (show ¬ nI (tK L tx b) = 2 from fun z => k2 ((nI_eq (by omega) (by decide)).mp (show nI (tK L tx b) = nI 2 from z))), some_bind, tail0 k152 (by omega)]
    exact Or.inl ⟨_, t1, ⟨_, _, _, _, _, _, _, _, _, _, _, if_pos rfl⟩, ⟨_, _, _, _, _, _, _, rfl⟩⟩
  · simp only []
    rw [if_pos (show nI (tK L tx b) = 2 by rw [k2]; rfl), hC, some_bind, if_pos c1, some_bind, tail0 k152 (by omega)]
    exact Or.inl ⟨_, t1, ⟨_, _, _, _, _, _, _, _, _, _, _, if_pos rfl⟩, ⟨_, _, _, _, _, _, _, rfl⟩⟩
  · obtain ⟨s1, s2, s3, s4, s5⟩ := tokF hT t2
    have tb2 := tok_in (tx := tx) t2
    have t6 := (t5 k2).1
    simp only []
    rw [if_pos (show nI (tK L tx b) = 2 by rw [k2]; rfl), hC, some_bind, if_neg (show ¬ C.1 = 0 by rw [c1]; exact n10), cNext hT t2, some_bind]
    simp only []
    by_cases hk : tK L tx (tTo L tx b) = 1
    · rw [if_pos (show nI (tK L tx (tTo L tx b)) = 1 by rw [hk]; rfl), some_bind, tail1 hT k152 t2 hk]
      have h7 := tb2.2.2.2.2.1 (by omega)
      exact hih _ _ _ _ _ _ _ _ _ _ _ _ _ _ _ s2 (by omega) hI
    · rw [if_neg (show ¬ nI (tK L tx (tTo L tx b)) = 1 from fun z => hk ((nI_eq (by omega) (by decide)).mp (show nI (tK L tx (tTo L tx b)) = nI 1 from z))), some_bind, tail2 hT k152 t2 hk]
      exact Or.inl ⟨_, s1, ⟨_, _, _, _, _, _, _, _, _, _, _, if_pos rfl⟩, ⟨_, _, _, _, _, _, _, rfl⟩⟩
theorem body0 (k46 : KC) (k23 : Int32 → KC) (k32 : KC) (k152 : KM) {q w n1 n2 a : Nat} (ha : a < 2 ^ 10) (to0 : Int32) (hc : fX5_canStartItem hh ht ct (nI w) = some 0) {fr to tk fl : Int32} (hf : fl = nI a) : rdOK k23 k32 k152 ((fX5_readsItem (nI w) (nI a) to0 hh ht ct (nI L) lets dh de dc dl df dg).bind (cTail k46 k23 k32 L lets n1 (nI q))) (mTail k152 L text (n2 + 1) (nI q) fr to tk fl hh' ht' d) := by
  subst hf
  rw [fX5_readsItem, hc, some_bind, if_pos rfl, some_bind, tail0 k152 (by omega)]
  exact Or.inl ⟨_, ha, ⟨_, _, _, _, _, _, _, _, _, _, _, if_pos rfl⟩, ⟨_, _, _, _, _, _, _, rfl⟩⟩
theorem rd_loop (hT : okT L tx lets text) (k46 : KC) (k23 : Int32 → KC) (k32 : KC) (k152 : KM) : ∀ (D T q n1 n2 : Nat) (kd fr hh ht ct dh de dc dl : Int32) (df dg : Nat → Int32) (hh' ht' : Int32) (d : Nat → Int32), T ≤ L → L - T ≤ D → 2 * q ≤ T → D + 1 < n1 → D + 1 < n2 → ID hh ht ct dh de dc dl df dg hh' ht' d → rdOK k23 k32 k152 (fX5_read_L6 k46 k23 k32 (nI L) lets n1 (nI q) kd fr (nI T) hh ht ct dh de dc dl df dg) (fX7_reads_L34 k152 (nI L) text n2 (nI q) (nI (tBl L tx T)) (nI (tTo L tx T)) (nI (mkk (tK L tx T))) (-9) hh' ht' d) := by
  intro D
  induction D using Nat.strongRecOn with
  | ind D ih =>
    intro T q n1 n2 kd fr hh ht ct dh de dc dl df dg hh' ht' d hTL hD hq hn1 hn2 hI
    have hL := hT.1
    obtain ⟨n1, rfl⟩ : ∃ k, n1 = k + 1 := ⟨n1 - 1, by omega⟩
    obtain ⟨n2, rfl⟩ : ∃ k, n2 = k + 1 + 1 := ⟨n2 - 2, by omega⟩
    obtain ⟨t1, t2, t3, t4, t5⟩ := tokF hT hTL
    obtain ⟨u1, u2, u3, u4, u5, u6⟩ := tok_in (tx := tx) hTL
    have e120 : (120 : Int32) = nI 120 := by decide
    rw [fX5_read_L6, e120, if_neg (nI_ge (by omega) (by decide)), cNext hT hTL, some_bind, fX7_reads_L34, if_pos rfl]
    simp only []
    by_cases h0 : tK L tx T = 0
    · rw [if_pos (show nI (tK L tx T) = 0 by rw [h0]; rfl), if_pos ((mkk0 _ t4).mpr h0)]
      exact Or.inr ⟨_, _, _, _, _, _, _, _, _, _, _, _, _, _, _, _, _, _, _, by omega, rfl, rfl, hI⟩
    · rw [if_neg (fun z => h0 ((nI_0iff (by omega)).mp z)), if_neg (fun z => h0 ((mkk0 _ t4).mp z))]
      have u7 := u5 h0
      have hih : ∀ (T' : Nat) (kd fr hh ht ct dh de dc dl : Int32) (df dg : Nat → Int32) (hh' ht' : Int32) (d : Nat → Int32), T' ≤ L → tTo L tx T < T' → ID hh ht ct dh de dc dl df dg hh' ht' d → rdOK k23 k32 k152 (fX5_read_L6 k46 k23 k32 (nI L) lets n1 (nI q + 1) kd fr (nI T') hh ht ct dh de dc dl df dg) (fX7_reads_L34 k152 (nI L) text (n2 + 1) (nI q + 1) (nI (tBl L tx T')) (nI (tTo L tx T')) (nI (mkk (tK L tx T'))) (-9) hh' ht' d) := by
        intro T' kd fr hh ht ct dh de dc dl df dg hh' ht' d a1 a2 a3
        rw [nI_1]
        exact ih (L - T') (by omega) T' (q + 1) n1 (n2 + 1) kd fr hh ht ct dh de dc dl df dg hh' ht' d a1 (Nat.le_refl _) (by omega) (by omega) (by omega) a3
      obtain ⟨H, E, k, m, t, c, bH, bT, ho, hl, i1, i2, i3, ⟨i4, i5, i6, i7⟩, i8, i9, i10, i11, i12, i13, i14⟩ := id hI
      have kk : tK L tx T = 1 ∨ tK L tx T = 2 ∨ tK L tx T = 3 ∨ tK L tx T = 4 ∨ tK L tx T = 5 ∨ tK L tx T = 6 ∨ tK L tx T = 7 ∨ tK L tx T = 8 := by omega
      have ch : ct = d 2 := i3.trans i11.symm
      have hhe : hh = hh' := i4.trans i5.symm
      have hte : ht = ht' := i6.trans i7.symm
      rcases kk with kk | kk | kk | kk | kk | kk | kk | kk
      · rw [kk]
        show rdOK k23 k32 k152 ((fX5_readsItem (nI 1) _ _ _ _ _ _ _ _ _ _ _ _ _).bind (cTail k46 k23 k32 L lets n1 (nI q))) ((fX7_takes (nI L) (nI (tBl L tx T)) (nI (tTo L tx T)) (nI (mkk 1)) (-9) text 0).bind (fun u9 => mTail k152 L text (n2 + 1) (nI q) u9.1 u9.2.1 u9.2.2.1 u9.2.2.2 hh' ht' d))
        rw [mTkF, some_bind]
        exact body0 k46 k23 k32 k152 t1 _ rfl rfl
      · rw [kk]
        show rdOK k23 k32 k152 ((fX5_readsItem (nI 2) _ _ _ _ _ _ _ _ _ _ _ _ _).bind (cTail k46 k23 k32 L lets n1 (nI q))) ((fX7_takes (nI L) (nI (tBl L tx T)) (nI (tTo L tx T)) (nI (mkk 2)) (-9) text 0).bind (fun u9 => mTail k152 L text (n2 + 1) (nI q) u9.1 u9.2.1 u9.2.2.1 u9.2.2.2 hh' ht' d))
        rw [mTkF, some_bind]
        exact body0 k46 k23 k32 k152 t1 _ rfl rfl
      · rw [kk]
        show rdOK k23 k32 k152 ((fX5_readsItem (nI 3) _ _ _ _ _ _ _ _ _ _ _ _ _).bind (cTail k46 k23 k32 L lets n1 (nI q))) ((fX7_takes (nI L) (nI (tBl L tx T)) (nI (tTo L tx T)) (nI (mkk 3)) (-9) text 0).bind (fun u9 => mTail k152 L text (n2 + 1) (nI q) u9.1 u9.2.1 u9.2.2.1 u9.2.2.2 hh' ht' d))
        rw [mTkF, some_bind]
        exact body0 k46 k23 k32 k152 t1 _ rfl rfl
      · rw [kk]
        show rdOK k23 k32 k152 ((fX5_readsItem (nI 4) _ _ _ _ _ _ _ _ _ _ _ _ _).bind (cTail k46 k23 k32 L lets n1 (nI q))) ((fX7_readsHooks (nI L) (nI (tBl L tx T)) (nI (tTo L tx T)) (nI (mkk 4)) (-9) hh' ht' d text).bind (fun u4 => mTail k152 L text (n2 + 1) (nI q) u4.1 u4.2.1 u4.2.2.1 u4.2.2.2.1 u4.2.2.2.2.1 ht' u4.2.2.2.2.2))
        have hcs : fX5_canStartItem hh ht ct (nI 4) = if hh' = 0 then if ht' = 0 then if d 2 = 0 then some 1 else some 0 else some 0 else some 0 := by
          rw [hhe, hte, ch, fX5_canStartItem, if_pos (show nI 4 = 4 by decide)]
        by_cases hc : hh' = 0 ∧ ht' = 0 ∧ d 2 = 0
        · obtain ⟨M, hM, hst⟩ := stHooks hT hI t2 hc.1 hc.2.1 hc.2.2 (nI (tBl L tx T)) (nI (mkk 4))
          rw [hM, some_bind]
          exact body hT k46 k23 k32 k152 t2 _ (by rw [hcs, if_pos hc.1, if_pos hc.2.1, if_pos hc.2.2]) hst hih
        · obtain ⟨M, hM, hst⟩ := stHooks0 (b := tTo L tx T) hT t1 hc (nI (mkk 4))
          rw [hM, some_bind]
          refine body0 k46 k23 k32 k152 t1 _ ?_ hst
          rw [hcs]
          by_cases c1 : hh' = 0
          · rw [if_pos c1]
            by_cases c2 : ht' = 0
            · rw [if_pos c2, if_neg (fun z => hc ⟨c1, c2, z⟩)]
            · rw [if_neg c2]
          · rw [if_neg c1]
      · rw [kk]
        show rdOK k23 k32 k152 ((fX5_readsItem (nI 5) _ _ _ _ _ _ _ _ _ _ _ _ _).bind (cTail k46 k23 k32 L lets n1 (nI q))) ((fX7_readsTies (nI L) (nI (tBl L tx T)) (nI (tTo L tx T)) (nI (mkk 5)) (-9) ht' d text).bind (fun u5 => mTail k152 L text (n2 + 1) (nI q) u5.1 u5.2.1 u5.2.2.1 u5.2.2.2.1 hh' u5.2.2.2.2.1 u5.2.2.2.2.2))
        have hcs : fX5_canStartItem hh ht ct (nI 5) = if ht' = 0 then if d 2 = 0 then some 1 else some 0 else some 0 := by
          rw [hte, ch, fX5_canStartItem, if_neg (show ¬ nI 5 = 4 by decide), if_pos (show nI 5 = 5 by decide)]
        by_cases hc : ht' = 0 ∧ d 2 = 0
        · obtain ⟨M, hM, hst⟩ := stTies hT hI t2 hc.1 hc.2 (nI (tBl L tx T)) (nI (mkk 5))
          rw [hM, some_bind]
          exact body hT k46 k23 k32 k152 t2 _ (by rw [hcs, if_pos hc.1, if_pos hc.2]) hst hih
        · obtain ⟨M, hM, hst⟩ := stTies0 (text := text) t1 hc (nI L) (nI (tTo L tx T)) (nI (mkk 5))
          rw [hM, some_bind]
          refine body0 k46 k23 k32 k152 t1 _ ?_ hst
          rw [hcs]
          by_cases c2 : ht' = 0
          · rw [if_pos c2, if_neg (fun z => hc ⟨c2, z⟩)]
          · rw [if_neg c2]
      · rw [kk]
        show rdOK k23 k32 k152 ((fX5_readsItem (nI 6) _ _ _ _ _ _ _ _ _ _ _ _ _).bind (cTail k46 k23 k32 L lets n1 (nI q))) ((fX7_readsCard (nI L) (nI (tBl L tx T)) (nI (tTo L tx T)) (nI (mkk 6)) (-9) d text).bind (fun u6 => mTail k152 L text (n2 + 1) (nI q) u6.1 u6.2.1 u6.2.2.1 u6.2.2.2.1 hh' ht' u6.2.2.2.2))
        have hcs : fX5_canStartItem hh ht ct (nI 6) = if 8 ≤ d 2 then some 0 else some 1 := by
          rw [ch, fX5_canStartItem, if_neg (show ¬ nI 6 = 4 by decide), if_neg (show ¬ nI 6 = 5 by decide), if_pos (show nI 6 = 6 by decide)]
        by_cases hc : 8 ≤ d 2
        · obtain ⟨M, hM, hst⟩ := stCard0 (text := text) t1 hc (nI L) (nI (tTo L tx T)) (nI (mkk 6))
          rw [hM, some_bind]
          exact body0 k46 k23 k32 k152 t1 _ (by rw [hcs, if_pos hc]) hst
        · obtain ⟨M, hM, hst⟩ := stCard hT hI t2 hc (nI (tBl L tx T)) (nI (mkk 6))
          rw [hM, some_bind]
          exact body hT k46 k23 k32 k152 t2 _ (by rw [hcs, if_neg hc]) hst hih
      · rw [kk]
        show rdOK k23 k32 k152 ((fX5_readsItem (nI 7) _ _ _ _ _ _ _ _ _ _ _ _ _).bind (cTail k46 k23 k32 L lets n1 (nI q))) ((fX7_readsCloth (nI L) (nI (tBl L tx T)) (nI (tTo L tx T)) (nI (mkk 7)) (-9) d text).bind (fun u6 => mTail k152 L text (n2 + 1) (nI q) u6.1 u6.2.1 u6.2.2.1 u6.2.2.2.1 hh' ht' u6.2.2.2.2))
        have hcs : fX5_canStartItem hh ht ct (nI 7) = if 8 ≤ d 2 then some 0 else some 1 := by
          rw [ch, fX5_canStartItem, if_neg (show ¬ nI 7 = 4 by decide), if_neg (show ¬ nI 7 = 5 by decide), if_neg (show ¬ nI 7 = 6 by decide), if_pos (show nI 7 = 7 by decide)]
        by_cases hc : 8 ≤ d 2
        · obtain ⟨M, hM, hst⟩ := stCloth0 (text := text) t1 hc (nI L) (nI (tTo L tx T)) (nI (mkk 7))
          rw [hM, some_bind]
          exact body0 k46 k23 k32 k152 t1 _ (by rw [hcs, if_pos hc]) hst
        · obtain ⟨M, hM, hst⟩ := stCloth hT hI t2 hc (nI (tBl L tx T)) (nI (mkk 7))
          rw [hM, some_bind]
          exact body hT k46 k23 k32 k152 t2 _ (by rw [hcs, if_neg hc]) hst hih
      · rw [kk]
        show rdOK k23 k32 k152 ((fX5_readsItem (nI 8) _ _ _ _ _ _ _ _ _ _ _ _ _).bind (cTail k46 k23 k32 L lets n1 (nI q))) ((fX7_readsLimit (nI L) (nI (tBl L tx T)) (nI (tTo L tx T)) (nI (mkk 8)) (-9) d text).bind (fun u6 => mTail k152 L text (n2 + 1) (nI q) u6.1 u6.2.1 u6.2.2.1 u6.2.2.2.1 hh' ht' u6.2.2.2.2))
        obtain ⟨M, hM, hst⟩ := stLimit hT hI t2 (nI (tBl L tx T)) (nI (mkk 8))
        rw [hM, some_bind]
        exact body hT k46 k23 k32 k152 t2 _ rfl hst hih
theorem mPlain : ∃ d2, fX7_plain d = some d2 ∧ d2 0 = 2 ∧ d2 1 = 2 ∧ d2 2 = 0 ∧ d2 3 = 12 ∧ d2 4 = 0 ∧ d2 5 = 1 ∧ d2 16 = 0 := by
  have e24 : (24 : Int32) = nI 24 := by decide
  have key : ∀ K : (Nat → Int32) → Option (Nat → Int32), fX7_plain_L2 K FU 0 d = K (fa_fill (fun _ => 0) d 24) := by
    intro K
    have key := lo2 (F := fX7_plain_L2 K) (a := nI) (b := fa_fill (fun _ => 0) d) (E := 24) (r := K (fa_fill (fun _ => 0) d 24)) ?_ ?_ 24 0 FU (by omega) (fu_lt (by omega))
    · rw [fa_fill_0] at key
      rw [← nI_0]
      exact key
    · intro k j hj
      have hs : upd (fa_fill (fun _ => 0) d j) j 0 = fa_fill (fun _ => 0) d (j + 1) := fa_fill_succ (fun _ => 0) d j
      rw [fX7_plain_L2, e24, if_neg (nI_ge hj (by decide)), gd_t (ixt hj (by decide)), nI_clamp (by omega), nI_1, hs]
    · intro k
      rw [fX7_plain_L2, e24, if_pos (nI_le (Nat.le_refl _) (by decide))]
  rw [fX7_plain, key]
  exact ⟨_, rfl, rfl, rfl, rfl, rfl, rfl, rfl, rfl⟩
theorem cStart (z1 z2 z3 z4 : Int32) : ∃ f2 g2, fX5_startAnew z1 z2 z3 z4 dh de dc dl df dg = some (0, 0, 0, 0, 2, 2, 1, 12, f2, g2) ∧ f2 0 = 0 ∧ f2 1 = 1 ∧ g2 0 = 0 := ⟨_, _, rfl, rfl, rfl, rfl⟩
theorem id0 {f2 g2 d2 : Nat → Int32} (h1 : f2 0 = 0) (h2 : f2 1 = 1) (h3 : g2 0 = 0) (h4 : d2 0 = 2 ∧ d2 1 = 2 ∧ d2 2 = 0 ∧ d2 3 = 12 ∧ d2 4 = 0 ∧ d2 5 = 1 ∧ d2 16 = 0) : ID 0 0 0 2 2 1 12 f2 g2 0 0 d2 := by
  obtain ⟨q0, q1, q2, q3, q4, q5, q16⟩ := h4
  refine ⟨2, 2, 0, 12, fun e => e, fun _ => 0, false, false, ⟨by decide, by decide, by decide, by decide, fun e he => he, fun _ _ => (by decide : 0 < 2 ^ 2)⟩, ⟨rfl, rfl, rfl, rfl, ?_, ?_⟩, by decide, fun _ => rfl, rfl, ⟨rfl, rfl, rfl, rfl⟩, fun _ => ⟨rfl, rfl⟩, q0, q1, q2, q3, ?_, ?_⟩
  · intro e he
    rcases e with _ | _ | e
    · exact h1
    · exact h2
    · omega
  · intro i hi
    have : i = 0 := by
      have : n1 0 = 1 := rfl
      omega
    subst this
    exact h3
  · intro e he
    rcases e with _ | _ | e
    · exact q4
    · exact q5
    · omega
  · intro i hi
    have : i = 0 := by
      have : n1 0 = 1 := rfl
      omega
    subst this
    exact q16
theorem ID.done (h : ID hh ht ct dh de dc dl df dg hh' ht' d) : ∃ v : Int32, (if d 2 = 0 then d 2 + 1 else d 2 + 0) = v ∧ ILm dh de dc dl df dg (upd d 2 v) := by
  obtain ⟨H, E, k, m, t, c, bH, bT, ho, hl, i1, i2, i3, i4, i8, i9, i10, i11, i12, i13, i14⟩ := h
  have hE := ho.2.1
  have hn := n1_in i1
  have fin : ILm dh de dc dl df dg (upd d 2 (nI (n1 k))) := by
    refine ⟨H, E, n1 k, m, t, c, ho, hl, ?_, ?_, pk_us, ?_, ?_, ?_⟩
    · exact (pk_un (by decide)).trans i9
    · exact (pk_un (by decide)).trans i10
    · exact (pk_un (by decide)).trans i12
    · exact fun e he => (pk_un (by omega)).trans (i13 e he)
    · exact fun i hi => (pk_un (by omega)).trans (i14 i hi)
  refine ⟨nI (n1 k), ?_, fin⟩
  rw [i11]
  by_cases hk : k = 0
  · subst hk
    rw [if_pos nI_0]
    rfl
  · rw [if_neg (fun z => hk ((nI_0iff (by omega)).mp z)), ← nI_0, nI_add, n1, if_neg hk, Nat.add_zero]
end P88l

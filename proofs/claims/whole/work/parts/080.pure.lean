def b2i (b : Bool) : Int32 := if b then 1 else 0
theorem b2i_t : b2i true = 1 := rfl
theorem b2i_f : b2i false = 0 := rfl
theorem b2i_0 {b : Bool} : b2i b = 0 ↔ b = false := by cases b <;> decide
theorem b2i_1 {b : Bool} : b2i b = 1 ↔ b = true := by cases b <;> decide
theorem b2i_inj {a b : Bool} : b2i a = b2i b ↔ a = b := by cases a <;> cases b <;> decide
theorem b2i_tf (b : Bool) : tf (b2i b) = true := by cases b <;> decide
theorem ixt {n N : Nat} (h : n < N) (hN : N < 2 ^ 31) : ix (nI n) N = true := by
  have h2 : ¬ (nI n < 0 ∨ N ≤ (nI n).toNatClampNeg) := vp_in_nI h hN
  exact decide_eq_true h2
theorem gd_t {α : Type} {b : Bool} {a : Option α} (h : b = true) : gd b a = a := by subst h; rfl
theorem nzt {n : Nat} (h0 : 0 < n) (h : n < 2 ^ 31) : (!decide (nI n = 0)) = true := by simp [nI_ne0 h0 h]
theorem some_bind {α β : Type} (a : α) (f : α → Option β) : (some a).bind f = f a := rfl
theorem lo1 {A R : Type} {F : Nat → A → R} {a : Nat → A} {E : Nat} {r : R} (hs : ∀ n j, j < E → F (n + 1) (a j) = F n (a (j + 1))) (he : ∀ n, F (n + 1) (a E) = r) : ∀ d i n, i + d = E → d < n → F n (a i) = r := by
  intro d
  induction d with
  | zero =>
    intro i n h1 h2
    obtain ⟨n, rfl⟩ : ∃ k, n = k + 1 := ⟨n - 1, by omega⟩
    obtain rfl : i = E := by omega
    exact he n
  | succ d ih =>
    intro i n h1 h2
    obtain ⟨n, rfl⟩ : ∃ k, n = k + 1 := ⟨n - 1, by omega⟩
    rw [hs n i (by omega)]
    exact ih (i + 1) n (by omega) (by omega)
theorem lo2 {A B R : Type} {F : Nat → A → B → R} {a : Nat → A} {b : Nat → B} {E : Nat} {r : R} (hs : ∀ n j, j < E → F (n + 1) (a j) (b j) = F n (a (j + 1)) (b (j + 1))) (he : ∀ n, F (n + 1) (a E) (b E) = r) : ∀ d i n, i + d = E → d < n → F n (a i) (b i) = r :=
  lo1 (F := fun n (x : A × B) => F n x.1 x.2) (a := fun j => (a j, b j)) hs he
theorem lo3 {A B C R : Type} {F : Nat → A → B → C → R} {a : Nat → A} {b : Nat → B} {c : Nat → C} {E : Nat} {r : R} (hs : ∀ n j, j < E → F (n + 1) (a j) (b j) (c j) = F n (a (j + 1)) (b (j + 1)) (c (j + 1))) (he : ∀ n, F (n + 1) (a E) (b E) (c E) = r) : ∀ d i n, i + d = E → d < n → F n (a i) (b i) (c i) = r :=
  lo1 (F := fun n (x : A × B × C) => F n x.1 x.2.1 x.2.2) (a := fun j => (a j, b j, c j)) hs he
theorem lo4 {A B C D R : Type} {F : Nat → A → B → C → D → R} {a : Nat → A} {b : Nat → B} {c : Nat → C} {d' : Nat → D} {E : Nat} {r : R} (hs : ∀ n j, j < E → F (n + 1) (a j) (b j) (c j) (d' j) = F n (a (j + 1)) (b (j + 1)) (c (j + 1)) (d' (j + 1))) (he : ∀ n, F (n + 1) (a E) (b E) (c E) (d' E) = r) : ∀ d i n, i + d = E → d < n → F n (a i) (b i) (c i) (d' i) = r :=
  lo1 (F := fun n (x : A × B × C × D) => F n x.1 x.2.1 x.2.2.1 x.2.2.2) (a := fun j => (a j, b j, c j, d' j)) hs he
/-- the same, where what is left may end early -/
theorem lv1 {A R : Type} {F : Nat → A → R} {a : Nat → A} {E : Nat} {v : Nat → R} (hs : ∀ n j, j < E → F n (a (j + 1)) = v (j + 1) → F (n + 1) (a j) = v j) (he : ∀ n, F (n + 1) (a E) = v E) : ∀ d i n, i + d = E → d < n → F n (a i) = v i := by
  intro d
  induction d with
  | zero =>
    intro i n h1 h2
    obtain ⟨n, rfl⟩ : ∃ k, n = k + 1 := ⟨n - 1, by omega⟩
    obtain rfl : i = E := by omega
    exact he n
  | succ d ih =>
    intro i n h1 h2
    obtain ⟨n, rfl⟩ : ∃ k, n = k + 1 := ⟨n - 1, by omega⟩
    exact hs n i (by omega) (ih (i + 1) n (by omega) (by omega))
theorem fu_lt {d : Nat} (h : d < 2000) : d < FU := Nat.lt_trans h (by decide)
def okV (H E n m : Nat) (t c : Nat → Nat) : Prop := (1 ≤ H ∧ H ≤ 6) ∧ (1 ≤ E ∧ E ≤ 12) ∧ (1 ≤ n ∧ n ≤ 8) ∧ (1 ≤ m ∧ m ≤ 12) ∧ (∀ e, e < E → t e < H) ∧ ∀ i, i < n → c i < 2 ^ H
def isL (H E n m : Nat) (t c : Nat → Nat) (hk en cd lm : Int32) (f g : Nat → Int32) : Prop := hk = nI H ∧ en = nI E ∧ cd = nI n ∧ lm = nI m ∧ (∀ e, e < E → f e = nI (t e)) ∧ ∀ i, i < n → g i = nI (c i)
def isS (H E n m : Nat) (t c : Nat → Nat) (s : Nat → Int32) : Prop := s 0 = nI H ∧ s 1 = nI E ∧ s 2 = nI n ∧ s 3 = nI m ∧ (∀ e, e < E → s (4 + e) = nI (t e)) ∧ ∀ i, i < n → s (16 + i) = nI (c i)
theorem bitv : ∀ x, x < 64 → ∀ k, k < 6 → ((nI x >>> (nI k &&& 31)) &&& 1) = b2i (x.testBit k) := by decide +kernel
theorem okV.c64 {H E n m : Nat} {t c : Nat → Nat} (ho : okV H E n m t c) {i : Nat} (hi : i < n) : c i < 64 :=
  Nat.lt_of_lt_of_le (ho.2.2.2.2.2 i hi) (Nat.pow_le_pow_right (by decide) ho.1.2)
def bo (u : Nat → Bool) : Nat → Nat
  | 0 => 0
  | j + 1 => bo u j + (if u j then 2 ^ j else 0)
theorem bo_lt (u : Nat → Bool) : ∀ j, bo u j < 2 ^ j
  | 0 => by simp [bo]
  | j + 1 => by
    have h := bo_lt u j
    rw [bo, Nat.pow_succ]
    split <;> omega
theorem bo_cong {u v : Nat → Bool} : ∀ {j : Nat}, (∀ k, k < j → u k = v k) → bo u j = bo v j
  | 0, _ => rfl
  | j + 1, h => by rw [bo, bo, bo_cong (fun k hk => h k (by omega)), h j (by omega)]
theorem shl1 : ∀ j, j < 31 → (1 : Int32) <<< (nI j &&& 31) = nI (2 ^ j) := by decide +kernel
theorem bo_or (u : Nat → Bool) {j : Nat} (hj : j < 31) : nI (bo u j) ||| (if u j then (1 : Int32) <<< (nI j &&& 31) else 0) = nI (bo u (j + 1)) := by
  rw [bo]
  cases u j with
  | false =>
    have e : (0 : Int32) = nI 0 := by decide
    rw [if_neg (by decide), if_neg (by decide), e, fa_or, Nat.or_zero, Nat.add_zero]
  | true =>
    rw [if_pos rfl, if_pos rfl, shl1 j hj, fa_or]
    have h := bo_lt u j
    rw [Nat.or_comm, Nat.add_comm, show 2 ^ j = 2 ^ j * 1 by omega, ← Nat.two_pow_add_eq_or_of_lt h]
section P80
variable {H E n m : Nat} {t c : Nat → Nat} {hk en cd lm : Int32} {f g s : Nat → Int32}
theorem cUp (ho : okV H E n m t c) (hl : isL H E n m t c hk en cd lm f g) {i e : Nat} (hi : i < n) (he : e < E) : fX2_isUp en cd f g (nI i) (nI e) = some (b2i ((c i).testBit (t e))) := by
  have h64 := ho.c64 hi
  obtain ⟨⟨h1, h2⟩, ⟨e1, e2⟩, ⟨n1, n2⟩, -, ht, -⟩ := ho
  obtain ⟨rfl, rfl, rfl, rfl, hf, hg⟩ := hl
  have h6 := ht e he
  rw [fX2_isUp, if_neg (nI_pos (by omega)), if_neg (nI_ge hi (by omega)), if_neg (nI_pos (by omega)), if_pos (nI_lt he (by omega)), gd_t (ixt (by omega) (by decide)), gd_t (ixt (by omega) (by decide)), nI_clamp (by omega), nI_clamp (by omega), hg i hi, hf e he, bitv _ h64 _ (by omega)]
  cases (c i).testBit (t e) <;> rfl
theorem mUp (ho : okV H E n m t c) (hs : isS H E n m t c s) {r e : Nat} (hr : r < 2 ^ 30) (he : e < E) : fX7_isUp s (nI r) (nI e) = some (b2i ((c (r % n)).testBit (t e))) := by
  have hi : r % n < n := Nat.mod_lt _ (by have := ho.2.2.1.1; omega)
  have h64 := ho.c64 hi
  obtain ⟨⟨h1, h2⟩, ⟨e1, e2⟩, ⟨n1, n2⟩, -, ht, -⟩ := ho
  obtain ⟨-, -, q2, -, qt, qc⟩ := hs
  have h6 := ht e he
  have e16 : (16 : Int32) = nI 16 := by decide
  have e4 : (4 : Int32) = nI 4 := by decide
  rw [fX7_isUp, q2, gd_t (nzt (by omega) (by omega)), pk_rem (by omega) (by omega) (by omega), e16, e4, nI_add, nI_add, gd_t (ixt (by omega) (by decide)), gd_t (ixt (by omega) (by decide)), nI_clamp (by omega), nI_clamp (by omega), qc _ hi, qt e he, bitv _ h64 _ (by omega)]
  cases (c (r % n)).testBit (t e) <;> rfl
end P80

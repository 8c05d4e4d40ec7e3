theorem and256 {a b c d : Nat} (hb : b < 256) (hd : d < 256) : (256 * a + b) &&& (256 * c + d) = 256 * (a &&& c) + (b &&& d) := by
  have h1 := Nat.div_add_mod ((256 * a + b) &&& (256 * c + d)) (2 ^ 8)
  rw [Nat.and_div_two_pow, Nat.and_mod_two_pow] at h1
  have e1 : (256 * a + b) / 2 ^ 8 = a := by omega
  have e2 : (256 * c + d) / 2 ^ 8 = c := by omega
  have e3 : (256 * a + b) % 2 ^ 8 = b := by omega
  have e4 : (256 * c + d) % 2 ^ 8 = d := by omega
  rw [e1, e2, e3, e4] at h1
  exact h1.symm
def mk (d : Nat) : Nat → Nat
  | 0 => 0
  | k + 1 => 256 * mk d k + d
def s1 (k x : Nat) : Nat := x - ((x / 2) &&& mk 85 k)
def s2 (k x : Nat) : Nat := (x &&& mk 51 k) + ((x / 4) &&& mk 51 k)
def s3 (k x : Nat) : Nat := (x + x / 16) &&& mk 15 k
theorem fin1 : ∀ b, b < 256 → ∀ e, e < 2 → (128 * e + b / 2) &&& 85 = (b / 2) &&& 85 := by decide +kernel
theorem fin2 : ∀ b, b < 256 → ∀ e, e < 4 → (64 * e + b / 4) &&& 51 = (b / 4) &&& 51 := by decide +kernel
theorem fin3 : ∀ b, b < 69 → ∀ e, e < 5 → (b + (16 * e + b / 16)) &&& 15 = (b + b / 16) &&& 15 := by decide +kernel
def y8 (b : Nat) : Nat := b - ((b / 2) &&& 85)
def z8 (b : Nat) : Nat := (y8 b &&& 51) + ((y8 b / 4) &&& 51)
def p8 (b : Nat) : Nat := ct (fun k => b.testBit k) 8
theorem fin4 : ∀ b, b < 256 → y8 b < 256 ∧ z8 b < 69 ∧ z8 b % 16 < 5 ∧ (z8 b + z8 b / 16) &&& 15 = p8 b := by decide +kernel
theorem p8_le (b : Nat) : p8 b ≤ 8 := ct_le _ 8
theorem s1_step {k a b : Nat} (hb : b < 256) : s1 (k + 1) (256 * a + b) = 256 * s1 k a + y8 b := by
  unfold s1 y8
  have h1 : (256 * a + b) / 2 = 256 * (a / 2) + (128 * (a % 2) + b / 2) := by omega
  have h2 : (a / 2) &&& mk 85 k ≤ a / 2 := Nat.and_le_left
  have h3 : (b / 2) &&& 85 ≤ b / 2 := Nat.and_le_left
  rw [h1, mk, and256 (by omega) (by decide), fin1 b hb _ (by omega)]
  omega
theorem s2_step {k a b : Nat} (hb : b < 256) : s2 (k + 1) (256 * a + b) = 256 * s2 k a + ((b &&& 51) + ((b / 4) &&& 51)) := by
  unfold s2
  have h1 : (256 * a + b) / 4 = 256 * (a / 4) + (64 * (a % 4) + b / 4) := by omega
  rw [h1, mk, and256 (by omega) (by decide), and256 (by omega) (by decide), fin2 b hb _ (by omega)]
  omega
theorem s3_step {k a b : Nat} (hb : b < 69) (ha : a % 16 < 5) : s3 (k + 1) (256 * a + b) = 256 * s3 k a + ((b + b / 16) &&& 15) := by
  unfold s3
  have h1 : 256 * a + b + (256 * a + b) / 16 = 256 * (a + a / 16) + (b + (16 * (a % 16) + b / 16)) := by omega
  rw [h1, mk, and256 (by omega) (by decide), fin3 b hb _ ha]
def PB : Nat → Nat → Nat
  | 0, _ => 0
  | k + 1, x => 256 * PB k (x / 256) + p8 (x % 256)
def SB : Nat → Nat → Nat
  | 0, _ => 0
  | k + 1, x => SB k (x / 256) + p8 (x % 256)
theorem pcb : ∀ k x, x < 256 ^ k → s3 k (s2 k (s1 k x)) = PB k x ∧ s2 k (s1 k x) % 16 < 5
  | 0, x, h => by
    have h0 : x = 0 := by simpa using h
    subst h0
    exact ⟨by decide, by decide⟩
  | k + 1, x, h => by
    have hx : x = 256 * (x / 256) + x % 256 := (Nat.div_add_mod x 256).symm
    have hb : x % 256 < 256 := Nat.mod_lt _ (by decide)
    have hd : x / 256 < 256 ^ k := by
      rw [Nat.pow_succ] at h
      exact Nat.div_lt_of_lt_mul (by omega)
    obtain ⟨i1, i2⟩ := pcb k (x / 256) hd
    obtain ⟨f1, f2, f3, f4⟩ := fin4 (x % 256) hb
    have e2 : s2 (k + 1) (s1 (k + 1) x) = 256 * s2 k (s1 k (x / 256)) + z8 (x % 256) := by
      rw [hx, s1_step hb, s2_step f1, ← hx]
      rfl
    rw [e2]
    refine ⟨?_, by omega⟩
    rw [s3_step f2 i2, i1, f4]
    rfl
theorem p8_mod (x : Nat) : p8 (x % 256) = ct (fun k => x.testBit k) 8 := by
  refine ct_cong (fun k hk => ?_)
  show (x % 2 ^ 8).testBit k = x.testBit k
  rw [Nat.testBit_mod_two_pow, decide_eq_true hk, Bool.true_and]
theorem SB_ct : ∀ k x, SB k x = ct (fun j => x.testBit j) (8 * k)
  | 0, _ => rfl
  | k + 1, x => by
    rw [SB, SB_ct k, p8_mod, show 8 * (k + 1) = 8 + 8 * k by omega, ct_split, Nat.add_comm]
    refine congrArg _ (ct_cong (fun j hj => ?_))
    show (x / 2 ^ 8).testBit j = x.testBit (8 + j)
    rw [Nat.testBit_div_two_pow, Nat.add_comm]
theorem fo1 {a b y : Nat} (h : y = 256 * a + b) (hb : b ≤ 8) : y / 256 = a := by omega
theorem fo2 {y r1 r2 a b : Nat} (h : y = 256 * r1 + a) (h' : r1 = 256 * r2 + b) (ha : a ≤ 16) (hb : b ≤ 16) : y / 65536 = r2 := by omega
theorem fo3 {y t1 t2 t3 t4 a b c d : Nat} (h : y = 256 * t1 + a) (h1 : t1 = 256 * t2 + b) (h2 : t2 = 256 * t3 + c) (h3 : t3 = 256 * t4 + d) (ha : a ≤ 32) (hb : b ≤ 32) (hc : c ≤ 32) (hd : d ≤ 32) : y / 4294967296 = t4 := by omega
theorem fo4 {x y a b p q : Nat} (h : x = 256 * a + p) (h' : y = 256 * b + q) (hb : p + q ≤ 64) : (x + y) % 128 = p + q := by omega
theorem fs {x y a b p q : Nat} (h : x = 256 * a + p) (h' : y = 256 * b + q) : x + y = 256 * (a + b) + (p + q) := by omega
theorem fold8 {p0 p1 p2 p3 p4 p5 p6 p7 q0 q1 q2 q3 q4 q5 q6 q7 : Nat} (h0 : p0 ≤ 8) (h1 : p1 ≤ 8) (h2 : p2 ≤ 8) (h3 : p3 ≤ 8) (h4 : p4 ≤ 8) (h5 : p5 ≤ 8) (h6 : p6 ≤ 8) (h7 : p7 ≤ 8) (e7 : q7 = 256 * 0 + p7) (e6 : q6 = 256 * q7 + p6) (e5 : q5 = 256 * q6 + p5) (e4 : q4 = 256 * q5 + p4) (e3 : q3 = 256 * q4 + p3) (e2 : q2 = 256 * q3 + p2) (e1 : q1 = 256 * q2 + p1) (e0 : q0 = 256 * q1 + p0) :
    (q0 + q0 / 256 + (q0 + q0 / 256) / 65536 + (q0 + q0 / 256 + (q0 + q0 / 256) / 65536) / 4294967296) % 128 = p0 + p1 + (p2 + p3) + (p4 + p5 + (p6 + p7)) := by
  have e8 : (0 : Nat) = 256 * 0 + 0 := rfl
  have r0 := fs e0 e1
  have r1 := fs e1 e2
  have r2 := fs e2 e3
  have r3 := fs e3 e4
  have r4 := fs e4 e5
  have r5 := fs e5 e6
  have r6 := fs e6 e7
  have r7 := fs e7 e8
  have t0 := fs r0 r2
  have t1 := fs r1 r3
  have t2 := fs r2 r4
  have t3 := fs r3 r5
  have t4 := fs r4 r6
  rw [fo1 e0 h0, fo2 r0 r1 (Nat.add_le_add h0 h1) (Nat.add_le_add h1 h2), fo3 t0 t1 t2 t3 (Nat.add_le_add (Nat.add_le_add h0 h1) (Nat.add_le_add h2 h3)) (Nat.add_le_add (Nat.add_le_add h1 h2) (Nat.add_le_add h3 h4)) (Nat.add_le_add (Nat.add_le_add h2 h3) (Nat.add_le_add h4 h5)) (Nat.add_le_add (Nat.add_le_add h3 h4) (Nat.add_le_add h5 h6))]
  exact fo4 t0 t4 (Nat.add_le_add (Nat.add_le_add (Nat.add_le_add h0 h1) (Nat.add_le_add h2 h3)) (Nat.add_le_add (Nat.add_le_add h4 h5) (Nat.add_le_add h6 h7)))
def ls (v : Int64) (k : Int32) : Int64 := (v.toUInt64 >>> (k.toInt64.toUInt64 &&& Int64.toUInt64 63)).toInt64
def h1 (v : Int64) : Int64 := v - (ls v 1 &&& 6148914691236517205)
def h2 (v : Int64) : Int64 := (v &&& 3689348814741910323) + (ls v 2 &&& 3689348814741910323)
def h3 (v : Int64) : Int64 := (v + ls v 4) &&& 1085102592571150095
def h4 (v : Int64) (k : Int32) : Int64 := v + ls v k
theorem bc_shape (v : Int64) : fJ13_bitCount_95d88 v = some ((h4 (h4 (h4 (h3 (h2 (h1 v))) 8) 16) 32).toInt32 &&& 127) := rfl
theorem ls_ok {x : Nat} (hx : x < 2 ^ 64) (k : Nat) (hk : k < 64) : ls (lN x) (nI k) = lN (x / 2 ^ k) := wb_shr hx hk
theorem bc49 (x : Nat) (hx : x < 2 ^ 49) : fJ13_bitCount_95d88 (lN x) = some (nI (ct (fun k => x.testBit k) 64 % 128)) := by
  have m1 : (6148914691236517205 : Int64) = lN (mk 85 8) := by decide
  have m2 : (3689348814741910323 : Int64) = lN (mk 51 8) := by decide
  have m3 : (1085102592571150095 : Int64) = lN (mk 15 8) := by decide
  have b1 : mk 85 8 < 2 ^ 64 := by decide
  have b2 : mk 51 8 < 2 ^ 64 := by decide
  have b3 : mk 15 8 < 2 ^ 64 := by decide
  have l1 : s1 8 x ≤ x := Nat.sub_le _ _
  have l2 : s2 8 (s1 8 x) ≤ s1 8 x + s1 8 x / 4 := Nat.add_le_add Nat.and_le_left Nat.and_le_left
  have l3 : s3 8 (s2 8 (s1 8 x)) ≤ s2 8 (s1 8 x) + s2 8 (s1 8 x) / 16 := Nat.and_le_left
  have g1 : h1 (lN x) = lN (s1 8 x) := by
    unfold h1 s1
    rw [show ls (lN x) 1 = lN (x / 2 ^ 1) from ls_ok (by omega) 1 (by decide), m1, wb_and (by omega) b1, lN_sub (Nat.le_trans Nat.and_le_left (Nat.div_le_self _ _))]
  have g2 : h2 (lN (s1 8 x)) = lN (s2 8 (s1 8 x)) := by
    have : ls (lN (s1 8 x)) 2 = lN (s1 8 x / 2 ^ 2) := ls_ok (by omega) 2 (by decide)
    unfold h2
    rw [this, m2, wb_and (by omega) b2, wb_and (by omega) b2, lN_add]
    rfl
  have g3 : h3 (lN (s2 8 (s1 8 x))) = lN (s3 8 (s2 8 (s1 8 x))) := by
    have : ls (lN (s2 8 (s1 8 x))) 4 = lN (s2 8 (s1 8 x) / 2 ^ 4) := ls_ok (by omega) 4 (by decide)
    unfold h3
    rw [this, m3, lN_add, wb_and (by omega) b3]
    rfl
  have g4 : ∀ (y k : Nat), y < 2 ^ 62 → k < 64 → h4 (lN y) (nI k) = lN (y + y / 2 ^ k) := by
    intro y k hy hk
    unfold h4
    rw [ls_ok (by omega) k hk, lN_add]
  obtain ⟨pe, -⟩ := pcb 8 x (by omega)
  have i1 := g4 (s3 8 (s2 8 (s1 8 x))) 8 (by omega) (by decide)
  have i2 := g4 (s3 8 (s2 8 (s1 8 x)) + s3 8 (s2 8 (s1 8 x)) / 2 ^ 8) 16 (by omega) (by decide)
  have i3 := g4 (s3 8 (s2 8 (s1 8 x)) + s3 8 (s2 8 (s1 8 x)) / 2 ^ 8 + (s3 8 (s2 8 (s1 8 x)) + s3 8 (s2 8 (s1 8 x)) / 2 ^ 8) / 2 ^ 16) 32 (by omega) (by decide)
  have e8 : (8 : Int32) = nI 8 := by decide
  have e16 : (16 : Int32) = nI 16 := by decide
  have e32 : (32 : Int32) = nI 32 := by decide
  have e127 : (127 : Int32) = nI (2 ^ 7 - 1) := by decide
  rw [bc_shape, g1, g2, g3, e8, e16, e32, i1, i2, i3, lN_i, e127, fa_mask, pe, ← SB_ct 8 x]
  refine congrArg (fun z => some (nI z)) ?_
  have q := fold8 (p8_le (x % 256)) (p8_le (x / 256 % 256)) (p8_le (x / 256 / 256 % 256)) (p8_le (x / 256 / 256 / 256 % 256)) (p8_le (x / 256 / 256 / 256 / 256 % 256)) (p8_le (x / 256 / 256 / 256 / 256 / 256 % 256)) (p8_le (x / 256 / 256 / 256 / 256 / 256 / 256 % 256)) (p8_le (x / 256 / 256 / 256 / 256 / 256 / 256 / 256 % 256)) rfl rfl rfl rfl rfl rfl rfl (show PB 8 x = 256 * PB 7 (x / 256) + p8 (x % 256) from rfl)
  have hS : SB 8 x = p8 (x % 256) + p8 (x / 256 % 256) + (p8 (x / 256 / 256 % 256) + p8 (x / 256 / 256 / 256 % 256)) + (p8 (x / 256 / 256 / 256 / 256 % 256) + p8 (x / 256 / 256 / 256 / 256 / 256 % 256) + (p8 (x / 256 / 256 / 256 / 256 / 256 / 256 % 256) + p8 (x / 256 / 256 / 256 / 256 / 256 / 256 / 256 % 256))) := by
    simp only [SB]
    omega
  have hle : SB 8 x < 128 := by
    have := ct_le (fun j => x.testBit j) (8 * 8)
    rw [SB_ct]
    omega
  rw [Nat.mod_eq_of_lt hle, hS]
  exact q
theorem lcmp0 (a : Int64) : lg_cmp a 0 = 0 ↔ a = 0 := by
  unfold lg_cmp
  by_cases h : a > 0
  · rw [if_pos h]
    refine ⟨fun z => absurd z (by decide), fun z => ?_⟩
    subst z
    exact absurd h (by decide)
  · rw [if_neg h]
    by_cases h2 : a = 0
    · rw [if_pos h2]
      exact ⟨fun _ => h2, fun _ => rfl⟩
    · rw [if_neg h2]
      exact ⟨fun z => absurd z (by decide), fun z => absurd z h2⟩

def q32 : KC := fun kd fr to hh ht ct dh de dc dl df dg => some (-10 - fr, kd, fr, to, hh, ht, ct, dh, de, dc, dl, df, dg)
def q23 : Int32 → KC := fun v kd fr to hh ht ct dh de dc dl df dg => some (v, kd, fr, to, hh, ht, ct, dh, de, dc, dl, df, dg)
def q152 : KM := fun v fr to tk fl hh ht d => if d 2 = 0 then gd (ix 2 24) (some (v, fr, to, tk, fl, hh, ht, upd d (2 : Int32).toNatClampNeg (d 2 + 1))) else gd (ix 2 24) (some (v, fr, to, tk, fl, hh, ht, upd d (2 : Int32).toNatClampNeg (d 2 + 0)))
theorem q152_eq (v fr to tk fl hh ht : Int32) (d : Nat → Int32) : q152 v fr to tk fl hh ht d = some (v, fr, to, tk, fl, hh, ht, upd d 2 (if d 2 = 0 then d 2 + 1 else d 2 + 0)) := by
  have hc : (2 : Int32).toNatClampNeg = 2 := by decide
  have hg : ix 2 24 = true := by decide
  unfold q152
  rw [gd_t hg, gd_t hg, hc]
  split <;> rfl
theorem read_shape (kd fr to hh ht ct len : Int32) (lets : Nat → Int32) (dh de dc dl : Int32) (df dg : Nat → Int32) : fX5_read kd fr to hh ht ct len lets dh de dc dl df dg = (fX5_startAnew to hh ht ct dh de dc dl df dg).bind (fun u1 => fX5_read_L6 q32 q23 q32 len lets FU 0 kd fr u1.1 u1.2.1 u1.2.2.1 u1.2.2.2.1 u1.2.2.2.2.1 u1.2.2.2.2.2.1 u1.2.2.2.2.2.2.1 u1.2.2.2.2.2.2.2.1 u1.2.2.2.2.2.2.2.2.1 u1.2.2.2.2.2.2.2.2.2) := rfl
theorem reads_shape (typed fr to tk fl hh ht : Int32) (d text : Nat → Int32) : fX7_reads typed fr to tk fl hh ht d text = (fX7_plain d).bind (fun u1 => (fX7_steps typed fr 0 tk text).bind (fun u2 => fX7_reads_L34 q152 typed text FU 0 u2.1 u2.2.1 u2.2.2 (-9) 0 0 u1)) := rfl
theorem neg10 : ∀ p, p < 1024 → ¬ (0 : Int32) ≤ -10 - nI p := by decide +kernel
theorem tells1 (K : (Nat → Int32) → Option (Int32 × Int32 × Int32 × Int32 × Int32 × Int32 × Int32 × Int32 × Int32 × Int32 × (Nat → Int32) × (Nat → Int32) × (Nat → Int32))) (d s : Nat → Int32) : fX7_tells_L33 K d FU 0 s = K (fa_fill d s 24) := by
  have e24 : (24 : Int32) = nI 24 := by decide
  have key := lo2 (F := fX7_tells_L33 K d) (a := nI) (b := fa_fill d s) (E := 24) (r := K (fa_fill d s 24)) ?_ ?_ 24 0 FU (by omega) (fu_lt (by omega))
  · rw [fa_fill_0] at key
    rw [← nI_0]
    exact key
  · intro k j hj
    rw [fX7_tells_L33, e24, if_neg (nI_ge hj (by decide)), gd_t (ixt hj (by decide)), gd_t (ixt hj (by decide)), nI_clamp (by omega), nI_1, fa_fill_succ]
  · intro k
    rw [fX7_tells_L33, e24, if_pos (nI_le (Nat.le_refl _) (by decide))]
section P88m
variable {hk en cd lm : Int32} {f g s : Nat → Int32} {known next undos thr : Int32} {gh ge gc gl : Nat → Int32} {gf gg : Nat → Nat → Int32} {past : Nat → Int32}
theorem op_tells {len typed : Int32} {lets text : Nat → Int32} (hl : ILm hk en cd lm f g s) (hh : IHi known next gh ge gc gl gf gg undos past) (hx : ITx len lets typed text) (y1 y2 y3 y4 y5 y6 y7 y8 y9 y10 : Int32) (y11 y12 : Nat → Int32) (w1 w2 w3 w4 w5 w6 : Int32) (w7 : Nat → Int32) : ∃ a b, fX6_tells hk en cd lm f g y1 y2 y3 y4 y5 y6 len lets y7 y8 y9 y10 y11 y12 known next gh ge gc gl gf gg = some a ∧ fX7_tells thr undos typed w1 w2 w3 w4 w5 w6 s w7 past text = some b ∧ a.1 = b.1 ∧ ILm a.2.1 a.2.2.1 a.2.2.2.1 a.2.2.2.2.1 a.2.2.2.2.2.1 a.2.2.2.2.2.2.1 b.2.2.2.2.2.2.2.2.2.2.1 ∧ IHi a.2.2.2.2.2.2.2.2.2.2.2.2.2.2.2.2.2.2.2.2.1 a.2.2.2.2.2.2.2.2.2.2.2.2.2.2.2.2.2.2.2.2.2.1 a.2.2.2.2.2.2.2.2.2.2.2.2.2.2.2.2.2.2.2.2.2.2.1 a.2.2.2.2.2.2.2.2.2.2.2.2.2.2.2.2.2.2.2.2.2.2.2.1 a.2.2.2.2.2.2.2.2.2.2.2.2.2.2.2.2.2.2.2.2.2.2.2.2.1 a.2.2.2.2.2.2.2.2.2.2.2.2.2.2.2.2.2.2.2.2.2.2.2.2.2.1 a.2.2.2.2.2.2.2.2.2.2.2.2.2.2.2.2.2.2.2.2.2.2.2.2.2.2.1 a.2.2.2.2.2.2.2.2.2.2.2.2.2.2.2.2.2.2.2.2.2.2.2.2.2.2.2 b.2.2.1 b.2.2.2.2.2.2.2.2.2.2.2.2 ∧ ITx a.2.2.2.2.2.2.2.2.2.2.2.2.2.1 lets b.2.2.2.1 text := by
  obtain ⟨L, tx, hL, rfl, rfl, h⟩ := id hx
  have hT : okT L tx lets text := ⟨hL, h⟩
  obtain ⟨r, r2, hr1, hr2, hHi⟩ := rem_ok hl hh
  obtain ⟨f2, g2, hs, s1, s2, s3⟩ := cStart (dh := y7) (de := y8) (dc := y9) (dl := y10) (df := y11) (dg := y12) y3 y4 y5 y6
  obtain ⟨d2, hp, hd⟩ := mPlain (d := w7)
  have hrd := rd_loop hT q32 q23 q32 q152 120 0 0 FU FU y1 y2 0 0 0 2 2 1 12 f2 g2 0 0 d2 (Nat.zero_le _) (by omega) (by omega) (by decide) (by decide) (id0 s1 s2 s3 hd)
  have hst := mSteps hT (p := 0) (Nat.zero_le _) w1 w3
  rw [nI_0] at hst hrd
  rw [fX6_tells, read_shape, hs, some_bind, fX7_tells, reads_shape, hp, some_bind, hst, some_bind]
  simp only []
  rcases hrd with ⟨p, p1, ⟨kd, to, a1, a2, a3, a4, a5, a6, a7, a8, a9, e1⟩, ⟨v, fr, to2, tk, b1, b2, b3, e2⟩⟩ | ⟨q, kd, fr, to, a1, a2, a3, a4, a5, a6, a7, a8, a9, fr', to', tk', b1, b2, b3, q1, e1, e2, hI⟩
  · rw [e1, e2, q152_eq, show q32 kd (nI p) to a1 a2 a3 a4 a5 a6 a7 a8 a9 = some (-10 - nI p, kd, nI p, to, a1, a2, a3, a4, a5, a6, a7, a8, a9) from rfl, some_bind, some_bind, if_neg (neg10 p p1), if_neg (ne9 (by omega))]
    exact ⟨_, _, rfl, rfl, rfl, hl, hh, hx⟩
  · obtain ⟨v3, hv3, hI3⟩ := hI.done
    obtain ⟨f3, g3, hb, hf3, hg3⟩ := bec hk en cd lm f g a4 a5 a6 a7 a8 a9
    rw [e1, e2, q152_eq, show q23 (nI q) kd fr to a1 a2 a3 a4 a5 a6 a7 a8 a9 = some (nI q, kd, fr, to, a1, a2, a3, a4, a5, a6, a7, a8, a9) from rfl, some_bind, some_bind, if_pos (nI_pos' (by omega)), if_pos rfl, hr1, some_bind, hb, some_bind, hr2, some_bind, tells1, hv3]
    refine ⟨_, _, rfl, rfl, rfl, ?_, hHi, 0, tx, by decide, rfl, rfl, fun i hi => by omega⟩
    exact (hI3.l hf3 hg3).s (fun i hi => fa_fill_in hi)
end P88m

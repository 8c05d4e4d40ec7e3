theorem chk {L i : Nat} (hL : L ≤ 2048) (hi : i ≤ L) (h : ¬ (Int32.ofNat L - 4 < nI i)) : i + 4 ≤ L := by
  have e4 : (4 : Int32) = nI 4 := by decide
  have h : ¬ (nI L - nI 4 < nI i) := by rw [← e4]; exact h
  apply Classical.byContradiction
  intro z
  apply h
  by_cases h4 : 4 ≤ L
  · rw [pk_sub h4]
    exact nI_lt (by omega) (by omega)
  · exact fa_trans (pk_sneg (by decide) (by omega)) (nI_pos' (by omega))
set_option maxHeartbeats 4000000 in
theorem law_loop {L : Nat} {xs : Nat → Int32} (hL : L ≤ 2048) : ∀ (n i : Nat) {hk : Int32} {en : Int32} {cd : Int32} {lm : Int32} {f : Nat → Int32} {g : Nat → Int32} {y1 : Int32} {y2 : Int32} {y3 : Int32} {y4 : Int32} {y5 : Int32} {y6 : Int32} {len : Int32} {let' : Nat → Int32} {y7 : Int32} {y8 : Int32} {y9 : Int32} {y10 : Int32} {y11 : Nat → Int32} {y12 : Nat → Int32} {known : Int32} {next : Int32} {gh : Nat → Int32} {ge : Nat → Int32} {gc : Nat → Int32} {gl : Nat → Int32} {gf : Nat → Nat → Int32} {gg : Nat → Nat → Int32} {z1 : Int32} {z2 : Int32} {z3 : Int32} {z4 : Int32} {z5 : Int32} {z6 : Int32} {z7 : Int32} {z8 : Nat → Int32} {z9 : Nat → Int32} {seen : Int32} {rows : Nat → Int32} {ends : Nat → Int32} {wasUp : Nat → Int32} {ih : Nat → Int32} {ie : Nat → Int32} {ic : Nat → Int32} {il : Nat → Int32} {if' : Nat → Nat → Int32} {ig : Nat → Nat → Int32} {isK : Nat → Int32} {thr : Int32} {undos : Int32} {many : Int32} {typed : Int32} {w1 : Int32} {w2 : Int32} {w3 : Int32} {w4 : Int32} {w5 : Int32} {w6 : Int32} {low : Int32} {high : Int32} {s : Nat → Int32} {w7 : Nat → Int32} {past : Nat → Int32} {kept : Nat → Int32} {isM : Nat → Int32} {facts : Nat → Int32} {text : Nat → Int32}, i ≤ L → L < n + i → ILm hk en cd lm f g s → IHi known next gh ge gc gl gf gg undos past → ITx len let' typed text → IFa seen rows ends wasUp many facts → IIm ih ie ic il if' ig isK kept isM → fL_law_L18 L xs n (nI i) hk en cd lm f g y1 y2 y3 y4 y5 y6 len let' y7 y8 y9 y10 y11 y12 known next gh ge gc gl gf gg z1 z2 z3 z4 z5 z6 z7 z8 z9 seen rows ends wasUp ih ie ic il if' ig isK thr undos many typed w1 w2 w3 w4 w5 w6 low high s w7 past kept isM facts text = some 1 := by
  intro n
  induction n with
  | zero =>
    intro i hk en cd lm f g y1 y2 y3 y4 y5 y6 len let' y7 y8 y9 y10 y11 y12 known next gh ge gc gl gf gg z1 z2 z3 z4 z5 z6 z7 z8 z9 seen rows ends wasUp ih ie ic il if' ig isK thr undos many typed w1 w2 w3 w4 w5 w6 low high s w7 past kept isM facts text h1 h2
    omega
  | succ n IH =>
    intro i hk en cd lm f g y1 y2 y3 y4 y5 y6 len let' y7 y8 y9 y10 y11 y12 known next gh ge gc gl gf gg z1 z2 z3 z4 z5 z6 z7 z8 z9 seen rows ends wasUp ih ie ic il if' ig isK thr undos many typed w1 w2 w3 w4 w5 w6 low high s w7 past kept isM facts text h1 h2 hl hh hx hf hm
    rw [fL_law_L18]
    refine ite_c (fun _ => rfl) (fun hc => ?_)
    have h4 := chk hL h1 hc
    have e1 : (1 : Int32) = nI 1 := by decide
    have e2 : (2 : Int32) = nI 2 := by decide
    have e3 : (3 : Int32) = nI 3 := by decide
    have e4 : (4 : Int32) = nI 4 := by decide
    have g0 : ix (nI i) L = true := ixt (by omega) (by omega)
    have g1 : ix (nI i + 1) L = true := by rw [e1, nI_add]; exact ixt (by omega) (by omega)
    have g2 : ix (nI i + 2) L = true := by rw [e2, nI_add]; exact ixt (by omega) (by omega)
    have g3 : ix (nI i + 3) L = true := by rw [e3, nI_add]; exact ixt (by omega) (by omega)
    have ih0 : ∀ {hk : Int32} {en : Int32} {cd : Int32} {lm : Int32} {f : Nat → Int32} {g : Nat → Int32} {y1 : Int32} {y2 : Int32} {y3 : Int32} {y4 : Int32} {y5 : Int32} {y6 : Int32} {len : Int32} {let' : Nat → Int32} {y7 : Int32} {y8 : Int32} {y9 : Int32} {y10 : Int32} {y11 : Nat → Int32} {y12 : Nat → Int32} {known : Int32} {next : Int32} {gh : Nat → Int32} {ge : Nat → Int32} {gc : Nat → Int32} {gl : Nat → Int32} {gf : Nat → Nat → Int32} {gg : Nat → Nat → Int32} {z1 : Int32} {z2 : Int32} {z3 : Int32} {z4 : Int32} {z5 : Int32} {z6 : Int32} {z7 : Int32} {z8 : Nat → Int32} {z9 : Nat → Int32} {seen : Int32} {rows : Nat → Int32} {ends : Nat → Int32} {wasUp : Nat → Int32} {ih : Nat → Int32} {ie : Nat → Int32} {ic : Nat → Int32} {il : Nat → Int32} {if' : Nat → Nat → Int32} {ig : Nat → Nat → Int32} {isK : Nat → Int32} {thr : Int32} {undos : Int32} {many : Int32} {typed : Int32} {w1 : Int32} {w2 : Int32} {w3 : Int32} {w4 : Int32} {w5 : Int32} {w6 : Int32} {low : Int32} {high : Int32} {s : Nat → Int32} {w7 : Nat → Int32} {past : Nat → Int32} {kept : Nat → Int32} {isM : Nat → Int32} {facts : Nat → Int32} {text : Nat → Int32}, ILm hk en cd lm f g s → IHi known next gh ge gc gl gf gg undos past → ITx len let' typed text → IFa seen rows ends wasUp many facts → IIm ih ie ic il if' ig isK kept isM → fL_law_L18 L xs n (nI i + 4) hk en cd lm f g y1 y2 y3 y4 y5 y6 len let' y7 y8 y9 y10 y11 y12 known next gh ge gc gl gf gg z1 z2 z3 z4 z5 z6 z7 z8 z9 seen rows ends wasUp ih ie ic il if' ig isK thr undos many typed w1 w2 w3 w4 w5 w6 low high s w7 past kept isM facts text = some 1 := by
      intro hk en cd lm f g y1 y2 y3 y4 y5 y6 len let' y7 y8 y9 y10 y11 y12 known next gh ge gc gl gf gg z1 z2 z3 z4 z5 z6 z7 z8 z9 seen rows ends wasUp ih ie ic il if' ig isK thr undos many typed w1 w2 w3 w4 w5 w6 low high s w7 past kept isM facts text a1 a2 a3 a4 a5
      rw [e4, nI_add]
      exact IH (i + 4) (by omega) (by omega) a1 a2 a3 a4 a5
    rw [gd_t g0]
    refine ite_c (fun _ => ar_type g1 hx (fun a b h => ih0 hl hh h hf hm)) (fun _ => ?_)
    refine ite_c (fun _ => ar_clear  hx (fun a b h => ih0 hl hh h hf hm)) (fun _ => ?_)
    refine ite_c (fun _ => ar_tells  hl hh hx (fun a b h => ih0 h.1 h.2.1 h.2.2 hf hm)) (fun _ => ?_)
    refine ite_c (fun _ => ar_punches g1 g2 hl hh (fun a b h => ih0 h.1 h.2 hx hf hm)) (fun _ => ?_)
    refine ite_c (fun _ => ar_ties g1 g2 hl hh (fun a b h => ih0 h.1 h.2 hx hf hm)) (fun _ => ?_)
    refine ite_c (fun _ => ar_adds g1 hl hh (fun a b h => ih0 h.1 h.2 hx hf hm)) (fun _ => ?_)
    refine ite_c (fun _ => ar_drops g1 hl hh (fun a b h => ih0 h.1 h.2 hx hf hm)) (fun _ => ?_)
    refine ite_c (fun _ => ar_changes g1 g2 hl hh (fun a b h => ih0 h.1 h.2 hx hf hm)) (fun _ => ?_)
    refine ite_c (fun _ => ar_limits g1 hl hh (fun a b h => ih0 h.1 h.2 hx hf hm)) (fun _ => ?_)
    refine ite_c (fun _ => ar_undo  hl hh (fun a b h => ih0 h.1 h.2 hx hf hm)) (fun _ => ?_)
    refine ite_c (fun _ => ar_card g1 g2 hl (ih0 hl hh hx hf hm)) (fun _ => ?_)
    refine ite_c (fun _ => ar_end g1 g2 hl (ih0 hl hh hx hf hm)) (fun _ => ?_)
    refine ite_c (fun _ => ar_cloth g1 g2 hl (ih0 hl hh hx hf hm)) (fun _ => ?_)
    refine ite_c (fun _ => ar_told g1 hl (ih0 hl hh hx hf hm)) (fun _ => ?_)
    refine ite_c (fun _ => ar_mends g1 hl (fun a b h => ih0 (by rw [h]; exact hl) hh hx hf hm)) (fun _ => ?_)
    refine ite_c (fun _ => ar_sees g1 g2 g3 hf (fun a b h => ih0 hl hh hx h hm)) (fun _ => ?_)
    refine ite_c (fun _ => ar_forget  hf (fun a b h => ih0 hl hh hx h hm)) (fun _ => ?_)
    refine ite_c (fun _ => ar_suspects g1 hl hf (ih0 hl hh hx hf hm)) (fun _ => ?_)
    refine ite_c (fun _ => ar_look  hl hf (ih0 hl hh hx hf hm)) (fun _ => ?_)
    refine ite_c (fun _ => ar_keep g1 hl hm (fun a b h => ih0 hl hh hx hf h)) (fun _ => ?_)
    refine ite_c (fun _ => ar_back g1 hl hh hm (fun a b h => ih0 h.1 h.2 hx hf hm)) (fun _ => ?_)
    refine ite_c (fun _ => ar_count g1 hl hh hx hf (ih0 hl hh hx hf hm)) (fun _ => ?_)
    exact ih0 hl hh hx hf hm

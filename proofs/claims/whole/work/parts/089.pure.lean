theorem il_0 : ILm 2 2 1 12 hoe0 hoc0 (upd s00 2 (1 : Int32)) := by
  refine ⟨2, 2, 1, 12, fun e => e, fun _ => 0, ⟨by decide, by decide, by decide, by decide, fun e he => he, fun _ _ => (by decide : 0 < 2 ^ 2)⟩, ⟨rfl, rfl, rfl, rfl, ?_, ?_⟩, rfl, rfl, rfl, rfl, ?_, ?_⟩
  · intro e he
    rcases e with _ | _ | e
    · rfl
    · rfl
    · omega
  · intro i hi
    obtain rfl : i = 0 := by omega
    rfl
  · intro e he
    rcases e with _ | _ | e
    · rfl
    · rfl
    · omega
  · intro i hi
    obtain rfl : i = 0 := by omega
    rfl
theorem law_pure (L : Nat) (xs : Nat → Int32) (hL : L ≤ 2048) : fL_law_L18 L xs FU 0 2 2 1 12 hoe0 hoc0 0 0 0 0 0 0 0 (fun _ => 0) 2 2 1 12 hoe0 hoc0 0 0 (fun _ => 2) (fun _ => 2) (fun _ => 1) (fun _ => 12) (fun _ => hoe0) (fun _ => hoc0) 0 0 0 2 2 1 12 hoe0 hoc0 0 (fun _ => 0) (fun _ => 0) (fun _ => 0) (fun _ => 2) (fun _ => 2) (fun _ => 1) (fun _ => 12) (fun _ => hoe0) (fun _ => hoc0) (fun _ => 0) 0 0 0 0 0 0 0 0 0 0 0 0 (upd s00 2 (1 : Int32)) (fun _ => 0) (fun _ => 0) (fun _ => 0) (fun _ => 0) (fun _ => 0) (fun _ => 0) = some 1 := by
  have h0 : (0 : Int32) = nI 0 := nI_0.symm
  have hF : L < FU + 0 := by
    have : FU = 3000 := rfl
    omega
  have ht : ITx 0 (fun _ => 0) 0 (fun _ => 0) := ⟨0, fun _ => 0, by decide, rfl, rfl, fun i hi => absurd hi (Nat.not_lt_zero i)⟩
  have hf : IFa 0 (fun _ => 0) (fun _ => 0) (fun _ => 0) 0 (fun _ => 0) := ⟨0, fun _ => 0, fun _ => 0, fun _ => false, by decide, rfl, rfl, fun i hi => absurd hi (Nat.not_lt_zero i)⟩
  have hh : IHi 0 0 (fun _ => 2) (fun _ => 2) (fun _ => 1) (fun _ => 12) (fun _ => hoe0) (fun _ => hoc0) 0 (fun _ => 0) := ⟨0, 0, by decide, by decide, rfl, rfl, rfl, fun j hj => absurd hj (Nat.not_lt_zero j)⟩
  have hm : IIm (fun _ => 2) (fun _ => 2) (fun _ => 1) (fun _ => 12) (fun _ => hoe0) (fun _ => hoc0) (fun _ => 0) (fun _ => 0) (fun _ => 0) := fun j _ => Or.inl ⟨rfl, rfl⟩
  have key := law_loop (xs := xs) hL FU 0 (Nat.zero_le L) hF il_0 hh ht hf hm (z1 := 0) (z2 := 0) (z3 := 0) (z4 := 2) (z5 := 2) (z6 := 1) (z7 := 12) (z8 := hoe0) (z9 := hoc0) (y1 := 0) (y2 := 0) (y3 := 0) (y4 := 0) (y5 := 0) (y6 := 0) (y7 := 2) (y8 := 2) (y9 := 1) (y10 := 12) (y11 := hoe0) (y12 := hoc0) (w1 := 0) (w2 := 0) (w3 := 0) (w4 := 0) (w5 := 0) (w6 := 0) (w7 := fun _ => 0) (thr := 0) (low := 0) (high := 0)
  rw [nI_0] at key
  exact key

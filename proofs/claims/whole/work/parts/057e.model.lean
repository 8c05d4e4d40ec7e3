def fX7_upBy_L5 (k93 : Int32 → (Nat → Int32) → Option (Int32 × (Nat → Int32))) (c_manyFacts : Int32) (c_facts : Nat → Int32) (v1 : Int32) (v2 : Int32) : Nat → Int32 → Int32 → (Nat → Int32) → Option (Int32 × (Nat → Int32))
  | 0, _, _, _ => none
  | n + 1, v3, v4, c_s => (fX7_places c_s).bind (fun u1 => if u1 ≤ v4 then k93 v3 c_s else (fX7_isSuspect c_manyFacts c_s c_facts v4).bind (fun u2 => jn (fun (j87_v3 : Int32) => fX7_upBy_L5 k93 c_manyFacts c_facts v1 v2 n j87_v3 (v4 + (1 : Int32)) u2.2) (fun J87 => if u2.1 = 0 then J87 v3 else jn (fun (j66_0 : Int32) => (fX7_isUp u2.2 v1 v2).bind (fun u3 => jn (fun (j85_0 : Int32) (j85_1 : Int32) => J87 (j85_1 + j85_0)) (fun J85 => if u3 = j66_0 then J85 (0 : Int32) v3 else J85 (1 : Int32) v3))) (fun J66 => jn (J66 (0 : Int32)) (fun J65 => if v4 < 0 then J65 else gd (!decide ((u2.2 0) = 0)) (if (v4 / (u2.2 0)) = v1 then gd (!decide ((u2.2 0) = 0)) (gd (ix ((4 : Int32) + v2) 24) (if (v4 - v4 / (u2.2 0) * (u2.2 0)) = (u2.2 ((4 : Int32) + v2).toNatClampNeg) then J66 (1 : Int32) else J65)) else J65))))))
def fX7_upBy (c_manyFacts : Int32) (c_s : Nat → Int32) (c_facts : Nat → Int32) (v1 : Int32) (v2 : Int32) : Option (Int32 × (Nat → Int32)) := (fX7_upBy_L5 (fun (v3_x4 : Int32) (c_s_x4 : Nat → Int32) => some (v3_x4, c_s_x4)) c_manyFacts c_facts v1 v2 FU (0 : Int32) (-1 : Int32) c_s)
theorem iX7_upBy_7 : ∀ w ∈ wsX70, w ∈ wsX7_upBy := fun w h => List.mem_cons_of_mem _ (List.mem_append_right _ (h))
theorem hdX7_upBy : yX7_upBy.cls = RX7 ∧ yX7_upBy.cls ≠ "java/lang/invoke/MethodHandle" ∧ yX7_upBy.cls ≠ "java/lang/invoke/VarHandle" ∧ (parseMethodDescriptor yX7_upBy.desc).map (fun d => d.parameters.length) = some 2 := by decide +kernel
abbrev rmX7_upBy : Room := { frames := 4, cells := 0, slots := 0, locals := 88 }
section SX7_upBy
variable {p : Program} {l : Launch} {e : Env} {s : State} {m : MethodId} {args : Array Value} {below : List Frame} {meth : Method} {c : Code} {Q : State → Prop} {G : GG} {A : Nat → Prop}
set_option maxHeartbeats 4000000 in
set_option maxRecDepth 100000 in
theorem kX7_upBy_L5 (h_this : Nat) (h_s : Nat) (h_draft : Nat) (h_past : Nat) (h_kept : Nat) (h_isKept : Nat) (h_facts : Nat) (h_text : Nat) (c_thrown : Int32) (c_undos : Int32) (c_manyFacts : Int32) (c_typed : Int32) (c_from : Int32) (c_to : Int32) (c_token : Int32) (c_fault : Int32) (c_hasHooks : Int32) (c_hasTies : Int32) (c_low : Int32) (c_high : Int32) (c_facts : Nat → Int32) (v1 : Int32) (v2 : Int32) (C : Cx cX7_upBy (some .int) 6 RX7 wsX7_upBy G p s m args meth c) (hA : ∀ q : Nat, s.heap.size ≤ q → A q) {res : Int32 × (Nat → Int32)} (kr : ∀ (pc : Nat) (ls : Array Slot) (H : Heap) (locs : List Loc), va_P G.1 CL [(h_this, .inr (7, [.int c_thrown, .ref h_s, .ref h_draft, .ref h_past, .int c_undos, .ref h_kept, .ref h_isKept, .ref h_facts, .int c_manyFacts, .ref h_text, .int c_typed, .int c_from, .int c_to, .int c_token, .int c_fault, .int c_hasHooks, .int c_hasTies, .int c_low, .int c_high])), (h_s, .inl (G.2 0, 24, .inl (res.2))), (h_facts, .inl (G.2 0, 24, .inl c_facts))] H → va_D A [(h_this, .inr (7, [.int c_thrown, .ref h_s, .ref h_draft, .ref h_past, .int c_undos, .ref h_kept, .ref h_isKept, .ref h_facts, .int c_manyFacts, .ref h_text, .int c_typed, .int c_from, .int c_to, .int c_token, .int c_fault, .int c_hasHooks, .int c_hasTies, .int c_low, .int c_high])), (h_s, .inl (G.2 0, 24, .inl (res.2))), (h_facts, .inl (G.2 0, 24, .inl c_facts))] → va_S A s.heap H locs → decode cX7_upBy pc = .ok (.ireturn, 1) → W p l e rmX7_upBy s m args below meth c H locs 0 0 Q (F0 m pc ls [.int res.1])) {k93 : Int32 → (Nat → Int32) → Option (Int32 × (Nat → Int32))} (hk93 : ∀ (v3 : Int32) (c_s : Nat → Int32) (H : Heap) (locs : List Loc), k93 v3 c_s = some res → va_P G.1 CL [(h_this, .inr (7, [.int c_thrown, .ref h_s, .ref h_draft, .ref h_past, .int c_undos, .ref h_kept, .ref h_isKept, .ref h_facts, .int c_manyFacts, .ref h_text, .int c_typed, .int c_from, .int c_to, .int c_token, .int c_fault, .int c_hasHooks, .int c_hasTies, .int c_low, .int c_high])), (h_s, .inl (G.2 0, 24, .inl c_s)), (h_facts, .inl (G.2 0, 24, .inl c_facts))] H → va_D A [(h_this, .inr (7, [.int c_thrown, .ref h_s, .ref h_draft, .ref h_past, .int c_undos, .ref h_kept, .ref h_isKept, .ref h_facts, .int c_manyFacts, .ref h_text, .int c_typed, .int c_from, .int c_to, .int c_token, .int c_fault, .int c_hasHooks, .int c_hasTies, .int c_low, .int c_high])), (h_s, .inl (G.2 0, 24, .inl c_s)), (h_facts, .inl (G.2 0, 24, .inl c_facts))] → va_S A s.heap H locs → ∀ (ls : Array Slot), lv_has ls 6 [(3, .int v3)] → W p l e rmX7_upBy s m args below meth c H locs 0 0 Q (F0 m 93 ls [])) : ∀ (n : Nat) (v3 : Int32) (v4 : Int32) (c_s : Nat → Int32) (H : Heap) (locs : List Loc), fX7_upBy_L5 k93 c_manyFacts c_facts v1 v2 n v3 v4 c_s = some res → va_P G.1 CL [(h_this, .inr (7, [.int c_thrown, .ref h_s, .ref h_draft, .ref h_past, .int c_undos, .ref h_kept, .ref h_isKept, .ref h_facts, .int c_manyFacts, .ref h_text, .int c_typed, .int c_from, .int c_to, .int c_token, .int c_fault, .int c_hasHooks, .int c_hasTies, .int c_low, .int c_high])), (h_s, .inl (G.2 0, 24, .inl c_s)), (h_facts, .inl (G.2 0, 24, .inl c_facts))] H → va_D A [(h_this, .inr (7, [.int c_thrown, .ref h_s, .ref h_draft, .ref h_past, .int c_undos, .ref h_kept, .ref h_isKept, .ref h_facts, .int c_manyFacts, .ref h_text, .int c_typed, .int c_from, .int c_to, .int c_token, .int c_fault, .int c_hasHooks, .int c_hasTies, .int c_low, .int c_high])), (h_s, .inl (G.2 0, 24, .inl c_s)), (h_facts, .inl (G.2 0, 24, .inl c_facts))] → va_S A s.heap H locs → ∀ (ls : Array Slot), lv_has ls 6 [(0, .ref h_this), (1, .int v1), (2, .int v2), (3, .int v3), (4, .int v4)] → W p l e rmX7_upBy s m args below meth c H locs 0 0 Q (F0 m 5 ls []) := by
  obtain ⟨hx, hb, hr, hlk, hml, hown, hts, hK⟩ := id C
  intro n
  induction n with
  | zero =>
    intro v3 v4 c_s H locs hf
    cases hf
  | succ n ih =>
    intro v3 v4 c_s H locs hf hP hD hS ls hl
    rw [fX7_upBy_L5] at hf
    refine lv_iload hx hb dX7_upBy_5 (lv_at hl 4 rfl) ?_
    refine lv_aload_n hx hb dX7_upBy_7 rfl (lv_at hl 0 rfl) ?_
    refine r_bind hf (fun u1 hu1 hf => ?_)
    refine cRiV (ci := 7) (rest := [.int v4]) ⟨hx, hb, hml, hown, hts⟩ hK (tX7_places l G h_this h_s h_draft h_past h_kept h_isKept h_facts h_text c_thrown c_undos c_manyFacts c_typed c_from c_to c_token c_fault c_hasHooks c_hasTies c_low c_high c_s u1 hu1) gX7_upBy_X7_places rfl hdX7_places rfl rfl rfl ⟨Nat.le_of_ble_eq_true rfl, Nat.le_of_ble_eq_true rfl⟩ hP [0, 1] rfl 0 rfl rfl rfl hl.1 (Nat.le_of_ble_eq_true rfl) rfl dX7_upBy_8 ⟨Nat.zero_le _, Nat.zero_le _⟩ ?_
    refine lv_icmp_ge (tgt := 93) hx hb dX7_upBy_11 (by decide) (fun c9 => ?_) (fun c9 => ?_)
    · have hf := c_t hf c9
      exact hk93 v3 c_s _ _ hf hP hD hS _ (lv_sub hl [3] rfl)
    · have hf := c_f hf c9
      refine lv_aload_n hx hb dX7_upBy_14 rfl (lv_at hl 0 rfl) ?_
      refine lv_iload hx hb dX7_upBy_15 (lv_at hl 4 rfl) ?_
      refine r_bind hf (fun u2 hu2 hf => ?_)
      refine cWiV (ci := 7) (rest := []) (wr := []) (wf := [(h_this, .inr (7, [.int c_thrown, .ref h_s, .ref h_draft, .ref h_past, .int c_undos, .ref h_kept, .ref h_isKept, .ref h_facts, .int c_manyFacts, .ref h_text, .int c_typed, .int c_from, .int c_to, .int c_token, .int c_fault, .int c_hasHooks, .int c_hasTies, .int c_low, .int c_high])), (h_s, .inl (G.2 0, 24, .inl u2.2)), (h_facts, .inl (G.2 0, 24, .inl c_facts))]) ⟨hx, hb, hml, hown, hts⟩ hK (tX7_isSuspect l G h_this h_s h_draft h_past h_kept h_isKept h_facts h_text c_thrown c_undos c_manyFacts c_typed c_from c_to c_token c_fault c_hasHooks c_hasTies c_low c_high c_s c_facts v4 u2 hu2) gX7_upBy_X7_isSuspect rfl hdX7_isSuspect rfl rfl rfl ⟨Nat.le_of_ble_eq_true rfl, Nat.le_of_ble_eq_true rfl⟩ hP hD hS hA [0, 1, 2] [] [0, 1, 2] rfl rfl rfl (by decide) (by decide) (by decide) (by decide) 0 rfl rfl rfl hl.1 (Nat.le_of_ble_eq_true rfl) rfl dX7_upBy_17 ⟨Nat.zero_le _, Nat.zero_le _⟩ (fun H locs hP hD hS => ?_)
      refine r_jn1 hf (fun J87 eJ87 hf => ?_)
      have hJ87 : ∀ (j87_v3 : Int32) (H : Heap) (locs : List Loc), J87 j87_v3 = some res → va_P G.1 CL [(h_this, .inr (7, [.int c_thrown, .ref h_s, .ref h_draft, .ref h_past, .int c_undos, .ref h_kept, .ref h_isKept, .ref h_facts, .int c_manyFacts, .ref h_text, .int c_typed, .int c_from, .int c_to, .int c_token, .int c_fault, .int c_hasHooks, .int c_hasTies, .int c_low, .int c_high])), (h_s, .inl (G.2 0, 24, .inl u2.2)), (h_facts, .inl (G.2 0, 24, .inl c_facts))] H → va_D A [(h_this, .inr (7, [.int c_thrown, .ref h_s, .ref h_draft, .ref h_past, .int c_undos, .ref h_kept, .ref h_isKept, .ref h_facts, .int c_manyFacts, .ref h_text, .int c_typed, .int c_from, .int c_to, .int c_token, .int c_fault, .int c_hasHooks, .int c_hasTies, .int c_low, .int c_high])), (h_s, .inl (G.2 0, 24, .inl u2.2)), (h_facts, .inl (G.2 0, 24, .inl c_facts))] → va_S A s.heap H locs → ∀ (ls : Array Slot), lv_has ls 6 [(0, .ref h_this), (1, .int v1), (2, .int v2), (3, .int j87_v3), (4, .int v4)] → W p l e rmX7_upBy s m args below meth c H locs 0 0 Q (F0 m 87 ls []) := by
        intro j87_v3 H locs hf hP hD hS ls hl
        rw [eJ87] at hf
        refine lv_iinc (v := (v4 + (1 : Int32))) (lv' := [(4, .int (v4 + (1 : Int32))), (0, .ref h_this), (1, .int v1), (2, .int v2), (3, .int j87_v3)]) hx hb dX7_upBy_87 hl (k := 4) rfl rfl (by decide) rfl (fun ls hl => ?_)
        refine lv_goto (tgt := 5) hx hb dX7_upBy_90 (by decide) ?_
        exact ih j87_v3 (v4 + (1 : Int32)) u2.2 _ _ hf hP hD hS _ (lv_sub hl [1, 2, 3, 4, 0] rfl)
      refine lv_if_eq (tgt := 87) hx hb dX7_upBy_20 (by decide) (fun c9 => ?_) (fun c9 => ?_)
      · have hf := c_t hf c9
        exact hJ87 v3 _ _ hf hP hD hS _ (lv_sub hl [0, 1, 2, 3, 4] rfl)
      · have hf := c_f hf c9
        refine lv_iload hx hb dX7_upBy_23 (lv_at hl 4 rfl) ?_
        refine r_jn1 hf (fun J66 eJ66 hf => ?_)
        have hJ66 : ∀ (j66_0 : Int32) (H : Heap) (locs : List Loc), J66 j66_0 = some res → va_P G.1 CL [(h_this, .inr (7, [.int c_thrown, .ref h_s, .ref h_draft, .ref h_past, .int c_undos, .ref h_kept, .ref h_isKept, .ref h_facts, .int c_manyFacts, .ref h_text, .int c_typed, .int c_from, .int c_to, .int c_token, .int c_fault, .int c_hasHooks, .int c_hasTies, .int c_low, .int c_high])), (h_s, .inl (G.2 0, 24, .inl u2.2)), (h_facts, .inl (G.2 0, 24, .inl c_facts))] H → va_D A [(h_this, .inr (7, [.int c_thrown, .ref h_s, .ref h_draft, .ref h_past, .int c_undos, .ref h_kept, .ref h_isKept, .ref h_facts, .int c_manyFacts, .ref h_text, .int c_typed, .int c_from, .int c_to, .int c_token, .int c_fault, .int c_hasHooks, .int c_hasTies, .int c_low, .int c_high])), (h_s, .inl (G.2 0, 24, .inl u2.2)), (h_facts, .inl (G.2 0, 24, .inl c_facts))] → va_S A s.heap H locs → ∀ (ls : Array Slot), lv_has ls 6 [(0, .ref h_this), (1, .int v1), (2, .int v2), (3, .int v3), (4, .int v4)] → W p l e rmX7_upBy s m args below meth c H locs 0 0 Q (F0 m 66 ls [.int j66_0]) := by
          intro j66_0 H locs hf hP hD hS ls hl
          rw [eJ66] at hf
          refine lv_istore (lv' := [(5, .int j66_0), (0, .ref h_this), (1, .int v1), (2, .int v2), (3, .int v3), (4, .int v4)]) hx hb dX7_upBy_66 hl (by decide) rfl (fun ls hl => ?_)
          refine lv_iload_n hx hb dX7_upBy_68 rfl (lv_at hl 4 rfl) ?_
          refine lv_aload_n hx hb dX7_upBy_69 rfl (lv_at hl 1 rfl) ?_
          refine lv_iload_n hx hb dX7_upBy_70 rfl (lv_at hl 2 rfl) ?_
          refine lv_iload_n hx hb dX7_upBy_71 rfl (lv_at hl 3 rfl) ?_
          refine r_bind hf (fun u3 hu3 hf => ?_)
          refine cRiV (ci := 7) (rest := [.int v3]) ⟨hx, hb, hml, hown, hts⟩ hK (tX7_isUp l G h_this h_s h_draft h_past h_kept h_isKept h_facts h_text c_thrown c_undos c_manyFacts c_typed c_from c_to c_token c_fault c_hasHooks c_hasTies c_low c_high u2.2 v1 v2 u3 hu3) gX7_upBy_X7_isUp rfl hdX7_isUp rfl rfl rfl ⟨Nat.le_of_ble_eq_true rfl, Nat.le_of_ble_eq_true rfl⟩ hP [0, 1] rfl 0 rfl rfl rfl hl.1 (Nat.le_of_ble_eq_true rfl) rfl dX7_upBy_72 ⟨Nat.zero_le _, Nat.zero_le _⟩ ?_
          refine lv_iload hx hb dX7_upBy_75 (lv_at hl 0 rfl) ?_
          refine r_jn2 hf (fun J85 eJ85 hf => ?_)
          have hJ85 : ∀ (j85_0 : Int32) (j85_1 : Int32) (H : Heap) (locs : List Loc), J85 j85_0 j85_1 = some res → va_P G.1 CL [(h_this, .inr (7, [.int c_thrown, .ref h_s, .ref h_draft, .ref h_past, .int c_undos, .ref h_kept, .ref h_isKept, .ref h_facts, .int c_manyFacts, .ref h_text, .int c_typed, .int c_from, .int c_to, .int c_token, .int c_fault, .int c_hasHooks, .int c_hasTies, .int c_low, .int c_high])), (h_s, .inl (G.2 0, 24, .inl u2.2)), (h_facts, .inl (G.2 0, 24, .inl c_facts))] H → va_D A [(h_this, .inr (7, [.int c_thrown, .ref h_s, .ref h_draft, .ref h_past, .int c_undos, .ref h_kept, .ref h_isKept, .ref h_facts, .int c_manyFacts, .ref h_text, .int c_typed, .int c_from, .int c_to, .int c_token, .int c_fault, .int c_hasHooks, .int c_hasTies, .int c_low, .int c_high])), (h_s, .inl (G.2 0, 24, .inl u2.2)), (h_facts, .inl (G.2 0, 24, .inl c_facts))] → va_S A s.heap H locs → ∀ (ls : Array Slot), lv_has ls 6 [(0, .ref h_this), (1, .int v1), (2, .int v2), (4, .int v4)] → W p l e rmX7_upBy s m args below meth c H locs 0 0 Q (F0 m 85 ls [.int j85_0, .int j85_1]) := by
            intro j85_0 j85_1 H locs hf hP hD hS ls hl
            rw [eJ85] at hf
            refine lv_iadd hx hb dX7_upBy_85 ?_
            refine lv_istore_n (lv' := [(3, .int (j85_1 + j85_0)), (0, .ref h_this), (1, .int v1), (2, .int v2), (4, .int v4)]) hx hb dX7_upBy_86 rfl hl (by decide) rfl (fun ls hl => ?_)
            exact hJ87 (j85_1 + j85_0) _ _ hf hP hD hS _ (lv_sub hl [1, 2, 3, 0, 4] rfl)
          refine lv_icmp_eq (tgt := 84) hx hb dX7_upBy_77 (by decide) (fun c9 => ?_) (fun c9 => ?_)
          · have hf := c_t hf c9
            refine lv_iconst (v := (0 : Int32)) hx hb dX7_upBy_84 (by decide) ?_
            exact hJ85 (0 : Int32) v3 _ _ hf hP hD hS _ (lv_sub hl [1, 2, 3, 5] rfl)
          · have hf := c_f hf c9
            refine lv_iconst (v := (1 : Int32)) hx hb dX7_upBy_80 (by decide) ?_
            refine lv_goto (tgt := 85) hx hb dX7_upBy_81 (by decide) ?_
            exact hJ85 (1 : Int32) v3 _ _ hf hP hD hS _ (lv_sub hl [1, 2, 3, 5] rfl)
        refine r_jn0 hf (fun J65 eJ65 hf => ?_)
        have hJ65 : ∀ (H : Heap) (locs : List Loc), J65 = some res → va_P G.1 CL [(h_this, .inr (7, [.int c_thrown, .ref h_s, .ref h_draft, .ref h_past, .int c_undos, .ref h_kept, .ref h_isKept, .ref h_facts, .int c_manyFacts, .ref h_text, .int c_typed, .int c_from, .int c_to, .int c_token, .int c_fault, .int c_hasHooks, .int c_hasTies, .int c_low, .int c_high])), (h_s, .inl (G.2 0, 24, .inl u2.2)), (h_facts, .inl (G.2 0, 24, .inl c_facts))] H → va_D A [(h_this, .inr (7, [.int c_thrown, .ref h_s, .ref h_draft, .ref h_past, .int c_undos, .ref h_kept, .ref h_isKept, .ref h_facts, .int c_manyFacts, .ref h_text, .int c_typed, .int c_from, .int c_to, .int c_token, .int c_fault, .int c_hasHooks, .int c_hasTies, .int c_low, .int c_high])), (h_s, .inl (G.2 0, 24, .inl u2.2)), (h_facts, .inl (G.2 0, 24, .inl c_facts))] → va_S A s.heap H locs → ∀ (ls : Array Slot), lv_has ls 6 [(0, .ref h_this), (1, .int v1), (2, .int v2), (3, .int v3), (4, .int v4)] → W p l e rmX7_upBy s m args below meth c H locs 0 0 Q (F0 m 65 ls []) := by
          intro H locs hf hP hD hS ls hl
          rw [eJ65] at hf
          refine lv_iconst (v := (0 : Int32)) hx hb dX7_upBy_65 (by decide) ?_
          exact hJ66 (0 : Int32) _ _ hf hP hD hS _ (lv_sub hl [0, 1, 2, 3, 4] rfl)
        refine lv_if_lt (tgt := 65) hx hb dX7_upBy_25 (by decide) (fun c9 => ?_) (fun c9 => ?_)
        · have hf := c_t hf c9
          exact hJ65 _ _ hf hP hD hS _ (lv_sub hl [0, 1, 2, 3, 4] rfl)
        · have hf := c_f hf c9
          refine lv_iload hx hb dX7_upBy_28 (lv_at hl 4 rfl) ?_
          refine lv_aload_n hx hb dX7_upBy_30 rfl (lv_at hl 0 rfl) ?_
          refine va_get (D := G.1) (cl := CL) (ci := 7) (C := RX7) (T := TX7) (N := 19) hx hb hts iX7_upBy_7 hown hK hP 0 rfl rfl 1 (by decide) (hts (.fieldLink RX7 7 "LoomCardsModel" "s" "[I") (List.mem_of_getElem? (i := 1) rfl)) (fun _ h9 => h9) rfl dX7_upBy_31 ?_
          refine lv_iconst (v := (0 : Int32)) hx hb dX7_upBy_34 (by decide) ?_
          refine r_iald (j := 0) hx hb hK hP 1 rfl (ix_in (n := 24) (by decide)) (by decide) dX7_upBy_35 ?_
          refine r_gd hf (fun g9 hf => ?_)
          refine lv_idiv hx hb dX7_upBy_36 (nz g9) ?_
          refine lv_iload_n hx hb dX7_upBy_37 rfl (lv_at hl 1 rfl) ?_
          refine lv_icmp_ne (tgt := 65) hx hb dX7_upBy_38 (by decide) (fun c9 => ?_) (fun c9 => ?_)
          · have hf := c_f hf c9
            exact hJ65 _ _ hf hP hD hS _ (lv_sub hl [0, 1, 2, 3, 4] rfl)
          · have hf := c_t hf c9
            refine lv_iload hx hb dX7_upBy_41 (lv_at hl 4 rfl) ?_
            refine lv_aload_n hx hb dX7_upBy_43 rfl (lv_at hl 0 rfl) ?_
            refine va_get (D := G.1) (cl := CL) (ci := 7) (C := RX7) (T := TX7) (N := 19) hx hb hts iX7_upBy_7 hown hK hP 0 rfl rfl 1 (by decide) (hts (.fieldLink RX7 7 "LoomCardsModel" "s" "[I") (List.mem_of_getElem? (i := 1) rfl)) (fun _ h9 => h9) rfl dX7_upBy_44 ?_
            refine lv_iconst (v := (0 : Int32)) hx hb dX7_upBy_47 (by decide) ?_
            refine r_iald (j := 0) hx hb hK hP 1 rfl (ix_in (n := 24) (by decide)) (by decide) dX7_upBy_48 ?_
            refine r_gd hf (fun g9 hf => ?_)
            refine lv_irem hx hb dX7_upBy_49 (nz g9) ?_
            refine lv_aload_n hx hb dX7_upBy_50 rfl (lv_at hl 0 rfl) ?_
            refine va_get (D := G.1) (cl := CL) (ci := 7) (C := RX7) (T := TX7) (N := 19) hx hb hts iX7_upBy_7 hown hK hP 0 rfl rfl 1 (by decide) (hts (.fieldLink RX7 7 "LoomCardsModel" "s" "[I") (List.mem_of_getElem? (i := 1) rfl)) (fun _ h9 => h9) rfl dX7_upBy_51 ?_
            refine lv_iconst (v := (4 : Int32)) hx hb dX7_upBy_54 (by decide) ?_
            refine lv_iload_n hx hb dX7_upBy_55 rfl (lv_at hl 2 rfl) ?_
            refine lv_iadd hx hb dX7_upBy_56 ?_
            refine r_gd hf (fun g9 hf => ?_)
            refine r_iald hx hb hK hP 1 rfl (ix_in g9) rfl dX7_upBy_57 ?_
            refine lv_icmp_ne (tgt := 65) hx hb dX7_upBy_58 (by decide) (fun c9 => ?_) (fun c9 => ?_)
            · have hf := c_f hf c9
              exact hJ65 _ _ hf hP hD hS _ (lv_sub hl [0, 1, 2, 3, 4] rfl)
            · have hf := c_t hf c9
              refine lv_iconst (v := (1 : Int32)) hx hb dX7_upBy_61 (by decide) ?_
              refine lv_goto (tgt := 66) hx hb dX7_upBy_62 (by decide) ?_
              exact hJ66 (1 : Int32) _ _ hf hP hD hS _ (lv_sub hl [0, 1, 2, 3, 4] rfl)
set_option maxHeartbeats 4000000 in
set_option maxRecDepth 100000 in
theorem kX7_upBy (h_this : Nat) (h_s : Nat) (h_draft : Nat) (h_past : Nat) (h_kept : Nat) (h_isKept : Nat) (h_facts : Nat) (h_text : Nat) (c_thrown : Int32) (c_undos : Int32) (c_manyFacts : Int32) (c_typed : Int32) (c_from : Int32) (c_to : Int32) (c_token : Int32) (c_fault : Int32) (c_hasHooks : Int32) (c_hasTies : Int32) (c_low : Int32) (c_high : Int32) (c_s : Nat → Int32) (c_facts : Nat → Int32) (v1 : Int32) (v2 : Int32) (C : Cx cX7_upBy (some .int) 6 RX7 wsX7_upBy G p s m args meth c) (hA : ∀ q : Nat, s.heap.size ≤ q → A q) (hP : va_P G.1 CL [(h_this, .inr (7, [.int c_thrown, .ref h_s, .ref h_draft, .ref h_past, .int c_undos, .ref h_kept, .ref h_isKept, .ref h_facts, .int c_manyFacts, .ref h_text, .int c_typed, .int c_from, .int c_to, .int c_token, .int c_fault, .int c_hasHooks, .int c_hasTies, .int c_low, .int c_high])), (h_s, .inl (G.2 0, 24, .inl c_s)), (h_facts, .inl (G.2 0, 24, .inl c_facts))] s.heap) (hD : va_D A [(h_this, .inr (7, [.int c_thrown, .ref h_s, .ref h_draft, .ref h_past, .int c_undos, .ref h_kept, .ref h_isKept, .ref h_facts, .int c_manyFacts, .ref h_text, .int c_typed, .int c_from, .int c_to, .int c_token, .int c_fault, .int c_hasHooks, .int c_hasTies, .int c_low, .int c_high])), (h_s, .inl (G.2 0, 24, .inl c_s)), (h_facts, .inl (G.2 0, 24, .inl c_facts))]) (hS : va_S A s.heap s.heap []) {res : Int32 × (Nat → Int32)} (kr : ∀ (pc : Nat) (ls : Array Slot) (H : Heap) (locs : List Loc), va_P G.1 CL [(h_this, .inr (7, [.int c_thrown, .ref h_s, .ref h_draft, .ref h_past, .int c_undos, .ref h_kept, .ref h_isKept, .ref h_facts, .int c_manyFacts, .ref h_text, .int c_typed, .int c_from, .int c_to, .int c_token, .int c_fault, .int c_hasHooks, .int c_hasTies, .int c_low, .int c_high])), (h_s, .inl (G.2 0, 24, .inl (res.2))), (h_facts, .inl (G.2 0, 24, .inl c_facts))] H → va_D A [(h_this, .inr (7, [.int c_thrown, .ref h_s, .ref h_draft, .ref h_past, .int c_undos, .ref h_kept, .ref h_isKept, .ref h_facts, .int c_manyFacts, .ref h_text, .int c_typed, .int c_from, .int c_to, .int c_token, .int c_fault, .int c_hasHooks, .int c_hasTies, .int c_low, .int c_high])), (h_s, .inl (G.2 0, 24, .inl (res.2))), (h_facts, .inl (G.2 0, 24, .inl c_facts))] → va_S A s.heap H locs → decode cX7_upBy pc = .ok (.ireturn, 1) → W p l e rmX7_upBy s m args below meth c H locs 0 0 Q (F0 m pc ls [.int res.1])) (hf : fX7_upBy c_manyFacts c_s c_facts v1 v2 = some res) {ls : Array Slot} (hl : lv_has ls 6 [(0, .ref h_this), (1, .int v1), (2, .int v2)]) : W p l e rmX7_upBy s m args below meth c s.heap [] 0 0 Q (F0 m 0 ls []) := by
  obtain ⟨hx, hb, hr, hlk, hml, hown, hts, hK⟩ := id C
  rw [fX7_upBy] at hf
  refine lv_iconst (v := (0 : Int32)) hx hb dX7_upBy_0 (by decide) ?_
  refine lv_istore_n (lv' := [(3, .int (0 : Int32)), (0, .ref h_this), (1, .int v1), (2, .int v2)]) hx hb dX7_upBy_1 rfl hl (by decide) rfl (fun ls hl => ?_)
  refine lv_iconst (v := (-1 : Int32)) hx hb dX7_upBy_2 (by decide) ?_
  refine lv_istore (lv' := [(4, .int (-1 : Int32)), (3, .int (0 : Int32)), (0, .ref h_this), (1, .int v1), (2, .int v2)]) hx hb dX7_upBy_3 hl (by decide) rfl (fun ls hl => ?_)
  refine kX7_upBy_L5 h_this h_s h_draft h_past h_kept h_isKept h_facts h_text c_thrown c_undos c_manyFacts c_typed c_from c_to c_token c_fault c_hasHooks c_hasTies c_low c_high c_facts v1 v2 C hA kr ?_ FU (0 : Int32) (-1 : Int32) c_s _ _ hf hP hD hS _ (lv_sub hl [2, 3, 4, 1, 0] rfl)
  intro v3_x4 c_s_x4 H locs hf hP hD hS ls hl
  refine lv_iload_n hx hb dX7_upBy_93 rfl (lv_at hl 0 rfl) ?_
  obtain rfl := Option.some.inj hf
  exact kr _ _ _ _ hP hD hS dX7_upBy_94
end SX7_upBy
set_option maxHeartbeats 4000000 in
set_option maxRecDepth 100000 in
theorem tX7_upBy (l : Launch) (G : GG) (h_this : Nat) (h_s : Nat) (h_draft : Nat) (h_past : Nat) (h_kept : Nat) (h_isKept : Nat) (h_facts : Nat) (h_text : Nat) (c_thrown : Int32) (c_undos : Int32) (c_manyFacts : Int32) (c_typed : Int32) (c_from : Int32) (c_to : Int32) (c_token : Int32) (c_fault : Int32) (c_hasHooks : Int32) (c_hasTies : Int32) (c_low : Int32) (c_high : Int32) (c_s : Nat → Int32) (c_facts : Nat → Int32) (v1 : Int32) (v2 : Int32) (res : Int32 × (Nat → Int32)) (hf : fX7_upBy c_manyFacts c_s c_facts v1 v2 = some res) : MWi l yX7_upBy wsX7_upBy rmX7_upBy G [.ref h_this, .int v1, .int v2] [(h_this, .inr (7, [.int c_thrown, .ref h_s, .ref h_draft, .ref h_past, .int c_undos, .ref h_kept, .ref h_isKept, .ref h_facts, .int c_manyFacts, .ref h_text, .int c_typed, .int c_from, .int c_to, .int c_token, .int c_fault, .int c_hasHooks, .int c_hasTies, .int c_low, .int c_high])), (h_s, .inl (G.2 0, 24, .inl c_s)), (h_facts, .inl (G.2 0, 24, .inl c_facts))] (res.1) [(h_this, .inr (7, [.int c_thrown, .ref h_s, .ref h_draft, .ref h_past, .int c_undos, .ref h_kept, .ref h_isKept, .ref h_facts, .int c_manyFacts, .ref h_text, .int c_typed, .int c_from, .int c_to, .int c_token, .int c_fault, .int c_hasHooks, .int c_hasTies, .int c_low, .int c_high])), (h_s, .inl (G.2 0, 24, .inl (res.2))), (h_facts, .inl (G.2 0, 24, .inl c_facts))] := MWi.of (plainFor_of_name (by decide +kernel)) rfl (Nat.le_of_ble_eq_true rfl) (fun p e s m below meth c A C hA hP hD hS ls hl => kX7_upBy h_this h_s h_draft h_past h_kept h_isKept h_facts h_text c_thrown c_undos c_manyFacts c_typed c_from c_to c_token c_fault c_hasHooks c_hasTies c_low c_high c_s c_facts v1 v2 C hA hP hD hS (fun pc ls H locs hP hD hS d => rWi C hP hD hS d) hf hl)
def fX7_look_L40 (k119 : Int32 → Int32 → (Nat → Int32) → Option (Int32 × Int32 × (Nat → Int32))) (c_manyFacts : Int32) (c_facts : Nat → Int32) (v1 : Int32) (v4 : Int32) : Nat → Int32 → Int32 → Int32 → (Nat → Int32) → Option (Int32 × Int32 × (Nat → Int32))
  | 0, _, _, _, _ => none
  | n + 1, v2, v3, v5, c_s => if (c_s 1) ≤ v5 then k119 v2 v3 c_s else (fX7_upBy c_manyFacts c_s c_facts v4 v5).bind (fun u2 => jn (fun (j79_0 : Int32) => jn (fun (j99_0 : Int32) => jn (fun (j112_0 : Int32) => fX7_look_L40 k119 c_manyFacts c_facts v1 v4 n j99_0 j112_0 (v5 + (1 : Int32)) u2.2) (fun J112 => if v3 ≤ j79_0 then J112 v3 else J112 j79_0)) (fun J99 => if v3 ≤ j79_0 then J99 v2 else J99 (((12 : Int32) * v4) + v5))) (fun J79 => if u2.1 ≤ (v1 - u2.1) then J79 (v1 - u2.1) else J79 u2.1))
def fX7_look_L21 (k125 : Int32 → (Nat → Int32) → Option (Int32 × Int32 × (Nat → Int32))) (c_manyFacts : Int32) (c_facts : Nat → Int32) (v1 : Int32) : Nat → Int32 → Int32 → Int32 → (Nat → Int32) → Option (Int32 × Int32 × (Nat → Int32))
  | 0, _, _, _, _ => none
  | n + 1, v2, v3, v4, c_s => if (c_s 2) ≤ v4 then k125 v2 c_s else if v1 ≤ (1 : Int32) then k125 v2 c_s else (fX7_look_L40 (fun (v2_x3 : Int32) (v3_x3 : Int32) (c_s_x3 : Nat → Int32) => fX7_look_L21 k125 c_manyFacts c_facts v1 n v2_x3 v3_x3 (v4 + (1 : Int32)) c_s_x3) c_manyFacts c_facts v1 v4 FU v2 v3 (0 : Int32) c_s)
def fX7_look (c_thrown : Int32) (c_manyFacts : Int32) (c_s : Nat → Int32) (c_facts : Nat → Int32)  : Option (Int32 × Int32 × (Nat → Int32)) := (fX7_suspects (0 : Int32) c_manyFacts c_s c_facts (0 : Int32)).bind (fun u1 => (fX7_look_L21 (fun (v2_x4 : Int32) (c_s_x4 : Nat → Int32) => some (v2_x4, u1.2.1, c_s_x4)) c_manyFacts c_facts u1.1 FU (-9 : Int32) (1000 : Int32) (0 : Int32) u1.2.2))
theorem iX7_look_7 : ∀ w ∈ wsX70, w ∈ wsX7_look := fun w h => List.mem_cons_of_mem _ (List.mem_append_right _ (h))
theorem hdX7_look : yX7_look.cls = RX7 ∧ yX7_look.cls ≠ "java/lang/invoke/MethodHandle" ∧ yX7_look.cls ≠ "java/lang/invoke/VarHandle" ∧ (parseMethodDescriptor yX7_look.desc).map (fun d => d.parameters.length) = some 0 := by decide +kernel
abbrev rmX7_look : Room := { frames := 5, cells := 0, slots := 0, locals := 113 }
section SX7_look
variable {p : Program} {l : Launch} {e : Env} {s : State} {m : MethodId} {args : Array Value} {below : List Frame} {meth : Method} {c : Code} {Q : State → Prop} {G : GG} {A : Nat → Prop}
set_option maxHeartbeats 4000000 in
set_option maxRecDepth 100000 in
theorem kX7_look_L40 (h_this : Nat) (h_s : Nat) (h_draft : Nat) (h_past : Nat) (h_kept : Nat) (h_isKept : Nat) (h_facts : Nat) (h_text : Nat) (c_thrown : Int32) (c_undos : Int32) (c_manyFacts : Int32) (c_typed : Int32) (c_from : Int32) (c_to : Int32) (c_token : Int32) (c_fault : Int32) (c_hasHooks : Int32) (c_hasTies : Int32) (c_low : Int32) (c_high : Int32) (c_facts : Nat → Int32) (v1 : Int32) (v4 : Int32) (C : Cx cX7_look (some .int) 8 RX7 wsX7_look G p s m args meth c) (hA : ∀ q : Nat, s.heap.size ≤ q → A q) {res : Int32 × Int32 × (Nat → Int32)} (kr : ∀ (pc : Nat) (ls : Array Slot) (H : Heap) (locs : List Loc), va_P G.1 CL [(h_this, .inr (7, [.int (res.2.1), .ref h_s, .ref h_draft, .ref h_past, .int c_undos, .ref h_kept, .ref h_isKept, .ref h_facts, .int c_manyFacts, .ref h_text, .int c_typed, .int c_from, .int c_to, .int c_token, .int c_fault, .int c_hasHooks, .int c_hasTies, .int c_low, .int c_high])), (h_s, .inl (G.2 0, 24, .inl (res.2.2))), (h_facts, .inl (G.2 0, 24, .inl c_facts))] H → va_D A [(h_this, .inr (7, [.int (res.2.1), .ref h_s, .ref h_draft, .ref h_past, .int c_undos, .ref h_kept, .ref h_isKept, .ref h_facts, .int c_manyFacts, .ref h_text, .int c_typed, .int c_from, .int c_to, .int c_token, .int c_fault, .int c_hasHooks, .int c_hasTies, .int c_low, .int c_high])), (h_s, .inl (G.2 0, 24, .inl (res.2.2))), (h_facts, .inl (G.2 0, 24, .inl c_facts))] → va_S A s.heap H locs → decode cX7_look pc = .ok (.ireturn, 1) → W p l e rmX7_look s m args below meth c H locs 0 0 Q (F0 m pc ls [.int res.1])) {k119 : Int32 → Int32 → (Nat → Int32) → Option (Int32 × Int32 × (Nat → Int32))} (hk119 : ∀ (v2 : Int32) (v3 : Int32) (c_s : Nat → Int32) (H : Heap) (locs : List Loc), k119 v2 v3 c_s = some res → va_P G.1 CL [(h_this, .inr (7, [.int c_thrown, .ref h_s, .ref h_draft, .ref h_past, .int c_undos, .ref h_kept, .ref h_isKept, .ref h_facts, .int c_manyFacts, .ref h_text, .int c_typed, .int c_from, .int c_to, .int c_token, .int c_fault, .int c_hasHooks, .int c_hasTies, .int c_low, .int c_high])), (h_s, .inl (G.2 0, 24, .inl c_s)), (h_facts, .inl (G.2 0, 24, .inl c_facts))] H → va_D A [(h_this, .inr (7, [.int c_thrown, .ref h_s, .ref h_draft, .ref h_past, .int c_undos, .ref h_kept, .ref h_isKept, .ref h_facts, .int c_manyFacts, .ref h_text, .int c_typed, .int c_from, .int c_to, .int c_token, .int c_fault, .int c_hasHooks, .int c_hasTies, .int c_low, .int c_high])), (h_s, .inl (G.2 0, 24, .inl c_s)), (h_facts, .inl (G.2 0, 24, .inl c_facts))] → va_S A s.heap H locs → ∀ (ls : Array Slot), lv_has ls 8 [(0, .ref h_this), (1, .int v1), (2, .int v2), (3, .int v3), (4, .int v4)] → W p l e rmX7_look s m args below meth c H locs 0 0 Q (F0 m 119 ls [])) : ∀ (n : Nat) (v2 : Int32) (v3 : Int32) (v5 : Int32) (c_s : Nat → Int32) (H : Heap) (locs : List Loc), fX7_look_L40 k119 c_manyFacts c_facts v1 v4 n v2 v3 v5 c_s = some res → va_P G.1 CL [(h_this, .inr (7, [.int c_thrown, .ref h_s, .ref h_draft, .ref h_past, .int c_undos, .ref h_kept, .ref h_isKept, .ref h_facts, .int c_manyFacts, .ref h_text, .int c_typed, .int c_from, .int c_to, .int c_token, .int c_fault, .int c_hasHooks, .int c_hasTies, .int c_low, .int c_high])), (h_s, .inl (G.2 0, 24, .inl c_s)), (h_facts, .inl (G.2 0, 24, .inl c_facts))] H → va_D A [(h_this, .inr (7, [.int c_thrown, .ref h_s, .ref h_draft, .ref h_past, .int c_undos, .ref h_kept, .ref h_isKept, .ref h_facts, .int c_manyFacts, .ref h_text, .int c_typed, .int c_from, .int c_to, .int c_token, .int c_fault, .int c_hasHooks, .int c_hasTies, .int c_low, .int c_high])), (h_s, .inl (G.2 0, 24, .inl c_s)), (h_facts, .inl (G.2 0, 24, .inl c_facts))] → va_S A s.heap H locs → ∀ (ls : Array Slot), lv_has ls 8 [(0, .ref h_this), (1, .int v1), (2, .int v2), (3, .int v3), (4, .int v4), (5, .int v5)] → W p l e rmX7_look s m args below meth c H locs 0 0 Q (F0 m 40 ls []) := by
  obtain ⟨hx, hb, hr, hlk, hml, hown, hts, hK⟩ := id C
  intro n
  induction n with
  | zero =>
    intro v2 v3 v5 c_s H locs hf
    cases hf
  | succ n ih =>
    intro v2 v3 v5 c_s H locs hf hP hD hS ls hl
    rw [fX7_look_L40] at hf
    refine lv_iload hx hb dX7_look_40 (lv_at hl 5 rfl) ?_
    refine lv_aload_n hx hb dX7_look_42 rfl (lv_at hl 0 rfl) ?_
    refine va_get (D := G.1) (cl := CL) (ci := 7) (C := RX7) (T := TX7) (N := 19) hx hb hts iX7_look_7 hown hK hP 0 rfl rfl 1 (by decide) (hts (.fieldLink RX7 7 "LoomCardsModel" "s" "[I") (List.mem_of_getElem? (i := 2) rfl)) (fun _ h9 => h9) rfl dX7_look_43 ?_
    refine lv_iconst (v := (1 : Int32)) hx hb dX7_look_46 (by decide) ?_
    refine r_iald (j := 1) hx hb hK hP 1 rfl (ix_in (n := 24) (by decide)) (by decide) dX7_look_47 ?_
    refine lv_icmp_ge (tgt := 119) hx hb dX7_look_48 (by decide) (fun c9 => ?_) (fun c9 => ?_)
    · have hf := c_t hf c9
      exact hk119 v2 v3 c_s _ _ hf hP hD hS _ (lv_sub hl [0, 1, 2, 3, 4] rfl)
    · have hf := c_f hf c9
      refine lv_aload_n hx hb dX7_look_51 rfl (lv_at hl 0 rfl) ?_
      refine lv_iload hx hb dX7_look_52 (lv_at hl 4 rfl) ?_
      refine lv_iload hx hb dX7_look_54 (lv_at hl 5 rfl) ?_
      refine r_bind hf (fun u2 hu2 hf => ?_)
      refine cWiV (ci := 7) (rest := []) (wr := []) (wf := [(h_this, .inr (7, [.int c_thrown, .ref h_s, .ref h_draft, .ref h_past, .int c_undos, .ref h_kept, .ref h_isKept, .ref h_facts, .int c_manyFacts, .ref h_text, .int c_typed, .int c_from, .int c_to, .int c_token, .int c_fault, .int c_hasHooks, .int c_hasTies, .int c_low, .int c_high])), (h_s, .inl (G.2 0, 24, .inl u2.2)), (h_facts, .inl (G.2 0, 24, .inl c_facts))]) ⟨hx, hb, hml, hown, hts⟩ hK (tX7_upBy l G h_this h_s h_draft h_past h_kept h_isKept h_facts h_text c_thrown c_undos c_manyFacts c_typed c_from c_to c_token c_fault c_hasHooks c_hasTies c_low c_high c_s c_facts v4 v5 u2 hu2) gX7_look_X7_upBy rfl hdX7_upBy rfl rfl rfl ⟨Nat.le_of_ble_eq_true rfl, Nat.le_of_ble_eq_true rfl⟩ hP hD hS hA [0, 1, 2] [] [0, 1, 2] rfl rfl rfl (by decide) (by decide) (by decide) (by decide) 0 rfl rfl rfl hl.1 (Nat.le_of_ble_eq_true rfl) rfl dX7_look_56 ⟨Nat.zero_le _, Nat.zero_le _⟩ (fun H locs hP hD hS => ?_)
      refine lv_istore (lv' := [(6, .int u2.1), (0, .ref h_this), (1, .int v1), (2, .int v2), (3, .int v3), (4, .int v4), (5, .int v5)]) hx hb dX7_look_59 hl (by decide) rfl (fun ls hl => ?_)
      refine lv_iload hx hb dX7_look_61 (lv_at hl 0 rfl) ?_
      refine lv_iload_n hx hb dX7_look_63 rfl (lv_at hl 2 rfl) ?_
      refine lv_iload hx hb dX7_look_64 (lv_at hl 0 rfl) ?_
      refine lv_isub hx hb dX7_look_66 ?_
      refine r_jn1 hf (fun J79 eJ79 hf => ?_)
      have hJ79 : ∀ (j79_0 : Int32) (H : Heap) (locs : List Loc), J79 j79_0 = some res → va_P G.1 CL [(h_this, .inr (7, [.int c_thrown, .ref h_s, .ref h_draft, .ref h_past, .int c_undos, .ref h_kept, .ref h_isKept, .ref h_facts, .int c_manyFacts, .ref h_text, .int c_typed, .int c_from, .int c_to, .int c_token, .int c_fault, .int c_hasHooks, .int c_hasTies, .int c_low, .int c_high])), (h_s, .inl (G.2 0, 24, .inl u2.2)), (h_facts, .inl (G.2 0, 24, .inl c_facts))] H → va_D A [(h_this, .inr (7, [.int c_thrown, .ref h_s, .ref h_draft, .ref h_past, .int c_undos, .ref h_kept, .ref h_isKept, .ref h_facts, .int c_manyFacts, .ref h_text, .int c_typed, .int c_from, .int c_to, .int c_token, .int c_fault, .int c_hasHooks, .int c_hasTies, .int c_low, .int c_high])), (h_s, .inl (G.2 0, 24, .inl u2.2)), (h_facts, .inl (G.2 0, 24, .inl c_facts))] → va_S A s.heap H locs → ∀ (ls : Array Slot), lv_has ls 8 [(0, .ref h_this), (1, .int v1), (2, .int v2), (3, .int v3), (4, .int v4), (5, .int v5)] → W p l e rmX7_look s m args below meth c H locs 0 0 Q (F0 m 79 ls [.int j79_0]) := by
        intro j79_0 H locs hf hP hD hS ls hl
        rw [eJ79] at hf
        refine lv_istore (lv' := [(7, .int j79_0), (0, .ref h_this), (1, .int v1), (2, .int v2), (3, .int v3), (4, .int v4), (5, .int v5)]) hx hb dX7_look_79 hl (by decide) rfl (fun ls hl => ?_)
        refine lv_iload hx hb dX7_look_81 (lv_at hl 0 rfl) ?_
        refine lv_iload_n hx hb dX7_look_83 rfl (lv_at hl 4 rfl) ?_
        refine r_jn1 hf (fun J99 eJ99 hf => ?_)
        have hJ99 : ∀ (j99_0 : Int32) (H : Heap) (locs : List Loc), J99 j99_0 = some res → va_P G.1 CL [(h_this, .inr (7, [.int c_thrown, .ref h_s, .ref h_draft, .ref h_past, .int c_undos, .ref h_kept, .ref h_isKept, .ref h_facts, .int c_manyFacts, .ref h_text, .int c_typed, .int c_from, .int c_to, .int c_token, .int c_fault, .int c_hasHooks, .int c_hasTies, .int c_low, .int c_high])), (h_s, .inl (G.2 0, 24, .inl u2.2)), (h_facts, .inl (G.2 0, 24, .inl c_facts))] H → va_D A [(h_this, .inr (7, [.int c_thrown, .ref h_s, .ref h_draft, .ref h_past, .int c_undos, .ref h_kept, .ref h_isKept, .ref h_facts, .int c_manyFacts, .ref h_text, .int c_typed, .int c_from, .int c_to, .int c_token, .int c_fault, .int c_hasHooks, .int c_hasTies, .int c_low, .int c_high])), (h_s, .inl (G.2 0, 24, .inl u2.2)), (h_facts, .inl (G.2 0, 24, .inl c_facts))] → va_S A s.heap H locs → ∀ (ls : Array Slot), lv_has ls 8 [(0, .ref h_this), (1, .int v1), (3, .int v3), (4, .int v4), (5, .int v5), (7, .int j79_0)] → W p l e rmX7_look s m args below meth c H locs 0 0 Q (F0 m 99 ls [.int j99_0]) := by
          intro j99_0 H locs hf hP hD hS ls hl
          rw [eJ99] at hf
          refine lv_istore_n (lv' := [(2, .int j99_0), (0, .ref h_this), (1, .int v1), (3, .int v3), (4, .int v4), (5, .int v5), (7, .int j79_0)]) hx hb dX7_look_99 rfl hl (by decide) rfl (fun ls hl => ?_)
          refine lv_iload hx hb dX7_look_100 (lv_at hl 6 rfl) ?_
          refine lv_iload_n hx hb dX7_look_102 rfl (lv_at hl 3 rfl) ?_
          refine r_jn1 hf (fun J112 eJ112 hf => ?_)
          have hJ112 : ∀ (j112_0 : Int32) (H : Heap) (locs : List Loc), J112 j112_0 = some res → va_P G.1 CL [(h_this, .inr (7, [.int c_thrown, .ref h_s, .ref h_draft, .ref h_past, .int c_undos, .ref h_kept, .ref h_isKept, .ref h_facts, .int c_manyFacts, .ref h_text, .int c_typed, .int c_from, .int c_to, .int c_token, .int c_fault, .int c_hasHooks, .int c_hasTies, .int c_low, .int c_high])), (h_s, .inl (G.2 0, 24, .inl u2.2)), (h_facts, .inl (G.2 0, 24, .inl c_facts))] H → va_D A [(h_this, .inr (7, [.int c_thrown, .ref h_s, .ref h_draft, .ref h_past, .int c_undos, .ref h_kept, .ref h_isKept, .ref h_facts, .int c_manyFacts, .ref h_text, .int c_typed, .int c_from, .int c_to, .int c_token, .int c_fault, .int c_hasHooks, .int c_hasTies, .int c_low, .int c_high])), (h_s, .inl (G.2 0, 24, .inl u2.2)), (h_facts, .inl (G.2 0, 24, .inl c_facts))] → va_S A s.heap H locs → ∀ (ls : Array Slot), lv_has ls 8 [(0, .ref h_this), (1, .int v1), (2, .int j99_0), (4, .int v4), (5, .int v5)] → W p l e rmX7_look s m args below meth c H locs 0 0 Q (F0 m 112 ls [.int j112_0]) := by
            intro j112_0 H locs hf hP hD hS ls hl
            rw [eJ112] at hf
            refine lv_istore_n (lv' := [(3, .int j112_0), (0, .ref h_this), (1, .int v1), (2, .int j99_0), (4, .int v4), (5, .int v5)]) hx hb dX7_look_112 rfl hl (by decide) rfl (fun ls hl => ?_)
            refine lv_iinc (v := (v5 + (1 : Int32))) (lv' := [(5, .int (v5 + (1 : Int32))), (3, .int j112_0), (0, .ref h_this), (1, .int v1), (2, .int j99_0), (4, .int v4)]) hx hb dX7_look_113 hl (k := 5) rfl rfl (by decide) rfl (fun ls hl => ?_)
            refine lv_goto (tgt := 40) hx hb dX7_look_116 (by decide) ?_
            exact ih j99_0 j112_0 (v5 + (1 : Int32)) u2.2 _ _ hf hP hD hS _ (lv_sub hl [2, 3, 4, 1, 5, 0] rfl)
          refine lv_icmp_ge (tgt := 111) hx hb dX7_look_103 (by decide) (fun c9 => ?_) (fun c9 => ?_)
          · have hf := c_t hf c9
            refine lv_iload_n hx hb dX7_look_111 rfl (lv_at hl 3 rfl) ?_
            exact hJ112 v3 _ _ hf hP hD hS _ (lv_sub hl [1, 2, 0, 4, 5] rfl)
          · have hf := c_f hf c9
            refine lv_iload hx hb dX7_look_106 (lv_at hl 6 rfl) ?_
            refine lv_goto (tgt := 112) hx hb dX7_look_108 (by decide) ?_
            exact hJ112 j79_0 _ _ hf hP hD hS _ (lv_sub hl [1, 2, 0, 4, 5] rfl)
        refine lv_icmp_ge (tgt := 98) hx hb dX7_look_84 (by decide) (fun c9 => ?_) (fun c9 => ?_)
        · have hf := c_t hf c9
          refine lv_iload_n hx hb dX7_look_98 rfl (lv_at hl 3 rfl) ?_
          exact hJ99 v2 _ _ hf hP hD hS _ (lv_sub hl [1, 2, 4, 5, 6, 0] rfl)
        · have hf := c_f hf c9
          refine lv_bipush (v := (12 : Int32)) hx hb dX7_look_87 (by decide) ?_
          refine lv_iload hx hb dX7_look_89 (lv_at hl 5 rfl) ?_
          refine lv_imul hx hb dX7_look_91 ?_
          refine lv_iload hx hb dX7_look_92 (lv_at hl 6 rfl) ?_
          refine lv_iadd hx hb dX7_look_94 ?_
          refine lv_goto (tgt := 99) hx hb dX7_look_95 (by decide) ?_
          exact hJ99 (((12 : Int32) * v4) + v5) _ _ hf hP hD hS _ (lv_sub hl [1, 2, 4, 5, 6, 0] rfl)
      refine lv_icmp_le (tgt := 75) hx hb dX7_look_67 (by decide) (fun c9 => ?_) (fun c9 => ?_)
      · have hf := c_t hf c9
        refine lv_iload_n hx hb dX7_look_75 rfl (lv_at hl 2 rfl) ?_
        refine lv_iload hx hb dX7_look_76 (lv_at hl 0 rfl) ?_
        refine lv_isub hx hb dX7_look_78 ?_
        exact hJ79 (v1 - u2.1) _ _ hf hP hD hS _ (lv_sub hl [1, 2, 3, 4, 5, 6] rfl)
      · have hf := c_f hf c9
        refine lv_iload hx hb dX7_look_70 (lv_at hl 0 rfl) ?_
        refine lv_goto (tgt := 79) hx hb dX7_look_72 (by decide) ?_
        exact hJ79 u2.1 _ _ hf hP hD hS _ (lv_sub hl [1, 2, 3, 4, 5, 6] rfl)
set_option maxHeartbeats 4000000 in
set_option maxRecDepth 100000 in
theorem kX7_look_L21 (h_this : Nat) (h_s : Nat) (h_draft : Nat) (h_past : Nat) (h_kept : Nat) (h_isKept : Nat) (h_facts : Nat) (h_text : Nat) (c_thrown : Int32) (c_undos : Int32) (c_manyFacts : Int32) (c_typed : Int32) (c_from : Int32) (c_to : Int32) (c_token : Int32) (c_fault : Int32) (c_hasHooks : Int32) (c_hasTies : Int32) (c_low : Int32) (c_high : Int32) (c_facts : Nat → Int32) (v1 : Int32) (C : Cx cX7_look (some .int) 8 RX7 wsX7_look G p s m args meth c) (hA : ∀ q : Nat, s.heap.size ≤ q → A q) {res : Int32 × Int32 × (Nat → Int32)} (kr : ∀ (pc : Nat) (ls : Array Slot) (H : Heap) (locs : List Loc), va_P G.1 CL [(h_this, .inr (7, [.int (res.2.1), .ref h_s, .ref h_draft, .ref h_past, .int c_undos, .ref h_kept, .ref h_isKept, .ref h_facts, .int c_manyFacts, .ref h_text, .int c_typed, .int c_from, .int c_to, .int c_token, .int c_fault, .int c_hasHooks, .int c_hasTies, .int c_low, .int c_high])), (h_s, .inl (G.2 0, 24, .inl (res.2.2))), (h_facts, .inl (G.2 0, 24, .inl c_facts))] H → va_D A [(h_this, .inr (7, [.int (res.2.1), .ref h_s, .ref h_draft, .ref h_past, .int c_undos, .ref h_kept, .ref h_isKept, .ref h_facts, .int c_manyFacts, .ref h_text, .int c_typed, .int c_from, .int c_to, .int c_token, .int c_fault, .int c_hasHooks, .int c_hasTies, .int c_low, .int c_high])), (h_s, .inl (G.2 0, 24, .inl (res.2.2))), (h_facts, .inl (G.2 0, 24, .inl c_facts))] → va_S A s.heap H locs → decode cX7_look pc = .ok (.ireturn, 1) → W p l e rmX7_look s m args below meth c H locs 0 0 Q (F0 m pc ls [.int res.1])) {k125 : Int32 → (Nat → Int32) → Option (Int32 × Int32 × (Nat → Int32))} (hk125 : ∀ (v2 : Int32) (c_s : Nat → Int32) (H : Heap) (locs : List Loc), k125 v2 c_s = some res → va_P G.1 CL [(h_this, .inr (7, [.int c_thrown, .ref h_s, .ref h_draft, .ref h_past, .int c_undos, .ref h_kept, .ref h_isKept, .ref h_facts, .int c_manyFacts, .ref h_text, .int c_typed, .int c_from, .int c_to, .int c_token, .int c_fault, .int c_hasHooks, .int c_hasTies, .int c_low, .int c_high])), (h_s, .inl (G.2 0, 24, .inl c_s)), (h_facts, .inl (G.2 0, 24, .inl c_facts))] H → va_D A [(h_this, .inr (7, [.int c_thrown, .ref h_s, .ref h_draft, .ref h_past, .int c_undos, .ref h_kept, .ref h_isKept, .ref h_facts, .int c_manyFacts, .ref h_text, .int c_typed, .int c_from, .int c_to, .int c_token, .int c_fault, .int c_hasHooks, .int c_hasTies, .int c_low, .int c_high])), (h_s, .inl (G.2 0, 24, .inl c_s)), (h_facts, .inl (G.2 0, 24, .inl c_facts))] → va_S A s.heap H locs → ∀ (ls : Array Slot), lv_has ls 8 [(2, .int v2)] → W p l e rmX7_look s m args below meth c H locs 0 0 Q (F0 m 125 ls [])) : ∀ (n : Nat) (v2 : Int32) (v3 : Int32) (v4 : Int32) (c_s : Nat → Int32) (H : Heap) (locs : List Loc), fX7_look_L21 k125 c_manyFacts c_facts v1 n v2 v3 v4 c_s = some res → va_P G.1 CL [(h_this, .inr (7, [.int c_thrown, .ref h_s, .ref h_draft, .ref h_past, .int c_undos, .ref h_kept, .ref h_isKept, .ref h_facts, .int c_manyFacts, .ref h_text, .int c_typed, .int c_from, .int c_to, .int c_token, .int c_fault, .int c_hasHooks, .int c_hasTies, .int c_low, .int c_high])), (h_s, .inl (G.2 0, 24, .inl c_s)), (h_facts, .inl (G.2 0, 24, .inl c_facts))] H → va_D A [(h_this, .inr (7, [.int c_thrown, .ref h_s, .ref h_draft, .ref h_past, .int c_undos, .ref h_kept, .ref h_isKept, .ref h_facts, .int c_manyFacts, .ref h_text, .int c_typed, .int c_from, .int c_to, .int c_token, .int c_fault, .int c_hasHooks, .int c_hasTies, .int c_low, .int c_high])), (h_s, .inl (G.2 0, 24, .inl c_s)), (h_facts, .inl (G.2 0, 24, .inl c_facts))] → va_S A s.heap H locs → ∀ (ls : Array Slot), lv_has ls 8 [(0, .ref h_this), (1, .int v1), (2, .int v2), (3, .int v3), (4, .int v4)] → W p l e rmX7_look s m args below meth c H locs 0 0 Q (F0 m 21 ls []) := by
  obtain ⟨hx, hb, hr, hlk, hml, hown, hts, hK⟩ := id C
  intro n
  induction n with
  | zero =>
    intro v2 v3 v4 c_s H locs hf
    cases hf
  | succ n ih =>
    intro v2 v3 v4 c_s H locs hf hP hD hS ls hl
    rw [fX7_look_L21] at hf
    refine lv_iload hx hb dX7_look_21 (lv_at hl 4 rfl) ?_
    refine lv_aload_n hx hb dX7_look_23 rfl (lv_at hl 0 rfl) ?_
    refine va_get (D := G.1) (cl := CL) (ci := 7) (C := RX7) (T := TX7) (N := 19) hx hb hts iX7_look_7 hown hK hP 0 rfl rfl 1 (by decide) (hts (.fieldLink RX7 7 "LoomCardsModel" "s" "[I") (List.mem_of_getElem? (i := 2) rfl)) (fun _ h9 => h9) rfl dX7_look_24 ?_
    refine lv_iconst (v := (2 : Int32)) hx hb dX7_look_27 (by decide) ?_
    refine r_iald (j := 2) hx hb hK hP 1 rfl (ix_in (n := 24) (by decide)) (by decide) dX7_look_28 ?_
    refine lv_icmp_ge (tgt := 125) hx hb dX7_look_29 (by decide) (fun c9 => ?_) (fun c9 => ?_)
    · have hf := c_t hf c9
      exact hk125 v2 c_s _ _ hf hP hD hS _ (lv_sub hl [2] rfl)
    · have hf := c_f hf c9
      refine lv_iload_n hx hb dX7_look_32 rfl (lv_at hl 1 rfl) ?_
      refine lv_iconst (v := (1 : Int32)) hx hb dX7_look_33 (by decide) ?_
      refine lv_icmp_le (tgt := 125) hx hb dX7_look_34 (by decide) (fun c9 => ?_) (fun c9 => ?_)
      · have hf := c_t hf c9
        exact hk125 v2 c_s _ _ hf hP hD hS _ (lv_sub hl [2] rfl)
      · have hf := c_f hf c9
        refine lv_iconst (v := (0 : Int32)) hx hb dX7_look_37 (by decide) ?_
        refine lv_istore (lv' := [(5, .int (0 : Int32)), (0, .ref h_this), (1, .int v1), (2, .int v2), (3, .int v3), (4, .int v4)]) hx hb dX7_look_38 hl (by decide) rfl (fun ls hl => ?_)
        refine kX7_look_L40 h_this h_s h_draft h_past h_kept h_isKept h_facts h_text c_thrown c_undos c_manyFacts c_typed c_from c_to c_token c_fault c_hasHooks c_hasTies c_low c_high c_facts v1 v4 C hA kr ?_ FU v2 v3 (0 : Int32) c_s _ _ hf hP hD hS _ (lv_sub hl [1, 2, 3, 4, 5, 0] rfl)
        intro v2_x3 v3_x3 c_s_x3 H locs hf hP hD hS ls hl
        refine lv_iinc (v := (v4 + (1 : Int32))) (lv' := [(4, .int (v4 + (1 : Int32))), (0, .ref h_this), (1, .int v1), (2, .int v2_x3), (3, .int v3_x3)]) hx hb dX7_look_119 hl (k := 4) rfl rfl (by decide) rfl (fun ls hl => ?_)
        refine lv_goto (tgt := 21) hx hb dX7_look_122 (by decide) ?_
        exact ih v2_x3 v3_x3 (v4 + (1 : Int32)) c_s_x3 _ _ hf hP hD hS _ (lv_sub hl [1, 2, 3, 4, 0] rfl)
set_option maxHeartbeats 4000000 in
set_option maxRecDepth 100000 in
theorem kX7_look (h_this : Nat) (h_s : Nat) (h_draft : Nat) (h_past : Nat) (h_kept : Nat) (h_isKept : Nat) (h_facts : Nat) (h_text : Nat) (c_thrown : Int32) (c_undos : Int32) (c_manyFacts : Int32) (c_typed : Int32) (c_from : Int32) (c_to : Int32) (c_token : Int32) (c_fault : Int32) (c_hasHooks : Int32) (c_hasTies : Int32) (c_low : Int32) (c_high : Int32) (c_s : Nat → Int32) (c_facts : Nat → Int32) (C : Cx cX7_look (some .int) 8 RX7 wsX7_look G p s m args meth c) (hA : ∀ q : Nat, s.heap.size ≤ q → A q) (hP : va_P G.1 CL [(h_this, .inr (7, [.int c_thrown, .ref h_s, .ref h_draft, .ref h_past, .int c_undos, .ref h_kept, .ref h_isKept, .ref h_facts, .int c_manyFacts, .ref h_text, .int c_typed, .int c_from, .int c_to, .int c_token, .int c_fault, .int c_hasHooks, .int c_hasTies, .int c_low, .int c_high])), (h_s, .inl (G.2 0, 24, .inl c_s)), (h_facts, .inl (G.2 0, 24, .inl c_facts))] s.heap) (hD : va_D A [(h_this, .inr (7, [.int c_thrown, .ref h_s, .ref h_draft, .ref h_past, .int c_undos, .ref h_kept, .ref h_isKept, .ref h_facts, .int c_manyFacts, .ref h_text, .int c_typed, .int c_from, .int c_to, .int c_token, .int c_fault, .int c_hasHooks, .int c_hasTies, .int c_low, .int c_high])), (h_s, .inl (G.2 0, 24, .inl c_s)), (h_facts, .inl (G.2 0, 24, .inl c_facts))]) (hS : va_S A s.heap s.heap []) {res : Int32 × Int32 × (Nat → Int32)} (kr : ∀ (pc : Nat) (ls : Array Slot) (H : Heap) (locs : List Loc), va_P G.1 CL [(h_this, .inr (7, [.int (res.2.1), .ref h_s, .ref h_draft, .ref h_past, .int c_undos, .ref h_kept, .ref h_isKept, .ref h_facts, .int c_manyFacts, .ref h_text, .int c_typed, .int c_from, .int c_to, .int c_token, .int c_fault, .int c_hasHooks, .int c_hasTies, .int c_low, .int c_high])), (h_s, .inl (G.2 0, 24, .inl (res.2.2))), (h_facts, .inl (G.2 0, 24, .inl c_facts))] H → va_D A [(h_this, .inr (7, [.int (res.2.1), .ref h_s, .ref h_draft, .ref h_past, .int c_undos, .ref h_kept, .ref h_isKept, .ref h_facts, .int c_manyFacts, .ref h_text, .int c_typed, .int c_from, .int c_to, .int c_token, .int c_fault, .int c_hasHooks, .int c_hasTies, .int c_low, .int c_high])), (h_s, .inl (G.2 0, 24, .inl (res.2.2))), (h_facts, .inl (G.2 0, 24, .inl c_facts))] → va_S A s.heap H locs → decode cX7_look pc = .ok (.ireturn, 1) → W p l e rmX7_look s m args below meth c H locs 0 0 Q (F0 m pc ls [.int res.1])) (hf : fX7_look c_thrown c_manyFacts c_s c_facts = some res) {ls : Array Slot} (hl : lv_has ls 8 [(0, .ref h_this)]) : W p l e rmX7_look s m args below meth c s.heap [] 0 0 Q (F0 m 0 ls []) := by
  obtain ⟨hx, hb, hr, hlk, hml, hown, hts, hK⟩ := id C
  rw [fX7_look] at hf
  refine lv_aload_n hx hb dX7_look_0 rfl (lv_at hl 0 rfl) ?_
  refine lv_iconst (v := (0 : Int32)) hx hb dX7_look_1 (by decide) ?_
  refine va_put (D := G.1) (cl := CL) (ci := 7) (v := .int (0 : Int32)) (ty := .int) (C := RX7) (T := TX7) (N := 19) hx hb hts iX7_look_7 tyX7 tyX7_ok nmX7 hown hK hP hD hS 0 rfl rfl 0 (by decide) (hts (.fieldLink RX7 37 "LoomCardsModel" "thrown" "I") (List.mem_of_getElem? (i := 1) rfl)) (fun _ h9 => h9) rfl (tyX7_ok 0 (by decide)) rfl rfl (Nat.le_of_ble_eq_true rfl) dX7_look_2 (fun H locs hP hD hS => ?_)
  have hP : va_P G.1 CL [(h_this, .inr (7, [.int (0 : Int32), .ref h_s, .ref h_draft, .ref h_past, .int c_undos, .ref h_kept, .ref h_isKept, .ref h_facts, .int c_manyFacts, .ref h_text, .int c_typed, .int c_from, .int c_to, .int c_token, .int c_fault, .int c_hasHooks, .int c_hasTies, .int c_low, .int c_high])), (h_s, .inl (G.2 0, 24, .inl c_s)), (h_facts, .inl (G.2 0, 24, .inl c_facts))] H := hP
  have hD : va_D A [(h_this, .inr (7, [.int (0 : Int32), .ref h_s, .ref h_draft, .ref h_past, .int c_undos, .ref h_kept, .ref h_isKept, .ref h_facts, .int c_manyFacts, .ref h_text, .int c_typed, .int c_from, .int c_to, .int c_token, .int c_fault, .int c_hasHooks, .int c_hasTies, .int c_low, .int c_high])), (h_s, .inl (G.2 0, 24, .inl c_s)), (h_facts, .inl (G.2 0, 24, .inl c_facts))] := hD
  refine lv_aload_n hx hb dX7_look_5 rfl (lv_at hl 0 rfl) ?_
  refine lv_iconst (v := (0 : Int32)) hx hb dX7_look_6 (by decide) ?_
  refine r_bind hf (fun u1 hu1 hf => ?_)
  refine cWiV (ci := 7) (rest := []) (wr := []) (wf := [(h_this, .inr (7, [.int u1.2.1, .ref h_s, .ref h_draft, .ref h_past, .int c_undos, .ref h_kept, .ref h_isKept, .ref h_facts, .int c_manyFacts, .ref h_text, .int c_typed, .int c_from, .int c_to, .int c_token, .int c_fault, .int c_hasHooks, .int c_hasTies, .int c_low, .int c_high])), (h_s, .inl (G.2 0, 24, .inl u1.2.2)), (h_facts, .inl (G.2 0, 24, .inl c_facts))]) ⟨hx, hb, hml, hown, hts⟩ hK (tX7_suspects l G h_this h_s h_draft h_past h_kept h_isKept h_facts h_text (0 : Int32) c_undos c_manyFacts c_typed c_from c_to c_token c_fault c_hasHooks c_hasTies c_low c_high c_s c_facts (0 : Int32) u1 hu1) gX7_look_X7_suspects rfl hdX7_suspects rfl rfl rfl ⟨Nat.le_of_ble_eq_true rfl, Nat.le_of_ble_eq_true rfl⟩ hP hD hS hA [0, 1, 2] [] [0, 1, 2] rfl rfl rfl (by decide) (by decide) (by decide) (by decide) 0 rfl rfl rfl hl.1 (Nat.le_of_ble_eq_true rfl) rfl dX7_look_7 ⟨Nat.zero_le _, Nat.zero_le _⟩ (fun H locs hP hD hS => ?_)
  refine lv_istore_n (lv' := [(1, .int u1.1), (0, .ref h_this)]) hx hb dX7_look_10 rfl hl (by decide) rfl (fun ls hl => ?_)
  refine lv_bipush (v := (-9 : Int32)) hx hb dX7_look_11 (by decide) ?_
  refine lv_istore_n (lv' := [(2, .int (-9 : Int32)), (1, .int u1.1), (0, .ref h_this)]) hx hb dX7_look_13 rfl hl (by decide) rfl (fun ls hl => ?_)
  refine lv_sipush (v := (1000 : Int32)) hx hb dX7_look_14 (by decide) ?_
  refine lv_istore_n (lv' := [(3, .int (1000 : Int32)), (2, .int (-9 : Int32)), (1, .int u1.1), (0, .ref h_this)]) hx hb dX7_look_17 rfl hl (by decide) rfl (fun ls hl => ?_)
  refine lv_iconst (v := (0 : Int32)) hx hb dX7_look_18 (by decide) ?_
  refine lv_istore (lv' := [(4, .int (0 : Int32)), (3, .int (1000 : Int32)), (2, .int (-9 : Int32)), (1, .int u1.1), (0, .ref h_this)]) hx hb dX7_look_19 hl (by decide) rfl (fun ls hl => ?_)
  refine kX7_look_L21 h_this h_s h_draft h_past h_kept h_isKept h_facts h_text u1.2.1 c_undos c_manyFacts c_typed c_from c_to c_token c_fault c_hasHooks c_hasTies c_low c_high c_facts u1.1 C hA kr ?_ FU (-9 : Int32) (1000 : Int32) (0 : Int32) u1.2.2 _ _ hf hP hD hS _ (lv_sub hl [4, 3, 2, 1, 0] rfl)
  intro v2_x4 c_s_x4 H locs hf hP hD hS ls hl
  refine lv_iload_n hx hb dX7_look_125 rfl (lv_at hl 0 rfl) ?_
  obtain rfl := Option.some.inj hf
  exact kr _ _ _ _ hP hD hS dX7_look_126
end SX7_look
set_option maxHeartbeats 4000000 in
set_option maxRecDepth 100000 in
theorem tX7_look (l : Launch) (G : GG) (h_this : Nat) (h_s : Nat) (h_draft : Nat) (h_past : Nat) (h_kept : Nat) (h_isKept : Nat) (h_facts : Nat) (h_text : Nat) (c_thrown : Int32) (c_undos : Int32) (c_manyFacts : Int32) (c_typed : Int32) (c_from : Int32) (c_to : Int32) (c_token : Int32) (c_fault : Int32) (c_hasHooks : Int32) (c_hasTies : Int32) (c_low : Int32) (c_high : Int32) (c_s : Nat → Int32) (c_facts : Nat → Int32) (res : Int32 × Int32 × (Nat → Int32)) (hf : fX7_look c_thrown c_manyFacts c_s c_facts = some res) : MWi l yX7_look wsX7_look rmX7_look G [.ref h_this] [(h_this, .inr (7, [.int c_thrown, .ref h_s, .ref h_draft, .ref h_past, .int c_undos, .ref h_kept, .ref h_isKept, .ref h_facts, .int c_manyFacts, .ref h_text, .int c_typed, .int c_from, .int c_to, .int c_token, .int c_fault, .int c_hasHooks, .int c_hasTies, .int c_low, .int c_high])), (h_s, .inl (G.2 0, 24, .inl c_s)), (h_facts, .inl (G.2 0, 24, .inl c_facts))] (res.1) [(h_this, .inr (7, [.int (res.2.1), .ref h_s, .ref h_draft, .ref h_past, .int c_undos, .ref h_kept, .ref h_isKept, .ref h_facts, .int c_manyFacts, .ref h_text, .int c_typed, .int c_from, .int c_to, .int c_token, .int c_fault, .int c_hasHooks, .int c_hasTies, .int c_low, .int c_high])), (h_s, .inl (G.2 0, 24, .inl (res.2.2))), (h_facts, .inl (G.2 0, 24, .inl c_facts))] := MWi.of (plainFor_of_name (by decide +kernel)) rfl (Nat.le_of_ble_eq_true rfl) (fun p e s m below meth c A C hA hP hD hS ls hl => kX7_look h_this h_s h_draft h_past h_kept h_isKept h_facts h_text c_thrown c_undos c_manyFacts c_typed c_from c_to c_token c_fault c_hasHooks c_hasTies c_low c_high c_s c_facts C hA hP hD hS (fun pc ls H locs hP hD hS d => rWi C hP hD hS d) hf hl)
def fX7_keep_L18 (k47 : (Nat → Int32) → Option (Int32 × Int32 × (Nat → Int32) × (Nat → Int32))) (c_s : Nat → Int32) (v1 : Int32) : Nat → Int32 → (Nat → Int32) → Option (Int32 × Int32 × (Nat → Int32) × (Nat → Int32))
  | 0, _, _ => none
  | n + 1, v2, c_kept => if (24 : Int32) ≤ v2 then k47 c_kept else gd (ix v2 24) (gd (ix (((24 : Int32) * v1) + v2) 48) (fX7_keep_L18 k47 c_s v1 n (v2 + (1 : Int32)) (upd c_kept (((24 : Int32) * v1) + v2).toNatClampNeg (c_s v2.toNatClampNeg))))
def fX7_keep (c_thrown : Int32) (c_s : Nat → Int32) (c_kept : Nat → Int32) (c_isKept : Nat → Int32) (v1 : Int32) : Option (Int32 × Int32 × (Nat → Int32) × (Nat → Int32)) := (fX7_in v1 (0 : Int32) (1 : Int32)).bind (fun u1 => if u1 = 0 then some ((-1 : Int32), (0 : Int32), c_kept, c_isKept) else (fX7_keep_L18 (fun (c_kept_x2 : Nat → Int32) => gd (ix v1 2) (some ((c_s 2), (0 : Int32), c_kept_x2, (upd c_isKept v1.toNatClampNeg (vp_nar .boolean (1 : Int32)))))) c_s v1 FU (0 : Int32) c_kept))
theorem iX7_keep_7 : ∀ w ∈ wsX70, w ∈ wsX7_keep := fun w h => List.mem_cons_of_mem _ (List.mem_append_right _ (h))
theorem hdX7_keep : yX7_keep.cls = RX7 ∧ yX7_keep.cls ≠ "java/lang/invoke/MethodHandle" ∧ yX7_keep.cls ≠ "java/lang/invoke/VarHandle" ∧ (parseMethodDescriptor yX7_keep.desc).map (fun d => d.parameters.length) = some 1 := by decide +kernel
abbrev rmX7_keep : Room := { frames := 1, cells := 0, slots := 0, locals := 22 }
section SX7_keep
variable {p : Program} {l : Launch} {e : Env} {s : State} {m : MethodId} {args : Array Value} {below : List Frame} {meth : Method} {c : Code} {Q : State → Prop} {G : GG} {A : Nat → Prop}
set_option maxHeartbeats 4000000 in
set_option maxRecDepth 100000 in
theorem kX7_keep_L18 (h_this : Nat) (h_s : Nat) (h_draft : Nat) (h_past : Nat) (h_kept : Nat) (h_isKept : Nat) (h_facts : Nat) (h_text : Nat) (c_thrown : Int32) (c_undos : Int32) (c_manyFacts : Int32) (c_typed : Int32) (c_from : Int32) (c_to : Int32) (c_token : Int32) (c_fault : Int32) (c_hasHooks : Int32) (c_hasTies : Int32) (c_low : Int32) (c_high : Int32) (c_s : Nat → Int32) (c_isKept : Nat → Int32) (v1 : Int32) (C : Cx cX7_keep (some .int) 3 RX7 wsX7_keep G p s m args meth c) (hA : ∀ q : Nat, s.heap.size ≤ q → A q) {res : Int32 × Int32 × (Nat → Int32) × (Nat → Int32)} (kr : ∀ (pc : Nat) (ls : Array Slot) (H : Heap) (locs : List Loc), va_P G.1 CL [(h_this, .inr (7, [.int (res.2.1), .ref h_s, .ref h_draft, .ref h_past, .int c_undos, .ref h_kept, .ref h_isKept, .ref h_facts, .int c_manyFacts, .ref h_text, .int c_typed, .int c_from, .int c_to, .int c_token, .int c_fault, .int c_hasHooks, .int c_hasTies, .int c_low, .int c_high])), (h_s, .inl (G.2 0, 24, .inl c_s)), (h_kept, .inl (G.2 0, 48, .inl (res.2.2.1))), (h_isKept, .inl (G.2 2, 2, .inl (res.2.2.2)))] H → va_D A [(h_this, .inr (7, [.int (res.2.1), .ref h_s, .ref h_draft, .ref h_past, .int c_undos, .ref h_kept, .ref h_isKept, .ref h_facts, .int c_manyFacts, .ref h_text, .int c_typed, .int c_from, .int c_to, .int c_token, .int c_fault, .int c_hasHooks, .int c_hasTies, .int c_low, .int c_high])), (h_s, .inl (G.2 0, 24, .inl c_s)), (h_kept, .inl (G.2 0, 48, .inl (res.2.2.1))), (h_isKept, .inl (G.2 2, 2, .inl (res.2.2.2)))] → va_S A s.heap H locs → decode cX7_keep pc = .ok (.ireturn, 1) → W p l e rmX7_keep s m args below meth c H locs 0 0 Q (F0 m pc ls [.int res.1])) {k47 : (Nat → Int32) → Option (Int32 × Int32 × (Nat → Int32) × (Nat → Int32))} (hk47 : ∀ (c_kept : Nat → Int32) (H : Heap) (locs : List Loc), k47 c_kept = some res → va_P G.1 CL [(h_this, .inr (7, [.int c_thrown, .ref h_s, .ref h_draft, .ref h_past, .int c_undos, .ref h_kept, .ref h_isKept, .ref h_facts, .int c_manyFacts, .ref h_text, .int c_typed, .int c_from, .int c_to, .int c_token, .int c_fault, .int c_hasHooks, .int c_hasTies, .int c_low, .int c_high])), (h_s, .inl (G.2 0, 24, .inl c_s)), (h_kept, .inl (G.2 0, 48, .inl c_kept)), (h_isKept, .inl (G.2 2, 2, .inl c_isKept))] H → va_D A [(h_this, .inr (7, [.int c_thrown, .ref h_s, .ref h_draft, .ref h_past, .int c_undos, .ref h_kept, .ref h_isKept, .ref h_facts, .int c_manyFacts, .ref h_text, .int c_typed, .int c_from, .int c_to, .int c_token, .int c_fault, .int c_hasHooks, .int c_hasTies, .int c_low, .int c_high])), (h_s, .inl (G.2 0, 24, .inl c_s)), (h_kept, .inl (G.2 0, 48, .inl c_kept)), (h_isKept, .inl (G.2 2, 2, .inl c_isKept))] → va_S A s.heap H locs → ∀ (ls : Array Slot), lv_has ls 3 [(0, .ref h_this), (1, .int v1)] → W p l e rmX7_keep s m args below meth c H locs 0 0 Q (F0 m 47 ls [])) : ∀ (n : Nat) (v2 : Int32) (c_kept : Nat → Int32) (H : Heap) (locs : List Loc), fX7_keep_L18 k47 c_s v1 n v2 c_kept = some res → va_P G.1 CL [(h_this, .inr (7, [.int c_thrown, .ref h_s, .ref h_draft, .ref h_past, .int c_undos, .ref h_kept, .ref h_isKept, .ref h_facts, .int c_manyFacts, .ref h_text, .int c_typed, .int c_from, .int c_to, .int c_token, .int c_fault, .int c_hasHooks, .int c_hasTies, .int c_low, .int c_high])), (h_s, .inl (G.2 0, 24, .inl c_s)), (h_kept, .inl (G.2 0, 48, .inl c_kept)), (h_isKept, .inl (G.2 2, 2, .inl c_isKept))] H → va_D A [(h_this, .inr (7, [.int c_thrown, .ref h_s, .ref h_draft, .ref h_past, .int c_undos, .ref h_kept, .ref h_isKept, .ref h_facts, .int c_manyFacts, .ref h_text, .int c_typed, .int c_from, .int c_to, .int c_token, .int c_fault, .int c_hasHooks, .int c_hasTies, .int c_low, .int c_high])), (h_s, .inl (G.2 0, 24, .inl c_s)), (h_kept, .inl (G.2 0, 48, .inl c_kept)), (h_isKept, .inl (G.2 2, 2, .inl c_isKept))] → va_S A s.heap H locs → ∀ (ls : Array Slot), lv_has ls 3 [(0, .ref h_this), (1, .int v1), (2, .int v2)] → W p l e rmX7_keep s m args below meth c H locs 0 0 Q (F0 m 18 ls []) := by
  obtain ⟨hx, hb, hr, hlk, hml, hown, hts, hK⟩ := id C
  intro n
  induction n with
  | zero =>
    intro v2 c_kept H locs hf
    cases hf
  | succ n ih =>
    intro v2 c_kept H locs hf hP hD hS ls hl
    rw [fX7_keep_L18] at hf
    refine lv_iload_n hx hb dX7_keep_18 rfl (lv_at hl 2 rfl) ?_
    refine lv_bipush (v := (24 : Int32)) hx hb dX7_keep_19 (by decide) ?_
    refine lv_icmp_ge (tgt := 47) hx hb dX7_keep_21 (by decide) (fun c9 => ?_) (fun c9 => ?_)
    · have hf := c_t hf c9
      exact hk47 c_kept _ _ hf hP hD hS _ (lv_sub hl [0, 1] rfl)
    · have hf := c_f hf c9
      refine lv_aload_n hx hb dX7_keep_24 rfl (lv_at hl 0 rfl) ?_
      refine va_get (D := G.1) (cl := CL) (ci := 7) (C := RX7) (T := TX7) (N := 19) hx hb hts iX7_keep_7 hown hK hP 0 rfl rfl 5 (by decide) (hts (.fieldLink RX7 19 "LoomCardsModel" "kept" "[I") (List.mem_of_getElem? (i := 2) rfl)) (fun _ h9 => h9) rfl dX7_keep_25 ?_
      refine lv_bipush (v := (24 : Int32)) hx hb dX7_keep_28 (by decide) ?_
      refine lv_iload_n hx hb dX7_keep_30 rfl (lv_at hl 1 rfl) ?_
      refine lv_imul hx hb dX7_keep_31 ?_
      refine lv_iload_n hx hb dX7_keep_32 rfl (lv_at hl 2 rfl) ?_
      refine lv_iadd hx hb dX7_keep_33 ?_
      refine lv_aload_n hx hb dX7_keep_34 rfl (lv_at hl 0 rfl) ?_
      refine va_get (D := G.1) (cl := CL) (ci := 7) (C := RX7) (T := TX7) (N := 19) hx hb hts iX7_keep_7 hown hK hP 0 rfl rfl 1 (by decide) (hts (.fieldLink RX7 7 "LoomCardsModel" "s" "[I") (List.mem_of_getElem? (i := 3) rfl)) (fun _ h9 => h9) rfl dX7_keep_35 ?_
      refine lv_iload_n hx hb dX7_keep_38 rfl (lv_at hl 2 rfl) ?_
      refine r_gd hf (fun g9 hf => ?_)
      refine r_iald hx hb hK hP 1 rfl (ix_in g9) rfl dX7_keep_39 ?_
      refine r_gd hf (fun g9 hf => ?_)
      refine r_iast hx hb hK hP hD hS 2 rfl (ix_in g9) rfl dX7_keep_40 (fun H locs hP hD hS => ?_)
      have hP : va_P G.1 CL [(h_this, .inr (7, [.int c_thrown, .ref h_s, .ref h_draft, .ref h_past, .int c_undos, .ref h_kept, .ref h_isKept, .ref h_facts, .int c_manyFacts, .ref h_text, .int c_typed, .int c_from, .int c_to, .int c_token, .int c_fault, .int c_hasHooks, .int c_hasTies, .int c_low, .int c_high])), (h_s, .inl (G.2 0, 24, .inl c_s)), (h_kept, .inl (G.2 0, 48, .inl (upd c_kept (((24 : Int32) * v1) + v2).toNatClampNeg (c_s v2.toNatClampNeg)))), (h_isKept, .inl (G.2 2, 2, .inl c_isKept))] H := hP
      have hD : va_D A [(h_this, .inr (7, [.int c_thrown, .ref h_s, .ref h_draft, .ref h_past, .int c_undos, .ref h_kept, .ref h_isKept, .ref h_facts, .int c_manyFacts, .ref h_text, .int c_typed, .int c_from, .int c_to, .int c_token, .int c_fault, .int c_hasHooks, .int c_hasTies, .int c_low, .int c_high])), (h_s, .inl (G.2 0, 24, .inl c_s)), (h_kept, .inl (G.2 0, 48, .inl (upd c_kept (((24 : Int32) * v1) + v2).toNatClampNeg (c_s v2.toNatClampNeg)))), (h_isKept, .inl (G.2 2, 2, .inl c_isKept))] := hD
      refine lv_iinc (v := (v2 + (1 : Int32))) (lv' := [(2, .int (v2 + (1 : Int32))), (0, .ref h_this), (1, .int v1)]) hx hb dX7_keep_41 hl (k := 2) rfl rfl (by decide) rfl (fun ls hl => ?_)
      refine lv_goto (tgt := 18) hx hb dX7_keep_44 (by decide) ?_
      exact ih (v2 + (1 : Int32)) (upd c_kept (((24 : Int32) * v1) + v2).toNatClampNeg (c_s v2.toNatClampNeg)) _ _ hf hP hD hS _ (lv_sub hl [1, 2, 0] rfl)
set_option maxHeartbeats 4000000 in
set_option maxRecDepth 100000 in
theorem kX7_keep (h_this : Nat) (h_s : Nat) (h_draft : Nat) (h_past : Nat) (h_kept : Nat) (h_isKept : Nat) (h_facts : Nat) (h_text : Nat) (c_thrown : Int32) (c_undos : Int32) (c_manyFacts : Int32) (c_typed : Int32) (c_from : Int32) (c_to : Int32) (c_token : Int32) (c_fault : Int32) (c_hasHooks : Int32) (c_hasTies : Int32) (c_low : Int32) (c_high : Int32) (c_s : Nat → Int32) (c_kept : Nat → Int32) (c_isKept : Nat → Int32) (v1 : Int32) (C : Cx cX7_keep (some .int) 3 RX7 wsX7_keep G p s m args meth c) (hA : ∀ q : Nat, s.heap.size ≤ q → A q) (hP : va_P G.1 CL [(h_this, .inr (7, [.int c_thrown, .ref h_s, .ref h_draft, .ref h_past, .int c_undos, .ref h_kept, .ref h_isKept, .ref h_facts, .int c_manyFacts, .ref h_text, .int c_typed, .int c_from, .int c_to, .int c_token, .int c_fault, .int c_hasHooks, .int c_hasTies, .int c_low, .int c_high])), (h_s, .inl (G.2 0, 24, .inl c_s)), (h_kept, .inl (G.2 0, 48, .inl c_kept)), (h_isKept, .inl (G.2 2, 2, .inl c_isKept))] s.heap) (hD : va_D A [(h_this, .inr (7, [.int c_thrown, .ref h_s, .ref h_draft, .ref h_past, .int c_undos, .ref h_kept, .ref h_isKept, .ref h_facts, .int c_manyFacts, .ref h_text, .int c_typed, .int c_from, .int c_to, .int c_token, .int c_fault, .int c_hasHooks, .int c_hasTies, .int c_low, .int c_high])), (h_s, .inl (G.2 0, 24, .inl c_s)), (h_kept, .inl (G.2 0, 48, .inl c_kept)), (h_isKept, .inl (G.2 2, 2, .inl c_isKept))]) (hS : va_S A s.heap s.heap []) {res : Int32 × Int32 × (Nat → Int32) × (Nat → Int32)} (kr : ∀ (pc : Nat) (ls : Array Slot) (H : Heap) (locs : List Loc), va_P G.1 CL [(h_this, .inr (7, [.int (res.2.1), .ref h_s, .ref h_draft, .ref h_past, .int c_undos, .ref h_kept, .ref h_isKept, .ref h_facts, .int c_manyFacts, .ref h_text, .int c_typed, .int c_from, .int c_to, .int c_token, .int c_fault, .int c_hasHooks, .int c_hasTies, .int c_low, .int c_high])), (h_s, .inl (G.2 0, 24, .inl c_s)), (h_kept, .inl (G.2 0, 48, .inl (res.2.2.1))), (h_isKept, .inl (G.2 2, 2, .inl (res.2.2.2)))] H → va_D A [(h_this, .inr (7, [.int (res.2.1), .ref h_s, .ref h_draft, .ref h_past, .int c_undos, .ref h_kept, .ref h_isKept, .ref h_facts, .int c_manyFacts, .ref h_text, .int c_typed, .int c_from, .int c_to, .int c_token, .int c_fault, .int c_hasHooks, .int c_hasTies, .int c_low, .int c_high])), (h_s, .inl (G.2 0, 24, .inl c_s)), (h_kept, .inl (G.2 0, 48, .inl (res.2.2.1))), (h_isKept, .inl (G.2 2, 2, .inl (res.2.2.2)))] → va_S A s.heap H locs → decode cX7_keep pc = .ok (.ireturn, 1) → W p l e rmX7_keep s m args below meth c H locs 0 0 Q (F0 m pc ls [.int res.1])) (hf : fX7_keep c_thrown c_s c_kept c_isKept v1 = some res) {ls : Array Slot} (hl : lv_has ls 3 [(0, .ref h_this), (1, .int v1)]) : W p l e rmX7_keep s m args below meth c s.heap [] 0 0 Q (F0 m 0 ls []) := by
  obtain ⟨hx, hb, hr, hlk, hml, hown, hts, hK⟩ := id C
  rw [fX7_keep] at hf
  refine lv_aload_n hx hb dX7_keep_0 rfl (lv_at hl 0 rfl) ?_
  refine lv_iconst (v := (0 : Int32)) hx hb dX7_keep_1 (by decide) ?_
  refine va_put (D := G.1) (cl := CL) (ci := 7) (v := .int (0 : Int32)) (ty := .int) (C := RX7) (T := TX7) (N := 19) hx hb hts iX7_keep_7 tyX7 tyX7_ok nmX7 hown hK hP hD hS 0 rfl rfl 0 (by decide) (hts (.fieldLink RX7 37 "LoomCardsModel" "thrown" "I") (List.mem_of_getElem? (i := 1) rfl)) (fun _ h9 => h9) rfl (tyX7_ok 0 (by decide)) rfl rfl (Nat.le_of_ble_eq_true rfl) dX7_keep_2 (fun H locs hP hD hS => ?_)
  have hP : va_P G.1 CL [(h_this, .inr (7, [.int (0 : Int32), .ref h_s, .ref h_draft, .ref h_past, .int c_undos, .ref h_kept, .ref h_isKept, .ref h_facts, .int c_manyFacts, .ref h_text, .int c_typed, .int c_from, .int c_to, .int c_token, .int c_fault, .int c_hasHooks, .int c_hasTies, .int c_low, .int c_high])), (h_s, .inl (G.2 0, 24, .inl c_s)), (h_kept, .inl (G.2 0, 48, .inl c_kept)), (h_isKept, .inl (G.2 2, 2, .inl c_isKept))] H := hP
  have hD : va_D A [(h_this, .inr (7, [.int (0 : Int32), .ref h_s, .ref h_draft, .ref h_past, .int c_undos, .ref h_kept, .ref h_isKept, .ref h_facts, .int c_manyFacts, .ref h_text, .int c_typed, .int c_from, .int c_to, .int c_token, .int c_fault, .int c_hasHooks, .int c_hasTies, .int c_low, .int c_high])), (h_s, .inl (G.2 0, 24, .inl c_s)), (h_kept, .inl (G.2 0, 48, .inl c_kept)), (h_isKept, .inl (G.2 2, 2, .inl c_isKept))] := hD
  refine lv_iload_n hx hb dX7_keep_5 rfl (lv_at hl 1 rfl) ?_
  refine lv_iconst (v := (0 : Int32)) hx hb dX7_keep_6 (by decide) ?_
  refine lv_iconst (v := (1 : Int32)) hx hb dX7_keep_7 (by decide) ?_
  refine r_bind hf (fun u1 hu1 hf => ?_)
  refine cRiS (rest := []) ⟨hx, hb, hml, hown, hts⟩ hK (tX7_in l G v1 (0 : Int32) (1 : Int32) u1 hu1) gX7_keep_X7_in rfl hdX7_in rfl rfl rfl ⟨Nat.le_of_ble_eq_true rfl, Nat.le_of_ble_eq_true rfl⟩ hP [] rfl hl.1 (Nat.le_of_ble_eq_true rfl) rfl dX7_keep_8 ⟨Nat.zero_le _, Nat.zero_le _⟩ ?_
  refine lv_if_ne (tgt := 16) hx hb dX7_keep_11 (by decide) (fun c9 => ?_) (fun c9 => ?_)
  · have hf := c_f hf c9
    refine lv_iconst (v := (0 : Int32)) hx hb dX7_keep_16 (by decide) ?_
    refine lv_istore_n (lv' := [(2, .int (0 : Int32)), (0, .ref h_this), (1, .int v1)]) hx hb dX7_keep_17 rfl hl (by decide) rfl (fun ls hl => ?_)
    refine kX7_keep_L18 h_this h_s h_draft h_past h_kept h_isKept h_facts h_text (0 : Int32) c_undos c_manyFacts c_typed c_from c_to c_token c_fault c_hasHooks c_hasTies c_low c_high c_s c_isKept v1 C hA kr ?_ FU (0 : Int32) c_kept _ _ hf hP hD hS _ (lv_sub hl [1, 2, 0] rfl)
    intro c_kept_x2 H locs hf hP hD hS ls hl
    refine lv_aload_n hx hb dX7_keep_47 rfl (lv_at hl 0 rfl) ?_
    refine va_get (D := G.1) (cl := CL) (ci := 7) (C := RX7) (T := TX7) (N := 19) hx hb hts iX7_keep_7 hown hK hP 0 rfl rfl 6 (by decide) (hts (.fieldLink RX7 22 "LoomCardsModel" "isKept" "[Z") (List.mem_of_getElem? (i := 4) rfl)) (fun _ h9 => h9) rfl dX7_keep_48 ?_
    refine lv_iload_n hx hb dX7_keep_51 rfl (lv_at hl 1 rfl) ?_
    refine lv_iconst (v := (1 : Int32)) hx hb dX7_keep_52 (by decide) ?_
    refine r_gd hf (fun g9 hf => ?_)
    refine r_zast hx hb hK hP hD hS 3 rfl (ix_in g9) rfl dX7_keep_53 (fun H locs hP hD hS => ?_)
    have hP : va_P G.1 CL [(h_this, .inr (7, [.int (0 : Int32), .ref h_s, .ref h_draft, .ref h_past, .int c_undos, .ref h_kept, .ref h_isKept, .ref h_facts, .int c_manyFacts, .ref h_text, .int c_typed, .int c_from, .int c_to, .int c_token, .int c_fault, .int c_hasHooks, .int c_hasTies, .int c_low, .int c_high])), (h_s, .inl (G.2 0, 24, .inl c_s)), (h_kept, .inl (G.2 0, 48, .inl c_kept_x2)), (h_isKept, .inl (G.2 2, 2, .inl (upd c_isKept v1.toNatClampNeg (vp_nar .boolean (1 : Int32)))))] H := hP
    have hD : va_D A [(h_this, .inr (7, [.int (0 : Int32), .ref h_s, .ref h_draft, .ref h_past, .int c_undos, .ref h_kept, .ref h_isKept, .ref h_facts, .int c_manyFacts, .ref h_text, .int c_typed, .int c_from, .int c_to, .int c_token, .int c_fault, .int c_hasHooks, .int c_hasTies, .int c_low, .int c_high])), (h_s, .inl (G.2 0, 24, .inl c_s)), (h_kept, .inl (G.2 0, 48, .inl c_kept_x2)), (h_isKept, .inl (G.2 2, 2, .inl (upd c_isKept v1.toNatClampNeg (vp_nar .boolean (1 : Int32)))))] := hD
    refine lv_aload_n hx hb dX7_keep_54 rfl (lv_at hl 0 rfl) ?_
    refine va_get (D := G.1) (cl := CL) (ci := 7) (C := RX7) (T := TX7) (N := 19) hx hb hts iX7_keep_7 hown hK hP 0 rfl rfl 1 (by decide) (hts (.fieldLink RX7 7 "LoomCardsModel" "s" "[I") (List.mem_of_getElem? (i := 3) rfl)) (fun _ h9 => h9) rfl dX7_keep_55 ?_
    refine lv_iconst (v := (2 : Int32)) hx hb dX7_keep_58 (by decide) ?_
    refine r_iald (j := 2) hx hb hK hP 1 rfl (ix_in (n := 24) (by decide)) (by decide) dX7_keep_59 ?_
    obtain rfl := Option.some.inj hf
    exact kr _ _ _ _ hP hD hS dX7_keep_60
  · have hf := c_t hf c9
    refine lv_iconst (v := (-1 : Int32)) hx hb dX7_keep_14 (by decide) ?_
    obtain rfl := Option.some.inj hf
    exact kr _ _ _ _ hP hD hS dX7_keep_15
end SX7_keep
set_option maxHeartbeats 4000000 in
set_option maxRecDepth 100000 in
theorem tX7_keep (l : Launch) (G : GG) (h_this : Nat) (h_s : Nat) (h_draft : Nat) (h_past : Nat) (h_kept : Nat) (h_isKept : Nat) (h_facts : Nat) (h_text : Nat) (c_thrown : Int32) (c_undos : Int32) (c_manyFacts : Int32) (c_typed : Int32) (c_from : Int32) (c_to : Int32) (c_token : Int32) (c_fault : Int32) (c_hasHooks : Int32) (c_hasTies : Int32) (c_low : Int32) (c_high : Int32) (c_s : Nat → Int32) (c_kept : Nat → Int32) (c_isKept : Nat → Int32) (v1 : Int32) (res : Int32 × Int32 × (Nat → Int32) × (Nat → Int32)) (hf : fX7_keep c_thrown c_s c_kept c_isKept v1 = some res) : MWi l yX7_keep wsX7_keep rmX7_keep G [.ref h_this, .int v1] [(h_this, .inr (7, [.int c_thrown, .ref h_s, .ref h_draft, .ref h_past, .int c_undos, .ref h_kept, .ref h_isKept, .ref h_facts, .int c_manyFacts, .ref h_text, .int c_typed, .int c_from, .int c_to, .int c_token, .int c_fault, .int c_hasHooks, .int c_hasTies, .int c_low, .int c_high])), (h_s, .inl (G.2 0, 24, .inl c_s)), (h_kept, .inl (G.2 0, 48, .inl c_kept)), (h_isKept, .inl (G.2 2, 2, .inl c_isKept))] (res.1) [(h_this, .inr (7, [.int (res.2.1), .ref h_s, .ref h_draft, .ref h_past, .int c_undos, .ref h_kept, .ref h_isKept, .ref h_facts, .int c_manyFacts, .ref h_text, .int c_typed, .int c_from, .int c_to, .int c_token, .int c_fault, .int c_hasHooks, .int c_hasTies, .int c_low, .int c_high])), (h_s, .inl (G.2 0, 24, .inl c_s)), (h_kept, .inl (G.2 0, 48, .inl (res.2.2.1))), (h_isKept, .inl (G.2 2, 2, .inl (res.2.2.2)))] := MWi.of (plainFor_of_name (by decide +kernel)) rfl (Nat.le_of_ble_eq_true rfl) (fun p e s m below meth c A C hA hP hD hS ls hl => kX7_keep h_this h_s h_draft h_past h_kept h_isKept h_facts h_text c_thrown c_undos c_manyFacts c_typed c_from c_to c_token c_fault c_hasHooks c_hasTies c_low c_high c_s c_kept c_isKept v1 C hA hP hD hS (fun pc ls H locs hP hD hS d => rWi C hP hD hS d) hf hl)
def fX7_back_L30 (k59 : (Nat → Int32) → Option (Int32 × Int32 × Int32 × (Nat → Int32))) (c_kept : Nat → Int32) (v1 : Int32) : Nat → Int32 → (Nat → Int32) → Option (Int32 × Int32 × Int32 × (Nat → Int32))
  | 0, _, _ => none
  | n + 1, v2, c_s => if (24 : Int32) ≤ v2 then k59 c_s else gd (ix (((24 : Int32) * v1) + v2) 48) (gd (ix v2 24) (fX7_back_L30 k59 c_kept v1 n (v2 + (1 : Int32)) (upd c_s v2.toNatClampNeg (c_kept (((24 : Int32) * v1) + v2).toNatClampNeg))))
def fX7_back (c_thrown : Int32) (c_undos : Int32) (c_s : Nat → Int32) (c_kept : Nat → Int32) (c_isKept : Nat → Int32) (v1 : Int32) : Option (Int32 × Int32 × Int32 × (Nat → Int32)) := (fX7_in v1 (0 : Int32) (1 : Int32)).bind (fun u1 => if u1 = 0 then some ((-1 : Int32), (0 : Int32), c_undos, c_s) else gd (ix v1 2) (if (c_isKept v1.toNatClampNeg) = 0 then some ((-2 : Int32), (0 : Int32), c_undos, c_s) else (fX7_back_L30 (fun (c_s_x2 : Nat → Int32) => some ((c_s_x2 2), (0 : Int32), (0 : Int32), c_s_x2)) c_kept v1 FU (0 : Int32) c_s)))
theorem iX7_back_7 : ∀ w ∈ wsX70, w ∈ wsX7_back := fun w h => List.mem_cons_of_mem _ (List.mem_append_right _ (h))
theorem hdX7_back : yX7_back.cls = RX7 ∧ yX7_back.cls ≠ "java/lang/invoke/MethodHandle" ∧ yX7_back.cls ≠ "java/lang/invoke/VarHandle" ∧ (parseMethodDescriptor yX7_back.desc).map (fun d => d.parameters.length) = some 1 := by decide +kernel
abbrev rmX7_back : Room := { frames := 1, cells := 0, slots := 0, locals := 22 }
section SX7_back
variable {p : Program} {l : Launch} {e : Env} {s : State} {m : MethodId} {args : Array Value} {below : List Frame} {meth : Method} {c : Code} {Q : State → Prop} {G : GG} {A : Nat → Prop}
set_option maxHeartbeats 4000000 in
set_option maxRecDepth 100000 in
theorem kX7_back_L30 (h_this : Nat) (h_s : Nat) (h_draft : Nat) (h_past : Nat) (h_kept : Nat) (h_isKept : Nat) (h_facts : Nat) (h_text : Nat) (c_thrown : Int32) (c_undos : Int32) (c_manyFacts : Int32) (c_typed : Int32) (c_from : Int32) (c_to : Int32) (c_token : Int32) (c_fault : Int32) (c_hasHooks : Int32) (c_hasTies : Int32) (c_low : Int32) (c_high : Int32) (c_kept : Nat → Int32) (c_isKept : Nat → Int32) (v1 : Int32) (C : Cx cX7_back (some .int) 3 RX7 wsX7_back G p s m args meth c) (hA : ∀ q : Nat, s.heap.size ≤ q → A q) {res : Int32 × Int32 × Int32 × (Nat → Int32)} (kr : ∀ (pc : Nat) (ls : Array Slot) (H : Heap) (locs : List Loc), va_P G.1 CL [(h_this, .inr (7, [.int (res.2.1), .ref h_s, .ref h_draft, .ref h_past, .int (res.2.2.1), .ref h_kept, .ref h_isKept, .ref h_facts, .int c_manyFacts, .ref h_text, .int c_typed, .int c_from, .int c_to, .int c_token, .int c_fault, .int c_hasHooks, .int c_hasTies, .int c_low, .int c_high])), (h_s, .inl (G.2 0, 24, .inl (res.2.2.2))), (h_kept, .inl (G.2 0, 48, .inl c_kept)), (h_isKept, .inl (G.2 2, 2, .inl c_isKept))] H → va_D A [(h_this, .inr (7, [.int (res.2.1), .ref h_s, .ref h_draft, .ref h_past, .int (res.2.2.1), .ref h_kept, .ref h_isKept, .ref h_facts, .int c_manyFacts, .ref h_text, .int c_typed, .int c_from, .int c_to, .int c_token, .int c_fault, .int c_hasHooks, .int c_hasTies, .int c_low, .int c_high])), (h_s, .inl (G.2 0, 24, .inl (res.2.2.2))), (h_kept, .inl (G.2 0, 48, .inl c_kept)), (h_isKept, .inl (G.2 2, 2, .inl c_isKept))] → va_S A s.heap H locs → decode cX7_back pc = .ok (.ireturn, 1) → W p l e rmX7_back s m args below meth c H locs 0 0 Q (F0 m pc ls [.int res.1])) {k59 : (Nat → Int32) → Option (Int32 × Int32 × Int32 × (Nat → Int32))} (hk59 : ∀ (c_s : Nat → Int32) (H : Heap) (locs : List Loc), k59 c_s = some res → va_P G.1 CL [(h_this, .inr (7, [.int c_thrown, .ref h_s, .ref h_draft, .ref h_past, .int c_undos, .ref h_kept, .ref h_isKept, .ref h_facts, .int c_manyFacts, .ref h_text, .int c_typed, .int c_from, .int c_to, .int c_token, .int c_fault, .int c_hasHooks, .int c_hasTies, .int c_low, .int c_high])), (h_s, .inl (G.2 0, 24, .inl c_s)), (h_kept, .inl (G.2 0, 48, .inl c_kept)), (h_isKept, .inl (G.2 2, 2, .inl c_isKept))] H → va_D A [(h_this, .inr (7, [.int c_thrown, .ref h_s, .ref h_draft, .ref h_past, .int c_undos, .ref h_kept, .ref h_isKept, .ref h_facts, .int c_manyFacts, .ref h_text, .int c_typed, .int c_from, .int c_to, .int c_token, .int c_fault, .int c_hasHooks, .int c_hasTies, .int c_low, .int c_high])), (h_s, .inl (G.2 0, 24, .inl c_s)), (h_kept, .inl (G.2 0, 48, .inl c_kept)), (h_isKept, .inl (G.2 2, 2, .inl c_isKept))] → va_S A s.heap H locs → ∀ (ls : Array Slot), lv_has ls 3 [(0, .ref h_this)] → W p l e rmX7_back s m args below meth c H locs 0 0 Q (F0 m 59 ls [])) : ∀ (n : Nat) (v2 : Int32) (c_s : Nat → Int32) (H : Heap) (locs : List Loc), fX7_back_L30 k59 c_kept v1 n v2 c_s = some res → va_P G.1 CL [(h_this, .inr (7, [.int c_thrown, .ref h_s, .ref h_draft, .ref h_past, .int c_undos, .ref h_kept, .ref h_isKept, .ref h_facts, .int c_manyFacts, .ref h_text, .int c_typed, .int c_from, .int c_to, .int c_token, .int c_fault, .int c_hasHooks, .int c_hasTies, .int c_low, .int c_high])), (h_s, .inl (G.2 0, 24, .inl c_s)), (h_kept, .inl (G.2 0, 48, .inl c_kept)), (h_isKept, .inl (G.2 2, 2, .inl c_isKept))] H → va_D A [(h_this, .inr (7, [.int c_thrown, .ref h_s, .ref h_draft, .ref h_past, .int c_undos, .ref h_kept, .ref h_isKept, .ref h_facts, .int c_manyFacts, .ref h_text, .int c_typed, .int c_from, .int c_to, .int c_token, .int c_fault, .int c_hasHooks, .int c_hasTies, .int c_low, .int c_high])), (h_s, .inl (G.2 0, 24, .inl c_s)), (h_kept, .inl (G.2 0, 48, .inl c_kept)), (h_isKept, .inl (G.2 2, 2, .inl c_isKept))] → va_S A s.heap H locs → ∀ (ls : Array Slot), lv_has ls 3 [(0, .ref h_this), (1, .int v1), (2, .int v2)] → W p l e rmX7_back s m args below meth c H locs 0 0 Q (F0 m 30 ls []) := by
  obtain ⟨hx, hb, hr, hlk, hml, hown, hts, hK⟩ := id C
  intro n
  induction n with
  | zero =>
    intro v2 c_s H locs hf
    cases hf
  | succ n ih =>
    intro v2 c_s H locs hf hP hD hS ls hl
    rw [fX7_back_L30] at hf
    refine lv_iload_n hx hb dX7_back_30 rfl (lv_at hl 2 rfl) ?_
    refine lv_bipush (v := (24 : Int32)) hx hb dX7_back_31 (by decide) ?_
    refine lv_icmp_ge (tgt := 59) hx hb dX7_back_33 (by decide) (fun c9 => ?_) (fun c9 => ?_)
    · have hf := c_t hf c9
      exact hk59 c_s _ _ hf hP hD hS _ (lv_sub hl [0] rfl)
    · have hf := c_f hf c9
      refine lv_aload_n hx hb dX7_back_36 rfl (lv_at hl 0 rfl) ?_
      refine va_get (D := G.1) (cl := CL) (ci := 7) (C := RX7) (T := TX7) (N := 19) hx hb hts iX7_back_7 hown hK hP 0 rfl rfl 1 (by decide) (hts (.fieldLink RX7 7 "LoomCardsModel" "s" "[I") (List.mem_of_getElem? (i := 3) rfl)) (fun _ h9 => h9) rfl dX7_back_37 ?_
      refine lv_iload_n hx hb dX7_back_40 rfl (lv_at hl 2 rfl) ?_
      refine lv_aload_n hx hb dX7_back_41 rfl (lv_at hl 0 rfl) ?_
      refine va_get (D := G.1) (cl := CL) (ci := 7) (C := RX7) (T := TX7) (N := 19) hx hb hts iX7_back_7 hown hK hP 0 rfl rfl 5 (by decide) (hts (.fieldLink RX7 19 "LoomCardsModel" "kept" "[I") (List.mem_of_getElem? (i := 4) rfl)) (fun _ h9 => h9) rfl dX7_back_42 ?_
      refine lv_bipush (v := (24 : Int32)) hx hb dX7_back_45 (by decide) ?_
      refine lv_iload_n hx hb dX7_back_47 rfl (lv_at hl 1 rfl) ?_
      refine lv_imul hx hb dX7_back_48 ?_
      refine lv_iload_n hx hb dX7_back_49 rfl (lv_at hl 2 rfl) ?_
      refine lv_iadd hx hb dX7_back_50 ?_
      refine r_gd hf (fun g9 hf => ?_)
      refine r_iald hx hb hK hP 2 rfl (ix_in g9) rfl dX7_back_51 ?_
      refine r_gd hf (fun g9 hf => ?_)
      refine r_iast hx hb hK hP hD hS 1 rfl (ix_in g9) rfl dX7_back_52 (fun H locs hP hD hS => ?_)
      have hP : va_P G.1 CL [(h_this, .inr (7, [.int c_thrown, .ref h_s, .ref h_draft, .ref h_past, .int c_undos, .ref h_kept, .ref h_isKept, .ref h_facts, .int c_manyFacts, .ref h_text, .int c_typed, .int c_from, .int c_to, .int c_token, .int c_fault, .int c_hasHooks, .int c_hasTies, .int c_low, .int c_high])), (h_s, .inl (G.2 0, 24, .inl (upd c_s v2.toNatClampNeg (c_kept (((24 : Int32) * v1) + v2).toNatClampNeg)))), (h_kept, .inl (G.2 0, 48, .inl c_kept)), (h_isKept, .inl (G.2 2, 2, .inl c_isKept))] H := hP
      have hD : va_D A [(h_this, .inr (7, [.int c_thrown, .ref h_s, .ref h_draft, .ref h_past, .int c_undos, .ref h_kept, .ref h_isKept, .ref h_facts, .int c_manyFacts, .ref h_text, .int c_typed, .int c_from, .int c_to, .int c_token, .int c_fault, .int c_hasHooks, .int c_hasTies, .int c_low, .int c_high])), (h_s, .inl (G.2 0, 24, .inl (upd c_s v2.toNatClampNeg (c_kept (((24 : Int32) * v1) + v2).toNatClampNeg)))), (h_kept, .inl (G.2 0, 48, .inl c_kept)), (h_isKept, .inl (G.2 2, 2, .inl c_isKept))] := hD
      refine lv_iinc (v := (v2 + (1 : Int32))) (lv' := [(2, .int (v2 + (1 : Int32))), (0, .ref h_this), (1, .int v1)]) hx hb dX7_back_53 hl (k := 2) rfl rfl (by decide) rfl (fun ls hl => ?_)
      refine lv_goto (tgt := 30) hx hb dX7_back_56 (by decide) ?_
      exact ih (v2 + (1 : Int32)) (upd c_s v2.toNatClampNeg (c_kept (((24 : Int32) * v1) + v2).toNatClampNeg)) _ _ hf hP hD hS _ (lv_sub hl [1, 2, 0] rfl)
set_option maxHeartbeats 4000000 in
set_option maxRecDepth 100000 in
theorem kX7_back (h_this : Nat) (h_s : Nat) (h_draft : Nat) (h_past : Nat) (h_kept : Nat) (h_isKept : Nat) (h_facts : Nat) (h_text : Nat) (c_thrown : Int32) (c_undos : Int32) (c_manyFacts : Int32) (c_typed : Int32) (c_from : Int32) (c_to : Int32) (c_token : Int32) (c_fault : Int32) (c_hasHooks : Int32) (c_hasTies : Int32) (c_low : Int32) (c_high : Int32) (c_s : Nat → Int32) (c_kept : Nat → Int32) (c_isKept : Nat → Int32) (v1 : Int32) (C : Cx cX7_back (some .int) 3 RX7 wsX7_back G p s m args meth c) (hA : ∀ q : Nat, s.heap.size ≤ q → A q) (hP : va_P G.1 CL [(h_this, .inr (7, [.int c_thrown, .ref h_s, .ref h_draft, .ref h_past, .int c_undos, .ref h_kept, .ref h_isKept, .ref h_facts, .int c_manyFacts, .ref h_text, .int c_typed, .int c_from, .int c_to, .int c_token, .int c_fault, .int c_hasHooks, .int c_hasTies, .int c_low, .int c_high])), (h_s, .inl (G.2 0, 24, .inl c_s)), (h_kept, .inl (G.2 0, 48, .inl c_kept)), (h_isKept, .inl (G.2 2, 2, .inl c_isKept))] s.heap) (hD : va_D A [(h_this, .inr (7, [.int c_thrown, .ref h_s, .ref h_draft, .ref h_past, .int c_undos, .ref h_kept, .ref h_isKept, .ref h_facts, .int c_manyFacts, .ref h_text, .int c_typed, .int c_from, .int c_to, .int c_token, .int c_fault, .int c_hasHooks, .int c_hasTies, .int c_low, .int c_high])), (h_s, .inl (G.2 0, 24, .inl c_s)), (h_kept, .inl (G.2 0, 48, .inl c_kept)), (h_isKept, .inl (G.2 2, 2, .inl c_isKept))]) (hS : va_S A s.heap s.heap []) {res : Int32 × Int32 × Int32 × (Nat → Int32)} (kr : ∀ (pc : Nat) (ls : Array Slot) (H : Heap) (locs : List Loc), va_P G.1 CL [(h_this, .inr (7, [.int (res.2.1), .ref h_s, .ref h_draft, .ref h_past, .int (res.2.2.1), .ref h_kept, .ref h_isKept, .ref h_facts, .int c_manyFacts, .ref h_text, .int c_typed, .int c_from, .int c_to, .int c_token, .int c_fault, .int c_hasHooks, .int c_hasTies, .int c_low, .int c_high])), (h_s, .inl (G.2 0, 24, .inl (res.2.2.2))), (h_kept, .inl (G.2 0, 48, .inl c_kept)), (h_isKept, .inl (G.2 2, 2, .inl c_isKept))] H → va_D A [(h_this, .inr (7, [.int (res.2.1), .ref h_s, .ref h_draft, .ref h_past, .int (res.2.2.1), .ref h_kept, .ref h_isKept, .ref h_facts, .int c_manyFacts, .ref h_text, .int c_typed, .int c_from, .int c_to, .int c_token, .int c_fault, .int c_hasHooks, .int c_hasTies, .int c_low, .int c_high])), (h_s, .inl (G.2 0, 24, .inl (res.2.2.2))), (h_kept, .inl (G.2 0, 48, .inl c_kept)), (h_isKept, .inl (G.2 2, 2, .inl c_isKept))] → va_S A s.heap H locs → decode cX7_back pc = .ok (.ireturn, 1) → W p l e rmX7_back s m args below meth c H locs 0 0 Q (F0 m pc ls [.int res.1])) (hf : fX7_back c_thrown c_undos c_s c_kept c_isKept v1 = some res) {ls : Array Slot} (hl : lv_has ls 3 [(0, .ref h_this), (1, .int v1)]) : W p l e rmX7_back s m args below meth c s.heap [] 0 0 Q (F0 m 0 ls []) := by
  obtain ⟨hx, hb, hr, hlk, hml, hown, hts, hK⟩ := id C
  rw [fX7_back] at hf
  refine lv_aload_n hx hb dX7_back_0 rfl (lv_at hl 0 rfl) ?_
  refine lv_iconst (v := (0 : Int32)) hx hb dX7_back_1 (by decide) ?_
  refine va_put (D := G.1) (cl := CL) (ci := 7) (v := .int (0 : Int32)) (ty := .int) (C := RX7) (T := TX7) (N := 19) hx hb hts iX7_back_7 tyX7 tyX7_ok nmX7 hown hK hP hD hS 0 rfl rfl 0 (by decide) (hts (.fieldLink RX7 37 "LoomCardsModel" "thrown" "I") (List.mem_of_getElem? (i := 1) rfl)) (fun _ h9 => h9) rfl (tyX7_ok 0 (by decide)) rfl rfl (Nat.le_of_ble_eq_true rfl) dX7_back_2 (fun H locs hP hD hS => ?_)
  have hP : va_P G.1 CL [(h_this, .inr (7, [.int (0 : Int32), .ref h_s, .ref h_draft, .ref h_past, .int c_undos, .ref h_kept, .ref h_isKept, .ref h_facts, .int c_manyFacts, .ref h_text, .int c_typed, .int c_from, .int c_to, .int c_token, .int c_fault, .int c_hasHooks, .int c_hasTies, .int c_low, .int c_high])), (h_s, .inl (G.2 0, 24, .inl c_s)), (h_kept, .inl (G.2 0, 48, .inl c_kept)), (h_isKept, .inl (G.2 2, 2, .inl c_isKept))] H := hP
  have hD : va_D A [(h_this, .inr (7, [.int (0 : Int32), .ref h_s, .ref h_draft, .ref h_past, .int c_undos, .ref h_kept, .ref h_isKept, .ref h_facts, .int c_manyFacts, .ref h_text, .int c_typed, .int c_from, .int c_to, .int c_token, .int c_fault, .int c_hasHooks, .int c_hasTies, .int c_low, .int c_high])), (h_s, .inl (G.2 0, 24, .inl c_s)), (h_kept, .inl (G.2 0, 48, .inl c_kept)), (h_isKept, .inl (G.2 2, 2, .inl c_isKept))] := hD
  refine lv_iload_n hx hb dX7_back_5 rfl (lv_at hl 1 rfl) ?_
  refine lv_iconst (v := (0 : Int32)) hx hb dX7_back_6 (by decide) ?_
  refine lv_iconst (v := (1 : Int32)) hx hb dX7_back_7 (by decide) ?_
  refine r_bind hf (fun u1 hu1 hf => ?_)
  refine cRiS (rest := []) ⟨hx, hb, hml, hown, hts⟩ hK (tX7_in l G v1 (0 : Int32) (1 : Int32) u1 hu1) gX7_back_X7_in rfl hdX7_in rfl rfl rfl ⟨Nat.le_of_ble_eq_true rfl, Nat.le_of_ble_eq_true rfl⟩ hP [] rfl hl.1 (Nat.le_of_ble_eq_true rfl) rfl dX7_back_8 ⟨Nat.zero_le _, Nat.zero_le _⟩ ?_
  refine lv_if_ne (tgt := 16) hx hb dX7_back_11 (by decide) (fun c9 => ?_) (fun c9 => ?_)
  · have hf := c_f hf c9
    refine lv_aload_n hx hb dX7_back_16 rfl (lv_at hl 0 rfl) ?_
    refine va_get (D := G.1) (cl := CL) (ci := 7) (C := RX7) (T := TX7) (N := 19) hx hb hts iX7_back_7 hown hK hP 0 rfl rfl 6 (by decide) (hts (.fieldLink RX7 22 "LoomCardsModel" "isKept" "[Z") (List.mem_of_getElem? (i := 2) rfl)) (fun _ h9 => h9) rfl dX7_back_17 ?_
    refine lv_iload_n hx hb dX7_back_20 rfl (lv_at hl 1 rfl) ?_
    refine r_gd hf (fun g9 hf => ?_)
    refine r_zald hx hb hK hP 3 rfl (ix_in g9) rfl dX7_back_21 ?_
    refine lv_if_ne (tgt := 28) hx hb dX7_back_22 (by decide) (fun c9 => ?_) (fun c9 => ?_)
    · have hf := c_f hf c9
      refine lv_iconst (v := (0 : Int32)) hx hb dX7_back_28 (by decide) ?_
      refine lv_istore_n (lv' := [(2, .int (0 : Int32)), (0, .ref h_this), (1, .int v1)]) hx hb dX7_back_29 rfl hl (by decide) rfl (fun ls hl => ?_)
      refine kX7_back_L30 h_this h_s h_draft h_past h_kept h_isKept h_facts h_text (0 : Int32) c_undos c_manyFacts c_typed c_from c_to c_token c_fault c_hasHooks c_hasTies c_low c_high c_kept c_isKept v1 C hA kr ?_ FU (0 : Int32) c_s _ _ hf hP hD hS _ (lv_sub hl [1, 2, 0] rfl)
      intro c_s_x2 H locs hf hP hD hS ls hl
      refine lv_aload_n hx hb dX7_back_59 rfl (lv_at hl 0 rfl) ?_
      refine lv_iconst (v := (0 : Int32)) hx hb dX7_back_60 (by decide) ?_
      refine va_put (D := G.1) (cl := CL) (ci := 7) (v := .int (0 : Int32)) (ty := .int) (C := RX7) (T := TX7) (N := 19) hx hb hts iX7_back_7 tyX7 tyX7_ok nmX7 hown hK hP hD hS 0 rfl rfl 4 (by decide) (hts (.fieldLink RX7 114 "LoomCardsModel" "undos" "I") (List.mem_of_getElem? (i := 5) rfl)) (fun _ h9 => h9) rfl (tyX7_ok 4 (by decide)) rfl rfl (Nat.le_of_ble_eq_true rfl) dX7_back_61 (fun H locs hP hD hS => ?_)
      have hP : va_P G.1 CL [(h_this, .inr (7, [.int (0 : Int32), .ref h_s, .ref h_draft, .ref h_past, .int (0 : Int32), .ref h_kept, .ref h_isKept, .ref h_facts, .int c_manyFacts, .ref h_text, .int c_typed, .int c_from, .int c_to, .int c_token, .int c_fault, .int c_hasHooks, .int c_hasTies, .int c_low, .int c_high])), (h_s, .inl (G.2 0, 24, .inl c_s_x2)), (h_kept, .inl (G.2 0, 48, .inl c_kept)), (h_isKept, .inl (G.2 2, 2, .inl c_isKept))] H := hP
      have hD : va_D A [(h_this, .inr (7, [.int (0 : Int32), .ref h_s, .ref h_draft, .ref h_past, .int (0 : Int32), .ref h_kept, .ref h_isKept, .ref h_facts, .int c_manyFacts, .ref h_text, .int c_typed, .int c_from, .int c_to, .int c_token, .int c_fault, .int c_hasHooks, .int c_hasTies, .int c_low, .int c_high])), (h_s, .inl (G.2 0, 24, .inl c_s_x2)), (h_kept, .inl (G.2 0, 48, .inl c_kept)), (h_isKept, .inl (G.2 2, 2, .inl c_isKept))] := hD
      refine lv_aload_n hx hb dX7_back_64 rfl (lv_at hl 0 rfl) ?_
      refine va_get (D := G.1) (cl := CL) (ci := 7) (C := RX7) (T := TX7) (N := 19) hx hb hts iX7_back_7 hown hK hP 0 rfl rfl 1 (by decide) (hts (.fieldLink RX7 7 "LoomCardsModel" "s" "[I") (List.mem_of_getElem? (i := 3) rfl)) (fun _ h9 => h9) rfl dX7_back_65 ?_
      refine lv_iconst (v := (2 : Int32)) hx hb dX7_back_68 (by decide) ?_
      refine r_iald (j := 2) hx hb hK hP 1 rfl (ix_in (n := 24) (by decide)) (by decide) dX7_back_69 ?_
      obtain rfl := Option.some.inj hf
      exact kr _ _ _ _ hP hD hS dX7_back_70
    · have hf := c_t hf c9
      refine lv_bipush (v := (-2 : Int32)) hx hb dX7_back_25 (by decide) ?_
      obtain rfl := Option.some.inj hf
      exact kr _ _ _ _ hP hD hS dX7_back_27
  · have hf := c_t hf c9
    refine lv_iconst (v := (-1 : Int32)) hx hb dX7_back_14 (by decide) ?_
    obtain rfl := Option.some.inj hf
    exact kr _ _ _ _ hP hD hS dX7_back_15
end SX7_back
set_option maxHeartbeats 4000000 in
set_option maxRecDepth 100000 in
theorem tX7_back (l : Launch) (G : GG) (h_this : Nat) (h_s : Nat) (h_draft : Nat) (h_past : Nat) (h_kept : Nat) (h_isKept : Nat) (h_facts : Nat) (h_text : Nat) (c_thrown : Int32) (c_undos : Int32) (c_manyFacts : Int32) (c_typed : Int32) (c_from : Int32) (c_to : Int32) (c_token : Int32) (c_fault : Int32) (c_hasHooks : Int32) (c_hasTies : Int32) (c_low : Int32) (c_high : Int32) (c_s : Nat → Int32) (c_kept : Nat → Int32) (c_isKept : Nat → Int32) (v1 : Int32) (res : Int32 × Int32 × Int32 × (Nat → Int32)) (hf : fX7_back c_thrown c_undos c_s c_kept c_isKept v1 = some res) : MWi l yX7_back wsX7_back rmX7_back G [.ref h_this, .int v1] [(h_this, .inr (7, [.int c_thrown, .ref h_s, .ref h_draft, .ref h_past, .int c_undos, .ref h_kept, .ref h_isKept, .ref h_facts, .int c_manyFacts, .ref h_text, .int c_typed, .int c_from, .int c_to, .int c_token, .int c_fault, .int c_hasHooks, .int c_hasTies, .int c_low, .int c_high])), (h_s, .inl (G.2 0, 24, .inl c_s)), (h_kept, .inl (G.2 0, 48, .inl c_kept)), (h_isKept, .inl (G.2 2, 2, .inl c_isKept))] (res.1) [(h_this, .inr (7, [.int (res.2.1), .ref h_s, .ref h_draft, .ref h_past, .int (res.2.2.1), .ref h_kept, .ref h_isKept, .ref h_facts, .int c_manyFacts, .ref h_text, .int c_typed, .int c_from, .int c_to, .int c_token, .int c_fault, .int c_hasHooks, .int c_hasTies, .int c_low, .int c_high])), (h_s, .inl (G.2 0, 24, .inl (res.2.2.2))), (h_kept, .inl (G.2 0, 48, .inl c_kept)), (h_isKept, .inl (G.2 2, 2, .inl c_isKept))] := MWi.of (plainFor_of_name (by decide +kernel)) rfl (Nat.le_of_ble_eq_true rfl) (fun p e s m below meth c A C hA hP hD hS ls hl => kX7_back h_this h_s h_draft h_past h_kept h_isKept h_facts h_text c_thrown c_undos c_manyFacts c_typed c_from c_to c_token c_fault c_hasHooks c_hasTies c_low c_high c_s c_kept c_isKept v1 C hA hP hD hS (fun pc ls H locs hP hD hS d => rWi C hP hD hS d) hf hl)
def fX7_holes_L4 (k48 : Int32 → Option (Int32)) (c_s : Nat → Int32) : Nat → Int32 → Int32 → Option (Int32)
  | 0, _, _ => none
  | n + 1, v1, v2 => (fX7_places c_s).bind (fun u1 => if u1 ≤ v2 then k48 v1 else gd (!decide ((c_s 0) = 0)) (gd (ix ((16 : Int32) + (v2 / (c_s 0))) 24) (gd (!decide ((c_s 0) = 0)) (fX7_holes_L4 k48 c_s n (v1 + (((c_s ((16 : Int32) + (v2 / (c_s 0))).toNatClampNeg) >>> ((v2 - v2 / (c_s 0) * (c_s 0)) &&& 31)) &&& (1 : Int32))) (v2 + (1 : Int32))))))
def fX7_holes (c_s : Nat → Int32)  : Option (Int32) := (fX7_holes_L4 (fun (v1_x2 : Int32) => some (v1_x2)) c_s FU (0 : Int32) (0 : Int32))
theorem iX7_holes_7 : ∀ w ∈ wsX70, w ∈ wsX7_holes := fun w h => List.mem_cons_of_mem _ (List.mem_append_right _ (h))
theorem hdX7_holes : yX7_holes.cls = RX7 ∧ yX7_holes.cls ≠ "java/lang/invoke/MethodHandle" ∧ yX7_holes.cls ≠ "java/lang/invoke/VarHandle" ∧ (parseMethodDescriptor yX7_holes.desc).map (fun d => d.parameters.length) = some 0 := by decide +kernel
abbrev rmX7_holes : Room := { frames := 1, cells := 0, slots := 0, locals := 20 }
section SX7_holes
variable {p : Program} {l : Launch} {e : Env} {s : State} {m : MethodId} {args : Array Value} {below : List Frame} {meth : Method} {c : Code} {Q : State → Prop} {G : GG}
set_option maxHeartbeats 4000000 in
set_option maxRecDepth 100000 in
theorem kX7_holes_L4 (h_this : Nat) (h_s : Nat) (h_draft : Nat) (h_past : Nat) (h_kept : Nat) (h_isKept : Nat) (h_facts : Nat) (h_text : Nat) (c_thrown : Int32) (c_undos : Int32) (c_manyFacts : Int32) (c_typed : Int32) (c_from : Int32) (c_to : Int32) (c_token : Int32) (c_fault : Int32) (c_hasHooks : Int32) (c_hasTies : Int32) (c_low : Int32) (c_high : Int32) (c_s : Nat → Int32) (C : Cx cX7_holes (some .int) 3 RX7 wsX7_holes G p s m args meth c) (hP : va_P G.1 CL [(h_this, .inr (7, [.int c_thrown, .ref h_s, .ref h_draft, .ref h_past, .int c_undos, .ref h_kept, .ref h_isKept, .ref h_facts, .int c_manyFacts, .ref h_text, .int c_typed, .int c_from, .int c_to, .int c_token, .int c_fault, .int c_hasHooks, .int c_hasTies, .int c_low, .int c_high])), (h_s, .inl (G.2 0, 24, .inl c_s))] s.heap) {res : Int32} (kr : ∀ (pc : Nat) (ls : Array Slot), decode cX7_holes pc = .ok (.ireturn, 1) → W p l e rmX7_holes s m args below meth c s.heap [] 0 0 Q (F0 m pc ls [.int res])) {k48 : Int32 → Option (Int32)} (hk48 : ∀ (v1 : Int32) , k48 v1 = some res → ∀ (ls : Array Slot), lv_has ls 3 [(1, .int v1)] → W p l e rmX7_holes s m args below meth c s.heap [] 0 0 Q (F0 m 48 ls [])) : ∀ (n : Nat) (v1 : Int32) (v2 : Int32), fX7_holes_L4 k48 c_s n v1 v2 = some res → ∀ (ls : Array Slot), lv_has ls 3 [(0, .ref h_this), (1, .int v1), (2, .int v2)] → W p l e rmX7_holes s m args below meth c s.heap [] 0 0 Q (F0 m 4 ls []) := by
  obtain ⟨hx, hb, hr, hlk, hml, hown, hts, hK⟩ := id C
  intro n
  induction n with
  | zero =>
    intro v1 v2 hf
    cases hf
  | succ n ih =>
    intro v1 v2 hf ls hl
    rw [fX7_holes_L4] at hf
    refine lv_iload_n hx hb dX7_holes_4 rfl (lv_at hl 2 rfl) ?_
    refine lv_aload_n hx hb dX7_holes_5 rfl (lv_at hl 0 rfl) ?_
    refine r_bind hf (fun u1 hu1 hf => ?_)
    refine cRiV (ci := 7) (rest := [.int v2]) ⟨hx, hb, hml, hown, hts⟩ hK (tX7_places l G h_this h_s h_draft h_past h_kept h_isKept h_facts h_text c_thrown c_undos c_manyFacts c_typed c_from c_to c_token c_fault c_hasHooks c_hasTies c_low c_high c_s u1 hu1) gX7_holes_X7_places rfl hdX7_places rfl rfl rfl ⟨Nat.le_of_ble_eq_true rfl, Nat.le_of_ble_eq_true rfl⟩ hP [0, 1] rfl 0 rfl rfl rfl hl.1 (Nat.le_of_ble_eq_true rfl) rfl dX7_holes_6 ⟨Nat.zero_le _, Nat.zero_le _⟩ ?_
    refine lv_icmp_ge (tgt := 48) hx hb dX7_holes_9 (by decide) (fun c9 => ?_) (fun c9 => ?_)
    · have hf := c_t hf c9
      exact hk48 v1 hf _ (lv_sub hl [1] rfl)
    · have hf := c_f hf c9
      refine lv_iload_n hx hb dX7_holes_12 rfl (lv_at hl 1 rfl) ?_
      refine lv_aload_n hx hb dX7_holes_13 rfl (lv_at hl 0 rfl) ?_
      refine va_get (D := G.1) (cl := CL) (ci := 7) (C := RX7) (T := TX7) (N := 19) hx hb hts iX7_holes_7 hown hK hP 0 rfl rfl 1 (by decide) (hts (.fieldLink RX7 7 "LoomCardsModel" "s" "[I") (List.mem_of_getElem? (i := 1) rfl)) (fun _ h9 => h9) rfl dX7_holes_14 ?_
      refine lv_bipush (v := (16 : Int32)) hx hb dX7_holes_17 (by decide) ?_
      refine lv_iload_n hx hb dX7_holes_19 rfl (lv_at hl 2 rfl) ?_
      refine lv_aload_n hx hb dX7_holes_20 rfl (lv_at hl 0 rfl) ?_
      refine va_get (D := G.1) (cl := CL) (ci := 7) (C := RX7) (T := TX7) (N := 19) hx hb hts iX7_holes_7 hown hK hP 0 rfl rfl 1 (by decide) (hts (.fieldLink RX7 7 "LoomCardsModel" "s" "[I") (List.mem_of_getElem? (i := 1) rfl)) (fun _ h9 => h9) rfl dX7_holes_21 ?_
      refine lv_iconst (v := (0 : Int32)) hx hb dX7_holes_24 (by decide) ?_
      refine r_iald (j := 0) hx hb hK hP 1 rfl (ix_in (n := 24) (by decide)) (by decide) dX7_holes_25 ?_
      refine r_gd hf (fun g9 hf => ?_)
      refine lv_idiv hx hb dX7_holes_26 (nz g9) ?_
      refine lv_iadd hx hb dX7_holes_27 ?_
      refine r_gd hf (fun g9 hf => ?_)
      refine r_iald hx hb hK hP 1 rfl (ix_in g9) rfl dX7_holes_28 ?_
      refine lv_iload_n hx hb dX7_holes_29 rfl (lv_at hl 2 rfl) ?_
      refine lv_aload_n hx hb dX7_holes_30 rfl (lv_at hl 0 rfl) ?_
      refine va_get (D := G.1) (cl := CL) (ci := 7) (C := RX7) (T := TX7) (N := 19) hx hb hts iX7_holes_7 hown hK hP 0 rfl rfl 1 (by decide) (hts (.fieldLink RX7 7 "LoomCardsModel" "s" "[I") (List.mem_of_getElem? (i := 1) rfl)) (fun _ h9 => h9) rfl dX7_holes_31 ?_
      refine lv_iconst (v := (0 : Int32)) hx hb dX7_holes_34 (by decide) ?_
      refine r_iald (j := 0) hx hb hK hP 1 rfl (ix_in (n := 24) (by decide)) (by decide) dX7_holes_35 ?_
      refine r_gd hf (fun g9 hf => ?_)
      refine lv_irem hx hb dX7_holes_36 (nz g9) ?_
      refine lv_ishr hx hb dX7_holes_37 ?_
      refine lv_iconst (v := (1 : Int32)) hx hb dX7_holes_38 (by decide) ?_
      refine lv_iand hx hb dX7_holes_39 ?_
      refine lv_iadd hx hb dX7_holes_40 ?_
      refine lv_istore_n (lv' := [(1, .int (v1 + (((c_s ((16 : Int32) + (v2 / (c_s 0))).toNatClampNeg) >>> ((v2 - v2 / (c_s 0) * (c_s 0)) &&& 31)) &&& (1 : Int32)))), (0, .ref h_this), (2, .int v2)]) hx hb dX7_holes_41 rfl hl (by decide) rfl (fun ls hl => ?_)
      refine lv_iinc (v := (v2 + (1 : Int32))) (lv' := [(2, .int (v2 + (1 : Int32))), (1, .int (v1 + (((c_s ((16 : Int32) + (v2 / (c_s 0))).toNatClampNeg) >>> ((v2 - v2 / (c_s 0) * (c_s 0)) &&& 31)) &&& (1 : Int32)))), (0, .ref h_this)]) hx hb dX7_holes_42 hl (k := 2) rfl rfl (by decide) rfl (fun ls hl => ?_)
      refine lv_goto (tgt := 4) hx hb dX7_holes_45 (by decide) ?_
      exact ih (v1 + (((c_s ((16 : Int32) + (v2 / (c_s 0))).toNatClampNeg) >>> ((v2 - v2 / (c_s 0) * (c_s 0)) &&& 31)) &&& (1 : Int32))) (v2 + (1 : Int32)) hf _ (lv_sub hl [2, 1, 0] rfl)
set_option maxHeartbeats 4000000 in
set_option maxRecDepth 100000 in
theorem kX7_holes (h_this : Nat) (h_s : Nat) (h_draft : Nat) (h_past : Nat) (h_kept : Nat) (h_isKept : Nat) (h_facts : Nat) (h_text : Nat) (c_thrown : Int32) (c_undos : Int32) (c_manyFacts : Int32) (c_typed : Int32) (c_from : Int32) (c_to : Int32) (c_token : Int32) (c_fault : Int32) (c_hasHooks : Int32) (c_hasTies : Int32) (c_low : Int32) (c_high : Int32) (c_s : Nat → Int32) (C : Cx cX7_holes (some .int) 3 RX7 wsX7_holes G p s m args meth c) (hP : va_P G.1 CL [(h_this, .inr (7, [.int c_thrown, .ref h_s, .ref h_draft, .ref h_past, .int c_undos, .ref h_kept, .ref h_isKept, .ref h_facts, .int c_manyFacts, .ref h_text, .int c_typed, .int c_from, .int c_to, .int c_token, .int c_fault, .int c_hasHooks, .int c_hasTies, .int c_low, .int c_high])), (h_s, .inl (G.2 0, 24, .inl c_s))] s.heap) {res : Int32} (kr : ∀ (pc : Nat) (ls : Array Slot), decode cX7_holes pc = .ok (.ireturn, 1) → W p l e rmX7_holes s m args below meth c s.heap [] 0 0 Q (F0 m pc ls [.int res])) (hf : fX7_holes c_s = some res) {ls : Array Slot} (hl : lv_has ls 3 [(0, .ref h_this)]) : W p l e rmX7_holes s m args below meth c s.heap [] 0 0 Q (F0 m 0 ls []) := by
  obtain ⟨hx, hb, hr, hlk, hml, hown, hts, hK⟩ := id C
  rw [fX7_holes] at hf
  refine lv_iconst (v := (0 : Int32)) hx hb dX7_holes_0 (by decide) ?_
  refine lv_istore_n (lv' := [(1, .int (0 : Int32)), (0, .ref h_this)]) hx hb dX7_holes_1 rfl hl (by decide) rfl (fun ls hl => ?_)
  refine lv_iconst (v := (0 : Int32)) hx hb dX7_holes_2 (by decide) ?_
  refine lv_istore_n (lv' := [(2, .int (0 : Int32)), (1, .int (0 : Int32)), (0, .ref h_this)]) hx hb dX7_holes_3 rfl hl (by decide) rfl (fun ls hl => ?_)
  refine kX7_holes_L4 h_this h_s h_draft h_past h_kept h_isKept h_facts h_text c_thrown c_undos c_manyFacts c_typed c_from c_to c_token c_fault c_hasHooks c_hasTies c_low c_high c_s C hP kr ?_ FU (0 : Int32) (0 : Int32) hf _ (lv_sub hl [2, 1, 0] rfl)
  intro v1_x2 hf ls hl
  refine lv_iload_n hx hb dX7_holes_48 rfl (lv_at hl 0 rfl) ?_
  obtain rfl := Option.some.inj hf
  exact kr _ _ dX7_holes_49
end SX7_holes
set_option maxHeartbeats 4000000 in
set_option maxRecDepth 100000 in
theorem tX7_holes (l : Launch) (G : GG) (h_this : Nat) (h_s : Nat) (h_draft : Nat) (h_past : Nat) (h_kept : Nat) (h_isKept : Nat) (h_facts : Nat) (h_text : Nat) (c_thrown : Int32) (c_undos : Int32) (c_manyFacts : Int32) (c_typed : Int32) (c_from : Int32) (c_to : Int32) (c_token : Int32) (c_fault : Int32) (c_hasHooks : Int32) (c_hasTies : Int32) (c_low : Int32) (c_high : Int32) (c_s : Nat → Int32) (res : Int32) (hf : fX7_holes c_s = some res) : MRi l yX7_holes wsX7_holes rmX7_holes G [.ref h_this] [(h_this, .inr (7, [.int c_thrown, .ref h_s, .ref h_draft, .ref h_past, .int c_undos, .ref h_kept, .ref h_isKept, .ref h_facts, .int c_manyFacts, .ref h_text, .int c_typed, .int c_from, .int c_to, .int c_token, .int c_fault, .int c_hasHooks, .int c_hasTies, .int c_low, .int c_high])), (h_s, .inl (G.2 0, 24, .inl c_s))] (res) := MRi.of (plainFor_of_name (by decide +kernel)) rfl (Nat.le_of_ble_eq_true rfl) (fun p e s m below meth c C hP ls hl => kX7_holes h_this h_s h_draft h_past h_kept h_isKept h_facts h_text c_thrown c_undos c_manyFacts c_typed c_from c_to c_token c_fault c_hasHooks c_hasTies c_low c_high c_s C hP (fun pc ls d => rRi C d) hf hl)
def fX7_count (c_thrown : Int32) (c_undos : Int32) (c_manyFacts : Int32) (c_typed : Int32) (c_s : Nat → Int32) (v1 : Int32) : Option (Int32 × Int32) := if v1 = (4 : Int32) then (fX7_holes c_s).bind (fun u1 => some (u1, (0 : Int32))) else if v1 = (5 : Int32) then some (c_manyFacts, (0 : Int32)) else if v1 = (6 : Int32) then some (c_typed, (0 : Int32)) else if v1 = (7 : Int32) then some (c_undos, (0 : Int32)) else (fX7_in v1 (0 : Int32) (3 : Int32)).bind (fun u2 => if u2 = 0 then some ((-1 : Int32), (0 : Int32)) else gd (ix v1 24) (some ((c_s v1.toNatClampNeg), (0 : Int32))))
theorem iX7_count_7 : ∀ w ∈ wsX70, w ∈ wsX7_count := fun w h => List.mem_cons_of_mem _ (List.mem_append_right _ (h))
theorem hdX7_count : yX7_count.cls = RX7 ∧ yX7_count.cls ≠ "java/lang/invoke/MethodHandle" ∧ yX7_count.cls ≠ "java/lang/invoke/VarHandle" ∧ (parseMethodDescriptor yX7_count.desc).map (fun d => d.parameters.length) = some 1 := by decide +kernel
abbrev rmX7_count : Room := { frames := 2, cells := 0, slots := 0, locals := 42 }
section SX7_count
variable {p : Program} {l : Launch} {e : Env} {s : State} {m : MethodId} {args : Array Value} {below : List Frame} {meth : Method} {c : Code} {Q : State → Prop} {G : GG} {A : Nat → Prop}
set_option maxHeartbeats 4000000 in
set_option maxRecDepth 100000 in
theorem kX7_count (h_this : Nat) (h_s : Nat) (h_draft : Nat) (h_past : Nat) (h_kept : Nat) (h_isKept : Nat) (h_facts : Nat) (h_text : Nat) (c_thrown : Int32) (c_undos : Int32) (c_manyFacts : Int32) (c_typed : Int32) (c_from : Int32) (c_to : Int32) (c_token : Int32) (c_fault : Int32) (c_hasHooks : Int32) (c_hasTies : Int32) (c_low : Int32) (c_high : Int32) (c_s : Nat → Int32) (v1 : Int32) (C : Cx cX7_count (some .int) 2 RX7 wsX7_count G p s m args meth c) (hA : ∀ q : Nat, s.heap.size ≤ q → A q) (hP : va_P G.1 CL [(h_this, .inr (7, [.int c_thrown, .ref h_s, .ref h_draft, .ref h_past, .int c_undos, .ref h_kept, .ref h_isKept, .ref h_facts, .int c_manyFacts, .ref h_text, .int c_typed, .int c_from, .int c_to, .int c_token, .int c_fault, .int c_hasHooks, .int c_hasTies, .int c_low, .int c_high])), (h_s, .inl (G.2 0, 24, .inl c_s))] s.heap) (hD : va_D A [(h_this, .inr (7, [.int c_thrown, .ref h_s, .ref h_draft, .ref h_past, .int c_undos, .ref h_kept, .ref h_isKept, .ref h_facts, .int c_manyFacts, .ref h_text, .int c_typed, .int c_from, .int c_to, .int c_token, .int c_fault, .int c_hasHooks, .int c_hasTies, .int c_low, .int c_high])), (h_s, .inl (G.2 0, 24, .inl c_s))]) (hS : va_S A s.heap s.heap []) {res : Int32 × Int32} (kr : ∀ (pc : Nat) (ls : Array Slot) (H : Heap) (locs : List Loc), va_P G.1 CL [(h_this, .inr (7, [.int (res.2), .ref h_s, .ref h_draft, .ref h_past, .int c_undos, .ref h_kept, .ref h_isKept, .ref h_facts, .int c_manyFacts, .ref h_text, .int c_typed, .int c_from, .int c_to, .int c_token, .int c_fault, .int c_hasHooks, .int c_hasTies, .int c_low, .int c_high])), (h_s, .inl (G.2 0, 24, .inl c_s))] H → va_D A [(h_this, .inr (7, [.int (res.2), .ref h_s, .ref h_draft, .ref h_past, .int c_undos, .ref h_kept, .ref h_isKept, .ref h_facts, .int c_manyFacts, .ref h_text, .int c_typed, .int c_from, .int c_to, .int c_token, .int c_fault, .int c_hasHooks, .int c_hasTies, .int c_low, .int c_high])), (h_s, .inl (G.2 0, 24, .inl c_s))] → va_S A s.heap H locs → decode cX7_count pc = .ok (.ireturn, 1) → W p l e rmX7_count s m args below meth c H locs 0 0 Q (F0 m pc ls [.int res.1])) (hf : fX7_count c_thrown c_undos c_manyFacts c_typed c_s v1 = some res) {ls : Array Slot} (hl : lv_has ls 2 [(0, .ref h_this), (1, .int v1)]) : W p l e rmX7_count s m args below meth c s.heap [] 0 0 Q (F0 m 0 ls []) := by
  obtain ⟨hx, hb, hr, hlk, hml, hown, hts, hK⟩ := id C
  rw [fX7_count] at hf
  refine lv_aload_n hx hb dX7_count_0 rfl (lv_at hl 0 rfl) ?_
  refine lv_iconst (v := (0 : Int32)) hx hb dX7_count_1 (by decide) ?_
  refine va_put (D := G.1) (cl := CL) (ci := 7) (v := .int (0 : Int32)) (ty := .int) (C := RX7) (T := TX7) (N := 19) hx hb hts iX7_count_7 tyX7 tyX7_ok nmX7 hown hK hP hD hS 0 rfl rfl 0 (by decide) (hts (.fieldLink RX7 37 "LoomCardsModel" "thrown" "I") (List.mem_of_getElem? (i := 1) rfl)) (fun _ h9 => h9) rfl (tyX7_ok 0 (by decide)) rfl rfl (Nat.le_of_ble_eq_true rfl) dX7_count_2 (fun H locs hP hD hS => ?_)
  have hP : va_P G.1 CL [(h_this, .inr (7, [.int (0 : Int32), .ref h_s, .ref h_draft, .ref h_past, .int c_undos, .ref h_kept, .ref h_isKept, .ref h_facts, .int c_manyFacts, .ref h_text, .int c_typed, .int c_from, .int c_to, .int c_token, .int c_fault, .int c_hasHooks, .int c_hasTies, .int c_low, .int c_high])), (h_s, .inl (G.2 0, 24, .inl c_s))] H := hP
  have hD : va_D A [(h_this, .inr (7, [.int (0 : Int32), .ref h_s, .ref h_draft, .ref h_past, .int c_undos, .ref h_kept, .ref h_isKept, .ref h_facts, .int c_manyFacts, .ref h_text, .int c_typed, .int c_from, .int c_to, .int c_token, .int c_fault, .int c_hasHooks, .int c_hasTies, .int c_low, .int c_high])), (h_s, .inl (G.2 0, 24, .inl c_s))] := hD
  refine lv_iload_n hx hb dX7_count_5 rfl (lv_at hl 1 rfl) ?_
  refine r_if hf (fun e9 hf => ?_) (fun n0 hf => ?_)
  · refine sw_in (off := 30) (tgt := 36) e9 hx hb dX7_count_6 (by decide) (by decide) (by decide) (by decide) ?_
    refine lv_aload_n hx hb dX7_count_36 rfl (lv_at hl 0 rfl) ?_
    refine r_bind hf (fun u1 hu1 hf => ?_)
    refine cRiV (ci := 7) (rest := []) ⟨hx, hb, hml, hown, hts⟩ hK (tX7_holes l G h_this h_s h_draft h_past h_kept h_isKept h_facts h_text (0 : Int32) c_undos c_manyFacts c_typed c_from c_to c_token c_fault c_hasHooks c_hasTies c_low c_high c_s u1 hu1) gX7_count_X7_holes rfl hdX7_holes rfl rfl rfl ⟨Nat.le_of_ble_eq_true rfl, Nat.le_of_ble_eq_true rfl⟩ hP [0, 1] rfl 0 rfl rfl rfl hl.1 (Nat.le_of_ble_eq_true rfl) rfl dX7_count_37 ⟨Nat.zero_le _, Nat.zero_le _⟩ ?_
    obtain rfl := Option.some.inj hf
    exact kr _ _ _ _ hP hD hS dX7_count_40
  · refine r_if hf (fun e9 hf => ?_) (fun n1 hf => ?_)
    · refine sw_in (off := 35) (tgt := 41) e9 hx hb dX7_count_6 (by decide) (by decide) (by decide) (by decide) ?_
      refine lv_aload_n hx hb dX7_count_41 rfl (lv_at hl 0 rfl) ?_
      refine va_get (D := G.1) (cl := CL) (ci := 7) (C := RX7) (T := TX7) (N := 19) hx hb hts iX7_count_7 hown hK hP 0 rfl rfl 8 (by decide) (hts (.fieldLink RX7 184 "LoomCardsModel" "manyFacts" "I") (List.mem_of_getElem? (i := 2) rfl)) (fun _ h9 => h9) rfl dX7_count_42 ?_
      obtain rfl := Option.some.inj hf
      exact kr _ _ _ _ hP hD hS dX7_count_45
    · refine r_if hf (fun e9 hf => ?_) (fun n2 hf => ?_)
      · refine sw_in (off := 40) (tgt := 46) e9 hx hb dX7_count_6 (by decide) (by decide) (by decide) (by decide) ?_
        refine lv_aload_n hx hb dX7_count_46 rfl (lv_at hl 0 rfl) ?_
        refine va_get (D := G.1) (cl := CL) (ci := 7) (C := RX7) (T := TX7) (N := 19) hx hb hts iX7_count_7 hown hK hP 0 rfl rfl 10 (by decide) (hts (.fieldLink RX7 45 "LoomCardsModel" "typed" "I") (List.mem_of_getElem? (i := 3) rfl)) (fun _ h9 => h9) rfl dX7_count_47 ?_
        obtain rfl := Option.some.inj hf
        exact kr _ _ _ _ hP hD hS dX7_count_50
      · refine r_if hf (fun e9 hf => ?_) (fun n3 hf => ?_)
        · refine sw_in (off := 45) (tgt := 51) e9 hx hb dX7_count_6 (by decide) (by decide) (by decide) (by decide) ?_
          refine lv_aload_n hx hb dX7_count_51 rfl (lv_at hl 0 rfl) ?_
          refine va_get (D := G.1) (cl := CL) (ci := 7) (C := RX7) (T := TX7) (N := 19) hx hb hts iX7_count_7 hown hK hP 0 rfl rfl 4 (by decide) (hts (.fieldLink RX7 114 "LoomCardsModel" "undos" "I") (List.mem_of_getElem? (i := 4) rfl)) (fun _ h9 => h9) rfl dX7_count_52 ?_
          obtain rfl := Option.some.inj hf
          exact kr _ _ _ _ hP hD hS dX7_count_55
        · refine sw_out (lo := 4) (N := 4) (tgt := 56) hx hb dX7_count_6 (fun j hj => by match j, hj with | 0, _ => exact n0 | 1, _ => exact n1 | 2, _ => exact n2 | 3, _ => exact n3 | j + 4, hj => omega) (by decide) (by decide) ?_
          refine lv_iload_n hx hb dX7_count_56 rfl (lv_at hl 1 rfl) ?_
          refine lv_iconst (v := (0 : Int32)) hx hb dX7_count_57 (by decide) ?_
          refine lv_iconst (v := (3 : Int32)) hx hb dX7_count_58 (by decide) ?_
          refine r_bind hf (fun u2 hu2 hf => ?_)
          refine cRiS (rest := []) ⟨hx, hb, hml, hown, hts⟩ hK (tX7_in l G v1 (0 : Int32) (3 : Int32) u2 hu2) gX7_count_X7_in rfl hdX7_in rfl rfl rfl ⟨Nat.le_of_ble_eq_true rfl, Nat.le_of_ble_eq_true rfl⟩ hP [] rfl hl.1 (Nat.le_of_ble_eq_true rfl) rfl dX7_count_59 ⟨Nat.zero_le _, Nat.zero_le _⟩ ?_
          refine lv_if_eq (tgt := 74) hx hb dX7_count_62 (by decide) (fun c9 => ?_) (fun c9 => ?_)
          · have hf := c_t hf c9
            refine lv_iconst (v := (-1 : Int32)) hx hb dX7_count_74 (by decide) ?_
            obtain rfl := Option.some.inj hf
            exact kr _ _ _ _ hP hD hS dX7_count_75
          · have hf := c_f hf c9
            refine lv_aload_n hx hb dX7_count_65 rfl (lv_at hl 0 rfl) ?_
            refine va_get (D := G.1) (cl := CL) (ci := 7) (C := RX7) (T := TX7) (N := 19) hx hb hts iX7_count_7 hown hK hP 0 rfl rfl 1 (by decide) (hts (.fieldLink RX7 7 "LoomCardsModel" "s" "[I") (List.mem_of_getElem? (i := 5) rfl)) (fun _ h9 => h9) rfl dX7_count_66 ?_
            refine lv_iload_n hx hb dX7_count_69 rfl (lv_at hl 1 rfl) ?_
            refine r_gd hf (fun g9 hf => ?_)
            refine r_iald hx hb hK hP 1 rfl (ix_in g9) rfl dX7_count_70 ?_
            refine lv_goto (tgt := 75) hx hb dX7_count_71 (by decide) ?_
            obtain rfl := Option.some.inj hf
            exact kr _ _ _ _ hP hD hS dX7_count_75
end SX7_count
set_option maxHeartbeats 4000000 in
set_option maxRecDepth 100000 in
theorem tX7_count (l : Launch) (G : GG) (h_this : Nat) (h_s : Nat) (h_draft : Nat) (h_past : Nat) (h_kept : Nat) (h_isKept : Nat) (h_facts : Nat) (h_text : Nat) (c_thrown : Int32) (c_undos : Int32) (c_manyFacts : Int32) (c_typed : Int32) (c_from : Int32) (c_to : Int32) (c_token : Int32) (c_fault : Int32) (c_hasHooks : Int32) (c_hasTies : Int32) (c_low : Int32) (c_high : Int32) (c_s : Nat → Int32) (v1 : Int32) (res : Int32 × Int32) (hf : fX7_count c_thrown c_undos c_manyFacts c_typed c_s v1 = some res) : MWi l yX7_count wsX7_count rmX7_count G [.ref h_this, .int v1] [(h_this, .inr (7, [.int c_thrown, .ref h_s, .ref h_draft, .ref h_past, .int c_undos, .ref h_kept, .ref h_isKept, .ref h_facts, .int c_manyFacts, .ref h_text, .int c_typed, .int c_from, .int c_to, .int c_token, .int c_fault, .int c_hasHooks, .int c_hasTies, .int c_low, .int c_high])), (h_s, .inl (G.2 0, 24, .inl c_s))] (res.1) [(h_this, .inr (7, [.int (res.2), .ref h_s, .ref h_draft, .ref h_past, .int c_undos, .ref h_kept, .ref h_isKept, .ref h_facts, .int c_manyFacts, .ref h_text, .int c_typed, .int c_from, .int c_to, .int c_token, .int c_fault, .int c_hasHooks, .int c_hasTies, .int c_low, .int c_high])), (h_s, .inl (G.2 0, 24, .inl c_s))] := MWi.of (plainFor_of_name (by decide +kernel)) rfl (Nat.le_of_ble_eq_true rfl) (fun p e s m below meth c A C hA hP hD hS ls hl => kX7_count h_this h_s h_draft h_past h_kept h_isKept h_facts h_text c_thrown c_undos c_manyFacts c_typed c_from c_to c_token c_fault c_hasHooks c_hasTies c_low c_high c_s v1 C hA hP hD hS (fun pc ls H locs hP hD hS d => rWi C hP hD hS d) hf hl)

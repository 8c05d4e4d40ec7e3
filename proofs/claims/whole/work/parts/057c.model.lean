def fX7_becomes (c_undos : Int32) (c_s : Nat → Int32) (c_past : Nat → Int32) (v1 : Int32) (v2 : Int32) : Option (Int32 × Int32 × (Nat → Int32) × (Nat → Int32)) := gd (ix v1 24) (if (c_s v1.toNatClampNeg) = v2 then some ((-2 : Int32), c_undos, c_s, c_past) else (fX7_notes c_undos c_s c_past).bind (fun u1 => gd (ix v1 24) (some ((c_s v1.toNatClampNeg), u1.1, (upd c_s v1.toNatClampNeg v2), u1.2))))
theorem iX7_becomes_7 : ∀ w ∈ wsX70, w ∈ wsX7_becomes := fun w h => List.mem_cons_of_mem _ (List.mem_append_right _ (h))
theorem hdX7_becomes : yX7_becomes.cls = RX7 ∧ yX7_becomes.cls ≠ "java/lang/invoke/MethodHandle" ∧ yX7_becomes.cls ≠ "java/lang/invoke/VarHandle" ∧ (parseMethodDescriptor yX7_becomes.desc).map (fun d => d.parameters.length) = some 2 := by decide +kernel
abbrev rmX7_becomes : Room := { frames := 1, cells := 0, slots := 0, locals := 21 }
section SX7_becomes
variable {p : Program} {l : Launch} {e : Env} {s : State} {m : MethodId} {args : Array Value} {below : List Frame} {meth : Method} {c : Code} {Q : State → Prop} {G : GG} {A : Nat → Prop}
set_option maxHeartbeats 4000000 in
set_option maxRecDepth 100000 in
theorem kX7_becomes (h_this : Nat) (h_s : Nat) (h_draft : Nat) (h_past : Nat) (h_kept : Nat) (h_isKept : Nat) (h_facts : Nat) (h_text : Nat) (c_thrown : Int32) (c_undos : Int32) (c_manyFacts : Int32) (c_typed : Int32) (c_from : Int32) (c_to : Int32) (c_token : Int32) (c_fault : Int32) (c_hasHooks : Int32) (c_hasTies : Int32) (c_low : Int32) (c_high : Int32) (c_s : Nat → Int32) (c_past : Nat → Int32) (v1 : Int32) (v2 : Int32) (C : Cx cX7_becomes (some .int) 4 RX7 wsX7_becomes G p s m args meth c) (hA : ∀ q : Nat, s.heap.size ≤ q → A q) (hP : va_P G.1 CL [(h_this, .inr (7, [.int c_thrown, .ref h_s, .ref h_draft, .ref h_past, .int c_undos, .ref h_kept, .ref h_isKept, .ref h_facts, .int c_manyFacts, .ref h_text, .int c_typed, .int c_from, .int c_to, .int c_token, .int c_fault, .int c_hasHooks, .int c_hasTies, .int c_low, .int c_high])), (h_s, .inl (G.2 0, 24, .inl c_s)), (h_past, .inl (G.2 0, 144, .inl c_past))] s.heap) (hD : va_D A [(h_this, .inr (7, [.int c_thrown, .ref h_s, .ref h_draft, .ref h_past, .int c_undos, .ref h_kept, .ref h_isKept, .ref h_facts, .int c_manyFacts, .ref h_text, .int c_typed, .int c_from, .int c_to, .int c_token, .int c_fault, .int c_hasHooks, .int c_hasTies, .int c_low, .int c_high])), (h_s, .inl (G.2 0, 24, .inl c_s)), (h_past, .inl (G.2 0, 144, .inl c_past))]) (hS : va_S A s.heap s.heap []) {res : Int32 × Int32 × (Nat → Int32) × (Nat → Int32)} (kr : ∀ (pc : Nat) (ls : Array Slot) (H : Heap) (locs : List Loc), va_P G.1 CL [(h_this, .inr (7, [.int c_thrown, .ref h_s, .ref h_draft, .ref h_past, .int (res.2.1), .ref h_kept, .ref h_isKept, .ref h_facts, .int c_manyFacts, .ref h_text, .int c_typed, .int c_from, .int c_to, .int c_token, .int c_fault, .int c_hasHooks, .int c_hasTies, .int c_low, .int c_high])), (h_s, .inl (G.2 0, 24, .inl (res.2.2.1))), (h_past, .inl (G.2 0, 144, .inl (res.2.2.2)))] H → va_D A [(h_this, .inr (7, [.int c_thrown, .ref h_s, .ref h_draft, .ref h_past, .int (res.2.1), .ref h_kept, .ref h_isKept, .ref h_facts, .int c_manyFacts, .ref h_text, .int c_typed, .int c_from, .int c_to, .int c_token, .int c_fault, .int c_hasHooks, .int c_hasTies, .int c_low, .int c_high])), (h_s, .inl (G.2 0, 24, .inl (res.2.2.1))), (h_past, .inl (G.2 0, 144, .inl (res.2.2.2)))] → va_S A s.heap H locs → decode cX7_becomes pc = .ok (.ireturn, 1) → W p l e rmX7_becomes s m args below meth c H locs 0 0 Q (F0 m pc ls [.int res.1])) (hf : fX7_becomes c_undos c_s c_past v1 v2 = some res) {ls : Array Slot} (hl : lv_has ls 4 [(0, .ref h_this), (1, .int v1), (2, .int v2)]) : W p l e rmX7_becomes s m args below meth c s.heap [] 0 0 Q (F0 m 0 ls []) := by
  obtain ⟨hx, hb, hr, hlk, hml, hown, hts, hK⟩ := id C
  rw [fX7_becomes] at hf
  refine lv_aload_n hx hb dX7_becomes_0 rfl (lv_at hl 0 rfl) ?_
  refine va_get (D := G.1) (cl := CL) (ci := 7) (C := RX7) (T := TX7) (N := 19) hx hb hts iX7_becomes_7 hown hK hP 0 rfl rfl 1 (by decide) (hts (.fieldLink RX7 7 "LoomCardsModel" "s" "[I") (List.mem_of_getElem? (i := 1) rfl)) (fun _ h9 => h9) rfl dX7_becomes_1 ?_
  refine lv_iload_n hx hb dX7_becomes_4 rfl (lv_at hl 1 rfl) ?_
  refine r_gd hf (fun g9 hf => ?_)
  refine r_iald hx hb hK hP 1 rfl (ix_in g9) rfl dX7_becomes_5 ?_
  refine lv_istore_n (lv' := [(3, .int (c_s v1.toNatClampNeg)), (0, .ref h_this), (1, .int v1), (2, .int v2)]) hx hb dX7_becomes_6 rfl hl (by decide) rfl (fun ls hl => ?_)
  refine lv_iload_n hx hb dX7_becomes_7 rfl (lv_at hl 0 rfl) ?_
  refine lv_iload_n hx hb dX7_becomes_8 rfl (lv_at hl 3 rfl) ?_
  refine lv_icmp_ne (tgt := 15) hx hb dX7_becomes_9 (by decide) (fun c9 => ?_) (fun c9 => ?_)
  · have hf := c_f hf c9
    refine lv_aload_n hx hb dX7_becomes_15 rfl (lv_at hl 1 rfl) ?_
    refine r_bind hf (fun u1 hu1 hf => ?_)
    refine cWvV (ci := 7) (rest := []) (wr := []) (wf := [(h_this, .inr (7, [.int c_thrown, .ref h_s, .ref h_draft, .ref h_past, .int u1.1, .ref h_kept, .ref h_isKept, .ref h_facts, .int c_manyFacts, .ref h_text, .int c_typed, .int c_from, .int c_to, .int c_token, .int c_fault, .int c_hasHooks, .int c_hasTies, .int c_low, .int c_high])), (h_s, .inl (G.2 0, 24, .inl c_s)), (h_past, .inl (G.2 0, 144, .inl u1.2))]) ⟨hx, hb, hml, hown, hts⟩ hK (tX7_notes l G h_this h_s h_draft h_past h_kept h_isKept h_facts h_text c_thrown c_undos c_manyFacts c_typed c_from c_to c_token c_fault c_hasHooks c_hasTies c_low c_high c_s c_past u1 hu1) gX7_becomes_X7_notes rfl hdX7_notes rfl rfl rfl ⟨Nat.le_of_ble_eq_true rfl, Nat.le_of_ble_eq_true rfl⟩ hP hD hS hA [0, 1, 2] [] [0, 1, 2] rfl rfl rfl (by decide) (by decide) (by decide) (by decide) 0 rfl rfl rfl hl.1 (Nat.le_of_ble_eq_true rfl) rfl dX7_becomes_16 ⟨Nat.zero_le _, Nat.zero_le _⟩ (fun H locs hP hD hS => ?_)
    refine lv_aload_n hx hb dX7_becomes_19 rfl (lv_at hl 1 rfl) ?_
    refine va_get (D := G.1) (cl := CL) (ci := 7) (C := RX7) (T := TX7) (N := 19) hx hb hts iX7_becomes_7 hown hK hP 0 rfl rfl 1 (by decide) (hts (.fieldLink RX7 7 "LoomCardsModel" "s" "[I") (List.mem_of_getElem? (i := 1) rfl)) (fun _ h9 => h9) rfl dX7_becomes_20 ?_
    refine lv_iload_n hx hb dX7_becomes_23 rfl (lv_at hl 2 rfl) ?_
    refine lv_iload_n hx hb dX7_becomes_24 rfl (lv_at hl 3 rfl) ?_
    refine r_gd hf (fun g9 hf => ?_)
    refine r_iast hx hb hK hP hD hS 1 rfl (ix_in g9) rfl dX7_becomes_25 (fun H locs hP hD hS => ?_)
    have hP : va_P G.1 CL [(h_this, .inr (7, [.int c_thrown, .ref h_s, .ref h_draft, .ref h_past, .int u1.1, .ref h_kept, .ref h_isKept, .ref h_facts, .int c_manyFacts, .ref h_text, .int c_typed, .int c_from, .int c_to, .int c_token, .int c_fault, .int c_hasHooks, .int c_hasTies, .int c_low, .int c_high])), (h_s, .inl (G.2 0, 24, .inl (upd c_s v1.toNatClampNeg v2))), (h_past, .inl (G.2 0, 144, .inl u1.2))] H := hP
    have hD : va_D A [(h_this, .inr (7, [.int c_thrown, .ref h_s, .ref h_draft, .ref h_past, .int u1.1, .ref h_kept, .ref h_isKept, .ref h_facts, .int c_manyFacts, .ref h_text, .int c_typed, .int c_from, .int c_to, .int c_token, .int c_fault, .int c_hasHooks, .int c_hasTies, .int c_low, .int c_high])), (h_s, .inl (G.2 0, 24, .inl (upd c_s v1.toNatClampNeg v2))), (h_past, .inl (G.2 0, 144, .inl u1.2))] := hD
    refine lv_iload_n hx hb dX7_becomes_26 rfl (lv_at hl 0 rfl) ?_
    obtain rfl := Option.some.inj hf
    exact kr _ _ _ _ hP hD hS dX7_becomes_27
  · have hf := c_t hf c9
    refine lv_bipush (v := (-2 : Int32)) hx hb dX7_becomes_12 (by decide) ?_
    obtain rfl := Option.some.inj hf
    exact kr _ _ _ _ hP hD hS dX7_becomes_14
end SX7_becomes
set_option maxHeartbeats 4000000 in
set_option maxRecDepth 100000 in
theorem tX7_becomes (l : Launch) (G : GG) (h_this : Nat) (h_s : Nat) (h_draft : Nat) (h_past : Nat) (h_kept : Nat) (h_isKept : Nat) (h_facts : Nat) (h_text : Nat) (c_thrown : Int32) (c_undos : Int32) (c_manyFacts : Int32) (c_typed : Int32) (c_from : Int32) (c_to : Int32) (c_token : Int32) (c_fault : Int32) (c_hasHooks : Int32) (c_hasTies : Int32) (c_low : Int32) (c_high : Int32) (c_s : Nat → Int32) (c_past : Nat → Int32) (v1 : Int32) (v2 : Int32) (res : Int32 × Int32 × (Nat → Int32) × (Nat → Int32)) (hf : fX7_becomes c_undos c_s c_past v1 v2 = some res) : MWi l yX7_becomes wsX7_becomes rmX7_becomes G [.ref h_this, .int v1, .int v2] [(h_this, .inr (7, [.int c_thrown, .ref h_s, .ref h_draft, .ref h_past, .int c_undos, .ref h_kept, .ref h_isKept, .ref h_facts, .int c_manyFacts, .ref h_text, .int c_typed, .int c_from, .int c_to, .int c_token, .int c_fault, .int c_hasHooks, .int c_hasTies, .int c_low, .int c_high])), (h_s, .inl (G.2 0, 24, .inl c_s)), (h_past, .inl (G.2 0, 144, .inl c_past))] (res.1) [(h_this, .inr (7, [.int c_thrown, .ref h_s, .ref h_draft, .ref h_past, .int (res.2.1), .ref h_kept, .ref h_isKept, .ref h_facts, .int c_manyFacts, .ref h_text, .int c_typed, .int c_from, .int c_to, .int c_token, .int c_fault, .int c_hasHooks, .int c_hasTies, .int c_low, .int c_high])), (h_s, .inl (G.2 0, 24, .inl (res.2.2.1))), (h_past, .inl (G.2 0, 144, .inl (res.2.2.2)))] := MWi.of (plainFor_of_name (by decide +kernel)) rfl (Nat.le_of_ble_eq_true rfl) (fun p e s m below meth c A C hA hP hD hS ls hl => kX7_becomes h_this h_s h_draft h_past h_kept h_isKept h_facts h_text c_thrown c_undos c_manyFacts c_typed c_from c_to c_token c_fault c_hasHooks c_hasTies c_low c_high c_s c_past v1 v2 C hA hP hD hS (fun pc ls H locs hP hD hS d => rWi C hP hD hS d) hf hl)
def fX7_ties (c_thrown : Int32) (c_undos : Int32) (c_s : Nat → Int32) (c_past : Nat → Int32) (v1 : Int32) (v2 : Int32) : Option (Int32 × Int32 × Int32 × (Nat → Int32) × (Nat → Int32)) := (fX7_isEnd c_s v1).bind (fun u1 => if u1 = 0 then some ((-1 : Int32), (0 : Int32), c_undos, c_s, c_past) else (fX7_isHook c_s v2).bind (fun u2 => if u2 = 0 then some ((-1 : Int32), (0 : Int32), c_undos, c_s, c_past) else (fX7_becomes c_undos c_s c_past ((4 : Int32) + v1) v2).bind (fun u3 => some (u3.1, (0 : Int32), u3.2.1, u3.2.2.1, u3.2.2.2))))
theorem iX7_ties_7 : ∀ w ∈ wsX70, w ∈ wsX7_ties := fun w h => List.mem_cons_of_mem _ (List.mem_append_right _ (h))
theorem hdX7_ties : yX7_ties.cls = RX7 ∧ yX7_ties.cls ≠ "java/lang/invoke/MethodHandle" ∧ yX7_ties.cls ≠ "java/lang/invoke/VarHandle" ∧ (parseMethodDescriptor yX7_ties.desc).map (fun d => d.parameters.length) = some 2 := by decide +kernel
abbrev rmX7_ties : Room := { frames := 2, cells := 0, slots := 0, locals := 44 }
section SX7_ties
variable {p : Program} {l : Launch} {e : Env} {s : State} {m : MethodId} {args : Array Value} {below : List Frame} {meth : Method} {c : Code} {Q : State → Prop} {G : GG} {A : Nat → Prop}
set_option maxHeartbeats 4000000 in
set_option maxRecDepth 100000 in
theorem kX7_ties (h_this : Nat) (h_s : Nat) (h_draft : Nat) (h_past : Nat) (h_kept : Nat) (h_isKept : Nat) (h_facts : Nat) (h_text : Nat) (c_thrown : Int32) (c_undos : Int32) (c_manyFacts : Int32) (c_typed : Int32) (c_from : Int32) (c_to : Int32) (c_token : Int32) (c_fault : Int32) (c_hasHooks : Int32) (c_hasTies : Int32) (c_low : Int32) (c_high : Int32) (c_s : Nat → Int32) (c_past : Nat → Int32) (v1 : Int32) (v2 : Int32) (C : Cx cX7_ties (some .int) 3 RX7 wsX7_ties G p s m args meth c) (hA : ∀ q : Nat, s.heap.size ≤ q → A q) (hP : va_P G.1 CL [(h_this, .inr (7, [.int c_thrown, .ref h_s, .ref h_draft, .ref h_past, .int c_undos, .ref h_kept, .ref h_isKept, .ref h_facts, .int c_manyFacts, .ref h_text, .int c_typed, .int c_from, .int c_to, .int c_token, .int c_fault, .int c_hasHooks, .int c_hasTies, .int c_low, .int c_high])), (h_s, .inl (G.2 0, 24, .inl c_s)), (h_past, .inl (G.2 0, 144, .inl c_past))] s.heap) (hD : va_D A [(h_this, .inr (7, [.int c_thrown, .ref h_s, .ref h_draft, .ref h_past, .int c_undos, .ref h_kept, .ref h_isKept, .ref h_facts, .int c_manyFacts, .ref h_text, .int c_typed, .int c_from, .int c_to, .int c_token, .int c_fault, .int c_hasHooks, .int c_hasTies, .int c_low, .int c_high])), (h_s, .inl (G.2 0, 24, .inl c_s)), (h_past, .inl (G.2 0, 144, .inl c_past))]) (hS : va_S A s.heap s.heap []) {res : Int32 × Int32 × Int32 × (Nat → Int32) × (Nat → Int32)} (kr : ∀ (pc : Nat) (ls : Array Slot) (H : Heap) (locs : List Loc), va_P G.1 CL [(h_this, .inr (7, [.int (res.2.1), .ref h_s, .ref h_draft, .ref h_past, .int (res.2.2.1), .ref h_kept, .ref h_isKept, .ref h_facts, .int c_manyFacts, .ref h_text, .int c_typed, .int c_from, .int c_to, .int c_token, .int c_fault, .int c_hasHooks, .int c_hasTies, .int c_low, .int c_high])), (h_s, .inl (G.2 0, 24, .inl (res.2.2.2.1))), (h_past, .inl (G.2 0, 144, .inl (res.2.2.2.2)))] H → va_D A [(h_this, .inr (7, [.int (res.2.1), .ref h_s, .ref h_draft, .ref h_past, .int (res.2.2.1), .ref h_kept, .ref h_isKept, .ref h_facts, .int c_manyFacts, .ref h_text, .int c_typed, .int c_from, .int c_to, .int c_token, .int c_fault, .int c_hasHooks, .int c_hasTies, .int c_low, .int c_high])), (h_s, .inl (G.2 0, 24, .inl (res.2.2.2.1))), (h_past, .inl (G.2 0, 144, .inl (res.2.2.2.2)))] → va_S A s.heap H locs → decode cX7_ties pc = .ok (.ireturn, 1) → W p l e rmX7_ties s m args below meth c H locs 0 0 Q (F0 m pc ls [.int res.1])) (hf : fX7_ties c_thrown c_undos c_s c_past v1 v2 = some res) {ls : Array Slot} (hl : lv_has ls 3 [(0, .ref h_this), (1, .int v1), (2, .int v2)]) : W p l e rmX7_ties s m args below meth c s.heap [] 0 0 Q (F0 m 0 ls []) := by
  obtain ⟨hx, hb, hr, hlk, hml, hown, hts, hK⟩ := id C
  rw [fX7_ties] at hf
  refine lv_aload_n hx hb dX7_ties_0 rfl (lv_at hl 0 rfl) ?_
  refine lv_iconst (v := (0 : Int32)) hx hb dX7_ties_1 (by decide) ?_
  refine va_put (D := G.1) (cl := CL) (ci := 7) (v := .int (0 : Int32)) (ty := .int) (C := RX7) (T := TX7) (N := 19) hx hb hts iX7_ties_7 tyX7 tyX7_ok nmX7 hown hK hP hD hS 0 rfl rfl 0 (by decide) (hts (.fieldLink RX7 37 "LoomCardsModel" "thrown" "I") (List.mem_of_getElem? (i := 1) rfl)) (fun _ h9 => h9) rfl (tyX7_ok 0 (by decide)) rfl rfl (Nat.le_of_ble_eq_true rfl) dX7_ties_2 (fun H locs hP hD hS => ?_)
  have hP : va_P G.1 CL [(h_this, .inr (7, [.int (0 : Int32), .ref h_s, .ref h_draft, .ref h_past, .int c_undos, .ref h_kept, .ref h_isKept, .ref h_facts, .int c_manyFacts, .ref h_text, .int c_typed, .int c_from, .int c_to, .int c_token, .int c_fault, .int c_hasHooks, .int c_hasTies, .int c_low, .int c_high])), (h_s, .inl (G.2 0, 24, .inl c_s)), (h_past, .inl (G.2 0, 144, .inl c_past))] H := hP
  have hD : va_D A [(h_this, .inr (7, [.int (0 : Int32), .ref h_s, .ref h_draft, .ref h_past, .int c_undos, .ref h_kept, .ref h_isKept, .ref h_facts, .int c_manyFacts, .ref h_text, .int c_typed, .int c_from, .int c_to, .int c_token, .int c_fault, .int c_hasHooks, .int c_hasTies, .int c_low, .int c_high])), (h_s, .inl (G.2 0, 24, .inl c_s)), (h_past, .inl (G.2 0, 144, .inl c_past))] := hD
  refine lv_aload_n hx hb dX7_ties_5 rfl (lv_at hl 0 rfl) ?_
  refine lv_iload_n hx hb dX7_ties_6 rfl (lv_at hl 1 rfl) ?_
  refine r_bind hf (fun u1 hu1 hf => ?_)
  refine cRiV (ci := 7) (rest := []) ⟨hx, hb, hml, hown, hts⟩ hK (tX7_isEnd l G h_this h_s h_draft h_past h_kept h_isKept h_facts h_text (0 : Int32) c_undos c_manyFacts c_typed c_from c_to c_token c_fault c_hasHooks c_hasTies c_low c_high c_s v1 u1 hu1) gX7_ties_X7_isEnd rfl hdX7_isEnd rfl rfl rfl ⟨Nat.le_of_ble_eq_true rfl, Nat.le_of_ble_eq_true rfl⟩ hP [0, 1] rfl 0 rfl rfl rfl hl.1 (Nat.le_of_ble_eq_true rfl) rfl dX7_ties_7 ⟨Nat.zero_le _, Nat.zero_le _⟩ ?_
  refine lv_if_eq (tgt := 32) hx hb dX7_ties_10 (by decide) (fun c9 => ?_) (fun c9 => ?_)
  · have hf := c_t hf c9
    refine lv_iconst (v := (-1 : Int32)) hx hb dX7_ties_32 (by decide) ?_
    obtain rfl := Option.some.inj hf
    exact kr _ _ _ _ hP hD hS dX7_ties_33
  · have hf := c_f hf c9
    refine lv_aload_n hx hb dX7_ties_13 rfl (lv_at hl 0 rfl) ?_
    refine lv_iload_n hx hb dX7_ties_14 rfl (lv_at hl 2 rfl) ?_
    refine r_bind hf (fun u2 hu2 hf => ?_)
    refine cRiV (ci := 7) (rest := []) ⟨hx, hb, hml, hown, hts⟩ hK (tX7_isHook l G h_this h_s h_draft h_past h_kept h_isKept h_facts h_text (0 : Int32) c_undos c_manyFacts c_typed c_from c_to c_token c_fault c_hasHooks c_hasTies c_low c_high c_s v2 u2 hu2) gX7_ties_X7_isHook rfl hdX7_isHook rfl rfl rfl ⟨Nat.le_of_ble_eq_true rfl, Nat.le_of_ble_eq_true rfl⟩ hP [0, 1] rfl 0 rfl rfl rfl hl.1 (Nat.le_of_ble_eq_true rfl) rfl dX7_ties_15 ⟨Nat.zero_le _, Nat.zero_le _⟩ ?_
    refine lv_if_eq (tgt := 32) hx hb dX7_ties_18 (by decide) (fun c9 => ?_) (fun c9 => ?_)
    · have hf := c_t hf c9
      refine lv_iconst (v := (-1 : Int32)) hx hb dX7_ties_32 (by decide) ?_
      obtain rfl := Option.some.inj hf
      exact kr _ _ _ _ hP hD hS dX7_ties_33
    · have hf := c_f hf c9
      refine lv_aload_n hx hb dX7_ties_21 rfl (lv_at hl 0 rfl) ?_
      refine lv_iconst (v := (4 : Int32)) hx hb dX7_ties_22 (by decide) ?_
      refine lv_iload_n hx hb dX7_ties_23 rfl (lv_at hl 1 rfl) ?_
      refine lv_iadd hx hb dX7_ties_24 ?_
      refine lv_iload_n hx hb dX7_ties_25 rfl (lv_at hl 2 rfl) ?_
      refine r_bind hf (fun u3 hu3 hf => ?_)
      refine cWiV (ci := 7) (rest := []) (wr := []) (wf := [(h_this, .inr (7, [.int (0 : Int32), .ref h_s, .ref h_draft, .ref h_past, .int u3.2.1, .ref h_kept, .ref h_isKept, .ref h_facts, .int c_manyFacts, .ref h_text, .int c_typed, .int c_from, .int c_to, .int c_token, .int c_fault, .int c_hasHooks, .int c_hasTies, .int c_low, .int c_high])), (h_s, .inl (G.2 0, 24, .inl u3.2.2.1)), (h_past, .inl (G.2 0, 144, .inl u3.2.2.2))]) ⟨hx, hb, hml, hown, hts⟩ hK (tX7_becomes l G h_this h_s h_draft h_past h_kept h_isKept h_facts h_text (0 : Int32) c_undos c_manyFacts c_typed c_from c_to c_token c_fault c_hasHooks c_hasTies c_low c_high c_s c_past ((4 : Int32) + v1) v2 u3 hu3) gX7_ties_X7_becomes rfl hdX7_becomes rfl rfl rfl ⟨Nat.le_of_ble_eq_true rfl, Nat.le_of_ble_eq_true rfl⟩ hP hD hS hA [0, 1, 2] [] [0, 1, 2] rfl rfl rfl (by decide) (by decide) (by decide) (by decide) 0 rfl rfl rfl hl.1 (Nat.le_of_ble_eq_true rfl) rfl dX7_ties_26 ⟨Nat.zero_le _, Nat.zero_le _⟩ (fun H locs hP hD hS => ?_)
      refine lv_goto (tgt := 33) hx hb dX7_ties_29 (by decide) ?_
      obtain rfl := Option.some.inj hf
      exact kr _ _ _ _ hP hD hS dX7_ties_33
end SX7_ties
set_option maxHeartbeats 4000000 in
set_option maxRecDepth 100000 in
theorem tX7_ties (l : Launch) (G : GG) (h_this : Nat) (h_s : Nat) (h_draft : Nat) (h_past : Nat) (h_kept : Nat) (h_isKept : Nat) (h_facts : Nat) (h_text : Nat) (c_thrown : Int32) (c_undos : Int32) (c_manyFacts : Int32) (c_typed : Int32) (c_from : Int32) (c_to : Int32) (c_token : Int32) (c_fault : Int32) (c_hasHooks : Int32) (c_hasTies : Int32) (c_low : Int32) (c_high : Int32) (c_s : Nat → Int32) (c_past : Nat → Int32) (v1 : Int32) (v2 : Int32) (res : Int32 × Int32 × Int32 × (Nat → Int32) × (Nat → Int32)) (hf : fX7_ties c_thrown c_undos c_s c_past v1 v2 = some res) : MWi l yX7_ties wsX7_ties rmX7_ties G [.ref h_this, .int v1, .int v2] [(h_this, .inr (7, [.int c_thrown, .ref h_s, .ref h_draft, .ref h_past, .int c_undos, .ref h_kept, .ref h_isKept, .ref h_facts, .int c_manyFacts, .ref h_text, .int c_typed, .int c_from, .int c_to, .int c_token, .int c_fault, .int c_hasHooks, .int c_hasTies, .int c_low, .int c_high])), (h_s, .inl (G.2 0, 24, .inl c_s)), (h_past, .inl (G.2 0, 144, .inl c_past))] (res.1) [(h_this, .inr (7, [.int (res.2.1), .ref h_s, .ref h_draft, .ref h_past, .int (res.2.2.1), .ref h_kept, .ref h_isKept, .ref h_facts, .int c_manyFacts, .ref h_text, .int c_typed, .int c_from, .int c_to, .int c_token, .int c_fault, .int c_hasHooks, .int c_hasTies, .int c_low, .int c_high])), (h_s, .inl (G.2 0, 24, .inl (res.2.2.2.1))), (h_past, .inl (G.2 0, 144, .inl (res.2.2.2.2)))] := MWi.of (plainFor_of_name (by decide +kernel)) rfl (Nat.le_of_ble_eq_true rfl) (fun p e s m below meth c A C hA hP hD hS ls hl => kX7_ties h_this h_s h_draft h_past h_kept h_isKept h_facts h_text c_thrown c_undos c_manyFacts c_typed c_from c_to c_token c_fault c_hasHooks c_hasTies c_low c_high c_s c_past v1 v2 C hA hP hD hS (fun pc ls H locs hP hD hS d => rWi C hP hD hS d) hf hl)
def fX7_adds (c_thrown : Int32) (c_undos : Int32) (c_s : Nat → Int32) (c_past : Nat → Int32) (v1 : Int32) : Option (Int32 × Int32 × Int32 × (Nat → Int32) × (Nat → Int32)) := (fX7_in v1 (0 : Int32) (((1 : Int32) <<< ((c_s 0) &&& 31)) - (1 : Int32))).bind (fun u1 => if u1 = 0 then some ((-1 : Int32), (0 : Int32), c_undos, c_s, c_past) else if (c_s 2) = (8 : Int32) then some ((-3 : Int32), (0 : Int32), c_undos, c_s, c_past) else (fX7_notes c_undos c_s c_past).bind (fun u2 => gd (ix ((16 : Int32) + (c_s 2)) 24) (some (((upd (upd c_s ((16 : Int32) + (c_s 2)).toNatClampNeg v1) 2 (((upd c_s ((16 : Int32) + (c_s 2)).toNatClampNeg v1) 2) + (1 : Int32))) 2), (0 : Int32), u2.1, (upd (upd c_s ((16 : Int32) + (c_s 2)).toNatClampNeg v1) 2 (((upd c_s ((16 : Int32) + (c_s 2)).toNatClampNeg v1) 2) + (1 : Int32))), u2.2))))
theorem iX7_adds_7 : ∀ w ∈ wsX70, w ∈ wsX7_adds := fun w h => List.mem_cons_of_mem _ (List.mem_append_right _ (h))
theorem hdX7_adds : yX7_adds.cls = RX7 ∧ yX7_adds.cls ≠ "java/lang/invoke/MethodHandle" ∧ yX7_adds.cls ≠ "java/lang/invoke/VarHandle" ∧ (parseMethodDescriptor yX7_adds.desc).map (fun d => d.parameters.length) = some 1 := by decide +kernel
abbrev rmX7_adds : Room := { frames := 1, cells := 0, slots := 0, locals := 22 }
section SX7_adds
variable {p : Program} {l : Launch} {e : Env} {s : State} {m : MethodId} {args : Array Value} {below : List Frame} {meth : Method} {c : Code} {Q : State → Prop} {G : GG} {A : Nat → Prop}
set_option maxHeartbeats 4000000 in
set_option maxRecDepth 100000 in
theorem kX7_adds (h_this : Nat) (h_s : Nat) (h_draft : Nat) (h_past : Nat) (h_kept : Nat) (h_isKept : Nat) (h_facts : Nat) (h_text : Nat) (c_thrown : Int32) (c_undos : Int32) (c_manyFacts : Int32) (c_typed : Int32) (c_from : Int32) (c_to : Int32) (c_token : Int32) (c_fault : Int32) (c_hasHooks : Int32) (c_hasTies : Int32) (c_low : Int32) (c_high : Int32) (c_s : Nat → Int32) (c_past : Nat → Int32) (v1 : Int32) (C : Cx cX7_adds (some .int) 2 RX7 wsX7_adds G p s m args meth c) (hA : ∀ q : Nat, s.heap.size ≤ q → A q) (hP : va_P G.1 CL [(h_this, .inr (7, [.int c_thrown, .ref h_s, .ref h_draft, .ref h_past, .int c_undos, .ref h_kept, .ref h_isKept, .ref h_facts, .int c_manyFacts, .ref h_text, .int c_typed, .int c_from, .int c_to, .int c_token, .int c_fault, .int c_hasHooks, .int c_hasTies, .int c_low, .int c_high])), (h_s, .inl (G.2 0, 24, .inl c_s)), (h_past, .inl (G.2 0, 144, .inl c_past))] s.heap) (hD : va_D A [(h_this, .inr (7, [.int c_thrown, .ref h_s, .ref h_draft, .ref h_past, .int c_undos, .ref h_kept, .ref h_isKept, .ref h_facts, .int c_manyFacts, .ref h_text, .int c_typed, .int c_from, .int c_to, .int c_token, .int c_fault, .int c_hasHooks, .int c_hasTies, .int c_low, .int c_high])), (h_s, .inl (G.2 0, 24, .inl c_s)), (h_past, .inl (G.2 0, 144, .inl c_past))]) (hS : va_S A s.heap s.heap []) {res : Int32 × Int32 × Int32 × (Nat → Int32) × (Nat → Int32)} (kr : ∀ (pc : Nat) (ls : Array Slot) (H : Heap) (locs : List Loc), va_P G.1 CL [(h_this, .inr (7, [.int (res.2.1), .ref h_s, .ref h_draft, .ref h_past, .int (res.2.2.1), .ref h_kept, .ref h_isKept, .ref h_facts, .int c_manyFacts, .ref h_text, .int c_typed, .int c_from, .int c_to, .int c_token, .int c_fault, .int c_hasHooks, .int c_hasTies, .int c_low, .int c_high])), (h_s, .inl (G.2 0, 24, .inl (res.2.2.2.1))), (h_past, .inl (G.2 0, 144, .inl (res.2.2.2.2)))] H → va_D A [(h_this, .inr (7, [.int (res.2.1), .ref h_s, .ref h_draft, .ref h_past, .int (res.2.2.1), .ref h_kept, .ref h_isKept, .ref h_facts, .int c_manyFacts, .ref h_text, .int c_typed, .int c_from, .int c_to, .int c_token, .int c_fault, .int c_hasHooks, .int c_hasTies, .int c_low, .int c_high])), (h_s, .inl (G.2 0, 24, .inl (res.2.2.2.1))), (h_past, .inl (G.2 0, 144, .inl (res.2.2.2.2)))] → va_S A s.heap H locs → decode cX7_adds pc = .ok (.ireturn, 1) → W p l e rmX7_adds s m args below meth c H locs 0 0 Q (F0 m pc ls [.int res.1])) (hf : fX7_adds c_thrown c_undos c_s c_past v1 = some res) {ls : Array Slot} (hl : lv_has ls 2 [(0, .ref h_this), (1, .int v1)]) : W p l e rmX7_adds s m args below meth c s.heap [] 0 0 Q (F0 m 0 ls []) := by
  obtain ⟨hx, hb, hr, hlk, hml, hown, hts, hK⟩ := id C
  rw [fX7_adds] at hf
  refine lv_aload_n hx hb dX7_adds_0 rfl (lv_at hl 0 rfl) ?_
  refine lv_iconst (v := (0 : Int32)) hx hb dX7_adds_1 (by decide) ?_
  refine va_put (D := G.1) (cl := CL) (ci := 7) (v := .int (0 : Int32)) (ty := .int) (C := RX7) (T := TX7) (N := 19) hx hb hts iX7_adds_7 tyX7 tyX7_ok nmX7 hown hK hP hD hS 0 rfl rfl 0 (by decide) (hts (.fieldLink RX7 37 "LoomCardsModel" "thrown" "I") (List.mem_of_getElem? (i := 1) rfl)) (fun _ h9 => h9) rfl (tyX7_ok 0 (by decide)) rfl rfl (Nat.le_of_ble_eq_true rfl) dX7_adds_2 (fun H locs hP hD hS => ?_)
  have hP : va_P G.1 CL [(h_this, .inr (7, [.int (0 : Int32), .ref h_s, .ref h_draft, .ref h_past, .int c_undos, .ref h_kept, .ref h_isKept, .ref h_facts, .int c_manyFacts, .ref h_text, .int c_typed, .int c_from, .int c_to, .int c_token, .int c_fault, .int c_hasHooks, .int c_hasTies, .int c_low, .int c_high])), (h_s, .inl (G.2 0, 24, .inl c_s)), (h_past, .inl (G.2 0, 144, .inl c_past))] H := hP
  have hD : va_D A [(h_this, .inr (7, [.int (0 : Int32), .ref h_s, .ref h_draft, .ref h_past, .int c_undos, .ref h_kept, .ref h_isKept, .ref h_facts, .int c_manyFacts, .ref h_text, .int c_typed, .int c_from, .int c_to, .int c_token, .int c_fault, .int c_hasHooks, .int c_hasTies, .int c_low, .int c_high])), (h_s, .inl (G.2 0, 24, .inl c_s)), (h_past, .inl (G.2 0, 144, .inl c_past))] := hD
  refine lv_iload_n hx hb dX7_adds_5 rfl (lv_at hl 1 rfl) ?_
  refine lv_iconst (v := (0 : Int32)) hx hb dX7_adds_6 (by decide) ?_
  refine lv_iconst (v := (1 : Int32)) hx hb dX7_adds_7 (by decide) ?_
  refine lv_aload_n hx hb dX7_adds_8 rfl (lv_at hl 0 rfl) ?_
  refine va_get (D := G.1) (cl := CL) (ci := 7) (C := RX7) (T := TX7) (N := 19) hx hb hts iX7_adds_7 hown hK hP 0 rfl rfl 1 (by decide) (hts (.fieldLink RX7 7 "LoomCardsModel" "s" "[I") (List.mem_of_getElem? (i := 2) rfl)) (fun _ h9 => h9) rfl dX7_adds_9 ?_
  refine lv_iconst (v := (0 : Int32)) hx hb dX7_adds_12 (by decide) ?_
  refine r_iald (j := 0) hx hb hK hP 1 rfl (ix_in (n := 24) (by decide)) (by decide) dX7_adds_13 ?_
  refine lv_ishl hx hb dX7_adds_14 ?_
  refine lv_iconst (v := (1 : Int32)) hx hb dX7_adds_15 (by decide) ?_
  refine lv_isub hx hb dX7_adds_16 ?_
  refine r_bind hf (fun u1 hu1 hf => ?_)
  refine cRiS (rest := []) ⟨hx, hb, hml, hown, hts⟩ hK (tX7_in l G v1 (0 : Int32) (((1 : Int32) <<< ((c_s 0) &&& 31)) - (1 : Int32)) u1 hu1) gX7_adds_X7_in rfl hdX7_in rfl rfl rfl ⟨Nat.le_of_ble_eq_true rfl, Nat.le_of_ble_eq_true rfl⟩ hP [] rfl hl.1 (Nat.le_of_ble_eq_true rfl) rfl dX7_adds_17 ⟨Nat.zero_le _, Nat.zero_le _⟩ ?_
  refine lv_if_ne (tgt := 25) hx hb dX7_adds_20 (by decide) (fun c9 => ?_) (fun c9 => ?_)
  · have hf := c_f hf c9
    refine lv_aload_n hx hb dX7_adds_25 rfl (lv_at hl 0 rfl) ?_
    refine va_get (D := G.1) (cl := CL) (ci := 7) (C := RX7) (T := TX7) (N := 19) hx hb hts iX7_adds_7 hown hK hP 0 rfl rfl 1 (by decide) (hts (.fieldLink RX7 7 "LoomCardsModel" "s" "[I") (List.mem_of_getElem? (i := 2) rfl)) (fun _ h9 => h9) rfl dX7_adds_26 ?_
    refine lv_iconst (v := (2 : Int32)) hx hb dX7_adds_29 (by decide) ?_
    refine r_iald (j := 2) hx hb hK hP 1 rfl (ix_in (n := 24) (by decide)) (by decide) dX7_adds_30 ?_
    refine lv_bipush (v := (8 : Int32)) hx hb dX7_adds_31 (by decide) ?_
    refine lv_icmp_ne (tgt := 39) hx hb dX7_adds_33 (by decide) (fun c9 => ?_) (fun c9 => ?_)
    · have hf := c_f hf c9
      refine lv_aload_n hx hb dX7_adds_39 rfl (lv_at hl 0 rfl) ?_
      refine r_bind hf (fun u2 hu2 hf => ?_)
      refine cWvV (ci := 7) (rest := []) (wr := []) (wf := [(h_this, .inr (7, [.int (0 : Int32), .ref h_s, .ref h_draft, .ref h_past, .int u2.1, .ref h_kept, .ref h_isKept, .ref h_facts, .int c_manyFacts, .ref h_text, .int c_typed, .int c_from, .int c_to, .int c_token, .int c_fault, .int c_hasHooks, .int c_hasTies, .int c_low, .int c_high])), (h_s, .inl (G.2 0, 24, .inl c_s)), (h_past, .inl (G.2 0, 144, .inl u2.2))]) ⟨hx, hb, hml, hown, hts⟩ hK (tX7_notes l G h_this h_s h_draft h_past h_kept h_isKept h_facts h_text (0 : Int32) c_undos c_manyFacts c_typed c_from c_to c_token c_fault c_hasHooks c_hasTies c_low c_high c_s c_past u2 hu2) gX7_adds_X7_notes rfl hdX7_notes rfl rfl rfl ⟨Nat.le_of_ble_eq_true rfl, Nat.le_of_ble_eq_true rfl⟩ hP hD hS hA [0, 1, 2] [] [0, 1, 2] rfl rfl rfl (by decide) (by decide) (by decide) (by decide) 0 rfl rfl rfl hl.1 (Nat.le_of_ble_eq_true rfl) rfl dX7_adds_40 ⟨Nat.zero_le _, Nat.zero_le _⟩ (fun H locs hP hD hS => ?_)
      refine lv_aload_n hx hb dX7_adds_43 rfl (lv_at hl 0 rfl) ?_
      refine va_get (D := G.1) (cl := CL) (ci := 7) (C := RX7) (T := TX7) (N := 19) hx hb hts iX7_adds_7 hown hK hP 0 rfl rfl 1 (by decide) (hts (.fieldLink RX7 7 "LoomCardsModel" "s" "[I") (List.mem_of_getElem? (i := 2) rfl)) (fun _ h9 => h9) rfl dX7_adds_44 ?_
      refine lv_bipush (v := (16 : Int32)) hx hb dX7_adds_47 (by decide) ?_
      refine lv_aload_n hx hb dX7_adds_49 rfl (lv_at hl 0 rfl) ?_
      refine va_get (D := G.1) (cl := CL) (ci := 7) (C := RX7) (T := TX7) (N := 19) hx hb hts iX7_adds_7 hown hK hP 0 rfl rfl 1 (by decide) (hts (.fieldLink RX7 7 "LoomCardsModel" "s" "[I") (List.mem_of_getElem? (i := 2) rfl)) (fun _ h9 => h9) rfl dX7_adds_50 ?_
      refine lv_iconst (v := (2 : Int32)) hx hb dX7_adds_53 (by decide) ?_
      refine r_iald (j := 2) hx hb hK hP 1 rfl (ix_in (n := 24) (by decide)) (by decide) dX7_adds_54 ?_
      refine lv_iadd hx hb dX7_adds_55 ?_
      refine lv_iload_n hx hb dX7_adds_56 rfl (lv_at hl 1 rfl) ?_
      refine r_gd hf (fun g9 hf => ?_)
      refine r_iast hx hb hK hP hD hS 1 rfl (ix_in g9) rfl dX7_adds_57 (fun H locs hP hD hS => ?_)
      have hP : va_P G.1 CL [(h_this, .inr (7, [.int (0 : Int32), .ref h_s, .ref h_draft, .ref h_past, .int u2.1, .ref h_kept, .ref h_isKept, .ref h_facts, .int c_manyFacts, .ref h_text, .int c_typed, .int c_from, .int c_to, .int c_token, .int c_fault, .int c_hasHooks, .int c_hasTies, .int c_low, .int c_high])), (h_s, .inl (G.2 0, 24, .inl (upd c_s ((16 : Int32) + (c_s 2)).toNatClampNeg v1))), (h_past, .inl (G.2 0, 144, .inl u2.2))] H := hP
      have hD : va_D A [(h_this, .inr (7, [.int (0 : Int32), .ref h_s, .ref h_draft, .ref h_past, .int u2.1, .ref h_kept, .ref h_isKept, .ref h_facts, .int c_manyFacts, .ref h_text, .int c_typed, .int c_from, .int c_to, .int c_token, .int c_fault, .int c_hasHooks, .int c_hasTies, .int c_low, .int c_high])), (h_s, .inl (G.2 0, 24, .inl (upd c_s ((16 : Int32) + (c_s 2)).toNatClampNeg v1))), (h_past, .inl (G.2 0, 144, .inl u2.2))] := hD
      refine lv_aload_n hx hb dX7_adds_58 rfl (lv_at hl 0 rfl) ?_
      refine va_get (D := G.1) (cl := CL) (ci := 7) (C := RX7) (T := TX7) (N := 19) hx hb hts iX7_adds_7 hown hK hP 0 rfl rfl 1 (by decide) (hts (.fieldLink RX7 7 "LoomCardsModel" "s" "[I") (List.mem_of_getElem? (i := 2) rfl)) (fun _ h9 => h9) rfl dX7_adds_59 ?_
      refine lv_iconst (v := (2 : Int32)) hx hb dX7_adds_62 (by decide) ?_
      refine lv_dup2_11 hx hb dX7_adds_63 rfl rfl ?_
      refine r_iald (j := 2) hx hb hK hP 1 rfl (ix_in (n := 24) (by decide)) (by decide) dX7_adds_64 ?_
      refine lv_iconst (v := (1 : Int32)) hx hb dX7_adds_65 (by decide) ?_
      refine lv_iadd hx hb dX7_adds_66 ?_
      refine r_iast (j := 2) hx hb hK hP hD hS 1 rfl (ix_in (n := 24) (by decide)) (by decide) dX7_adds_67 (fun H locs hP hD hS => ?_)
      have hP : va_P G.1 CL [(h_this, .inr (7, [.int (0 : Int32), .ref h_s, .ref h_draft, .ref h_past, .int u2.1, .ref h_kept, .ref h_isKept, .ref h_facts, .int c_manyFacts, .ref h_text, .int c_typed, .int c_from, .int c_to, .int c_token, .int c_fault, .int c_hasHooks, .int c_hasTies, .int c_low, .int c_high])), (h_s, .inl (G.2 0, 24, .inl (upd (upd c_s ((16 : Int32) + (c_s 2)).toNatClampNeg v1) 2 (((upd c_s ((16 : Int32) + (c_s 2)).toNatClampNeg v1) 2) + (1 : Int32))))), (h_past, .inl (G.2 0, 144, .inl u2.2))] H := hP
      have hD : va_D A [(h_this, .inr (7, [.int (0 : Int32), .ref h_s, .ref h_draft, .ref h_past, .int u2.1, .ref h_kept, .ref h_isKept, .ref h_facts, .int c_manyFacts, .ref h_text, .int c_typed, .int c_from, .int c_to, .int c_token, .int c_fault, .int c_hasHooks, .int c_hasTies, .int c_low, .int c_high])), (h_s, .inl (G.2 0, 24, .inl (upd (upd c_s ((16 : Int32) + (c_s 2)).toNatClampNeg v1) 2 (((upd c_s ((16 : Int32) + (c_s 2)).toNatClampNeg v1) 2) + (1 : Int32))))), (h_past, .inl (G.2 0, 144, .inl u2.2))] := hD
      refine lv_aload_n hx hb dX7_adds_68 rfl (lv_at hl 0 rfl) ?_
      refine va_get (D := G.1) (cl := CL) (ci := 7) (C := RX7) (T := TX7) (N := 19) hx hb hts iX7_adds_7 hown hK hP 0 rfl rfl 1 (by decide) (hts (.fieldLink RX7 7 "LoomCardsModel" "s" "[I") (List.mem_of_getElem? (i := 2) rfl)) (fun _ h9 => h9) rfl dX7_adds_69 ?_
      refine lv_iconst (v := (2 : Int32)) hx hb dX7_adds_72 (by decide) ?_
      refine r_iald (j := 2) hx hb hK hP 1 rfl (ix_in (n := 24) (by decide)) (by decide) dX7_adds_73 ?_
      obtain rfl := Option.some.inj hf
      exact kr _ _ _ _ hP hD hS dX7_adds_74
    · have hf := c_t hf c9
      refine lv_bipush (v := (-3 : Int32)) hx hb dX7_adds_36 (by decide) ?_
      obtain rfl := Option.some.inj hf
      exact kr _ _ _ _ hP hD hS dX7_adds_38
  · have hf := c_t hf c9
    refine lv_iconst (v := (-1 : Int32)) hx hb dX7_adds_23 (by decide) ?_
    obtain rfl := Option.some.inj hf
    exact kr _ _ _ _ hP hD hS dX7_adds_24
end SX7_adds
set_option maxHeartbeats 4000000 in
set_option maxRecDepth 100000 in
theorem tX7_adds (l : Launch) (G : GG) (h_this : Nat) (h_s : Nat) (h_draft : Nat) (h_past : Nat) (h_kept : Nat) (h_isKept : Nat) (h_facts : Nat) (h_text : Nat) (c_thrown : Int32) (c_undos : Int32) (c_manyFacts : Int32) (c_typed : Int32) (c_from : Int32) (c_to : Int32) (c_token : Int32) (c_fault : Int32) (c_hasHooks : Int32) (c_hasTies : Int32) (c_low : Int32) (c_high : Int32) (c_s : Nat → Int32) (c_past : Nat → Int32) (v1 : Int32) (res : Int32 × Int32 × Int32 × (Nat → Int32) × (Nat → Int32)) (hf : fX7_adds c_thrown c_undos c_s c_past v1 = some res) : MWi l yX7_adds wsX7_adds rmX7_adds G [.ref h_this, .int v1] [(h_this, .inr (7, [.int c_thrown, .ref h_s, .ref h_draft, .ref h_past, .int c_undos, .ref h_kept, .ref h_isKept, .ref h_facts, .int c_manyFacts, .ref h_text, .int c_typed, .int c_from, .int c_to, .int c_token, .int c_fault, .int c_hasHooks, .int c_hasTies, .int c_low, .int c_high])), (h_s, .inl (G.2 0, 24, .inl c_s)), (h_past, .inl (G.2 0, 144, .inl c_past))] (res.1) [(h_this, .inr (7, [.int (res.2.1), .ref h_s, .ref h_draft, .ref h_past, .int (res.2.2.1), .ref h_kept, .ref h_isKept, .ref h_facts, .int c_manyFacts, .ref h_text, .int c_typed, .int c_from, .int c_to, .int c_token, .int c_fault, .int c_hasHooks, .int c_hasTies, .int c_low, .int c_high])), (h_s, .inl (G.2 0, 24, .inl (res.2.2.2.1))), (h_past, .inl (G.2 0, 144, .inl (res.2.2.2.2)))] := MWi.of (plainFor_of_name (by decide +kernel)) rfl (Nat.le_of_ble_eq_true rfl) (fun p e s m below meth c A C hA hP hD hS ls hl => kX7_adds h_this h_s h_draft h_past h_kept h_isKept h_facts h_text c_thrown c_undos c_manyFacts c_typed c_from c_to c_token c_fault c_hasHooks c_hasTies c_low c_high c_s c_past v1 C hA hP hD hS (fun pc ls H locs hP hD hS d => rWi C hP hD hS d) hf hl)
def fX7_drops_L34 (k72 : (Nat → Int32) → Option (Int32 × Int32 × Int32 × (Nat → Int32) × (Nat → Int32)))  : Nat → Int32 → (Nat → Int32) → Option (Int32 × Int32 × Int32 × (Nat → Int32) × (Nat → Int32))
  | 0, _, _ => none
  | n + 1, v2, c_s => if (c_s 2) ≤ (v2 + (1 : Int32)) then k72 c_s else gd (ix (((16 : Int32) + v2) + (1 : Int32)) 24) (gd (ix ((16 : Int32) + v2) 24) (fX7_drops_L34 k72 n (v2 + (1 : Int32)) (upd c_s ((16 : Int32) + v2).toNatClampNeg (c_s (((16 : Int32) + v2) + (1 : Int32)).toNatClampNeg))))
def fX7_drops (c_thrown : Int32) (c_undos : Int32) (c_s : Nat → Int32) (c_past : Nat → Int32) (v1 : Int32) : Option (Int32 × Int32 × Int32 × (Nat → Int32) × (Nat → Int32)) := (fX7_isCard c_s v1).bind (fun u1 => if u1 = 0 then some ((-1 : Int32), (0 : Int32), c_undos, c_s, c_past) else if (c_s 2) = (1 : Int32) then some ((-2 : Int32), (0 : Int32), c_undos, c_s, c_past) else (fX7_notes c_undos c_s c_past).bind (fun u2 => (fX7_drops_L34 (fun (c_s_x3 : Nat → Int32) => gd (ix ((16 : Int32) + ((upd c_s_x3 2 ((c_s_x3 2) - (1 : Int32))) 2)) 24) (some (((upd (upd c_s_x3 2 ((c_s_x3 2) - (1 : Int32))) ((16 : Int32) + ((upd c_s_x3 2 ((c_s_x3 2) - (1 : Int32))) 2)).toNatClampNeg (0 : Int32)) 2), (0 : Int32), u2.1, (upd (upd c_s_x3 2 ((c_s_x3 2) - (1 : Int32))) ((16 : Int32) + ((upd c_s_x3 2 ((c_s_x3 2) - (1 : Int32))) 2)).toNatClampNeg (0 : Int32)), u2.2))) FU v1 c_s)))
theorem iX7_drops_7 : ∀ w ∈ wsX70, w ∈ wsX7_drops := fun w h => List.mem_cons_of_mem _ (List.mem_append_right _ (h))
theorem hdX7_drops : yX7_drops.cls = RX7 ∧ yX7_drops.cls ≠ "java/lang/invoke/MethodHandle" ∧ yX7_drops.cls ≠ "java/lang/invoke/VarHandle" ∧ (parseMethodDescriptor yX7_drops.desc).map (fun d => d.parameters.length) = some 1 := by decide +kernel
abbrev rmX7_drops : Room := { frames := 2, cells := 0, slots := 0, locals := 43 }
section SX7_drops
variable {p : Program} {l : Launch} {e : Env} {s : State} {m : MethodId} {args : Array Value} {below : List Frame} {meth : Method} {c : Code} {Q : State → Prop} {G : GG} {A : Nat → Prop}
set_option maxHeartbeats 4000000 in
set_option maxRecDepth 100000 in
theorem kX7_drops_L34 (h_this : Nat) (h_s : Nat) (h_draft : Nat) (h_past : Nat) (h_kept : Nat) (h_isKept : Nat) (h_facts : Nat) (h_text : Nat) (c_thrown : Int32) (c_undos : Int32) (c_manyFacts : Int32) (c_typed : Int32) (c_from : Int32) (c_to : Int32) (c_token : Int32) (c_fault : Int32) (c_hasHooks : Int32) (c_hasTies : Int32) (c_low : Int32) (c_high : Int32) (c_past : Nat → Int32) (C : Cx cX7_drops (some .int) 3 RX7 wsX7_drops G p s m args meth c) (hA : ∀ q : Nat, s.heap.size ≤ q → A q) {res : Int32 × Int32 × Int32 × (Nat → Int32) × (Nat → Int32)} (kr : ∀ (pc : Nat) (ls : Array Slot) (H : Heap) (locs : List Loc), va_P G.1 CL [(h_this, .inr (7, [.int (res.2.1), .ref h_s, .ref h_draft, .ref h_past, .int (res.2.2.1), .ref h_kept, .ref h_isKept, .ref h_facts, .int c_manyFacts, .ref h_text, .int c_typed, .int c_from, .int c_to, .int c_token, .int c_fault, .int c_hasHooks, .int c_hasTies, .int c_low, .int c_high])), (h_s, .inl (G.2 0, 24, .inl (res.2.2.2.1))), (h_past, .inl (G.2 0, 144, .inl (res.2.2.2.2)))] H → va_D A [(h_this, .inr (7, [.int (res.2.1), .ref h_s, .ref h_draft, .ref h_past, .int (res.2.2.1), .ref h_kept, .ref h_isKept, .ref h_facts, .int c_manyFacts, .ref h_text, .int c_typed, .int c_from, .int c_to, .int c_token, .int c_fault, .int c_hasHooks, .int c_hasTies, .int c_low, .int c_high])), (h_s, .inl (G.2 0, 24, .inl (res.2.2.2.1))), (h_past, .inl (G.2 0, 144, .inl (res.2.2.2.2)))] → va_S A s.heap H locs → decode cX7_drops pc = .ok (.ireturn, 1) → W p l e rmX7_drops s m args below meth c H locs 0 0 Q (F0 m pc ls [.int res.1])) {k72 : (Nat → Int32) → Option (Int32 × Int32 × Int32 × (Nat → Int32) × (Nat → Int32))} (hk72 : ∀ (c_s : Nat → Int32) (H : Heap) (locs : List Loc), k72 c_s = some res → va_P G.1 CL [(h_this, .inr (7, [.int c_thrown, .ref h_s, .ref h_draft, .ref h_past, .int c_undos, .ref h_kept, .ref h_isKept, .ref h_facts, .int c_manyFacts, .ref h_text, .int c_typed, .int c_from, .int c_to, .int c_token, .int c_fault, .int c_hasHooks, .int c_hasTies, .int c_low, .int c_high])), (h_s, .inl (G.2 0, 24, .inl c_s)), (h_past, .inl (G.2 0, 144, .inl c_past))] H → va_D A [(h_this, .inr (7, [.int c_thrown, .ref h_s, .ref h_draft, .ref h_past, .int c_undos, .ref h_kept, .ref h_isKept, .ref h_facts, .int c_manyFacts, .ref h_text, .int c_typed, .int c_from, .int c_to, .int c_token, .int c_fault, .int c_hasHooks, .int c_hasTies, .int c_low, .int c_high])), (h_s, .inl (G.2 0, 24, .inl c_s)), (h_past, .inl (G.2 0, 144, .inl c_past))] → va_S A s.heap H locs → ∀ (ls : Array Slot), lv_has ls 3 [(0, .ref h_this)] → W p l e rmX7_drops s m args below meth c H locs 0 0 Q (F0 m 72 ls [])) : ∀ (n : Nat) (v2 : Int32) (c_s : Nat → Int32) (H : Heap) (locs : List Loc), fX7_drops_L34 k72 n v2 c_s = some res → va_P G.1 CL [(h_this, .inr (7, [.int c_thrown, .ref h_s, .ref h_draft, .ref h_past, .int c_undos, .ref h_kept, .ref h_isKept, .ref h_facts, .int c_manyFacts, .ref h_text, .int c_typed, .int c_from, .int c_to, .int c_token, .int c_fault, .int c_hasHooks, .int c_hasTies, .int c_low, .int c_high])), (h_s, .inl (G.2 0, 24, .inl c_s)), (h_past, .inl (G.2 0, 144, .inl c_past))] H → va_D A [(h_this, .inr (7, [.int c_thrown, .ref h_s, .ref h_draft, .ref h_past, .int c_undos, .ref h_kept, .ref h_isKept, .ref h_facts, .int c_manyFacts, .ref h_text, .int c_typed, .int c_from, .int c_to, .int c_token, .int c_fault, .int c_hasHooks, .int c_hasTies, .int c_low, .int c_high])), (h_s, .inl (G.2 0, 24, .inl c_s)), (h_past, .inl (G.2 0, 144, .inl c_past))] → va_S A s.heap H locs → ∀ (ls : Array Slot), lv_has ls 3 [(0, .ref h_this), (2, .int v2)] → W p l e rmX7_drops s m args below meth c H locs 0 0 Q (F0 m 34 ls []) := by
  obtain ⟨hx, hb, hr, hlk, hml, hown, hts, hK⟩ := id C
  intro n
  induction n with
  | zero =>
    intro v2 c_s H locs hf
    cases hf
  | succ n ih =>
    intro v2 c_s H locs hf hP hD hS ls hl
    rw [fX7_drops_L34] at hf
    refine lv_iload_n hx hb dX7_drops_34 rfl (lv_at hl 1 rfl) ?_
    refine lv_iconst (v := (1 : Int32)) hx hb dX7_drops_35 (by decide) ?_
    refine lv_iadd hx hb dX7_drops_36 ?_
    refine lv_aload_n hx hb dX7_drops_37 rfl (lv_at hl 0 rfl) ?_
    refine va_get (D := G.1) (cl := CL) (ci := 7) (C := RX7) (T := TX7) (N := 19) hx hb hts iX7_drops_7 hown hK hP 0 rfl rfl 1 (by decide) (hts (.fieldLink RX7 7 "LoomCardsModel" "s" "[I") (List.mem_of_getElem? (i := 2) rfl)) (fun _ h9 => h9) rfl dX7_drops_38 ?_
    refine lv_iconst (v := (2 : Int32)) hx hb dX7_drops_41 (by decide) ?_
    refine r_iald (j := 2) hx hb hK hP 1 rfl (ix_in (n := 24) (by decide)) (by decide) dX7_drops_42 ?_
    refine lv_icmp_ge (tgt := 72) hx hb dX7_drops_43 (by decide) (fun c9 => ?_) (fun c9 => ?_)
    · have hf := c_t hf c9
      exact hk72 c_s _ _ hf hP hD hS _ (lv_sub hl [0] rfl)
    · have hf := c_f hf c9
      refine lv_aload_n hx hb dX7_drops_46 rfl (lv_at hl 0 rfl) ?_
      refine va_get (D := G.1) (cl := CL) (ci := 7) (C := RX7) (T := TX7) (N := 19) hx hb hts iX7_drops_7 hown hK hP 0 rfl rfl 1 (by decide) (hts (.fieldLink RX7 7 "LoomCardsModel" "s" "[I") (List.mem_of_getElem? (i := 2) rfl)) (fun _ h9 => h9) rfl dX7_drops_47 ?_
      refine lv_bipush (v := (16 : Int32)) hx hb dX7_drops_50 (by decide) ?_
      refine lv_iload_n hx hb dX7_drops_52 rfl (lv_at hl 1 rfl) ?_
      refine lv_iadd hx hb dX7_drops_53 ?_
      refine lv_aload_n hx hb dX7_drops_54 rfl (lv_at hl 0 rfl) ?_
      refine va_get (D := G.1) (cl := CL) (ci := 7) (C := RX7) (T := TX7) (N := 19) hx hb hts iX7_drops_7 hown hK hP 0 rfl rfl 1 (by decide) (hts (.fieldLink RX7 7 "LoomCardsModel" "s" "[I") (List.mem_of_getElem? (i := 2) rfl)) (fun _ h9 => h9) rfl dX7_drops_55 ?_
      refine lv_bipush (v := (16 : Int32)) hx hb dX7_drops_58 (by decide) ?_
      refine lv_iload_n hx hb dX7_drops_60 rfl (lv_at hl 1 rfl) ?_
      refine lv_iadd hx hb dX7_drops_61 ?_
      refine lv_iconst (v := (1 : Int32)) hx hb dX7_drops_62 (by decide) ?_
      refine lv_iadd hx hb dX7_drops_63 ?_
      refine r_gd hf (fun g9 hf => ?_)
      refine r_iald hx hb hK hP 1 rfl (ix_in g9) rfl dX7_drops_64 ?_
      refine r_gd hf (fun g9 hf => ?_)
      refine r_iast hx hb hK hP hD hS 1 rfl (ix_in g9) rfl dX7_drops_65 (fun H locs hP hD hS => ?_)
      have hP : va_P G.1 CL [(h_this, .inr (7, [.int c_thrown, .ref h_s, .ref h_draft, .ref h_past, .int c_undos, .ref h_kept, .ref h_isKept, .ref h_facts, .int c_manyFacts, .ref h_text, .int c_typed, .int c_from, .int c_to, .int c_token, .int c_fault, .int c_hasHooks, .int c_hasTies, .int c_low, .int c_high])), (h_s, .inl (G.2 0, 24, .inl (upd c_s ((16 : Int32) + v2).toNatClampNeg (c_s (((16 : Int32) + v2) + (1 : Int32)).toNatClampNeg)))), (h_past, .inl (G.2 0, 144, .inl c_past))] H := hP
      have hD : va_D A [(h_this, .inr (7, [.int c_thrown, .ref h_s, .ref h_draft, .ref h_past, .int c_undos, .ref h_kept, .ref h_isKept, .ref h_facts, .int c_manyFacts, .ref h_text, .int c_typed, .int c_from, .int c_to, .int c_token, .int c_fault, .int c_hasHooks, .int c_hasTies, .int c_low, .int c_high])), (h_s, .inl (G.2 0, 24, .inl (upd c_s ((16 : Int32) + v2).toNatClampNeg (c_s (((16 : Int32) + v2) + (1 : Int32)).toNatClampNeg)))), (h_past, .inl (G.2 0, 144, .inl c_past))] := hD
      refine lv_iinc (v := (v2 + (1 : Int32))) (lv' := [(2, .int (v2 + (1 : Int32))), (0, .ref h_this)]) hx hb dX7_drops_66 hl (k := 1) rfl rfl (by decide) rfl (fun ls hl => ?_)
      refine lv_goto (tgt := 34) hx hb dX7_drops_69 (by decide) ?_
      exact ih (v2 + (1 : Int32)) (upd c_s ((16 : Int32) + v2).toNatClampNeg (c_s (((16 : Int32) + v2) + (1 : Int32)).toNatClampNeg)) _ _ hf hP hD hS _ (lv_sub hl [1, 0] rfl)
set_option maxHeartbeats 4000000 in
set_option maxRecDepth 100000 in
theorem kX7_drops (h_this : Nat) (h_s : Nat) (h_draft : Nat) (h_past : Nat) (h_kept : Nat) (h_isKept : Nat) (h_facts : Nat) (h_text : Nat) (c_thrown : Int32) (c_undos : Int32) (c_manyFacts : Int32) (c_typed : Int32) (c_from : Int32) (c_to : Int32) (c_token : Int32) (c_fault : Int32) (c_hasHooks : Int32) (c_hasTies : Int32) (c_low : Int32) (c_high : Int32) (c_s : Nat → Int32) (c_past : Nat → Int32) (v1 : Int32) (C : Cx cX7_drops (some .int) 3 RX7 wsX7_drops G p s m args meth c) (hA : ∀ q : Nat, s.heap.size ≤ q → A q) (hP : va_P G.1 CL [(h_this, .inr (7, [.int c_thrown, .ref h_s, .ref h_draft, .ref h_past, .int c_undos, .ref h_kept, .ref h_isKept, .ref h_facts, .int c_manyFacts, .ref h_text, .int c_typed, .int c_from, .int c_to, .int c_token, .int c_fault, .int c_hasHooks, .int c_hasTies, .int c_low, .int c_high])), (h_s, .inl (G.2 0, 24, .inl c_s)), (h_past, .inl (G.2 0, 144, .inl c_past))] s.heap) (hD : va_D A [(h_this, .inr (7, [.int c_thrown, .ref h_s, .ref h_draft, .ref h_past, .int c_undos, .ref h_kept, .ref h_isKept, .ref h_facts, .int c_manyFacts, .ref h_text, .int c_typed, .int c_from, .int c_to, .int c_token, .int c_fault, .int c_hasHooks, .int c_hasTies, .int c_low, .int c_high])), (h_s, .inl (G.2 0, 24, .inl c_s)), (h_past, .inl (G.2 0, 144, .inl c_past))]) (hS : va_S A s.heap s.heap []) {res : Int32 × Int32 × Int32 × (Nat → Int32) × (Nat → Int32)} (kr : ∀ (pc : Nat) (ls : Array Slot) (H : Heap) (locs : List Loc), va_P G.1 CL [(h_this, .inr (7, [.int (res.2.1), .ref h_s, .ref h_draft, .ref h_past, .int (res.2.2.1), .ref h_kept, .ref h_isKept, .ref h_facts, .int c_manyFacts, .ref h_text, .int c_typed, .int c_from, .int c_to, .int c_token, .int c_fault, .int c_hasHooks, .int c_hasTies, .int c_low, .int c_high])), (h_s, .inl (G.2 0, 24, .inl (res.2.2.2.1))), (h_past, .inl (G.2 0, 144, .inl (res.2.2.2.2)))] H → va_D A [(h_this, .inr (7, [.int (res.2.1), .ref h_s, .ref h_draft, .ref h_past, .int (res.2.2.1), .ref h_kept, .ref h_isKept, .ref h_facts, .int c_manyFacts, .ref h_text, .int c_typed, .int c_from, .int c_to, .int c_token, .int c_fault, .int c_hasHooks, .int c_hasTies, .int c_low, .int c_high])), (h_s, .inl (G.2 0, 24, .inl (res.2.2.2.1))), (h_past, .inl (G.2 0, 144, .inl (res.2.2.2.2)))] → va_S A s.heap H locs → decode cX7_drops pc = .ok (.ireturn, 1) → W p l e rmX7_drops s m args below meth c H locs 0 0 Q (F0 m pc ls [.int res.1])) (hf : fX7_drops c_thrown c_undos c_s c_past v1 = some res) {ls : Array Slot} (hl : lv_has ls 3 [(0, .ref h_this), (1, .int v1)]) : W p l e rmX7_drops s m args below meth c s.heap [] 0 0 Q (F0 m 0 ls []) := by
  obtain ⟨hx, hb, hr, hlk, hml, hown, hts, hK⟩ := id C
  rw [fX7_drops] at hf
  refine lv_aload_n hx hb dX7_drops_0 rfl (lv_at hl 0 rfl) ?_
  refine lv_iconst (v := (0 : Int32)) hx hb dX7_drops_1 (by decide) ?_
  refine va_put (D := G.1) (cl := CL) (ci := 7) (v := .int (0 : Int32)) (ty := .int) (C := RX7) (T := TX7) (N := 19) hx hb hts iX7_drops_7 tyX7 tyX7_ok nmX7 hown hK hP hD hS 0 rfl rfl 0 (by decide) (hts (.fieldLink RX7 37 "LoomCardsModel" "thrown" "I") (List.mem_of_getElem? (i := 1) rfl)) (fun _ h9 => h9) rfl (tyX7_ok 0 (by decide)) rfl rfl (Nat.le_of_ble_eq_true rfl) dX7_drops_2 (fun H locs hP hD hS => ?_)
  have hP : va_P G.1 CL [(h_this, .inr (7, [.int (0 : Int32), .ref h_s, .ref h_draft, .ref h_past, .int c_undos, .ref h_kept, .ref h_isKept, .ref h_facts, .int c_manyFacts, .ref h_text, .int c_typed, .int c_from, .int c_to, .int c_token, .int c_fault, .int c_hasHooks, .int c_hasTies, .int c_low, .int c_high])), (h_s, .inl (G.2 0, 24, .inl c_s)), (h_past, .inl (G.2 0, 144, .inl c_past))] H := hP
  have hD : va_D A [(h_this, .inr (7, [.int (0 : Int32), .ref h_s, .ref h_draft, .ref h_past, .int c_undos, .ref h_kept, .ref h_isKept, .ref h_facts, .int c_manyFacts, .ref h_text, .int c_typed, .int c_from, .int c_to, .int c_token, .int c_fault, .int c_hasHooks, .int c_hasTies, .int c_low, .int c_high])), (h_s, .inl (G.2 0, 24, .inl c_s)), (h_past, .inl (G.2 0, 144, .inl c_past))] := hD
  refine lv_aload_n hx hb dX7_drops_5 rfl (lv_at hl 0 rfl) ?_
  refine lv_iload_n hx hb dX7_drops_6 rfl (lv_at hl 1 rfl) ?_
  refine r_bind hf (fun u1 hu1 hf => ?_)
  refine cRiV (ci := 7) (rest := []) ⟨hx, hb, hml, hown, hts⟩ hK (tX7_isCard l G h_this h_s h_draft h_past h_kept h_isKept h_facts h_text (0 : Int32) c_undos c_manyFacts c_typed c_from c_to c_token c_fault c_hasHooks c_hasTies c_low c_high c_s v1 u1 hu1) gX7_drops_X7_isCard rfl hdX7_isCard rfl rfl rfl ⟨Nat.le_of_ble_eq_true rfl, Nat.le_of_ble_eq_true rfl⟩ hP [0, 1] rfl 0 rfl rfl rfl hl.1 (Nat.le_of_ble_eq_true rfl) rfl dX7_drops_7 ⟨Nat.zero_le _, Nat.zero_le _⟩ ?_
  refine lv_if_ne (tgt := 15) hx hb dX7_drops_10 (by decide) (fun c9 => ?_) (fun c9 => ?_)
  · have hf := c_f hf c9
    refine lv_aload_n hx hb dX7_drops_15 rfl (lv_at hl 0 rfl) ?_
    refine va_get (D := G.1) (cl := CL) (ci := 7) (C := RX7) (T := TX7) (N := 19) hx hb hts iX7_drops_7 hown hK hP 0 rfl rfl 1 (by decide) (hts (.fieldLink RX7 7 "LoomCardsModel" "s" "[I") (List.mem_of_getElem? (i := 2) rfl)) (fun _ h9 => h9) rfl dX7_drops_16 ?_
    refine lv_iconst (v := (2 : Int32)) hx hb dX7_drops_19 (by decide) ?_
    refine r_iald (j := 2) hx hb hK hP 1 rfl (ix_in (n := 24) (by decide)) (by decide) dX7_drops_20 ?_
    refine lv_iconst (v := (1 : Int32)) hx hb dX7_drops_21 (by decide) ?_
    refine lv_icmp_ne (tgt := 28) hx hb dX7_drops_22 (by decide) (fun c9 => ?_) (fun c9 => ?_)
    · have hf := c_f hf c9
      refine lv_aload_n hx hb dX7_drops_28 rfl (lv_at hl 0 rfl) ?_
      refine r_bind hf (fun u2 hu2 hf => ?_)
      refine cWvV (ci := 7) (rest := []) (wr := []) (wf := [(h_this, .inr (7, [.int (0 : Int32), .ref h_s, .ref h_draft, .ref h_past, .int u2.1, .ref h_kept, .ref h_isKept, .ref h_facts, .int c_manyFacts, .ref h_text, .int c_typed, .int c_from, .int c_to, .int c_token, .int c_fault, .int c_hasHooks, .int c_hasTies, .int c_low, .int c_high])), (h_s, .inl (G.2 0, 24, .inl c_s)), (h_past, .inl (G.2 0, 144, .inl u2.2))]) ⟨hx, hb, hml, hown, hts⟩ hK (tX7_notes l G h_this h_s h_draft h_past h_kept h_isKept h_facts h_text (0 : Int32) c_undos c_manyFacts c_typed c_from c_to c_token c_fault c_hasHooks c_hasTies c_low c_high c_s c_past u2 hu2) gX7_drops_X7_notes rfl hdX7_notes rfl rfl rfl ⟨Nat.le_of_ble_eq_true rfl, Nat.le_of_ble_eq_true rfl⟩ hP hD hS hA [0, 1, 2] [] [0, 1, 2] rfl rfl rfl (by decide) (by decide) (by decide) (by decide) 0 rfl rfl rfl hl.1 (Nat.le_of_ble_eq_true rfl) rfl dX7_drops_29 ⟨Nat.zero_le _, Nat.zero_le _⟩ (fun H locs hP hD hS => ?_)
      refine lv_iload_n hx hb dX7_drops_32 rfl (lv_at hl 1 rfl) ?_
      refine lv_istore_n (lv' := [(2, .int v1), (0, .ref h_this), (1, .int v1)]) hx hb dX7_drops_33 rfl hl (by decide) rfl (fun ls hl => ?_)
      refine kX7_drops_L34 h_this h_s h_draft h_past h_kept h_isKept h_facts h_text (0 : Int32) u2.1 c_manyFacts c_typed c_from c_to c_token c_fault c_hasHooks c_hasTies c_low c_high u2.2 C hA kr ?_ FU v1 c_s _ _ hf hP hD hS _ (lv_sub hl [1, 0] rfl)
      intro c_s_x3 H locs hf hP hD hS ls hl
      refine lv_aload_n hx hb dX7_drops_72 rfl (lv_at hl 0 rfl) ?_
      refine va_get (D := G.1) (cl := CL) (ci := 7) (C := RX7) (T := TX7) (N := 19) hx hb hts iX7_drops_7 hown hK hP 0 rfl rfl 1 (by decide) (hts (.fieldLink RX7 7 "LoomCardsModel" "s" "[I") (List.mem_of_getElem? (i := 2) rfl)) (fun _ h9 => h9) rfl dX7_drops_73 ?_
      refine lv_iconst (v := (2 : Int32)) hx hb dX7_drops_76 (by decide) ?_
      refine lv_dup2_11 hx hb dX7_drops_77 rfl rfl ?_
      refine r_iald (j := 2) hx hb hK hP 1 rfl (ix_in (n := 24) (by decide)) (by decide) dX7_drops_78 ?_
      refine lv_iconst (v := (1 : Int32)) hx hb dX7_drops_79 (by decide) ?_
      refine lv_isub hx hb dX7_drops_80 ?_
      refine r_iast (j := 2) hx hb hK hP hD hS 1 rfl (ix_in (n := 24) (by decide)) (by decide) dX7_drops_81 (fun H locs hP hD hS => ?_)
      have hP : va_P G.1 CL [(h_this, .inr (7, [.int (0 : Int32), .ref h_s, .ref h_draft, .ref h_past, .int u2.1, .ref h_kept, .ref h_isKept, .ref h_facts, .int c_manyFacts, .ref h_text, .int c_typed, .int c_from, .int c_to, .int c_token, .int c_fault, .int c_hasHooks, .int c_hasTies, .int c_low, .int c_high])), (h_s, .inl (G.2 0, 24, .inl (upd c_s_x3 2 ((c_s_x3 2) - (1 : Int32))))), (h_past, .inl (G.2 0, 144, .inl u2.2))] H := hP
      have hD : va_D A [(h_this, .inr (7, [.int (0 : Int32), .ref h_s, .ref h_draft, .ref h_past, .int u2.1, .ref h_kept, .ref h_isKept, .ref h_facts, .int c_manyFacts, .ref h_text, .int c_typed, .int c_from, .int c_to, .int c_token, .int c_fault, .int c_hasHooks, .int c_hasTies, .int c_low, .int c_high])), (h_s, .inl (G.2 0, 24, .inl (upd c_s_x3 2 ((c_s_x3 2) - (1 : Int32))))), (h_past, .inl (G.2 0, 144, .inl u2.2))] := hD
      refine lv_aload_n hx hb dX7_drops_82 rfl (lv_at hl 0 rfl) ?_
      refine va_get (D := G.1) (cl := CL) (ci := 7) (C := RX7) (T := TX7) (N := 19) hx hb hts iX7_drops_7 hown hK hP 0 rfl rfl 1 (by decide) (hts (.fieldLink RX7 7 "LoomCardsModel" "s" "[I") (List.mem_of_getElem? (i := 2) rfl)) (fun _ h9 => h9) rfl dX7_drops_83 ?_
      refine lv_bipush (v := (16 : Int32)) hx hb dX7_drops_86 (by decide) ?_
      refine lv_aload_n hx hb dX7_drops_88 rfl (lv_at hl 0 rfl) ?_
      refine va_get (D := G.1) (cl := CL) (ci := 7) (C := RX7) (T := TX7) (N := 19) hx hb hts iX7_drops_7 hown hK hP 0 rfl rfl 1 (by decide) (hts (.fieldLink RX7 7 "LoomCardsModel" "s" "[I") (List.mem_of_getElem? (i := 2) rfl)) (fun _ h9 => h9) rfl dX7_drops_89 ?_
      refine lv_iconst (v := (2 : Int32)) hx hb dX7_drops_92 (by decide) ?_
      refine r_iald (j := 2) hx hb hK hP 1 rfl (ix_in (n := 24) (by decide)) (by decide) dX7_drops_93 ?_
      refine lv_iadd hx hb dX7_drops_94 ?_
      refine lv_iconst (v := (0 : Int32)) hx hb dX7_drops_95 (by decide) ?_
      refine r_gd hf (fun g9 hf => ?_)
      refine r_iast hx hb hK hP hD hS 1 rfl (ix_in g9) rfl dX7_drops_96 (fun H locs hP hD hS => ?_)
      have hP : va_P G.1 CL [(h_this, .inr (7, [.int (0 : Int32), .ref h_s, .ref h_draft, .ref h_past, .int u2.1, .ref h_kept, .ref h_isKept, .ref h_facts, .int c_manyFacts, .ref h_text, .int c_typed, .int c_from, .int c_to, .int c_token, .int c_fault, .int c_hasHooks, .int c_hasTies, .int c_low, .int c_high])), (h_s, .inl (G.2 0, 24, .inl (upd (upd c_s_x3 2 ((c_s_x3 2) - (1 : Int32))) ((16 : Int32) + ((upd c_s_x3 2 ((c_s_x3 2) - (1 : Int32))) 2)).toNatClampNeg (0 : Int32)))), (h_past, .inl (G.2 0, 144, .inl u2.2))] H := hP
      have hD : va_D A [(h_this, .inr (7, [.int (0 : Int32), .ref h_s, .ref h_draft, .ref h_past, .int u2.1, .ref h_kept, .ref h_isKept, .ref h_facts, .int c_manyFacts, .ref h_text, .int c_typed, .int c_from, .int c_to, .int c_token, .int c_fault, .int c_hasHooks, .int c_hasTies, .int c_low, .int c_high])), (h_s, .inl (G.2 0, 24, .inl (upd (upd c_s_x3 2 ((c_s_x3 2) - (1 : Int32))) ((16 : Int32) + ((upd c_s_x3 2 ((c_s_x3 2) - (1 : Int32))) 2)).toNatClampNeg (0 : Int32)))), (h_past, .inl (G.2 0, 144, .inl u2.2))] := hD
      refine lv_aload_n hx hb dX7_drops_97 rfl (lv_at hl 0 rfl) ?_
      refine va_get (D := G.1) (cl := CL) (ci := 7) (C := RX7) (T := TX7) (N := 19) hx hb hts iX7_drops_7 hown hK hP 0 rfl rfl 1 (by decide) (hts (.fieldLink RX7 7 "LoomCardsModel" "s" "[I") (List.mem_of_getElem? (i := 2) rfl)) (fun _ h9 => h9) rfl dX7_drops_98 ?_
      refine lv_iconst (v := (2 : Int32)) hx hb dX7_drops_101 (by decide) ?_
      refine r_iald (j := 2) hx hb hK hP 1 rfl (ix_in (n := 24) (by decide)) (by decide) dX7_drops_102 ?_
      obtain rfl := Option.some.inj hf
      exact kr _ _ _ _ hP hD hS dX7_drops_103
    · have hf := c_t hf c9
      refine lv_bipush (v := (-2 : Int32)) hx hb dX7_drops_25 (by decide) ?_
      obtain rfl := Option.some.inj hf
      exact kr _ _ _ _ hP hD hS dX7_drops_27
  · have hf := c_t hf c9
    refine lv_iconst (v := (-1 : Int32)) hx hb dX7_drops_13 (by decide) ?_
    obtain rfl := Option.some.inj hf
    exact kr _ _ _ _ hP hD hS dX7_drops_14
end SX7_drops
set_option maxHeartbeats 4000000 in
set_option maxRecDepth 100000 in
theorem tX7_drops (l : Launch) (G : GG) (h_this : Nat) (h_s : Nat) (h_draft : Nat) (h_past : Nat) (h_kept : Nat) (h_isKept : Nat) (h_facts : Nat) (h_text : Nat) (c_thrown : Int32) (c_undos : Int32) (c_manyFacts : Int32) (c_typed : Int32) (c_from : Int32) (c_to : Int32) (c_token : Int32) (c_fault : Int32) (c_hasHooks : Int32) (c_hasTies : Int32) (c_low : Int32) (c_high : Int32) (c_s : Nat → Int32) (c_past : Nat → Int32) (v1 : Int32) (res : Int32 × Int32 × Int32 × (Nat → Int32) × (Nat → Int32)) (hf : fX7_drops c_thrown c_undos c_s c_past v1 = some res) : MWi l yX7_drops wsX7_drops rmX7_drops G [.ref h_this, .int v1] [(h_this, .inr (7, [.int c_thrown, .ref h_s, .ref h_draft, .ref h_past, .int c_undos, .ref h_kept, .ref h_isKept, .ref h_facts, .int c_manyFacts, .ref h_text, .int c_typed, .int c_from, .int c_to, .int c_token, .int c_fault, .int c_hasHooks, .int c_hasTies, .int c_low, .int c_high])), (h_s, .inl (G.2 0, 24, .inl c_s)), (h_past, .inl (G.2 0, 144, .inl c_past))] (res.1) [(h_this, .inr (7, [.int (res.2.1), .ref h_s, .ref h_draft, .ref h_past, .int (res.2.2.1), .ref h_kept, .ref h_isKept, .ref h_facts, .int c_manyFacts, .ref h_text, .int c_typed, .int c_from, .int c_to, .int c_token, .int c_fault, .int c_hasHooks, .int c_hasTies, .int c_low, .int c_high])), (h_s, .inl (G.2 0, 24, .inl (res.2.2.2.1))), (h_past, .inl (G.2 0, 144, .inl (res.2.2.2.2)))] := MWi.of (plainFor_of_name (by decide +kernel)) rfl (Nat.le_of_ble_eq_true rfl) (fun p e s m below meth c A C hA hP hD hS ls hl => kX7_drops h_this h_s h_draft h_past h_kept h_isKept h_facts h_text c_thrown c_undos c_manyFacts c_typed c_from c_to c_token c_fault c_hasHooks c_hasTies c_low c_high c_s c_past v1 C hA hP hD hS (fun pc ls H locs hP hD hS d => rWi C hP hD hS d) hf hl)
def fX7_isUp (c_s : Nat → Int32) (v1 : Int32) (v2 : Int32) : Option (Int32) := gd (!decide ((c_s 2) = 0)) (gd (ix ((16 : Int32) + (v1 - v1 / (c_s 2) * (c_s 2))) 24) (gd (ix ((4 : Int32) + v2) 24) (if (((c_s ((16 : Int32) + (v1 - v1 / (c_s 2) * (c_s 2))).toNatClampNeg) >>> ((c_s ((4 : Int32) + v2).toNatClampNeg) &&& 31)) &&& (1 : Int32)) = (1 : Int32) then some ((1 : Int32)) else some ((0 : Int32)))))
theorem iX7_isUp_7 : ∀ w ∈ wsX70, w ∈ wsX7_isUp := fun w h => List.mem_cons_of_mem _ (List.mem_append_right _ (h))
theorem hdX7_isUp : yX7_isUp.cls = RX7 ∧ yX7_isUp.cls ≠ "java/lang/invoke/MethodHandle" ∧ yX7_isUp.cls ≠ "java/lang/invoke/VarHandle" ∧ (parseMethodDescriptor yX7_isUp.desc).map (fun d => d.parameters.length) = some 2 := by decide +kernel
abbrev rmX7_isUp : Room := { frames := 0, cells := 0, slots := 0, locals := 0 }
section SX7_isUp
variable {p : Program} {l : Launch} {e : Env} {s : State} {m : MethodId} {args : Array Value} {below : List Frame} {meth : Method} {c : Code} {Q : State → Prop} {G : GG}
set_option maxHeartbeats 4000000 in
set_option maxRecDepth 100000 in
theorem kX7_isUp (h_this : Nat) (h_s : Nat) (h_draft : Nat) (h_past : Nat) (h_kept : Nat) (h_isKept : Nat) (h_facts : Nat) (h_text : Nat) (c_thrown : Int32) (c_undos : Int32) (c_manyFacts : Int32) (c_typed : Int32) (c_from : Int32) (c_to : Int32) (c_token : Int32) (c_fault : Int32) (c_hasHooks : Int32) (c_hasTies : Int32) (c_low : Int32) (c_high : Int32) (c_s : Nat → Int32) (v1 : Int32) (v2 : Int32) (C : Cx cX7_isUp (some .boolean) 3 RX7 wsX7_isUp G p s m args meth c) (hP : va_P G.1 CL [(h_this, .inr (7, [.int c_thrown, .ref h_s, .ref h_draft, .ref h_past, .int c_undos, .ref h_kept, .ref h_isKept, .ref h_facts, .int c_manyFacts, .ref h_text, .int c_typed, .int c_from, .int c_to, .int c_token, .int c_fault, .int c_hasHooks, .int c_hasTies, .int c_low, .int c_high])), (h_s, .inl (G.2 0, 24, .inl c_s))] s.heap) {res : Int32} (kr : ∀ (pc : Nat) (ls : Array Slot), narrow .boolean (.int res) = .int res → decode cX7_isUp pc = .ok (.ireturn, 1) → W p l e rmX7_isUp s m args below meth c s.heap [] 0 0 Q (F0 m pc ls [.int res])) (hf : fX7_isUp c_s v1 v2 = some res) {ls : Array Slot} (hl : lv_has ls 3 [(0, .ref h_this), (1, .int v1), (2, .int v2)]) : W p l e rmX7_isUp s m args below meth c s.heap [] 0 0 Q (F0 m 0 ls []) := by
  obtain ⟨hx, hb, hr, hlk, hml, hown, hts, hK⟩ := id C
  rw [fX7_isUp] at hf
  refine lv_aload_n hx hb dX7_isUp_0 rfl (lv_at hl 0 rfl) ?_
  refine va_get (D := G.1) (cl := CL) (ci := 7) (C := RX7) (T := TX7) (N := 19) hx hb hts iX7_isUp_7 hown hK hP 0 rfl rfl 1 (by decide) (hts (.fieldLink RX7 7 "LoomCardsModel" "s" "[I") (List.mem_of_getElem? (i := 1) rfl)) (fun _ h9 => h9) rfl dX7_isUp_1 ?_
  refine lv_bipush (v := (16 : Int32)) hx hb dX7_isUp_4 (by decide) ?_
  refine lv_iload_n hx hb dX7_isUp_6 rfl (lv_at hl 1 rfl) ?_
  refine lv_aload_n hx hb dX7_isUp_7 rfl (lv_at hl 0 rfl) ?_
  refine va_get (D := G.1) (cl := CL) (ci := 7) (C := RX7) (T := TX7) (N := 19) hx hb hts iX7_isUp_7 hown hK hP 0 rfl rfl 1 (by decide) (hts (.fieldLink RX7 7 "LoomCardsModel" "s" "[I") (List.mem_of_getElem? (i := 1) rfl)) (fun _ h9 => h9) rfl dX7_isUp_8 ?_
  refine lv_iconst (v := (2 : Int32)) hx hb dX7_isUp_11 (by decide) ?_
  refine r_iald (j := 2) hx hb hK hP 1 rfl (ix_in (n := 24) (by decide)) (by decide) dX7_isUp_12 ?_
  refine r_gd hf (fun g9 hf => ?_)
  refine lv_irem hx hb dX7_isUp_13 (nz g9) ?_
  refine lv_iadd hx hb dX7_isUp_14 ?_
  refine r_gd hf (fun g9 hf => ?_)
  refine r_iald hx hb hK hP 1 rfl (ix_in g9) rfl dX7_isUp_15 ?_
  refine lv_aload_n hx hb dX7_isUp_16 rfl (lv_at hl 0 rfl) ?_
  refine va_get (D := G.1) (cl := CL) (ci := 7) (C := RX7) (T := TX7) (N := 19) hx hb hts iX7_isUp_7 hown hK hP 0 rfl rfl 1 (by decide) (hts (.fieldLink RX7 7 "LoomCardsModel" "s" "[I") (List.mem_of_getElem? (i := 1) rfl)) (fun _ h9 => h9) rfl dX7_isUp_17 ?_
  refine lv_iconst (v := (4 : Int32)) hx hb dX7_isUp_20 (by decide) ?_
  refine lv_iload_n hx hb dX7_isUp_21 rfl (lv_at hl 2 rfl) ?_
  refine lv_iadd hx hb dX7_isUp_22 ?_
  refine r_gd hf (fun g9 hf => ?_)
  refine r_iald hx hb hK hP 1 rfl (ix_in g9) rfl dX7_isUp_23 ?_
  refine lv_ishr hx hb dX7_isUp_24 ?_
  refine lv_iconst (v := (1 : Int32)) hx hb dX7_isUp_25 (by decide) ?_
  refine lv_iand hx hb dX7_isUp_26 ?_
  refine lv_iconst (v := (1 : Int32)) hx hb dX7_isUp_27 (by decide) ?_
  refine lv_icmp_ne (tgt := 35) hx hb dX7_isUp_28 (by decide) (fun c9 => ?_) (fun c9 => ?_)
  · have hf := c_f hf c9
    refine lv_iconst (v := (0 : Int32)) hx hb dX7_isUp_35 (by decide) ?_
    obtain rfl := Option.some.inj hf
    exact kr _ _ nb0 dX7_isUp_36
  · have hf := c_t hf c9
    refine lv_iconst (v := (1 : Int32)) hx hb dX7_isUp_31 (by decide) ?_
    refine lv_goto (tgt := 36) hx hb dX7_isUp_32 (by decide) ?_
    obtain rfl := Option.some.inj hf
    exact kr _ _ nb1 dX7_isUp_36
end SX7_isUp
set_option maxHeartbeats 4000000 in
set_option maxRecDepth 100000 in
theorem tX7_isUp (l : Launch) (G : GG) (h_this : Nat) (h_s : Nat) (h_draft : Nat) (h_past : Nat) (h_kept : Nat) (h_isKept : Nat) (h_facts : Nat) (h_text : Nat) (c_thrown : Int32) (c_undos : Int32) (c_manyFacts : Int32) (c_typed : Int32) (c_from : Int32) (c_to : Int32) (c_token : Int32) (c_fault : Int32) (c_hasHooks : Int32) (c_hasTies : Int32) (c_low : Int32) (c_high : Int32) (c_s : Nat → Int32) (v1 : Int32) (v2 : Int32) (res : Int32) (hf : fX7_isUp c_s v1 v2 = some res) : MRi l yX7_isUp wsX7_isUp rmX7_isUp G [.ref h_this, .int v1, .int v2] [(h_this, .inr (7, [.int c_thrown, .ref h_s, .ref h_draft, .ref h_past, .int c_undos, .ref h_kept, .ref h_isKept, .ref h_facts, .int c_manyFacts, .ref h_text, .int c_typed, .int c_from, .int c_to, .int c_token, .int c_fault, .int c_hasHooks, .int c_hasTies, .int c_low, .int c_high])), (h_s, .inl (G.2 0, 24, .inl c_s))] (res) := MRi.of (plainFor_of_name (by decide +kernel)) rfl (Nat.le_of_ble_eq_true rfl) (fun p e s m below meth c C hP ls hl => kX7_isUp h_this h_s h_draft h_past h_kept h_isKept h_facts h_text c_thrown c_undos c_manyFacts c_typed c_from c_to c_token c_fault c_hasHooks c_hasTies c_low c_high c_s v1 v2 C hP (fun pc ls hn d => rRz C hn d) hf hl)
def fX7_changes_L40 (k82 : Int32 → Option (Int32 × Int32 × Int32 × (Nat → Int32) × (Nat → Int32))) (c_s : Nat → Int32) (v1 : Int32) (v2 : Int32) : Nat → Int32 → Int32 → Option (Int32 × Int32 × Int32 × (Nat → Int32) × (Nat → Int32))
  | 0, _, _ => none
  | n + 1, v3, v4 => if (c_s 1) ≤ v4 then k82 v3 else (fX7_isUp c_s v1 v4).bind (fun u4 => (fX7_isUp c_s v2 v4).bind (fun u5 => jn (fun (j74_0 : Int32) (j74_1 : Int32) => fX7_changes_L40 k82 c_s v1 v2 n (j74_1 + j74_0) (v4 + (1 : Int32))) (fun J74 => if u4 = u5 then J74 (0 : Int32) v3 else J74 (1 : Int32) v3)))
def fX7_changes (c_thrown : Int32) (c_undos : Int32) (c_s : Nat → Int32) (c_past : Nat → Int32) (v1 : Int32) (v2 : Int32) : Option (Int32 × Int32 × Int32 × (Nat → Int32) × (Nat → Int32)) := (fX7_isCard c_s v1).bind (fun u1 => if u1 = 0 then some ((-1 : Int32), (0 : Int32), c_undos, c_s, c_past) else (fX7_isCard c_s v2).bind (fun u2 => if u2 = 0 then some ((-1 : Int32), (0 : Int32), c_undos, c_s, c_past) else if v1 = v2 then some ((-2 : Int32), (0 : Int32), c_undos, c_s, c_past) else (fX7_notes c_undos c_s c_past).bind (fun u3 => (fX7_changes_L40 (fun (v3_x6 : Int32) => gd (ix ((16 : Int32) + v1) 24) (gd (ix ((16 : Int32) + v2) 24) (gd (ix ((16 : Int32) + v1) 24) (gd (ix ((16 : Int32) + v2) 24) (some (v3_x6, (0 : Int32), u3.1, (upd (upd c_s ((16 : Int32) + v1).toNatClampNeg (c_s ((16 : Int32) + v2).toNatClampNeg)) ((16 : Int32) + v2).toNatClampNeg (c_s ((16 : Int32) + v1).toNatClampNeg)), u3.2)))))) c_s v1 v2 FU (0 : Int32) (0 : Int32)))))
theorem iX7_changes_7 : ∀ w ∈ wsX70, w ∈ wsX7_changes := fun w h => List.mem_cons_of_mem _ (List.mem_append_right _ (h))
theorem hdX7_changes : yX7_changes.cls = RX7 ∧ yX7_changes.cls ≠ "java/lang/invoke/MethodHandle" ∧ yX7_changes.cls ≠ "java/lang/invoke/VarHandle" ∧ (parseMethodDescriptor yX7_changes.desc).map (fun d => d.parameters.length) = some 2 := by decide +kernel
abbrev rmX7_changes : Room := { frames := 2, cells := 0, slots := 0, locals := 43 }
section SX7_changes
variable {p : Program} {l : Launch} {e : Env} {s : State} {m : MethodId} {args : Array Value} {below : List Frame} {meth : Method} {c : Code} {Q : State → Prop} {G : GG} {A : Nat → Prop}
set_option maxHeartbeats 4000000 in
set_option maxRecDepth 100000 in
theorem kX7_changes_L40 (h_this : Nat) (h_s : Nat) (h_draft : Nat) (h_past : Nat) (h_kept : Nat) (h_isKept : Nat) (h_facts : Nat) (h_text : Nat) (c_thrown : Int32) (c_undos : Int32) (c_manyFacts : Int32) (c_typed : Int32) (c_from : Int32) (c_to : Int32) (c_token : Int32) (c_fault : Int32) (c_hasHooks : Int32) (c_hasTies : Int32) (c_low : Int32) (c_high : Int32) (c_s : Nat → Int32) (c_past : Nat → Int32) (v1 : Int32) (v2 : Int32) (C : Cx cX7_changes (some .int) 5 RX7 wsX7_changes G p s m args meth c) (hA : ∀ q : Nat, s.heap.size ≤ q → A q) {res : Int32 × Int32 × Int32 × (Nat → Int32) × (Nat → Int32)} (kr : ∀ (pc : Nat) (ls : Array Slot) (H : Heap) (locs : List Loc), va_P G.1 CL [(h_this, .inr (7, [.int (res.2.1), .ref h_s, .ref h_draft, .ref h_past, .int (res.2.2.1), .ref h_kept, .ref h_isKept, .ref h_facts, .int c_manyFacts, .ref h_text, .int c_typed, .int c_from, .int c_to, .int c_token, .int c_fault, .int c_hasHooks, .int c_hasTies, .int c_low, .int c_high])), (h_s, .inl (G.2 0, 24, .inl (res.2.2.2.1))), (h_past, .inl (G.2 0, 144, .inl (res.2.2.2.2)))] H → va_D A [(h_this, .inr (7, [.int (res.2.1), .ref h_s, .ref h_draft, .ref h_past, .int (res.2.2.1), .ref h_kept, .ref h_isKept, .ref h_facts, .int c_manyFacts, .ref h_text, .int c_typed, .int c_from, .int c_to, .int c_token, .int c_fault, .int c_hasHooks, .int c_hasTies, .int c_low, .int c_high])), (h_s, .inl (G.2 0, 24, .inl (res.2.2.2.1))), (h_past, .inl (G.2 0, 144, .inl (res.2.2.2.2)))] → va_S A s.heap H locs → decode cX7_changes pc = .ok (.ireturn, 1) → W p l e rmX7_changes s m args below meth c H locs 0 0 Q (F0 m pc ls [.int res.1])) {k82 : Int32 → Option (Int32 × Int32 × Int32 × (Nat → Int32) × (Nat → Int32))} (hk82 : ∀ (v3 : Int32) (H : Heap) (locs : List Loc), k82 v3 = some res → va_P G.1 CL [(h_this, .inr (7, [.int c_thrown, .ref h_s, .ref h_draft, .ref h_past, .int c_undos, .ref h_kept, .ref h_isKept, .ref h_facts, .int c_manyFacts, .ref h_text, .int c_typed, .int c_from, .int c_to, .int c_token, .int c_fault, .int c_hasHooks, .int c_hasTies, .int c_low, .int c_high])), (h_s, .inl (G.2 0, 24, .inl c_s)), (h_past, .inl (G.2 0, 144, .inl c_past))] H → va_D A [(h_this, .inr (7, [.int c_thrown, .ref h_s, .ref h_draft, .ref h_past, .int c_undos, .ref h_kept, .ref h_isKept, .ref h_facts, .int c_manyFacts, .ref h_text, .int c_typed, .int c_from, .int c_to, .int c_token, .int c_fault, .int c_hasHooks, .int c_hasTies, .int c_low, .int c_high])), (h_s, .inl (G.2 0, 24, .inl c_s)), (h_past, .inl (G.2 0, 144, .inl c_past))] → va_S A s.heap H locs → ∀ (ls : Array Slot), lv_has ls 5 [(0, .ref h_this), (1, .int v1), (2, .int v2), (3, .int v3)] → W p l e rmX7_changes s m args below meth c H locs 0 0 Q (F0 m 82 ls [])) : ∀ (n : Nat) (v3 : Int32) (v4 : Int32) (H : Heap) (locs : List Loc), fX7_changes_L40 k82 c_s v1 v2 n v3 v4 = some res → va_P G.1 CL [(h_this, .inr (7, [.int c_thrown, .ref h_s, .ref h_draft, .ref h_past, .int c_undos, .ref h_kept, .ref h_isKept, .ref h_facts, .int c_manyFacts, .ref h_text, .int c_typed, .int c_from, .int c_to, .int c_token, .int c_fault, .int c_hasHooks, .int c_hasTies, .int c_low, .int c_high])), (h_s, .inl (G.2 0, 24, .inl c_s)), (h_past, .inl (G.2 0, 144, .inl c_past))] H → va_D A [(h_this, .inr (7, [.int c_thrown, .ref h_s, .ref h_draft, .ref h_past, .int c_undos, .ref h_kept, .ref h_isKept, .ref h_facts, .int c_manyFacts, .ref h_text, .int c_typed, .int c_from, .int c_to, .int c_token, .int c_fault, .int c_hasHooks, .int c_hasTies, .int c_low, .int c_high])), (h_s, .inl (G.2 0, 24, .inl c_s)), (h_past, .inl (G.2 0, 144, .inl c_past))] → va_S A s.heap H locs → ∀ (ls : Array Slot), lv_has ls 5 [(0, .ref h_this), (1, .int v1), (2, .int v2), (3, .int v3), (4, .int v4)] → W p l e rmX7_changes s m args below meth c H locs 0 0 Q (F0 m 40 ls []) := by
  obtain ⟨hx, hb, hr, hlk, hml, hown, hts, hK⟩ := id C
  intro n
  induction n with
  | zero =>
    intro v3 v4 H locs hf
    cases hf
  | succ n ih =>
    intro v3 v4 H locs hf hP hD hS ls hl
    rw [fX7_changes_L40] at hf
    refine lv_iload hx hb dX7_changes_40 (lv_at hl 4 rfl) ?_
    refine lv_aload_n hx hb dX7_changes_42 rfl (lv_at hl 0 rfl) ?_
    refine va_get (D := G.1) (cl := CL) (ci := 7) (C := RX7) (T := TX7) (N := 19) hx hb hts iX7_changes_7 hown hK hP 0 rfl rfl 1 (by decide) (hts (.fieldLink RX7 7 "LoomCardsModel" "s" "[I") (List.mem_of_getElem? (i := 2) rfl)) (fun _ h9 => h9) rfl dX7_changes_43 ?_
    refine lv_iconst (v := (1 : Int32)) hx hb dX7_changes_46 (by decide) ?_
    refine r_iald (j := 1) hx hb hK hP 1 rfl (ix_in (n := 24) (by decide)) (by decide) dX7_changes_47 ?_
    refine lv_icmp_ge (tgt := 82) hx hb dX7_changes_48 (by decide) (fun c9 => ?_) (fun c9 => ?_)
    · have hf := c_t hf c9
      exact hk82 v3 _ _ hf hP hD hS _ (lv_sub hl [0, 1, 2, 3] rfl)
    · have hf := c_f hf c9
      refine lv_iload_n hx hb dX7_changes_51 rfl (lv_at hl 3 rfl) ?_
      refine lv_aload_n hx hb dX7_changes_52 rfl (lv_at hl 0 rfl) ?_
      refine lv_iload_n hx hb dX7_changes_53 rfl (lv_at hl 1 rfl) ?_
      refine lv_iload hx hb dX7_changes_54 (lv_at hl 4 rfl) ?_
      refine r_bind hf (fun u4 hu4 hf => ?_)
      refine cRiV (ci := 7) (rest := [.int v3]) ⟨hx, hb, hml, hown, hts⟩ hK (tX7_isUp l G h_this h_s h_draft h_past h_kept h_isKept h_facts h_text c_thrown c_undos c_manyFacts c_typed c_from c_to c_token c_fault c_hasHooks c_hasTies c_low c_high c_s v1 v4 u4 hu4) gX7_changes_X7_isUp rfl hdX7_isUp rfl rfl rfl ⟨Nat.le_of_ble_eq_true rfl, Nat.le_of_ble_eq_true rfl⟩ hP [0, 1] rfl 0 rfl rfl rfl hl.1 (Nat.le_of_ble_eq_true rfl) rfl dX7_changes_56 ⟨Nat.zero_le _, Nat.zero_le _⟩ ?_
      refine lv_aload_n hx hb dX7_changes_59 rfl (lv_at hl 0 rfl) ?_
      refine lv_iload_n hx hb dX7_changes_60 rfl (lv_at hl 2 rfl) ?_
      refine lv_iload hx hb dX7_changes_61 (lv_at hl 4 rfl) ?_
      refine r_bind hf (fun u5 hu5 hf => ?_)
      refine cRiV (ci := 7) (rest := [.int u4, .int v3]) ⟨hx, hb, hml, hown, hts⟩ hK (tX7_isUp l G h_this h_s h_draft h_past h_kept h_isKept h_facts h_text c_thrown c_undos c_manyFacts c_typed c_from c_to c_token c_fault c_hasHooks c_hasTies c_low c_high c_s v2 v4 u5 hu5) gX7_changes_X7_isUp rfl hdX7_isUp rfl rfl rfl ⟨Nat.le_of_ble_eq_true rfl, Nat.le_of_ble_eq_true rfl⟩ hP [0, 1] rfl 0 rfl rfl rfl hl.1 (Nat.le_of_ble_eq_true rfl) rfl dX7_changes_63 ⟨Nat.zero_le _, Nat.zero_le _⟩ ?_
      refine r_jn2 hf (fun J74 eJ74 hf => ?_)
      have hJ74 : ∀ (j74_0 : Int32) (j74_1 : Int32) (H : Heap) (locs : List Loc), J74 j74_0 j74_1 = some res → va_P G.1 CL [(h_this, .inr (7, [.int c_thrown, .ref h_s, .ref h_draft, .ref h_past, .int c_undos, .ref h_kept, .ref h_isKept, .ref h_facts, .int c_manyFacts, .ref h_text, .int c_typed, .int c_from, .int c_to, .int c_token, .int c_fault, .int c_hasHooks, .int c_hasTies, .int c_low, .int c_high])), (h_s, .inl (G.2 0, 24, .inl c_s)), (h_past, .inl (G.2 0, 144, .inl c_past))] H → va_D A [(h_this, .inr (7, [.int c_thrown, .ref h_s, .ref h_draft, .ref h_past, .int c_undos, .ref h_kept, .ref h_isKept, .ref h_facts, .int c_manyFacts, .ref h_text, .int c_typed, .int c_from, .int c_to, .int c_token, .int c_fault, .int c_hasHooks, .int c_hasTies, .int c_low, .int c_high])), (h_s, .inl (G.2 0, 24, .inl c_s)), (h_past, .inl (G.2 0, 144, .inl c_past))] → va_S A s.heap H locs → ∀ (ls : Array Slot), lv_has ls 5 [(0, .ref h_this), (1, .int v1), (2, .int v2), (4, .int v4)] → W p l e rmX7_changes s m args below meth c H locs 0 0 Q (F0 m 74 ls [.int j74_0, .int j74_1]) := by
        intro j74_0 j74_1 H locs hf hP hD hS ls hl
        rw [eJ74] at hf
        refine lv_iadd hx hb dX7_changes_74 ?_
        refine lv_istore_n (lv' := [(3, .int (j74_1 + j74_0)), (0, .ref h_this), (1, .int v1), (2, .int v2), (4, .int v4)]) hx hb dX7_changes_75 rfl hl (by decide) rfl (fun ls hl => ?_)
        refine lv_iinc (v := (v4 + (1 : Int32))) (lv' := [(4, .int (v4 + (1 : Int32))), (3, .int (j74_1 + j74_0)), (0, .ref h_this), (1, .int v1), (2, .int v2)]) hx hb dX7_changes_76 hl (k := 4) rfl rfl (by decide) rfl (fun ls hl => ?_)
        refine lv_goto (tgt := 40) hx hb dX7_changes_79 (by decide) ?_
        exact ih (j74_1 + j74_0) (v4 + (1 : Int32)) _ _ hf hP hD hS _ (lv_sub hl [2, 3, 4, 1, 0] rfl)
      refine lv_icmp_ne (tgt := 73) hx hb dX7_changes_66 (by decide) (fun c9 => ?_) (fun c9 => ?_)
      · have hf := c_f hf c9
        refine lv_iconst (v := (1 : Int32)) hx hb dX7_changes_73 (by decide) ?_
        exact hJ74 (1 : Int32) v3 _ _ hf hP hD hS _ (lv_sub hl [0, 1, 2, 4] rfl)
      · have hf := c_t hf c9
        refine lv_iconst (v := (0 : Int32)) hx hb dX7_changes_69 (by decide) ?_
        refine lv_goto (tgt := 74) hx hb dX7_changes_70 (by decide) ?_
        exact hJ74 (0 : Int32) v3 _ _ hf hP hD hS _ (lv_sub hl [0, 1, 2, 4] rfl)
set_option maxHeartbeats 4000000 in
set_option maxRecDepth 100000 in
theorem kX7_changes (h_this : Nat) (h_s : Nat) (h_draft : Nat) (h_past : Nat) (h_kept : Nat) (h_isKept : Nat) (h_facts : Nat) (h_text : Nat) (c_thrown : Int32) (c_undos : Int32) (c_manyFacts : Int32) (c_typed : Int32) (c_from : Int32) (c_to : Int32) (c_token : Int32) (c_fault : Int32) (c_hasHooks : Int32) (c_hasTies : Int32) (c_low : Int32) (c_high : Int32) (c_s : Nat → Int32) (c_past : Nat → Int32) (v1 : Int32) (v2 : Int32) (C : Cx cX7_changes (some .int) 5 RX7 wsX7_changes G p s m args meth c) (hA : ∀ q : Nat, s.heap.size ≤ q → A q) (hP : va_P G.1 CL [(h_this, .inr (7, [.int c_thrown, .ref h_s, .ref h_draft, .ref h_past, .int c_undos, .ref h_kept, .ref h_isKept, .ref h_facts, .int c_manyFacts, .ref h_text, .int c_typed, .int c_from, .int c_to, .int c_token, .int c_fault, .int c_hasHooks, .int c_hasTies, .int c_low, .int c_high])), (h_s, .inl (G.2 0, 24, .inl c_s)), (h_past, .inl (G.2 0, 144, .inl c_past))] s.heap) (hD : va_D A [(h_this, .inr (7, [.int c_thrown, .ref h_s, .ref h_draft, .ref h_past, .int c_undos, .ref h_kept, .ref h_isKept, .ref h_facts, .int c_manyFacts, .ref h_text, .int c_typed, .int c_from, .int c_to, .int c_token, .int c_fault, .int c_hasHooks, .int c_hasTies, .int c_low, .int c_high])), (h_s, .inl (G.2 0, 24, .inl c_s)), (h_past, .inl (G.2 0, 144, .inl c_past))]) (hS : va_S A s.heap s.heap []) {res : Int32 × Int32 × Int32 × (Nat → Int32) × (Nat → Int32)} (kr : ∀ (pc : Nat) (ls : Array Slot) (H : Heap) (locs : List Loc), va_P G.1 CL [(h_this, .inr (7, [.int (res.2.1), .ref h_s, .ref h_draft, .ref h_past, .int (res.2.2.1), .ref h_kept, .ref h_isKept, .ref h_facts, .int c_manyFacts, .ref h_text, .int c_typed, .int c_from, .int c_to, .int c_token, .int c_fault, .int c_hasHooks, .int c_hasTies, .int c_low, .int c_high])), (h_s, .inl (G.2 0, 24, .inl (res.2.2.2.1))), (h_past, .inl (G.2 0, 144, .inl (res.2.2.2.2)))] H → va_D A [(h_this, .inr (7, [.int (res.2.1), .ref h_s, .ref h_draft, .ref h_past, .int (res.2.2.1), .ref h_kept, .ref h_isKept, .ref h_facts, .int c_manyFacts, .ref h_text, .int c_typed, .int c_from, .int c_to, .int c_token, .int c_fault, .int c_hasHooks, .int c_hasTies, .int c_low, .int c_high])), (h_s, .inl (G.2 0, 24, .inl (res.2.2.2.1))), (h_past, .inl (G.2 0, 144, .inl (res.2.2.2.2)))] → va_S A s.heap H locs → decode cX7_changes pc = .ok (.ireturn, 1) → W p l e rmX7_changes s m args below meth c H locs 0 0 Q (F0 m pc ls [.int res.1])) (hf : fX7_changes c_thrown c_undos c_s c_past v1 v2 = some res) {ls : Array Slot} (hl : lv_has ls 5 [(0, .ref h_this), (1, .int v1), (2, .int v2)]) : W p l e rmX7_changes s m args below meth c s.heap [] 0 0 Q (F0 m 0 ls []) := by
  obtain ⟨hx, hb, hr, hlk, hml, hown, hts, hK⟩ := id C
  rw [fX7_changes] at hf
  refine lv_aload_n hx hb dX7_changes_0 rfl (lv_at hl 0 rfl) ?_
  refine lv_iconst (v := (0 : Int32)) hx hb dX7_changes_1 (by decide) ?_
  refine va_put (D := G.1) (cl := CL) (ci := 7) (v := .int (0 : Int32)) (ty := .int) (C := RX7) (T := TX7) (N := 19) hx hb hts iX7_changes_7 tyX7 tyX7_ok nmX7 hown hK hP hD hS 0 rfl rfl 0 (by decide) (hts (.fieldLink RX7 37 "LoomCardsModel" "thrown" "I") (List.mem_of_getElem? (i := 1) rfl)) (fun _ h9 => h9) rfl (tyX7_ok 0 (by decide)) rfl rfl (Nat.le_of_ble_eq_true rfl) dX7_changes_2 (fun H locs hP hD hS => ?_)
  have hP : va_P G.1 CL [(h_this, .inr (7, [.int (0 : Int32), .ref h_s, .ref h_draft, .ref h_past, .int c_undos, .ref h_kept, .ref h_isKept, .ref h_facts, .int c_manyFacts, .ref h_text, .int c_typed, .int c_from, .int c_to, .int c_token, .int c_fault, .int c_hasHooks, .int c_hasTies, .int c_low, .int c_high])), (h_s, .inl (G.2 0, 24, .inl c_s)), (h_past, .inl (G.2 0, 144, .inl c_past))] H := hP
  have hD : va_D A [(h_this, .inr (7, [.int (0 : Int32), .ref h_s, .ref h_draft, .ref h_past, .int c_undos, .ref h_kept, .ref h_isKept, .ref h_facts, .int c_manyFacts, .ref h_text, .int c_typed, .int c_from, .int c_to, .int c_token, .int c_fault, .int c_hasHooks, .int c_hasTies, .int c_low, .int c_high])), (h_s, .inl (G.2 0, 24, .inl c_s)), (h_past, .inl (G.2 0, 144, .inl c_past))] := hD
  refine lv_aload_n hx hb dX7_changes_5 rfl (lv_at hl 0 rfl) ?_
  refine lv_iload_n hx hb dX7_changes_6 rfl (lv_at hl 1 rfl) ?_
  refine r_bind hf (fun u1 hu1 hf => ?_)
  refine cRiV (ci := 7) (rest := []) ⟨hx, hb, hml, hown, hts⟩ hK (tX7_isCard l G h_this h_s h_draft h_past h_kept h_isKept h_facts h_text (0 : Int32) c_undos c_manyFacts c_typed c_from c_to c_token c_fault c_hasHooks c_hasTies c_low c_high c_s v1 u1 hu1) gX7_changes_X7_isCard rfl hdX7_isCard rfl rfl rfl ⟨Nat.le_of_ble_eq_true rfl, Nat.le_of_ble_eq_true rfl⟩ hP [0, 1] rfl 0 rfl rfl rfl hl.1 (Nat.le_of_ble_eq_true rfl) rfl dX7_changes_7 ⟨Nat.zero_le _, Nat.zero_le _⟩ ?_
  refine lv_if_eq (tgt := 21) hx hb dX7_changes_10 (by decide) (fun c9 => ?_) (fun c9 => ?_)
  · have hf := c_t hf c9
    refine lv_iconst (v := (-1 : Int32)) hx hb dX7_changes_21 (by decide) ?_
    obtain rfl := Option.some.inj hf
    exact kr _ _ _ _ hP hD hS dX7_changes_22
  · have hf := c_f hf c9
    refine lv_aload_n hx hb dX7_changes_13 rfl (lv_at hl 0 rfl) ?_
    refine lv_iload_n hx hb dX7_changes_14 rfl (lv_at hl 2 rfl) ?_
    refine r_bind hf (fun u2 hu2 hf => ?_)
    refine cRiV (ci := 7) (rest := []) ⟨hx, hb, hml, hown, hts⟩ hK (tX7_isCard l G h_this h_s h_draft h_past h_kept h_isKept h_facts h_text (0 : Int32) c_undos c_manyFacts c_typed c_from c_to c_token c_fault c_hasHooks c_hasTies c_low c_high c_s v2 u2 hu2) gX7_changes_X7_isCard rfl hdX7_isCard rfl rfl rfl ⟨Nat.le_of_ble_eq_true rfl, Nat.le_of_ble_eq_true rfl⟩ hP [0, 1] rfl 0 rfl rfl rfl hl.1 (Nat.le_of_ble_eq_true rfl) rfl dX7_changes_15 ⟨Nat.zero_le _, Nat.zero_le _⟩ ?_
    refine lv_if_ne (tgt := 23) hx hb dX7_changes_18 (by decide) (fun c9 => ?_) (fun c9 => ?_)
    · have hf := c_f hf c9
      refine lv_iload_n hx hb dX7_changes_23 rfl (lv_at hl 1 rfl) ?_
      refine lv_iload_n hx hb dX7_changes_24 rfl (lv_at hl 2 rfl) ?_
      refine lv_icmp_ne (tgt := 31) hx hb dX7_changes_25 (by decide) (fun c9 => ?_) (fun c9 => ?_)
      · have hf := c_f hf c9
        refine lv_aload_n hx hb dX7_changes_31 rfl (lv_at hl 0 rfl) ?_
        refine r_bind hf (fun u3 hu3 hf => ?_)
        refine cWvV (ci := 7) (rest := []) (wr := []) (wf := [(h_this, .inr (7, [.int (0 : Int32), .ref h_s, .ref h_draft, .ref h_past, .int u3.1, .ref h_kept, .ref h_isKept, .ref h_facts, .int c_manyFacts, .ref h_text, .int c_typed, .int c_from, .int c_to, .int c_token, .int c_fault, .int c_hasHooks, .int c_hasTies, .int c_low, .int c_high])), (h_s, .inl (G.2 0, 24, .inl c_s)), (h_past, .inl (G.2 0, 144, .inl u3.2))]) ⟨hx, hb, hml, hown, hts⟩ hK (tX7_notes l G h_this h_s h_draft h_past h_kept h_isKept h_facts h_text (0 : Int32) c_undos c_manyFacts c_typed c_from c_to c_token c_fault c_hasHooks c_hasTies c_low c_high c_s c_past u3 hu3) gX7_changes_X7_notes rfl hdX7_notes rfl rfl rfl ⟨Nat.le_of_ble_eq_true rfl, Nat.le_of_ble_eq_true rfl⟩ hP hD hS hA [0, 1, 2] [] [0, 1, 2] rfl rfl rfl (by decide) (by decide) (by decide) (by decide) 0 rfl rfl rfl hl.1 (Nat.le_of_ble_eq_true rfl) rfl dX7_changes_32 ⟨Nat.zero_le _, Nat.zero_le _⟩ (fun H locs hP hD hS => ?_)
        refine lv_iconst (v := (0 : Int32)) hx hb dX7_changes_35 (by decide) ?_
        refine lv_istore_n (lv' := [(3, .int (0 : Int32)), (0, .ref h_this), (1, .int v1), (2, .int v2)]) hx hb dX7_changes_36 rfl hl (by decide) rfl (fun ls hl => ?_)
        refine lv_iconst (v := (0 : Int32)) hx hb dX7_changes_37 (by decide) ?_
        refine lv_istore (lv' := [(4, .int (0 : Int32)), (3, .int (0 : Int32)), (0, .ref h_this), (1, .int v1), (2, .int v2)]) hx hb dX7_changes_38 hl (by decide) rfl (fun ls hl => ?_)
        refine kX7_changes_L40 h_this h_s h_draft h_past h_kept h_isKept h_facts h_text (0 : Int32) u3.1 c_manyFacts c_typed c_from c_to c_token c_fault c_hasHooks c_hasTies c_low c_high c_s u3.2 v1 v2 C hA kr ?_ FU (0 : Int32) (0 : Int32) _ _ hf hP hD hS _ (lv_sub hl [2, 3, 4, 1, 0] rfl)
        intro v3_x6 H locs hf hP hD hS ls hl
        refine lv_aload_n hx hb dX7_changes_82 rfl (lv_at hl 0 rfl) ?_
        refine va_get (D := G.1) (cl := CL) (ci := 7) (C := RX7) (T := TX7) (N := 19) hx hb hts iX7_changes_7 hown hK hP 0 rfl rfl 1 (by decide) (hts (.fieldLink RX7 7 "LoomCardsModel" "s" "[I") (List.mem_of_getElem? (i := 2) rfl)) (fun _ h9 => h9) rfl dX7_changes_83 ?_
        refine lv_bipush (v := (16 : Int32)) hx hb dX7_changes_86 (by decide) ?_
        refine lv_iload_n hx hb dX7_changes_88 rfl (lv_at hl 1 rfl) ?_
        refine lv_iadd hx hb dX7_changes_89 ?_
        refine r_gd hf (fun g9 hf => ?_)
        refine r_iald hx hb hK hP 1 rfl (ix_in g9) rfl dX7_changes_90 ?_
        refine lv_istore (lv' := [(4, .int (c_s ((16 : Int32) + v1).toNatClampNeg)), (0, .ref h_this), (1, .int v1), (2, .int v2), (3, .int v3_x6)]) hx hb dX7_changes_91 hl (by decide) rfl (fun ls hl => ?_)
        refine lv_aload_n hx hb dX7_changes_93 rfl (lv_at hl 1 rfl) ?_
        refine va_get (D := G.1) (cl := CL) (ci := 7) (C := RX7) (T := TX7) (N := 19) hx hb hts iX7_changes_7 hown hK hP 0 rfl rfl 1 (by decide) (hts (.fieldLink RX7 7 "LoomCardsModel" "s" "[I") (List.mem_of_getElem? (i := 2) rfl)) (fun _ h9 => h9) rfl dX7_changes_94 ?_
        refine lv_bipush (v := (16 : Int32)) hx hb dX7_changes_97 (by decide) ?_
        refine lv_iload_n hx hb dX7_changes_99 rfl (lv_at hl 2 rfl) ?_
        refine lv_iadd hx hb dX7_changes_100 ?_
        refine lv_aload_n hx hb dX7_changes_101 rfl (lv_at hl 1 rfl) ?_
        refine va_get (D := G.1) (cl := CL) (ci := 7) (C := RX7) (T := TX7) (N := 19) hx hb hts iX7_changes_7 hown hK hP 0 rfl rfl 1 (by decide) (hts (.fieldLink RX7 7 "LoomCardsModel" "s" "[I") (List.mem_of_getElem? (i := 2) rfl)) (fun _ h9 => h9) rfl dX7_changes_102 ?_
        refine lv_bipush (v := (16 : Int32)) hx hb dX7_changes_105 (by decide) ?_
        refine lv_iload_n hx hb dX7_changes_107 rfl (lv_at hl 3 rfl) ?_
        refine lv_iadd hx hb dX7_changes_108 ?_
        refine r_gd hf (fun g9 hf => ?_)
        refine r_iald hx hb hK hP 1 rfl (ix_in g9) rfl dX7_changes_109 ?_
        refine r_gd hf (fun g9 hf => ?_)
        refine r_iast hx hb hK hP hD hS 1 rfl (ix_in g9) rfl dX7_changes_110 (fun H locs hP hD hS => ?_)
        have hP : va_P G.1 CL [(h_this, .inr (7, [.int (0 : Int32), .ref h_s, .ref h_draft, .ref h_past, .int u3.1, .ref h_kept, .ref h_isKept, .ref h_facts, .int c_manyFacts, .ref h_text, .int c_typed, .int c_from, .int c_to, .int c_token, .int c_fault, .int c_hasHooks, .int c_hasTies, .int c_low, .int c_high])), (h_s, .inl (G.2 0, 24, .inl (upd c_s ((16 : Int32) + v1).toNatClampNeg (c_s ((16 : Int32) + v2).toNatClampNeg)))), (h_past, .inl (G.2 0, 144, .inl u3.2))] H := hP
        have hD : va_D A [(h_this, .inr (7, [.int (0 : Int32), .ref h_s, .ref h_draft, .ref h_past, .int u3.1, .ref h_kept, .ref h_isKept, .ref h_facts, .int c_manyFacts, .ref h_text, .int c_typed, .int c_from, .int c_to, .int c_token, .int c_fault, .int c_hasHooks, .int c_hasTies, .int c_low, .int c_high])), (h_s, .inl (G.2 0, 24, .inl (upd c_s ((16 : Int32) + v1).toNatClampNeg (c_s ((16 : Int32) + v2).toNatClampNeg)))), (h_past, .inl (G.2 0, 144, .inl u3.2))] := hD
        refine lv_aload_n hx hb dX7_changes_111 rfl (lv_at hl 1 rfl) ?_
        refine va_get (D := G.1) (cl := CL) (ci := 7) (C := RX7) (T := TX7) (N := 19) hx hb hts iX7_changes_7 hown hK hP 0 rfl rfl 1 (by decide) (hts (.fieldLink RX7 7 "LoomCardsModel" "s" "[I") (List.mem_of_getElem? (i := 2) rfl)) (fun _ h9 => h9) rfl dX7_changes_112 ?_
        refine lv_bipush (v := (16 : Int32)) hx hb dX7_changes_115 (by decide) ?_
        refine lv_iload_n hx hb dX7_changes_117 rfl (lv_at hl 3 rfl) ?_
        refine lv_iadd hx hb dX7_changes_118 ?_
        refine lv_iload hx hb dX7_changes_119 (lv_at hl 0 rfl) ?_
        refine r_gd hf (fun g9 hf => ?_)
        refine r_iast hx hb hK hP hD hS 1 rfl (ix_in g9) rfl dX7_changes_121 (fun H locs hP hD hS => ?_)
        have hP : va_P G.1 CL [(h_this, .inr (7, [.int (0 : Int32), .ref h_s, .ref h_draft, .ref h_past, .int u3.1, .ref h_kept, .ref h_isKept, .ref h_facts, .int c_manyFacts, .ref h_text, .int c_typed, .int c_from, .int c_to, .int c_token, .int c_fault, .int c_hasHooks, .int c_hasTies, .int c_low, .int c_high])), (h_s, .inl (G.2 0, 24, .inl (upd (upd c_s ((16 : Int32) + v1).toNatClampNeg (c_s ((16 : Int32) + v2).toNatClampNeg)) ((16 : Int32) + v2).toNatClampNeg (c_s ((16 : Int32) + v1).toNatClampNeg)))), (h_past, .inl (G.2 0, 144, .inl u3.2))] H := hP
        have hD : va_D A [(h_this, .inr (7, [.int (0 : Int32), .ref h_s, .ref h_draft, .ref h_past, .int u3.1, .ref h_kept, .ref h_isKept, .ref h_facts, .int c_manyFacts, .ref h_text, .int c_typed, .int c_from, .int c_to, .int c_token, .int c_fault, .int c_hasHooks, .int c_hasTies, .int c_low, .int c_high])), (h_s, .inl (G.2 0, 24, .inl (upd (upd c_s ((16 : Int32) + v1).toNatClampNeg (c_s ((16 : Int32) + v2).toNatClampNeg)) ((16 : Int32) + v2).toNatClampNeg (c_s ((16 : Int32) + v1).toNatClampNeg)))), (h_past, .inl (G.2 0, 144, .inl u3.2))] := hD
        refine lv_iload_n hx hb dX7_changes_122 rfl (lv_at hl 4 rfl) ?_
        obtain rfl := Option.some.inj hf
        exact kr _ _ _ _ hP hD hS dX7_changes_123
      · have hf := c_t hf c9
        refine lv_bipush (v := (-2 : Int32)) hx hb dX7_changes_28 (by decide) ?_
        obtain rfl := Option.some.inj hf
        exact kr _ _ _ _ hP hD hS dX7_changes_30
    · have hf := c_t hf c9
      refine lv_iconst (v := (-1 : Int32)) hx hb dX7_changes_21 (by decide) ?_
      obtain rfl := Option.some.inj hf
      exact kr _ _ _ _ hP hD hS dX7_changes_22
end SX7_changes
set_option maxHeartbeats 4000000 in
set_option maxRecDepth 100000 in
theorem tX7_changes (l : Launch) (G : GG) (h_this : Nat) (h_s : Nat) (h_draft : Nat) (h_past : Nat) (h_kept : Nat) (h_isKept : Nat) (h_facts : Nat) (h_text : Nat) (c_thrown : Int32) (c_undos : Int32) (c_manyFacts : Int32) (c_typed : Int32) (c_from : Int32) (c_to : Int32) (c_token : Int32) (c_fault : Int32) (c_hasHooks : Int32) (c_hasTies : Int32) (c_low : Int32) (c_high : Int32) (c_s : Nat → Int32) (c_past : Nat → Int32) (v1 : Int32) (v2 : Int32) (res : Int32 × Int32 × Int32 × (Nat → Int32) × (Nat → Int32)) (hf : fX7_changes c_thrown c_undos c_s c_past v1 v2 = some res) : MWi l yX7_changes wsX7_changes rmX7_changes G [.ref h_this, .int v1, .int v2] [(h_this, .inr (7, [.int c_thrown, .ref h_s, .ref h_draft, .ref h_past, .int c_undos, .ref h_kept, .ref h_isKept, .ref h_facts, .int c_manyFacts, .ref h_text, .int c_typed, .int c_from, .int c_to, .int c_token, .int c_fault, .int c_hasHooks, .int c_hasTies, .int c_low, .int c_high])), (h_s, .inl (G.2 0, 24, .inl c_s)), (h_past, .inl (G.2 0, 144, .inl c_past))] (res.1) [(h_this, .inr (7, [.int (res.2.1), .ref h_s, .ref h_draft, .ref h_past, .int (res.2.2.1), .ref h_kept, .ref h_isKept, .ref h_facts, .int c_manyFacts, .ref h_text, .int c_typed, .int c_from, .int c_to, .int c_token, .int c_fault, .int c_hasHooks, .int c_hasTies, .int c_low, .int c_high])), (h_s, .inl (G.2 0, 24, .inl (res.2.2.2.1))), (h_past, .inl (G.2 0, 144, .inl (res.2.2.2.2)))] := MWi.of (plainFor_of_name (by decide +kernel)) rfl (Nat.le_of_ble_eq_true rfl) (fun p e s m below meth c A C hA hP hD hS ls hl => kX7_changes h_this h_s h_draft h_past h_kept h_isKept h_facts h_text c_thrown c_undos c_manyFacts c_typed c_from c_to c_token c_fault c_hasHooks c_hasTies c_low c_high c_s c_past v1 v2 C hA hP hD hS (fun pc ls H locs hP hD hS d => rWi C hP hD hS d) hf hl)
def fX7_limits (c_thrown : Int32) (c_undos : Int32) (c_s : Nat → Int32) (c_past : Nat → Int32) (v1 : Int32) : Option (Int32 × Int32 × Int32 × (Nat → Int32) × (Nat → Int32)) := (fX7_in v1 (1 : Int32) (12 : Int32)).bind (fun u1 => if u1 = 0 then some ((-1 : Int32), (0 : Int32), c_undos, c_s, c_past) else (fX7_becomes c_undos c_s c_past (3 : Int32) v1).bind (fun u2 => some (u2.1, (0 : Int32), u2.2.1, u2.2.2.1, u2.2.2.2)))
theorem iX7_limits_7 : ∀ w ∈ wsX70, w ∈ wsX7_limits := fun w h => List.mem_cons_of_mem _ (List.mem_append_right _ (h))
theorem hdX7_limits : yX7_limits.cls = RX7 ∧ yX7_limits.cls ≠ "java/lang/invoke/MethodHandle" ∧ yX7_limits.cls ≠ "java/lang/invoke/VarHandle" ∧ (parseMethodDescriptor yX7_limits.desc).map (fun d => d.parameters.length) = some 1 := by decide +kernel
abbrev rmX7_limits : Room := { frames := 2, cells := 0, slots := 0, locals := 44 }
section SX7_limits
variable {p : Program} {l : Launch} {e : Env} {s : State} {m : MethodId} {args : Array Value} {below : List Frame} {meth : Method} {c : Code} {Q : State → Prop} {G : GG} {A : Nat → Prop}
set_option maxHeartbeats 4000000 in
set_option maxRecDepth 100000 in
theorem kX7_limits (h_this : Nat) (h_s : Nat) (h_draft : Nat) (h_past : Nat) (h_kept : Nat) (h_isKept : Nat) (h_facts : Nat) (h_text : Nat) (c_thrown : Int32) (c_undos : Int32) (c_manyFacts : Int32) (c_typed : Int32) (c_from : Int32) (c_to : Int32) (c_token : Int32) (c_fault : Int32) (c_hasHooks : Int32) (c_hasTies : Int32) (c_low : Int32) (c_high : Int32) (c_s : Nat → Int32) (c_past : Nat → Int32) (v1 : Int32) (C : Cx cX7_limits (some .int) 2 RX7 wsX7_limits G p s m args meth c) (hA : ∀ q : Nat, s.heap.size ≤ q → A q) (hP : va_P G.1 CL [(h_this, .inr (7, [.int c_thrown, .ref h_s, .ref h_draft, .ref h_past, .int c_undos, .ref h_kept, .ref h_isKept, .ref h_facts, .int c_manyFacts, .ref h_text, .int c_typed, .int c_from, .int c_to, .int c_token, .int c_fault, .int c_hasHooks, .int c_hasTies, .int c_low, .int c_high])), (h_s, .inl (G.2 0, 24, .inl c_s)), (h_past, .inl (G.2 0, 144, .inl c_past))] s.heap) (hD : va_D A [(h_this, .inr (7, [.int c_thrown, .ref h_s, .ref h_draft, .ref h_past, .int c_undos, .ref h_kept, .ref h_isKept, .ref h_facts, .int c_manyFacts, .ref h_text, .int c_typed, .int c_from, .int c_to, .int c_token, .int c_fault, .int c_hasHooks, .int c_hasTies, .int c_low, .int c_high])), (h_s, .inl (G.2 0, 24, .inl c_s)), (h_past, .inl (G.2 0, 144, .inl c_past))]) (hS : va_S A s.heap s.heap []) {res : Int32 × Int32 × Int32 × (Nat → Int32) × (Nat → Int32)} (kr : ∀ (pc : Nat) (ls : Array Slot) (H : Heap) (locs : List Loc), va_P G.1 CL [(h_this, .inr (7, [.int (res.2.1), .ref h_s, .ref h_draft, .ref h_past, .int (res.2.2.1), .ref h_kept, .ref h_isKept, .ref h_facts, .int c_manyFacts, .ref h_text, .int c_typed, .int c_from, .int c_to, .int c_token, .int c_fault, .int c_hasHooks, .int c_hasTies, .int c_low, .int c_high])), (h_s, .inl (G.2 0, 24, .inl (res.2.2.2.1))), (h_past, .inl (G.2 0, 144, .inl (res.2.2.2.2)))] H → va_D A [(h_this, .inr (7, [.int (res.2.1), .ref h_s, .ref h_draft, .ref h_past, .int (res.2.2.1), .ref h_kept, .ref h_isKept, .ref h_facts, .int c_manyFacts, .ref h_text, .int c_typed, .int c_from, .int c_to, .int c_token, .int c_fault, .int c_hasHooks, .int c_hasTies, .int c_low, .int c_high])), (h_s, .inl (G.2 0, 24, .inl (res.2.2.2.1))), (h_past, .inl (G.2 0, 144, .inl (res.2.2.2.2)))] → va_S A s.heap H locs → decode cX7_limits pc = .ok (.ireturn, 1) → W p l e rmX7_limits s m args below meth c H locs 0 0 Q (F0 m pc ls [.int res.1])) (hf : fX7_limits c_thrown c_undos c_s c_past v1 = some res) {ls : Array Slot} (hl : lv_has ls 2 [(0, .ref h_this), (1, .int v1)]) : W p l e rmX7_limits s m args below meth c s.heap [] 0 0 Q (F0 m 0 ls []) := by
  obtain ⟨hx, hb, hr, hlk, hml, hown, hts, hK⟩ := id C
  rw [fX7_limits] at hf
  refine lv_aload_n hx hb dX7_limits_0 rfl (lv_at hl 0 rfl) ?_
  refine lv_iconst (v := (0 : Int32)) hx hb dX7_limits_1 (by decide) ?_
  refine va_put (D := G.1) (cl := CL) (ci := 7) (v := .int (0 : Int32)) (ty := .int) (C := RX7) (T := TX7) (N := 19) hx hb hts iX7_limits_7 tyX7 tyX7_ok nmX7 hown hK hP hD hS 0 rfl rfl 0 (by decide) (hts (.fieldLink RX7 37 "LoomCardsModel" "thrown" "I") (List.mem_of_getElem? (i := 1) rfl)) (fun _ h9 => h9) rfl (tyX7_ok 0 (by decide)) rfl rfl (Nat.le_of_ble_eq_true rfl) dX7_limits_2 (fun H locs hP hD hS => ?_)
  have hP : va_P G.1 CL [(h_this, .inr (7, [.int (0 : Int32), .ref h_s, .ref h_draft, .ref h_past, .int c_undos, .ref h_kept, .ref h_isKept, .ref h_facts, .int c_manyFacts, .ref h_text, .int c_typed, .int c_from, .int c_to, .int c_token, .int c_fault, .int c_hasHooks, .int c_hasTies, .int c_low, .int c_high])), (h_s, .inl (G.2 0, 24, .inl c_s)), (h_past, .inl (G.2 0, 144, .inl c_past))] H := hP
  have hD : va_D A [(h_this, .inr (7, [.int (0 : Int32), .ref h_s, .ref h_draft, .ref h_past, .int c_undos, .ref h_kept, .ref h_isKept, .ref h_facts, .int c_manyFacts, .ref h_text, .int c_typed, .int c_from, .int c_to, .int c_token, .int c_fault, .int c_hasHooks, .int c_hasTies, .int c_low, .int c_high])), (h_s, .inl (G.2 0, 24, .inl c_s)), (h_past, .inl (G.2 0, 144, .inl c_past))] := hD
  refine lv_iload_n hx hb dX7_limits_5 rfl (lv_at hl 1 rfl) ?_
  refine lv_iconst (v := (1 : Int32)) hx hb dX7_limits_6 (by decide) ?_
  refine lv_bipush (v := (12 : Int32)) hx hb dX7_limits_7 (by decide) ?_
  refine r_bind hf (fun u1 hu1 hf => ?_)
  refine cRiS (rest := []) ⟨hx, hb, hml, hown, hts⟩ hK (tX7_in l G v1 (1 : Int32) (12 : Int32) u1 hu1) gX7_limits_X7_in rfl hdX7_in rfl rfl rfl ⟨Nat.le_of_ble_eq_true rfl, Nat.le_of_ble_eq_true rfl⟩ hP [] rfl hl.1 (Nat.le_of_ble_eq_true rfl) rfl dX7_limits_9 ⟨Nat.zero_le _, Nat.zero_le _⟩ ?_
  refine lv_if_eq (tgt := 24) hx hb dX7_limits_12 (by decide) (fun c9 => ?_) (fun c9 => ?_)
  · have hf := c_t hf c9
    refine lv_iconst (v := (-1 : Int32)) hx hb dX7_limits_24 (by decide) ?_
    obtain rfl := Option.some.inj hf
    exact kr _ _ _ _ hP hD hS dX7_limits_25
  · have hf := c_f hf c9
    refine lv_aload_n hx hb dX7_limits_15 rfl (lv_at hl 0 rfl) ?_
    refine lv_iconst (v := (3 : Int32)) hx hb dX7_limits_16 (by decide) ?_
    refine lv_iload_n hx hb dX7_limits_17 rfl (lv_at hl 1 rfl) ?_
    refine r_bind hf (fun u2 hu2 hf => ?_)
    refine cWiV (ci := 7) (rest := []) (wr := []) (wf := [(h_this, .inr (7, [.int (0 : Int32), .ref h_s, .ref h_draft, .ref h_past, .int u2.2.1, .ref h_kept, .ref h_isKept, .ref h_facts, .int c_manyFacts, .ref h_text, .int c_typed, .int c_from, .int c_to, .int c_token, .int c_fault, .int c_hasHooks, .int c_hasTies, .int c_low, .int c_high])), (h_s, .inl (G.2 0, 24, .inl u2.2.2.1)), (h_past, .inl (G.2 0, 144, .inl u2.2.2.2))]) ⟨hx, hb, hml, hown, hts⟩ hK (tX7_becomes l G h_this h_s h_draft h_past h_kept h_isKept h_facts h_text (0 : Int32) c_undos c_manyFacts c_typed c_from c_to c_token c_fault c_hasHooks c_hasTies c_low c_high c_s c_past (3 : Int32) v1 u2 hu2) gX7_limits_X7_becomes rfl hdX7_becomes rfl rfl rfl ⟨Nat.le_of_ble_eq_true rfl, Nat.le_of_ble_eq_true rfl⟩ hP hD hS hA [0, 1, 2] [] [0, 1, 2] rfl rfl rfl (by decide) (by decide) (by decide) (by decide) 0 rfl rfl rfl hl.1 (Nat.le_of_ble_eq_true rfl) rfl dX7_limits_18 ⟨Nat.zero_le _, Nat.zero_le _⟩ (fun H locs hP hD hS => ?_)
    refine lv_goto (tgt := 25) hx hb dX7_limits_21 (by decide) ?_
    obtain rfl := Option.some.inj hf
    exact kr _ _ _ _ hP hD hS dX7_limits_25
end SX7_limits
set_option maxHeartbeats 4000000 in
set_option maxRecDepth 100000 in
theorem tX7_limits (l : Launch) (G : GG) (h_this : Nat) (h_s : Nat) (h_draft : Nat) (h_past : Nat) (h_kept : Nat) (h_isKept : Nat) (h_facts : Nat) (h_text : Nat) (c_thrown : Int32) (c_undos : Int32) (c_manyFacts : Int32) (c_typed : Int32) (c_from : Int32) (c_to : Int32) (c_token : Int32) (c_fault : Int32) (c_hasHooks : Int32) (c_hasTies : Int32) (c_low : Int32) (c_high : Int32) (c_s : Nat → Int32) (c_past : Nat → Int32) (v1 : Int32) (res : Int32 × Int32 × Int32 × (Nat → Int32) × (Nat → Int32)) (hf : fX7_limits c_thrown c_undos c_s c_past v1 = some res) : MWi l yX7_limits wsX7_limits rmX7_limits G [.ref h_this, .int v1] [(h_this, .inr (7, [.int c_thrown, .ref h_s, .ref h_draft, .ref h_past, .int c_undos, .ref h_kept, .ref h_isKept, .ref h_facts, .int c_manyFacts, .ref h_text, .int c_typed, .int c_from, .int c_to, .int c_token, .int c_fault, .int c_hasHooks, .int c_hasTies, .int c_low, .int c_high])), (h_s, .inl (G.2 0, 24, .inl c_s)), (h_past, .inl (G.2 0, 144, .inl c_past))] (res.1) [(h_this, .inr (7, [.int (res.2.1), .ref h_s, .ref h_draft, .ref h_past, .int (res.2.2.1), .ref h_kept, .ref h_isKept, .ref h_facts, .int c_manyFacts, .ref h_text, .int c_typed, .int c_from, .int c_to, .int c_token, .int c_fault, .int c_hasHooks, .int c_hasTies, .int c_low, .int c_high])), (h_s, .inl (G.2 0, 24, .inl (res.2.2.2.1))), (h_past, .inl (G.2 0, 144, .inl (res.2.2.2.2)))] := MWi.of (plainFor_of_name (by decide +kernel)) rfl (Nat.le_of_ble_eq_true rfl) (fun p e s m below meth c A C hA hP hD hS ls hl => kX7_limits h_this h_s h_draft h_past h_kept h_isKept h_facts h_text c_thrown c_undos c_manyFacts c_typed c_from c_to c_token c_fault c_hasHooks c_hasTies c_low c_high c_s c_past v1 C hA hP hD hS (fun pc ls H locs hP hD hS d => rWi C hP hD hS d) hf hl)
def fX7_undo_L27 (k59 : (Nat → Int32) → Option (Int32 × Int32 × Int32 × (Nat → Int32))) (c_undos : Int32) (c_past : Nat → Int32) : Nat → Int32 → (Nat → Int32) → Option (Int32 × Int32 × Int32 × (Nat → Int32))
  | 0, _, _ => none
  | n + 1, v1, c_s => if (24 : Int32) ≤ v1 then k59 c_s else gd (ix (((24 : Int32) * c_undos) + v1) 144) (gd (ix v1 24) (fX7_undo_L27 k59 c_undos c_past n (v1 + (1 : Int32)) (upd c_s v1.toNatClampNeg (c_past (((24 : Int32) * c_undos) + v1).toNatClampNeg))))
def fX7_undo (c_thrown : Int32) (c_undos : Int32) (c_s : Nat → Int32) (c_past : Nat → Int32)  : Option (Int32 × Int32 × Int32 × (Nat → Int32)) := if c_undos = 0 then some ((-2 : Int32), (0 : Int32), c_undos, c_s) else (fX7_undo_L27 (fun (c_s_x1 : Nat → Int32) => some ((c_undos - (1 : Int32)), (0 : Int32), (c_undos - (1 : Int32)), c_s_x1)) (c_undos - (1 : Int32)) c_past FU (0 : Int32) c_s)
theorem iX7_undo_7 : ∀ w ∈ wsX70, w ∈ wsX7_undo := fun w h => List.mem_cons_of_mem _ (List.mem_append_right _ (h))
theorem hdX7_undo : yX7_undo.cls = RX7 ∧ yX7_undo.cls ≠ "java/lang/invoke/MethodHandle" ∧ yX7_undo.cls ≠ "java/lang/invoke/VarHandle" ∧ (parseMethodDescriptor yX7_undo.desc).map (fun d => d.parameters.length) = some 0 := by decide +kernel
abbrev rmX7_undo : Room := { frames := 0, cells := 0, slots := 0, locals := 0 }
section SX7_undo
variable {p : Program} {l : Launch} {e : Env} {s : State} {m : MethodId} {args : Array Value} {below : List Frame} {meth : Method} {c : Code} {Q : State → Prop} {G : GG} {A : Nat → Prop}
set_option maxHeartbeats 4000000 in
set_option maxRecDepth 100000 in
theorem kX7_undo_L27 (h_this : Nat) (h_s : Nat) (h_draft : Nat) (h_past : Nat) (h_kept : Nat) (h_isKept : Nat) (h_facts : Nat) (h_text : Nat) (c_thrown : Int32) (c_undos : Int32) (c_manyFacts : Int32) (c_typed : Int32) (c_from : Int32) (c_to : Int32) (c_token : Int32) (c_fault : Int32) (c_hasHooks : Int32) (c_hasTies : Int32) (c_low : Int32) (c_high : Int32) (c_past : Nat → Int32) (C : Cx cX7_undo (some .int) 2 RX7 wsX7_undo G p s m args meth c) (hA : ∀ q : Nat, s.heap.size ≤ q → A q) {res : Int32 × Int32 × Int32 × (Nat → Int32)} (kr : ∀ (pc : Nat) (ls : Array Slot) (H : Heap) (locs : List Loc), va_P G.1 CL [(h_this, .inr (7, [.int (res.2.1), .ref h_s, .ref h_draft, .ref h_past, .int (res.2.2.1), .ref h_kept, .ref h_isKept, .ref h_facts, .int c_manyFacts, .ref h_text, .int c_typed, .int c_from, .int c_to, .int c_token, .int c_fault, .int c_hasHooks, .int c_hasTies, .int c_low, .int c_high])), (h_s, .inl (G.2 0, 24, .inl (res.2.2.2))), (h_past, .inl (G.2 0, 144, .inl c_past))] H → va_D A [(h_this, .inr (7, [.int (res.2.1), .ref h_s, .ref h_draft, .ref h_past, .int (res.2.2.1), .ref h_kept, .ref h_isKept, .ref h_facts, .int c_manyFacts, .ref h_text, .int c_typed, .int c_from, .int c_to, .int c_token, .int c_fault, .int c_hasHooks, .int c_hasTies, .int c_low, .int c_high])), (h_s, .inl (G.2 0, 24, .inl (res.2.2.2))), (h_past, .inl (G.2 0, 144, .inl c_past))] → va_S A s.heap H locs → decode cX7_undo pc = .ok (.ireturn, 1) → W p l e rmX7_undo s m args below meth c H locs 0 0 Q (F0 m pc ls [.int res.1])) {k59 : (Nat → Int32) → Option (Int32 × Int32 × Int32 × (Nat → Int32))} (hk59 : ∀ (c_s : Nat → Int32) (H : Heap) (locs : List Loc), k59 c_s = some res → va_P G.1 CL [(h_this, .inr (7, [.int c_thrown, .ref h_s, .ref h_draft, .ref h_past, .int c_undos, .ref h_kept, .ref h_isKept, .ref h_facts, .int c_manyFacts, .ref h_text, .int c_typed, .int c_from, .int c_to, .int c_token, .int c_fault, .int c_hasHooks, .int c_hasTies, .int c_low, .int c_high])), (h_s, .inl (G.2 0, 24, .inl c_s)), (h_past, .inl (G.2 0, 144, .inl c_past))] H → va_D A [(h_this, .inr (7, [.int c_thrown, .ref h_s, .ref h_draft, .ref h_past, .int c_undos, .ref h_kept, .ref h_isKept, .ref h_facts, .int c_manyFacts, .ref h_text, .int c_typed, .int c_from, .int c_to, .int c_token, .int c_fault, .int c_hasHooks, .int c_hasTies, .int c_low, .int c_high])), (h_s, .inl (G.2 0, 24, .inl c_s)), (h_past, .inl (G.2 0, 144, .inl c_past))] → va_S A s.heap H locs → ∀ (ls : Array Slot), lv_has ls 2 [(0, .ref h_this)] → W p l e rmX7_undo s m args below meth c H locs 0 0 Q (F0 m 59 ls [])) : ∀ (n : Nat) (v1 : Int32) (c_s : Nat → Int32) (H : Heap) (locs : List Loc), fX7_undo_L27 k59 c_undos c_past n v1 c_s = some res → va_P G.1 CL [(h_this, .inr (7, [.int c_thrown, .ref h_s, .ref h_draft, .ref h_past, .int c_undos, .ref h_kept, .ref h_isKept, .ref h_facts, .int c_manyFacts, .ref h_text, .int c_typed, .int c_from, .int c_to, .int c_token, .int c_fault, .int c_hasHooks, .int c_hasTies, .int c_low, .int c_high])), (h_s, .inl (G.2 0, 24, .inl c_s)), (h_past, .inl (G.2 0, 144, .inl c_past))] H → va_D A [(h_this, .inr (7, [.int c_thrown, .ref h_s, .ref h_draft, .ref h_past, .int c_undos, .ref h_kept, .ref h_isKept, .ref h_facts, .int c_manyFacts, .ref h_text, .int c_typed, .int c_from, .int c_to, .int c_token, .int c_fault, .int c_hasHooks, .int c_hasTies, .int c_low, .int c_high])), (h_s, .inl (G.2 0, 24, .inl c_s)), (h_past, .inl (G.2 0, 144, .inl c_past))] → va_S A s.heap H locs → ∀ (ls : Array Slot), lv_has ls 2 [(0, .ref h_this), (1, .int v1)] → W p l e rmX7_undo s m args below meth c H locs 0 0 Q (F0 m 27 ls []) := by
  obtain ⟨hx, hb, hr, hlk, hml, hown, hts, hK⟩ := id C
  intro n
  induction n with
  | zero =>
    intro v1 c_s H locs hf
    cases hf
  | succ n ih =>
    intro v1 c_s H locs hf hP hD hS ls hl
    rw [fX7_undo_L27] at hf
    refine lv_iload_n hx hb dX7_undo_27 rfl (lv_at hl 1 rfl) ?_
    refine lv_bipush (v := (24 : Int32)) hx hb dX7_undo_28 (by decide) ?_
    refine lv_icmp_ge (tgt := 59) hx hb dX7_undo_30 (by decide) (fun c9 => ?_) (fun c9 => ?_)
    · have hf := c_t hf c9
      exact hk59 c_s _ _ hf hP hD hS _ (lv_sub hl [0] rfl)
    · have hf := c_f hf c9
      refine lv_aload_n hx hb dX7_undo_33 rfl (lv_at hl 0 rfl) ?_
      refine va_get (D := G.1) (cl := CL) (ci := 7) (C := RX7) (T := TX7) (N := 19) hx hb hts iX7_undo_7 hown hK hP 0 rfl rfl 1 (by decide) (hts (.fieldLink RX7 7 "LoomCardsModel" "s" "[I") (List.mem_of_getElem? (i := 3) rfl)) (fun _ h9 => h9) rfl dX7_undo_34 ?_
      refine lv_iload_n hx hb dX7_undo_37 rfl (lv_at hl 1 rfl) ?_
      refine lv_aload_n hx hb dX7_undo_38 rfl (lv_at hl 0 rfl) ?_
      refine va_get (D := G.1) (cl := CL) (ci := 7) (C := RX7) (T := TX7) (N := 19) hx hb hts iX7_undo_7 hown hK hP 0 rfl rfl 3 (by decide) (hts (.fieldLink RX7 16 "LoomCardsModel" "past" "[I") (List.mem_of_getElem? (i := 4) rfl)) (fun _ h9 => h9) rfl dX7_undo_39 ?_
      refine lv_bipush (v := (24 : Int32)) hx hb dX7_undo_42 (by decide) ?_
      refine lv_aload_n hx hb dX7_undo_44 rfl (lv_at hl 0 rfl) ?_
      refine va_get (D := G.1) (cl := CL) (ci := 7) (C := RX7) (T := TX7) (N := 19) hx hb hts iX7_undo_7 hown hK hP 0 rfl rfl 4 (by decide) (hts (.fieldLink RX7 114 "LoomCardsModel" "undos" "I") (List.mem_of_getElem? (i := 2) rfl)) (fun _ h9 => h9) rfl dX7_undo_45 ?_
      refine lv_imul hx hb dX7_undo_48 ?_
      refine lv_iload_n hx hb dX7_undo_49 rfl (lv_at hl 1 rfl) ?_
      refine lv_iadd hx hb dX7_undo_50 ?_
      refine r_gd hf (fun g9 hf => ?_)
      refine r_iald hx hb hK hP 2 rfl (ix_in g9) rfl dX7_undo_51 ?_
      refine r_gd hf (fun g9 hf => ?_)
      refine r_iast hx hb hK hP hD hS 1 rfl (ix_in g9) rfl dX7_undo_52 (fun H locs hP hD hS => ?_)
      have hP : va_P G.1 CL [(h_this, .inr (7, [.int c_thrown, .ref h_s, .ref h_draft, .ref h_past, .int c_undos, .ref h_kept, .ref h_isKept, .ref h_facts, .int c_manyFacts, .ref h_text, .int c_typed, .int c_from, .int c_to, .int c_token, .int c_fault, .int c_hasHooks, .int c_hasTies, .int c_low, .int c_high])), (h_s, .inl (G.2 0, 24, .inl (upd c_s v1.toNatClampNeg (c_past (((24 : Int32) * c_undos) + v1).toNatClampNeg)))), (h_past, .inl (G.2 0, 144, .inl c_past))] H := hP
      have hD : va_D A [(h_this, .inr (7, [.int c_thrown, .ref h_s, .ref h_draft, .ref h_past, .int c_undos, .ref h_kept, .ref h_isKept, .ref h_facts, .int c_manyFacts, .ref h_text, .int c_typed, .int c_from, .int c_to, .int c_token, .int c_fault, .int c_hasHooks, .int c_hasTies, .int c_low, .int c_high])), (h_s, .inl (G.2 0, 24, .inl (upd c_s v1.toNatClampNeg (c_past (((24 : Int32) * c_undos) + v1).toNatClampNeg)))), (h_past, .inl (G.2 0, 144, .inl c_past))] := hD
      refine lv_iinc (v := (v1 + (1 : Int32))) (lv' := [(1, .int (v1 + (1 : Int32))), (0, .ref h_this)]) hx hb dX7_undo_53 hl (k := 1) rfl rfl (by decide) rfl (fun ls hl => ?_)
      refine lv_goto (tgt := 27) hx hb dX7_undo_56 (by decide) ?_
      exact ih (v1 + (1 : Int32)) (upd c_s v1.toNatClampNeg (c_past (((24 : Int32) * c_undos) + v1).toNatClampNeg)) _ _ hf hP hD hS _ (lv_sub hl [1, 0] rfl)
set_option maxHeartbeats 4000000 in
set_option maxRecDepth 100000 in
theorem kX7_undo (h_this : Nat) (h_s : Nat) (h_draft : Nat) (h_past : Nat) (h_kept : Nat) (h_isKept : Nat) (h_facts : Nat) (h_text : Nat) (c_thrown : Int32) (c_undos : Int32) (c_manyFacts : Int32) (c_typed : Int32) (c_from : Int32) (c_to : Int32) (c_token : Int32) (c_fault : Int32) (c_hasHooks : Int32) (c_hasTies : Int32) (c_low : Int32) (c_high : Int32) (c_s : Nat → Int32) (c_past : Nat → Int32) (C : Cx cX7_undo (some .int) 2 RX7 wsX7_undo G p s m args meth c) (hA : ∀ q : Nat, s.heap.size ≤ q → A q) (hP : va_P G.1 CL [(h_this, .inr (7, [.int c_thrown, .ref h_s, .ref h_draft, .ref h_past, .int c_undos, .ref h_kept, .ref h_isKept, .ref h_facts, .int c_manyFacts, .ref h_text, .int c_typed, .int c_from, .int c_to, .int c_token, .int c_fault, .int c_hasHooks, .int c_hasTies, .int c_low, .int c_high])), (h_s, .inl (G.2 0, 24, .inl c_s)), (h_past, .inl (G.2 0, 144, .inl c_past))] s.heap) (hD : va_D A [(h_this, .inr (7, [.int c_thrown, .ref h_s, .ref h_draft, .ref h_past, .int c_undos, .ref h_kept, .ref h_isKept, .ref h_facts, .int c_manyFacts, .ref h_text, .int c_typed, .int c_from, .int c_to, .int c_token, .int c_fault, .int c_hasHooks, .int c_hasTies, .int c_low, .int c_high])), (h_s, .inl (G.2 0, 24, .inl c_s)), (h_past, .inl (G.2 0, 144, .inl c_past))]) (hS : va_S A s.heap s.heap []) {res : Int32 × Int32 × Int32 × (Nat → Int32)} (kr : ∀ (pc : Nat) (ls : Array Slot) (H : Heap) (locs : List Loc), va_P G.1 CL [(h_this, .inr (7, [.int (res.2.1), .ref h_s, .ref h_draft, .ref h_past, .int (res.2.2.1), .ref h_kept, .ref h_isKept, .ref h_facts, .int c_manyFacts, .ref h_text, .int c_typed, .int c_from, .int c_to, .int c_token, .int c_fault, .int c_hasHooks, .int c_hasTies, .int c_low, .int c_high])), (h_s, .inl (G.2 0, 24, .inl (res.2.2.2))), (h_past, .inl (G.2 0, 144, .inl c_past))] H → va_D A [(h_this, .inr (7, [.int (res.2.1), .ref h_s, .ref h_draft, .ref h_past, .int (res.2.2.1), .ref h_kept, .ref h_isKept, .ref h_facts, .int c_manyFacts, .ref h_text, .int c_typed, .int c_from, .int c_to, .int c_token, .int c_fault, .int c_hasHooks, .int c_hasTies, .int c_low, .int c_high])), (h_s, .inl (G.2 0, 24, .inl (res.2.2.2))), (h_past, .inl (G.2 0, 144, .inl c_past))] → va_S A s.heap H locs → decode cX7_undo pc = .ok (.ireturn, 1) → W p l e rmX7_undo s m args below meth c H locs 0 0 Q (F0 m pc ls [.int res.1])) (hf : fX7_undo c_thrown c_undos c_s c_past = some res) {ls : Array Slot} (hl : lv_has ls 2 [(0, .ref h_this)]) : W p l e rmX7_undo s m args below meth c s.heap [] 0 0 Q (F0 m 0 ls []) := by
  obtain ⟨hx, hb, hr, hlk, hml, hown, hts, hK⟩ := id C
  rw [fX7_undo] at hf
  refine lv_aload_n hx hb dX7_undo_0 rfl (lv_at hl 0 rfl) ?_
  refine lv_iconst (v := (0 : Int32)) hx hb dX7_undo_1 (by decide) ?_
  refine va_put (D := G.1) (cl := CL) (ci := 7) (v := .int (0 : Int32)) (ty := .int) (C := RX7) (T := TX7) (N := 19) hx hb hts iX7_undo_7 tyX7 tyX7_ok nmX7 hown hK hP hD hS 0 rfl rfl 0 (by decide) (hts (.fieldLink RX7 37 "LoomCardsModel" "thrown" "I") (List.mem_of_getElem? (i := 1) rfl)) (fun _ h9 => h9) rfl (tyX7_ok 0 (by decide)) rfl rfl (Nat.le_of_ble_eq_true rfl) dX7_undo_2 (fun H locs hP hD hS => ?_)
  have hP : va_P G.1 CL [(h_this, .inr (7, [.int (0 : Int32), .ref h_s, .ref h_draft, .ref h_past, .int c_undos, .ref h_kept, .ref h_isKept, .ref h_facts, .int c_manyFacts, .ref h_text, .int c_typed, .int c_from, .int c_to, .int c_token, .int c_fault, .int c_hasHooks, .int c_hasTies, .int c_low, .int c_high])), (h_s, .inl (G.2 0, 24, .inl c_s)), (h_past, .inl (G.2 0, 144, .inl c_past))] H := hP
  have hD : va_D A [(h_this, .inr (7, [.int (0 : Int32), .ref h_s, .ref h_draft, .ref h_past, .int c_undos, .ref h_kept, .ref h_isKept, .ref h_facts, .int c_manyFacts, .ref h_text, .int c_typed, .int c_from, .int c_to, .int c_token, .int c_fault, .int c_hasHooks, .int c_hasTies, .int c_low, .int c_high])), (h_s, .inl (G.2 0, 24, .inl c_s)), (h_past, .inl (G.2 0, 144, .inl c_past))] := hD
  refine lv_aload_n hx hb dX7_undo_5 rfl (lv_at hl 0 rfl) ?_
  refine va_get (D := G.1) (cl := CL) (ci := 7) (C := RX7) (T := TX7) (N := 19) hx hb hts iX7_undo_7 hown hK hP 0 rfl rfl 4 (by decide) (hts (.fieldLink RX7 114 "LoomCardsModel" "undos" "I") (List.mem_of_getElem? (i := 2) rfl)) (fun _ h9 => h9) rfl dX7_undo_6 ?_
  refine lv_if_ne (tgt := 15) hx hb dX7_undo_9 (by decide) (fun c9 => ?_) (fun c9 => ?_)
  · have hf := c_f hf c9
    refine lv_aload_n hx hb dX7_undo_15 rfl (lv_at hl 0 rfl) ?_
    refine lv_dup hx hb dX7_undo_16 rfl ?_
    refine va_get (D := G.1) (cl := CL) (ci := 7) (C := RX7) (T := TX7) (N := 19) hx hb hts iX7_undo_7 hown hK hP 0 rfl rfl 4 (by decide) (hts (.fieldLink RX7 114 "LoomCardsModel" "undos" "I") (List.mem_of_getElem? (i := 2) rfl)) (fun _ h9 => h9) rfl dX7_undo_17 ?_
    refine lv_iconst (v := (1 : Int32)) hx hb dX7_undo_20 (by decide) ?_
    refine lv_isub hx hb dX7_undo_21 ?_
    refine va_put (D := G.1) (cl := CL) (ci := 7) (v := .int (c_undos - (1 : Int32))) (ty := .int) (C := RX7) (T := TX7) (N := 19) hx hb hts iX7_undo_7 tyX7 tyX7_ok nmX7 hown hK hP hD hS 0 rfl rfl 4 (by decide) (hts (.fieldLink RX7 114 "LoomCardsModel" "undos" "I") (List.mem_of_getElem? (i := 2) rfl)) (fun _ h9 => h9) rfl (tyX7_ok 4 (by decide)) rfl rfl (Nat.le_of_ble_eq_true rfl) dX7_undo_22 (fun H locs hP hD hS => ?_)
    have hP : va_P G.1 CL [(h_this, .inr (7, [.int (0 : Int32), .ref h_s, .ref h_draft, .ref h_past, .int (c_undos - (1 : Int32)), .ref h_kept, .ref h_isKept, .ref h_facts, .int c_manyFacts, .ref h_text, .int c_typed, .int c_from, .int c_to, .int c_token, .int c_fault, .int c_hasHooks, .int c_hasTies, .int c_low, .int c_high])), (h_s, .inl (G.2 0, 24, .inl c_s)), (h_past, .inl (G.2 0, 144, .inl c_past))] H := hP
    have hD : va_D A [(h_this, .inr (7, [.int (0 : Int32), .ref h_s, .ref h_draft, .ref h_past, .int (c_undos - (1 : Int32)), .ref h_kept, .ref h_isKept, .ref h_facts, .int c_manyFacts, .ref h_text, .int c_typed, .int c_from, .int c_to, .int c_token, .int c_fault, .int c_hasHooks, .int c_hasTies, .int c_low, .int c_high])), (h_s, .inl (G.2 0, 24, .inl c_s)), (h_past, .inl (G.2 0, 144, .inl c_past))] := hD
    refine lv_iconst (v := (0 : Int32)) hx hb dX7_undo_25 (by decide) ?_
    refine lv_istore_n (lv' := [(1, .int (0 : Int32)), (0, .ref h_this)]) hx hb dX7_undo_26 rfl hl (by decide) rfl (fun ls hl => ?_)
    refine kX7_undo_L27 h_this h_s h_draft h_past h_kept h_isKept h_facts h_text (0 : Int32) (c_undos - (1 : Int32)) c_manyFacts c_typed c_from c_to c_token c_fault c_hasHooks c_hasTies c_low c_high c_past C hA kr ?_ FU (0 : Int32) c_s _ _ hf hP hD hS _ (lv_sub hl [1, 0] rfl)
    intro c_s_x1 H locs hf hP hD hS ls hl
    refine lv_aload_n hx hb dX7_undo_59 rfl (lv_at hl 0 rfl) ?_
    refine va_get (D := G.1) (cl := CL) (ci := 7) (C := RX7) (T := TX7) (N := 19) hx hb hts iX7_undo_7 hown hK hP 0 rfl rfl 4 (by decide) (hts (.fieldLink RX7 114 "LoomCardsModel" "undos" "I") (List.mem_of_getElem? (i := 2) rfl)) (fun _ h9 => h9) rfl dX7_undo_60 ?_
    obtain rfl := Option.some.inj hf
    exact kr _ _ _ _ hP hD hS dX7_undo_63
  · have hf := c_t hf c9
    refine lv_bipush (v := (-2 : Int32)) hx hb dX7_undo_12 (by decide) ?_
    obtain rfl := Option.some.inj hf
    exact kr _ _ _ _ hP hD hS dX7_undo_14
end SX7_undo
set_option maxHeartbeats 4000000 in
set_option maxRecDepth 100000 in
theorem tX7_undo (l : Launch) (G : GG) (h_this : Nat) (h_s : Nat) (h_draft : Nat) (h_past : Nat) (h_kept : Nat) (h_isKept : Nat) (h_facts : Nat) (h_text : Nat) (c_thrown : Int32) (c_undos : Int32) (c_manyFacts : Int32) (c_typed : Int32) (c_from : Int32) (c_to : Int32) (c_token : Int32) (c_fault : Int32) (c_hasHooks : Int32) (c_hasTies : Int32) (c_low : Int32) (c_high : Int32) (c_s : Nat → Int32) (c_past : Nat → Int32) (res : Int32 × Int32 × Int32 × (Nat → Int32)) (hf : fX7_undo c_thrown c_undos c_s c_past = some res) : MWi l yX7_undo wsX7_undo rmX7_undo G [.ref h_this] [(h_this, .inr (7, [.int c_thrown, .ref h_s, .ref h_draft, .ref h_past, .int c_undos, .ref h_kept, .ref h_isKept, .ref h_facts, .int c_manyFacts, .ref h_text, .int c_typed, .int c_from, .int c_to, .int c_token, .int c_fault, .int c_hasHooks, .int c_hasTies, .int c_low, .int c_high])), (h_s, .inl (G.2 0, 24, .inl c_s)), (h_past, .inl (G.2 0, 144, .inl c_past))] (res.1) [(h_this, .inr (7, [.int (res.2.1), .ref h_s, .ref h_draft, .ref h_past, .int (res.2.2.1), .ref h_kept, .ref h_isKept, .ref h_facts, .int c_manyFacts, .ref h_text, .int c_typed, .int c_from, .int c_to, .int c_token, .int c_fault, .int c_hasHooks, .int c_hasTies, .int c_low, .int c_high])), (h_s, .inl (G.2 0, 24, .inl (res.2.2.2))), (h_past, .inl (G.2 0, 144, .inl c_past))] := MWi.of (plainFor_of_name (by decide +kernel)) rfl (Nat.le_of_ble_eq_true rfl) (fun p e s m below meth c A C hA hP hD hS ls hl => kX7_undo h_this h_s h_draft h_past h_kept h_isKept h_facts h_text c_thrown c_undos c_manyFacts c_typed c_from c_to c_token c_fault c_hasHooks c_hasTies c_low c_high c_s c_past C hA hP hD hS (fun pc ls H locs hP hD hS d => rWi C hP hD hS d) hf hl)
def fX7_across_L7 (k53 : Int32 → Option (Int32)) (c_s : Nat → Int32) (v1 : Int32) : Nat → Int32 → Int32 → Int32 → Option (Int32)
  | 0, _, _, _ => none
  | n + 1, v2, v3, v4 => if (c_s 1) ≤ v4 then k53 v2 else (fX7_isUp c_s v1 v4).bind (fun u1 => jn (fun (j35_0 : Int32) => jn (fun (j46_0 : Int32) => fX7_across_L7 k53 c_s v1 n j46_0 j35_0 (v4 + (1 : Int32))) (fun J46 => if j35_0 ≤ v2 then J46 v2 else J46 j35_0)) (fun J35 => if u1 = 0 then J35 (v3 + (1 : Int32)) else J35 (0 : Int32)))
def fX7_across (c_s : Nat → Int32) (v1 : Int32) : Option (Int32) := (fX7_across_L7 (fun (v2_x2 : Int32) => some (v2_x2)) c_s v1 FU (0 : Int32) (0 : Int32) (0 : Int32))
theorem iX7_across_7 : ∀ w ∈ wsX70, w ∈ wsX7_across := fun w h => List.mem_cons_of_mem _ (List.mem_append_right _ (h))
theorem hdX7_across : yX7_across.cls = RX7 ∧ yX7_across.cls ≠ "java/lang/invoke/MethodHandle" ∧ yX7_across.cls ≠ "java/lang/invoke/VarHandle" ∧ (parseMethodDescriptor yX7_across.desc).map (fun d => d.parameters.length) = some 1 := by decide +kernel
abbrev rmX7_across : Room := { frames := 1, cells := 0, slots := 0, locals := 22 }
section SX7_across
variable {p : Program} {l : Launch} {e : Env} {s : State} {m : MethodId} {args : Array Value} {below : List Frame} {meth : Method} {c : Code} {Q : State → Prop} {G : GG}
set_option maxHeartbeats 4000000 in
set_option maxRecDepth 100000 in
theorem kX7_across_L7 (h_this : Nat) (h_s : Nat) (h_draft : Nat) (h_past : Nat) (h_kept : Nat) (h_isKept : Nat) (h_facts : Nat) (h_text : Nat) (c_thrown : Int32) (c_undos : Int32) (c_manyFacts : Int32) (c_typed : Int32) (c_from : Int32) (c_to : Int32) (c_token : Int32) (c_fault : Int32) (c_hasHooks : Int32) (c_hasTies : Int32) (c_low : Int32) (c_high : Int32) (c_s : Nat → Int32) (v1 : Int32) (C : Cx cX7_across (some .int) 5 RX7 wsX7_across G p s m args meth c) (hP : va_P G.1 CL [(h_this, .inr (7, [.int c_thrown, .ref h_s, .ref h_draft, .ref h_past, .int c_undos, .ref h_kept, .ref h_isKept, .ref h_facts, .int c_manyFacts, .ref h_text, .int c_typed, .int c_from, .int c_to, .int c_token, .int c_fault, .int c_hasHooks, .int c_hasTies, .int c_low, .int c_high])), (h_s, .inl (G.2 0, 24, .inl c_s))] s.heap) {res : Int32} (kr : ∀ (pc : Nat) (ls : Array Slot), decode cX7_across pc = .ok (.ireturn, 1) → W p l e rmX7_across s m args below meth c s.heap [] 0 0 Q (F0 m pc ls [.int res])) {k53 : Int32 → Option (Int32)} (hk53 : ∀ (v2 : Int32) , k53 v2 = some res → ∀ (ls : Array Slot), lv_has ls 5 [(2, .int v2)] → W p l e rmX7_across s m args below meth c s.heap [] 0 0 Q (F0 m 53 ls [])) : ∀ (n : Nat) (v2 : Int32) (v3 : Int32) (v4 : Int32), fX7_across_L7 k53 c_s v1 n v2 v3 v4 = some res → ∀ (ls : Array Slot), lv_has ls 5 [(0, .ref h_this), (1, .int v1), (2, .int v2), (3, .int v3), (4, .int v4)] → W p l e rmX7_across s m args below meth c s.heap [] 0 0 Q (F0 m 7 ls []) := by
  obtain ⟨hx, hb, hr, hlk, hml, hown, hts, hK⟩ := id C
  intro n
  induction n with
  | zero =>
    intro v2 v3 v4 hf
    cases hf
  | succ n ih =>
    intro v2 v3 v4 hf ls hl
    rw [fX7_across_L7] at hf
    refine lv_iload hx hb dX7_across_7 (lv_at hl 4 rfl) ?_
    refine lv_aload_n hx hb dX7_across_9 rfl (lv_at hl 0 rfl) ?_
    refine va_get (D := G.1) (cl := CL) (ci := 7) (C := RX7) (T := TX7) (N := 19) hx hb hts iX7_across_7 hown hK hP 0 rfl rfl 1 (by decide) (hts (.fieldLink RX7 7 "LoomCardsModel" "s" "[I") (List.mem_of_getElem? (i := 1) rfl)) (fun _ h9 => h9) rfl dX7_across_10 ?_
    refine lv_iconst (v := (1 : Int32)) hx hb dX7_across_13 (by decide) ?_
    refine r_iald (j := 1) hx hb hK hP 1 rfl (ix_in (n := 24) (by decide)) (by decide) dX7_across_14 ?_
    refine lv_icmp_ge (tgt := 53) hx hb dX7_across_15 (by decide) (fun c9 => ?_) (fun c9 => ?_)
    · have hf := c_t hf c9
      exact hk53 v2 hf _ (lv_sub hl [2] rfl)
    · have hf := c_f hf c9
      refine lv_aload_n hx hb dX7_across_18 rfl (lv_at hl 0 rfl) ?_
      refine lv_iload_n hx hb dX7_across_19 rfl (lv_at hl 1 rfl) ?_
      refine lv_iload hx hb dX7_across_20 (lv_at hl 4 rfl) ?_
      refine r_bind hf (fun u1 hu1 hf => ?_)
      refine cRiV (ci := 7) (rest := []) ⟨hx, hb, hml, hown, hts⟩ hK (tX7_isUp l G h_this h_s h_draft h_past h_kept h_isKept h_facts h_text c_thrown c_undos c_manyFacts c_typed c_from c_to c_token c_fault c_hasHooks c_hasTies c_low c_high c_s v1 v4 u1 hu1) gX7_across_X7_isUp rfl hdX7_isUp rfl rfl rfl ⟨Nat.le_of_ble_eq_true rfl, Nat.le_of_ble_eq_true rfl⟩ hP [0, 1] rfl 0 rfl rfl rfl hl.1 (Nat.le_of_ble_eq_true rfl) rfl dX7_across_22 ⟨Nat.zero_le _, Nat.zero_le _⟩ ?_
      refine r_jn1 hf (fun J35 eJ35 hf => ?_)
      have hJ35 : ∀ (j35_0 : Int32) , J35 j35_0 = some res → ∀ (ls : Array Slot), lv_has ls 5 [(0, .ref h_this), (1, .int v1), (2, .int v2), (4, .int v4)] → W p l e rmX7_across s m args below meth c s.heap [] 0 0 Q (F0 m 35 ls [.int j35_0]) := by
        intro j35_0 hf ls hl
        rw [eJ35] at hf
        refine lv_istore_n (lv' := [(3, .int j35_0), (0, .ref h_this), (1, .int v1), (2, .int v2), (4, .int v4)]) hx hb dX7_across_35 rfl hl (by decide) rfl (fun ls hl => ?_)
        refine lv_iload_n hx hb dX7_across_36 rfl (lv_at hl 0 rfl) ?_
        refine lv_iload_n hx hb dX7_across_37 rfl (lv_at hl 3 rfl) ?_
        refine r_jn1 hf (fun J46 eJ46 hf => ?_)
        have hJ46 : ∀ (j46_0 : Int32) , J46 j46_0 = some res → ∀ (ls : Array Slot), lv_has ls 5 [(0, .ref h_this), (1, .int v1), (3, .int j35_0), (4, .int v4)] → W p l e rmX7_across s m args below meth c s.heap [] 0 0 Q (F0 m 46 ls [.int j46_0]) := by
          intro j46_0 hf ls hl
          rw [eJ46] at hf
          refine lv_istore_n (lv' := [(2, .int j46_0), (0, .ref h_this), (1, .int v1), (3, .int j35_0), (4, .int v4)]) hx hb dX7_across_46 rfl hl (by decide) rfl (fun ls hl => ?_)
          refine lv_iinc (v := (v4 + (1 : Int32))) (lv' := [(4, .int (v4 + (1 : Int32))), (2, .int j46_0), (0, .ref h_this), (1, .int v1), (3, .int j35_0)]) hx hb dX7_across_47 hl (k := 4) rfl rfl (by decide) rfl (fun ls hl => ?_)
          refine lv_goto (tgt := 7) hx hb dX7_across_50 (by decide) ?_
          exact ih j46_0 j35_0 (v4 + (1 : Int32)) hf _ (lv_sub hl [2, 3, 1, 4, 0] rfl)
        refine lv_icmp_le (tgt := 45) hx hb dX7_across_38 (by decide) (fun c9 => ?_) (fun c9 => ?_)
        · have hf := c_t hf c9
          refine lv_iload_n hx hb dX7_across_45 rfl (lv_at hl 3 rfl) ?_
          exact hJ46 v2 hf _ (lv_sub hl [1, 2, 0, 4] rfl)
        · have hf := c_f hf c9
          refine lv_iload_n hx hb dX7_across_41 rfl (lv_at hl 0 rfl) ?_
          refine lv_goto (tgt := 46) hx hb dX7_across_42 (by decide) ?_
          exact hJ46 j35_0 hf _ (lv_sub hl [1, 2, 0, 4] rfl)
      refine lv_if_eq (tgt := 32) hx hb dX7_across_25 (by decide) (fun c9 => ?_) (fun c9 => ?_)
      · have hf := c_t hf c9
        refine lv_iload_n hx hb dX7_across_32 rfl (lv_at hl 3 rfl) ?_
        refine lv_iconst (v := (1 : Int32)) hx hb dX7_across_33 (by decide) ?_
        refine lv_iadd hx hb dX7_across_34 ?_
        exact hJ35 (v3 + (1 : Int32)) hf _ (lv_sub hl [0, 1, 2, 4] rfl)
      · have hf := c_f hf c9
        refine lv_iconst (v := (0 : Int32)) hx hb dX7_across_28 (by decide) ?_
        refine lv_goto (tgt := 35) hx hb dX7_across_29 (by decide) ?_
        exact hJ35 (0 : Int32) hf _ (lv_sub hl [0, 1, 2, 4] rfl)
set_option maxHeartbeats 4000000 in
set_option maxRecDepth 100000 in
theorem kX7_across (h_this : Nat) (h_s : Nat) (h_draft : Nat) (h_past : Nat) (h_kept : Nat) (h_isKept : Nat) (h_facts : Nat) (h_text : Nat) (c_thrown : Int32) (c_undos : Int32) (c_manyFacts : Int32) (c_typed : Int32) (c_from : Int32) (c_to : Int32) (c_token : Int32) (c_fault : Int32) (c_hasHooks : Int32) (c_hasTies : Int32) (c_low : Int32) (c_high : Int32) (c_s : Nat → Int32) (v1 : Int32) (C : Cx cX7_across (some .int) 5 RX7 wsX7_across G p s m args meth c) (hP : va_P G.1 CL [(h_this, .inr (7, [.int c_thrown, .ref h_s, .ref h_draft, .ref h_past, .int c_undos, .ref h_kept, .ref h_isKept, .ref h_facts, .int c_manyFacts, .ref h_text, .int c_typed, .int c_from, .int c_to, .int c_token, .int c_fault, .int c_hasHooks, .int c_hasTies, .int c_low, .int c_high])), (h_s, .inl (G.2 0, 24, .inl c_s))] s.heap) {res : Int32} (kr : ∀ (pc : Nat) (ls : Array Slot), decode cX7_across pc = .ok (.ireturn, 1) → W p l e rmX7_across s m args below meth c s.heap [] 0 0 Q (F0 m pc ls [.int res])) (hf : fX7_across c_s v1 = some res) {ls : Array Slot} (hl : lv_has ls 5 [(0, .ref h_this), (1, .int v1)]) : W p l e rmX7_across s m args below meth c s.heap [] 0 0 Q (F0 m 0 ls []) := by
  obtain ⟨hx, hb, hr, hlk, hml, hown, hts, hK⟩ := id C
  rw [fX7_across] at hf
  refine lv_iconst (v := (0 : Int32)) hx hb dX7_across_0 (by decide) ?_
  refine lv_istore_n (lv' := [(2, .int (0 : Int32)), (0, .ref h_this), (1, .int v1)]) hx hb dX7_across_1 rfl hl (by decide) rfl (fun ls hl => ?_)
  refine lv_iconst (v := (0 : Int32)) hx hb dX7_across_2 (by decide) ?_
  refine lv_istore_n (lv' := [(3, .int (0 : Int32)), (2, .int (0 : Int32)), (0, .ref h_this), (1, .int v1)]) hx hb dX7_across_3 rfl hl (by decide) rfl (fun ls hl => ?_)
  refine lv_iconst (v := (0 : Int32)) hx hb dX7_across_4 (by decide) ?_
  refine lv_istore (lv' := [(4, .int (0 : Int32)), (3, .int (0 : Int32)), (2, .int (0 : Int32)), (0, .ref h_this), (1, .int v1)]) hx hb dX7_across_5 hl (by decide) rfl (fun ls hl => ?_)
  refine kX7_across_L7 h_this h_s h_draft h_past h_kept h_isKept h_facts h_text c_thrown c_undos c_manyFacts c_typed c_from c_to c_token c_fault c_hasHooks c_hasTies c_low c_high c_s v1 C hP kr ?_ FU (0 : Int32) (0 : Int32) (0 : Int32) hf _ (lv_sub hl [3, 4, 2, 1, 0] rfl)
  intro v2_x2 hf ls hl
  refine lv_iload_n hx hb dX7_across_53 rfl (lv_at hl 0 rfl) ?_
  obtain rfl := Option.some.inj hf
  exact kr _ _ dX7_across_54
end SX7_across
set_option maxHeartbeats 4000000 in
set_option maxRecDepth 100000 in
theorem tX7_across (l : Launch) (G : GG) (h_this : Nat) (h_s : Nat) (h_draft : Nat) (h_past : Nat) (h_kept : Nat) (h_isKept : Nat) (h_facts : Nat) (h_text : Nat) (c_thrown : Int32) (c_undos : Int32) (c_manyFacts : Int32) (c_typed : Int32) (c_from : Int32) (c_to : Int32) (c_token : Int32) (c_fault : Int32) (c_hasHooks : Int32) (c_hasTies : Int32) (c_low : Int32) (c_high : Int32) (c_s : Nat → Int32) (v1 : Int32) (res : Int32) (hf : fX7_across c_s v1 = some res) : MRi l yX7_across wsX7_across rmX7_across G [.ref h_this, .int v1] [(h_this, .inr (7, [.int c_thrown, .ref h_s, .ref h_draft, .ref h_past, .int c_undos, .ref h_kept, .ref h_isKept, .ref h_facts, .int c_manyFacts, .ref h_text, .int c_typed, .int c_from, .int c_to, .int c_token, .int c_fault, .int c_hasHooks, .int c_hasTies, .int c_low, .int c_high])), (h_s, .inl (G.2 0, 24, .inl c_s))] (res) := MRi.of (plainFor_of_name (by decide +kernel)) rfl (Nat.le_of_ble_eq_true rfl) (fun p e s m below meth c C hP ls hl => kX7_across h_this h_s h_draft h_past h_kept h_isKept h_facts h_text c_thrown c_undos c_manyFacts c_typed c_from c_to c_token c_fault c_hasHooks c_hasTies c_low c_high c_s v1 C hP (fun pc ls d => rRi C d) hf hl)
def fX7_along_L7 (k69 : Int32 → Option (Int32)) (c_s : Nat → Int32) (v1 : Int32) : Nat → Int32 → Int32 → Int32 → Option (Int32)
  | 0, _, _, _ => none
  | n + 1, v2, v3, v4 => if ((2 : Int32) * (c_s 2)) ≤ v4 then k69 v2 else jn (fun (j51_0 : Int32) => jn (fun (j62_0 : Int32) => fX7_along_L7 k69 c_s v1 n j62_0 j51_0 (v4 + (1 : Int32))) (fun J62 => if j51_0 ≤ v2 then J62 v2 else J62 j51_0)) (fun J51 => jn (J51 (1 : Int32)) (fun J50 => if v4 ≤ 0 then J50 else (fX7_isUp c_s v4 v1).bind (fun u1 => (fX7_isUp c_s (v4 - (1 : Int32)) v1).bind (fun u2 => if u1 = u2 then J51 (v3 + (1 : Int32)) else J50))))
def fX7_along (c_s : Nat → Int32) (v1 : Int32) : Option (Int32) := (fX7_along_L7 (fun (v2_x3 : Int32) => if v2_x3 = ((2 : Int32) * (c_s 2)) then some ((99 : Int32)) else some (v2_x3)) c_s v1 FU (0 : Int32) (0 : Int32) (0 : Int32))
theorem iX7_along_7 : ∀ w ∈ wsX70, w ∈ wsX7_along := fun w h => List.mem_cons_of_mem _ (List.mem_append_right _ (h))
theorem hdX7_along : yX7_along.cls = RX7 ∧ yX7_along.cls ≠ "java/lang/invoke/MethodHandle" ∧ yX7_along.cls ≠ "java/lang/invoke/VarHandle" ∧ (parseMethodDescriptor yX7_along.desc).map (fun d => d.parameters.length) = some 1 := by decide +kernel
abbrev rmX7_along : Room := { frames := 1, cells := 0, slots := 0, locals := 22 }
section SX7_along
variable {p : Program} {l : Launch} {e : Env} {s : State} {m : MethodId} {args : Array Value} {below : List Frame} {meth : Method} {c : Code} {Q : State → Prop} {G : GG}
set_option maxHeartbeats 4000000 in
set_option maxRecDepth 100000 in
theorem kX7_along_L7 (h_this : Nat) (h_s : Nat) (h_draft : Nat) (h_past : Nat) (h_kept : Nat) (h_isKept : Nat) (h_facts : Nat) (h_text : Nat) (c_thrown : Int32) (c_undos : Int32) (c_manyFacts : Int32) (c_typed : Int32) (c_from : Int32) (c_to : Int32) (c_token : Int32) (c_fault : Int32) (c_hasHooks : Int32) (c_hasTies : Int32) (c_low : Int32) (c_high : Int32) (c_s : Nat → Int32) (v1 : Int32) (C : Cx cX7_along (some .int) 5 RX7 wsX7_along G p s m args meth c) (hP : va_P G.1 CL [(h_this, .inr (7, [.int c_thrown, .ref h_s, .ref h_draft, .ref h_past, .int c_undos, .ref h_kept, .ref h_isKept, .ref h_facts, .int c_manyFacts, .ref h_text, .int c_typed, .int c_from, .int c_to, .int c_token, .int c_fault, .int c_hasHooks, .int c_hasTies, .int c_low, .int c_high])), (h_s, .inl (G.2 0, 24, .inl c_s))] s.heap) {res : Int32} (kr : ∀ (pc : Nat) (ls : Array Slot), decode cX7_along pc = .ok (.ireturn, 1) → W p l e rmX7_along s m args below meth c s.heap [] 0 0 Q (F0 m pc ls [.int res])) {k69 : Int32 → Option (Int32)} (hk69 : ∀ (v2 : Int32) , k69 v2 = some res → ∀ (ls : Array Slot), lv_has ls 5 [(0, .ref h_this), (2, .int v2)] → W p l e rmX7_along s m args below meth c s.heap [] 0 0 Q (F0 m 69 ls [])) : ∀ (n : Nat) (v2 : Int32) (v3 : Int32) (v4 : Int32), fX7_along_L7 k69 c_s v1 n v2 v3 v4 = some res → ∀ (ls : Array Slot), lv_has ls 5 [(0, .ref h_this), (1, .int v1), (2, .int v2), (3, .int v3), (4, .int v4)] → W p l e rmX7_along s m args below meth c s.heap [] 0 0 Q (F0 m 7 ls []) := by
  obtain ⟨hx, hb, hr, hlk, hml, hown, hts, hK⟩ := id C
  intro n
  induction n with
  | zero =>
    intro v2 v3 v4 hf
    cases hf
  | succ n ih =>
    intro v2 v3 v4 hf ls hl
    rw [fX7_along_L7] at hf
    refine lv_iload hx hb dX7_along_7 (lv_at hl 4 rfl) ?_
    refine lv_iconst (v := (2 : Int32)) hx hb dX7_along_9 (by decide) ?_
    refine lv_aload_n hx hb dX7_along_10 rfl (lv_at hl 0 rfl) ?_
    refine va_get (D := G.1) (cl := CL) (ci := 7) (C := RX7) (T := TX7) (N := 19) hx hb hts iX7_along_7 hown hK hP 0 rfl rfl 1 (by decide) (hts (.fieldLink RX7 7 "LoomCardsModel" "s" "[I") (List.mem_of_getElem? (i := 1) rfl)) (fun _ h9 => h9) rfl dX7_along_11 ?_
    refine lv_iconst (v := (2 : Int32)) hx hb dX7_along_14 (by decide) ?_
    refine r_iald (j := 2) hx hb hK hP 1 rfl (ix_in (n := 24) (by decide)) (by decide) dX7_along_15 ?_
    refine lv_imul hx hb dX7_along_16 ?_
    refine lv_icmp_ge (tgt := 69) hx hb dX7_along_17 (by decide) (fun c9 => ?_) (fun c9 => ?_)
    · have hf := c_t hf c9
      exact hk69 v2 hf _ (lv_sub hl [0, 2] rfl)
    · have hf := c_f hf c9
      refine lv_iload hx hb dX7_along_20 (lv_at hl 4 rfl) ?_
      refine r_jn1 hf (fun J51 eJ51 hf => ?_)
      have hJ51 : ∀ (j51_0 : Int32) , J51 j51_0 = some res → ∀ (ls : Array Slot), lv_has ls 5 [(0, .ref h_this), (1, .int v1), (2, .int v2), (4, .int v4)] → W p l e rmX7_along s m args below meth c s.heap [] 0 0 Q (F0 m 51 ls [.int j51_0]) := by
        intro j51_0 hf ls hl
        rw [eJ51] at hf
        refine lv_istore_n (lv' := [(3, .int j51_0), (0, .ref h_this), (1, .int v1), (2, .int v2), (4, .int v4)]) hx hb dX7_along_51 rfl hl (by decide) rfl (fun ls hl => ?_)
        refine lv_iload_n hx hb dX7_along_52 rfl (lv_at hl 0 rfl) ?_
        refine lv_iload_n hx hb dX7_along_53 rfl (lv_at hl 3 rfl) ?_
        refine r_jn1 hf (fun J62 eJ62 hf => ?_)
        have hJ62 : ∀ (j62_0 : Int32) , J62 j62_0 = some res → ∀ (ls : Array Slot), lv_has ls 5 [(0, .ref h_this), (1, .int v1), (3, .int j51_0), (4, .int v4)] → W p l e rmX7_along s m args below meth c s.heap [] 0 0 Q (F0 m 62 ls [.int j62_0]) := by
          intro j62_0 hf ls hl
          rw [eJ62] at hf
          refine lv_istore_n (lv' := [(2, .int j62_0), (0, .ref h_this), (1, .int v1), (3, .int j51_0), (4, .int v4)]) hx hb dX7_along_62 rfl hl (by decide) rfl (fun ls hl => ?_)
          refine lv_iinc (v := (v4 + (1 : Int32))) (lv' := [(4, .int (v4 + (1 : Int32))), (2, .int j62_0), (0, .ref h_this), (1, .int v1), (3, .int j51_0)]) hx hb dX7_along_63 hl (k := 4) rfl rfl (by decide) rfl (fun ls hl => ?_)
          refine lv_goto (tgt := 7) hx hb dX7_along_66 (by decide) ?_
          exact ih j62_0 j51_0 (v4 + (1 : Int32)) hf _ (lv_sub hl [2, 3, 1, 4, 0] rfl)
        refine lv_icmp_le (tgt := 61) hx hb dX7_along_54 (by decide) (fun c9 => ?_) (fun c9 => ?_)
        · have hf := c_t hf c9
          refine lv_iload_n hx hb dX7_along_61 rfl (lv_at hl 3 rfl) ?_
          exact hJ62 v2 hf _ (lv_sub hl [1, 2, 0, 4] rfl)
        · have hf := c_f hf c9
          refine lv_iload_n hx hb dX7_along_57 rfl (lv_at hl 0 rfl) ?_
          refine lv_goto (tgt := 62) hx hb dX7_along_58 (by decide) ?_
          exact hJ62 j51_0 hf _ (lv_sub hl [1, 2, 0, 4] rfl)
      refine r_jn0 hf (fun J50 eJ50 hf => ?_)
      have hJ50 : J50 = some res → ∀ (ls : Array Slot), lv_has ls 5 [(0, .ref h_this), (1, .int v1), (2, .int v2), (4, .int v4)] → W p l e rmX7_along s m args below meth c s.heap [] 0 0 Q (F0 m 50 ls []) := by
        intro hf ls hl
        rw [eJ50] at hf
        refine lv_iconst (v := (1 : Int32)) hx hb dX7_along_50 (by decide) ?_
        exact hJ51 (1 : Int32) hf _ (lv_sub hl [0, 1, 2, 3] rfl)
      refine lv_if_le (tgt := 50) hx hb dX7_along_22 (by decide) (fun c9 => ?_) (fun c9 => ?_)
      · have hf := c_t hf c9
        exact hJ50 hf _ (lv_sub hl [0, 1, 2, 4] rfl)
      · have hf := c_f hf c9
        refine lv_aload_n hx hb dX7_along_25 rfl (lv_at hl 0 rfl) ?_
        refine lv_iload hx hb dX7_along_26 (lv_at hl 4 rfl) ?_
        refine lv_iload_n hx hb dX7_along_28 rfl (lv_at hl 1 rfl) ?_
        refine r_bind hf (fun u1 hu1 hf => ?_)
        refine cRiV (ci := 7) (rest := []) ⟨hx, hb, hml, hown, hts⟩ hK (tX7_isUp l G h_this h_s h_draft h_past h_kept h_isKept h_facts h_text c_thrown c_undos c_manyFacts c_typed c_from c_to c_token c_fault c_hasHooks c_hasTies c_low c_high c_s v4 v1 u1 hu1) gX7_along_X7_isUp rfl hdX7_isUp rfl rfl rfl ⟨Nat.le_of_ble_eq_true rfl, Nat.le_of_ble_eq_true rfl⟩ hP [0, 1] rfl 0 rfl rfl rfl hl.1 (Nat.le_of_ble_eq_true rfl) rfl dX7_along_29 ⟨Nat.zero_le _, Nat.zero_le _⟩ ?_
        refine lv_aload_n hx hb dX7_along_32 rfl (lv_at hl 0 rfl) ?_
        refine lv_iload hx hb dX7_along_33 (lv_at hl 4 rfl) ?_
        refine lv_iconst (v := (1 : Int32)) hx hb dX7_along_35 (by decide) ?_
        refine lv_isub hx hb dX7_along_36 ?_
        refine lv_iload_n hx hb dX7_along_37 rfl (lv_at hl 1 rfl) ?_
        refine r_bind hf (fun u2 hu2 hf => ?_)
        refine cRiV (ci := 7) (rest := [.int u1]) ⟨hx, hb, hml, hown, hts⟩ hK (tX7_isUp l G h_this h_s h_draft h_past h_kept h_isKept h_facts h_text c_thrown c_undos c_manyFacts c_typed c_from c_to c_token c_fault c_hasHooks c_hasTies c_low c_high c_s (v4 - (1 : Int32)) v1 u2 hu2) gX7_along_X7_isUp rfl hdX7_isUp rfl rfl rfl ⟨Nat.le_of_ble_eq_true rfl, Nat.le_of_ble_eq_true rfl⟩ hP [0, 1] rfl 0 rfl rfl rfl hl.1 (Nat.le_of_ble_eq_true rfl) rfl dX7_along_38 ⟨Nat.zero_le _, Nat.zero_le _⟩ ?_
        refine lv_icmp_ne (tgt := 50) hx hb dX7_along_41 (by decide) (fun c9 => ?_) (fun c9 => ?_)
        · have hf := c_f hf c9
          exact hJ50 hf _ (lv_sub hl [0, 1, 2, 4] rfl)
        · have hf := c_t hf c9
          refine lv_iload_n hx hb dX7_along_44 rfl (lv_at hl 3 rfl) ?_
          refine lv_iconst (v := (1 : Int32)) hx hb dX7_along_45 (by decide) ?_
          refine lv_iadd hx hb dX7_along_46 ?_
          refine lv_goto (tgt := 51) hx hb dX7_along_47 (by decide) ?_
          exact hJ51 (v3 + (1 : Int32)) hf _ (lv_sub hl [0, 1, 2, 4] rfl)
set_option maxHeartbeats 4000000 in
set_option maxRecDepth 100000 in
theorem kX7_along (h_this : Nat) (h_s : Nat) (h_draft : Nat) (h_past : Nat) (h_kept : Nat) (h_isKept : Nat) (h_facts : Nat) (h_text : Nat) (c_thrown : Int32) (c_undos : Int32) (c_manyFacts : Int32) (c_typed : Int32) (c_from : Int32) (c_to : Int32) (c_token : Int32) (c_fault : Int32) (c_hasHooks : Int32) (c_hasTies : Int32) (c_low : Int32) (c_high : Int32) (c_s : Nat → Int32) (v1 : Int32) (C : Cx cX7_along (some .int) 5 RX7 wsX7_along G p s m args meth c) (hP : va_P G.1 CL [(h_this, .inr (7, [.int c_thrown, .ref h_s, .ref h_draft, .ref h_past, .int c_undos, .ref h_kept, .ref h_isKept, .ref h_facts, .int c_manyFacts, .ref h_text, .int c_typed, .int c_from, .int c_to, .int c_token, .int c_fault, .int c_hasHooks, .int c_hasTies, .int c_low, .int c_high])), (h_s, .inl (G.2 0, 24, .inl c_s))] s.heap) {res : Int32} (kr : ∀ (pc : Nat) (ls : Array Slot), decode cX7_along pc = .ok (.ireturn, 1) → W p l e rmX7_along s m args below meth c s.heap [] 0 0 Q (F0 m pc ls [.int res])) (hf : fX7_along c_s v1 = some res) {ls : Array Slot} (hl : lv_has ls 5 [(0, .ref h_this), (1, .int v1)]) : W p l e rmX7_along s m args below meth c s.heap [] 0 0 Q (F0 m 0 ls []) := by
  obtain ⟨hx, hb, hr, hlk, hml, hown, hts, hK⟩ := id C
  rw [fX7_along] at hf
  refine lv_iconst (v := (0 : Int32)) hx hb dX7_along_0 (by decide) ?_
  refine lv_istore_n (lv' := [(2, .int (0 : Int32)), (0, .ref h_this), (1, .int v1)]) hx hb dX7_along_1 rfl hl (by decide) rfl (fun ls hl => ?_)
  refine lv_iconst (v := (0 : Int32)) hx hb dX7_along_2 (by decide) ?_
  refine lv_istore_n (lv' := [(3, .int (0 : Int32)), (2, .int (0 : Int32)), (0, .ref h_this), (1, .int v1)]) hx hb dX7_along_3 rfl hl (by decide) rfl (fun ls hl => ?_)
  refine lv_iconst (v := (0 : Int32)) hx hb dX7_along_4 (by decide) ?_
  refine lv_istore (lv' := [(4, .int (0 : Int32)), (3, .int (0 : Int32)), (2, .int (0 : Int32)), (0, .ref h_this), (1, .int v1)]) hx hb dX7_along_5 hl (by decide) rfl (fun ls hl => ?_)
  refine kX7_along_L7 h_this h_s h_draft h_past h_kept h_isKept h_facts h_text c_thrown c_undos c_manyFacts c_typed c_from c_to c_token c_fault c_hasHooks c_hasTies c_low c_high c_s v1 C hP kr ?_ FU (0 : Int32) (0 : Int32) (0 : Int32) hf _ (lv_sub hl [3, 4, 2, 1, 0] rfl)
  intro v2_x3 hf ls hl
  refine lv_iload_n hx hb dX7_along_69 rfl (lv_at hl 1 rfl) ?_
  refine lv_iconst (v := (2 : Int32)) hx hb dX7_along_70 (by decide) ?_
  refine lv_aload_n hx hb dX7_along_71 rfl (lv_at hl 0 rfl) ?_
  refine va_get (D := G.1) (cl := CL) (ci := 7) (C := RX7) (T := TX7) (N := 19) hx hb hts iX7_along_7 hown hK hP 0 rfl rfl 1 (by decide) (hts (.fieldLink RX7 7 "LoomCardsModel" "s" "[I") (List.mem_of_getElem? (i := 1) rfl)) (fun _ h9 => h9) rfl dX7_along_72 ?_
  refine lv_iconst (v := (2 : Int32)) hx hb dX7_along_75 (by decide) ?_
  refine r_iald (j := 2) hx hb hK hP 1 rfl (ix_in (n := 24) (by decide)) (by decide) dX7_along_76 ?_
  refine lv_imul hx hb dX7_along_77 ?_
  refine lv_icmp_ne (tgt := 86) hx hb dX7_along_78 (by decide) (fun c9 => ?_) (fun c9 => ?_)
  · have hf := c_f hf c9
    refine lv_iload_n hx hb dX7_along_86 rfl (lv_at hl 1 rfl) ?_
    obtain rfl := Option.some.inj hf
    exact kr _ _ dX7_along_87
  · have hf := c_t hf c9
    refine lv_bipush (v := (99 : Int32)) hx hb dX7_along_81 (by decide) ?_
    refine lv_goto (tgt := 87) hx hb dX7_along_83 (by decide) ?_
    obtain rfl := Option.some.inj hf
    exact kr _ _ dX7_along_87
end SX7_along
set_option maxHeartbeats 4000000 in
set_option maxRecDepth 100000 in
theorem tX7_along (l : Launch) (G : GG) (h_this : Nat) (h_s : Nat) (h_draft : Nat) (h_past : Nat) (h_kept : Nat) (h_isKept : Nat) (h_facts : Nat) (h_text : Nat) (c_thrown : Int32) (c_undos : Int32) (c_manyFacts : Int32) (c_typed : Int32) (c_from : Int32) (c_to : Int32) (c_token : Int32) (c_fault : Int32) (c_hasHooks : Int32) (c_hasTies : Int32) (c_low : Int32) (c_high : Int32) (c_s : Nat → Int32) (v1 : Int32) (res : Int32) (hf : fX7_along c_s v1 = some res) : MRi l yX7_along wsX7_along rmX7_along G [.ref h_this, .int v1] [(h_this, .inr (7, [.int c_thrown, .ref h_s, .ref h_draft, .ref h_past, .int c_undos, .ref h_kept, .ref h_isKept, .ref h_facts, .int c_manyFacts, .ref h_text, .int c_typed, .int c_from, .int c_to, .int c_token, .int c_fault, .int c_hasHooks, .int c_hasTies, .int c_low, .int c_high])), (h_s, .inl (G.2 0, 24, .inl c_s))] (res) := MRi.of (plainFor_of_name (by decide +kernel)) rfl (Nat.le_of_ble_eq_true rfl) (fun p e s m below meth c C hP ls hl => kX7_along h_this h_s h_draft h_past h_kept h_isKept h_facts h_text c_thrown c_undos c_manyFacts c_typed c_from c_to c_token c_fault c_hasHooks c_hasTies c_low c_high c_s v1 C hP (fun pc ls d => rRi C d) hf hl)
def fX7_upIn_L4 (k39 : Int32 → Option (Int32)) (c_s : Nat → Int32) (v1 : Int32) : Nat → Int32 → Int32 → Option (Int32)
  | 0, _, _ => none
  | n + 1, v2, v3 => if (c_s 1) ≤ v3 then k39 v2 else (fX7_isUp c_s v1 v3).bind (fun u1 => jn (fun (j31_0 : Int32) (j31_1 : Int32) => fX7_upIn_L4 k39 c_s v1 n (j31_1 ||| j31_0) (v3 + (1 : Int32))) (fun J31 => if u1 = 0 then J31 (0 : Int32) v2 else J31 ((1 : Int32) <<< (v3 &&& 31)) v2))
def fX7_upIn (c_s : Nat → Int32) (v1 : Int32) : Option (Int32) := (fX7_upIn_L4 (fun (v2_x2 : Int32) => some (v2_x2)) c_s v1 FU (0 : Int32) (0 : Int32))
theorem iX7_upIn_7 : ∀ w ∈ wsX70, w ∈ wsX7_upIn := fun w h => List.mem_cons_of_mem _ (List.mem_append_right _ (h))
theorem hdX7_upIn : yX7_upIn.cls = RX7 ∧ yX7_upIn.cls ≠ "java/lang/invoke/MethodHandle" ∧ yX7_upIn.cls ≠ "java/lang/invoke/VarHandle" ∧ (parseMethodDescriptor yX7_upIn.desc).map (fun d => d.parameters.length) = some 1 := by decide +kernel
abbrev rmX7_upIn : Room := { frames := 1, cells := 0, slots := 0, locals := 22 }
section SX7_upIn
variable {p : Program} {l : Launch} {e : Env} {s : State} {m : MethodId} {args : Array Value} {below : List Frame} {meth : Method} {c : Code} {Q : State → Prop} {G : GG}
set_option maxHeartbeats 4000000 in
set_option maxRecDepth 100000 in
theorem kX7_upIn_L4 (h_this : Nat) (h_s : Nat) (h_draft : Nat) (h_past : Nat) (h_kept : Nat) (h_isKept : Nat) (h_facts : Nat) (h_text : Nat) (c_thrown : Int32) (c_undos : Int32) (c_manyFacts : Int32) (c_typed : Int32) (c_from : Int32) (c_to : Int32) (c_token : Int32) (c_fault : Int32) (c_hasHooks : Int32) (c_hasTies : Int32) (c_low : Int32) (c_high : Int32) (c_s : Nat → Int32) (v1 : Int32) (C : Cx cX7_upIn (some .int) 4 RX7 wsX7_upIn G p s m args meth c) (hP : va_P G.1 CL [(h_this, .inr (7, [.int c_thrown, .ref h_s, .ref h_draft, .ref h_past, .int c_undos, .ref h_kept, .ref h_isKept, .ref h_facts, .int c_manyFacts, .ref h_text, .int c_typed, .int c_from, .int c_to, .int c_token, .int c_fault, .int c_hasHooks, .int c_hasTies, .int c_low, .int c_high])), (h_s, .inl (G.2 0, 24, .inl c_s))] s.heap) {res : Int32} (kr : ∀ (pc : Nat) (ls : Array Slot), decode cX7_upIn pc = .ok (.ireturn, 1) → W p l e rmX7_upIn s m args below meth c s.heap [] 0 0 Q (F0 m pc ls [.int res])) {k39 : Int32 → Option (Int32)} (hk39 : ∀ (v2 : Int32) , k39 v2 = some res → ∀ (ls : Array Slot), lv_has ls 4 [(2, .int v2)] → W p l e rmX7_upIn s m args below meth c s.heap [] 0 0 Q (F0 m 39 ls [])) : ∀ (n : Nat) (v2 : Int32) (v3 : Int32), fX7_upIn_L4 k39 c_s v1 n v2 v3 = some res → ∀ (ls : Array Slot), lv_has ls 4 [(0, .ref h_this), (1, .int v1), (2, .int v2), (3, .int v3)] → W p l e rmX7_upIn s m args below meth c s.heap [] 0 0 Q (F0 m 4 ls []) := by
  obtain ⟨hx, hb, hr, hlk, hml, hown, hts, hK⟩ := id C
  intro n
  induction n with
  | zero =>
    intro v2 v3 hf
    cases hf
  | succ n ih =>
    intro v2 v3 hf ls hl
    rw [fX7_upIn_L4] at hf
    refine lv_iload_n hx hb dX7_upIn_4 rfl (lv_at hl 3 rfl) ?_
    refine lv_aload_n hx hb dX7_upIn_5 rfl (lv_at hl 0 rfl) ?_
    refine va_get (D := G.1) (cl := CL) (ci := 7) (C := RX7) (T := TX7) (N := 19) hx hb hts iX7_upIn_7 hown hK hP 0 rfl rfl 1 (by decide) (hts (.fieldLink RX7 7 "LoomCardsModel" "s" "[I") (List.mem_of_getElem? (i := 1) rfl)) (fun _ h9 => h9) rfl dX7_upIn_6 ?_
    refine lv_iconst (v := (1 : Int32)) hx hb dX7_upIn_9 (by decide) ?_
    refine r_iald (j := 1) hx hb hK hP 1 rfl (ix_in (n := 24) (by decide)) (by decide) dX7_upIn_10 ?_
    refine lv_icmp_ge (tgt := 39) hx hb dX7_upIn_11 (by decide) (fun c9 => ?_) (fun c9 => ?_)
    · have hf := c_t hf c9
      exact hk39 v2 hf _ (lv_sub hl [2] rfl)
    · have hf := c_f hf c9
      refine lv_iload_n hx hb dX7_upIn_14 rfl (lv_at hl 2 rfl) ?_
      refine lv_aload_n hx hb dX7_upIn_15 rfl (lv_at hl 0 rfl) ?_
      refine lv_iload_n hx hb dX7_upIn_16 rfl (lv_at hl 1 rfl) ?_
      refine lv_iload_n hx hb dX7_upIn_17 rfl (lv_at hl 3 rfl) ?_
      refine r_bind hf (fun u1 hu1 hf => ?_)
      refine cRiV (ci := 7) (rest := [.int v2]) ⟨hx, hb, hml, hown, hts⟩ hK (tX7_isUp l G h_this h_s h_draft h_past h_kept h_isKept h_facts h_text c_thrown c_undos c_manyFacts c_typed c_from c_to c_token c_fault c_hasHooks c_hasTies c_low c_high c_s v1 v3 u1 hu1) gX7_upIn_X7_isUp rfl hdX7_isUp rfl rfl rfl ⟨Nat.le_of_ble_eq_true rfl, Nat.le_of_ble_eq_true rfl⟩ hP [0, 1] rfl 0 rfl rfl rfl hl.1 (Nat.le_of_ble_eq_true rfl) rfl dX7_upIn_18 ⟨Nat.zero_le _, Nat.zero_le _⟩ ?_
      refine r_jn2 hf (fun J31 eJ31 hf => ?_)
      have hJ31 : ∀ (j31_0 : Int32) (j31_1 : Int32) , J31 j31_0 j31_1 = some res → ∀ (ls : Array Slot), lv_has ls 4 [(0, .ref h_this), (1, .int v1), (3, .int v3)] → W p l e rmX7_upIn s m args below meth c s.heap [] 0 0 Q (F0 m 31 ls [.int j31_0, .int j31_1]) := by
        intro j31_0 j31_1 hf ls hl
        rw [eJ31] at hf
        refine lv_ior hx hb dX7_upIn_31 ?_
        refine lv_istore_n (lv' := [(2, .int (j31_1 ||| j31_0)), (0, .ref h_this), (1, .int v1), (3, .int v3)]) hx hb dX7_upIn_32 rfl hl (by decide) rfl (fun ls hl => ?_)
        refine lv_iinc (v := (v3 + (1 : Int32))) (lv' := [(3, .int (v3 + (1 : Int32))), (2, .int (j31_1 ||| j31_0)), (0, .ref h_this), (1, .int v1)]) hx hb dX7_upIn_33 hl (k := 3) rfl rfl (by decide) rfl (fun ls hl => ?_)
        refine lv_goto (tgt := 4) hx hb dX7_upIn_36 (by decide) ?_
        exact ih (j31_1 ||| j31_0) (v3 + (1 : Int32)) hf _ (lv_sub hl [2, 3, 1, 0] rfl)
      refine lv_if_eq (tgt := 30) hx hb dX7_upIn_21 (by decide) (fun c9 => ?_) (fun c9 => ?_)
      · have hf := c_t hf c9
        refine lv_iconst (v := (0 : Int32)) hx hb dX7_upIn_30 (by decide) ?_
        exact hJ31 (0 : Int32) v2 hf _ (lv_sub hl [0, 1, 3] rfl)
      · have hf := c_f hf c9
        refine lv_iconst (v := (1 : Int32)) hx hb dX7_upIn_24 (by decide) ?_
        refine lv_iload_n hx hb dX7_upIn_25 rfl (lv_at hl 3 rfl) ?_
        refine lv_ishl hx hb dX7_upIn_26 ?_
        refine lv_goto (tgt := 31) hx hb dX7_upIn_27 (by decide) ?_
        exact hJ31 ((1 : Int32) <<< (v3 &&& 31)) v2 hf _ (lv_sub hl [0, 1, 3] rfl)
set_option maxHeartbeats 4000000 in
set_option maxRecDepth 100000 in
theorem kX7_upIn (h_this : Nat) (h_s : Nat) (h_draft : Nat) (h_past : Nat) (h_kept : Nat) (h_isKept : Nat) (h_facts : Nat) (h_text : Nat) (c_thrown : Int32) (c_undos : Int32) (c_manyFacts : Int32) (c_typed : Int32) (c_from : Int32) (c_to : Int32) (c_token : Int32) (c_fault : Int32) (c_hasHooks : Int32) (c_hasTies : Int32) (c_low : Int32) (c_high : Int32) (c_s : Nat → Int32) (v1 : Int32) (C : Cx cX7_upIn (some .int) 4 RX7 wsX7_upIn G p s m args meth c) (hP : va_P G.1 CL [(h_this, .inr (7, [.int c_thrown, .ref h_s, .ref h_draft, .ref h_past, .int c_undos, .ref h_kept, .ref h_isKept, .ref h_facts, .int c_manyFacts, .ref h_text, .int c_typed, .int c_from, .int c_to, .int c_token, .int c_fault, .int c_hasHooks, .int c_hasTies, .int c_low, .int c_high])), (h_s, .inl (G.2 0, 24, .inl c_s))] s.heap) {res : Int32} (kr : ∀ (pc : Nat) (ls : Array Slot), decode cX7_upIn pc = .ok (.ireturn, 1) → W p l e rmX7_upIn s m args below meth c s.heap [] 0 0 Q (F0 m pc ls [.int res])) (hf : fX7_upIn c_s v1 = some res) {ls : Array Slot} (hl : lv_has ls 4 [(0, .ref h_this), (1, .int v1)]) : W p l e rmX7_upIn s m args below meth c s.heap [] 0 0 Q (F0 m 0 ls []) := by
  obtain ⟨hx, hb, hr, hlk, hml, hown, hts, hK⟩ := id C
  rw [fX7_upIn] at hf
  refine lv_iconst (v := (0 : Int32)) hx hb dX7_upIn_0 (by decide) ?_
  refine lv_istore_n (lv' := [(2, .int (0 : Int32)), (0, .ref h_this), (1, .int v1)]) hx hb dX7_upIn_1 rfl hl (by decide) rfl (fun ls hl => ?_)
  refine lv_iconst (v := (0 : Int32)) hx hb dX7_upIn_2 (by decide) ?_
  refine lv_istore_n (lv' := [(3, .int (0 : Int32)), (2, .int (0 : Int32)), (0, .ref h_this), (1, .int v1)]) hx hb dX7_upIn_3 rfl hl (by decide) rfl (fun ls hl => ?_)
  refine kX7_upIn_L4 h_this h_s h_draft h_past h_kept h_isKept h_facts h_text c_thrown c_undos c_manyFacts c_typed c_from c_to c_token c_fault c_hasHooks c_hasTies c_low c_high c_s v1 C hP kr ?_ FU (0 : Int32) (0 : Int32) hf _ (lv_sub hl [2, 3, 1, 0] rfl)
  intro v2_x2 hf ls hl
  refine lv_iload_n hx hb dX7_upIn_39 rfl (lv_at hl 0 rfl) ?_
  obtain rfl := Option.some.inj hf
  exact kr _ _ dX7_upIn_40
end SX7_upIn
set_option maxHeartbeats 4000000 in
set_option maxRecDepth 100000 in
theorem tX7_upIn (l : Launch) (G : GG) (h_this : Nat) (h_s : Nat) (h_draft : Nat) (h_past : Nat) (h_kept : Nat) (h_isKept : Nat) (h_facts : Nat) (h_text : Nat) (c_thrown : Int32) (c_undos : Int32) (c_manyFacts : Int32) (c_typed : Int32) (c_from : Int32) (c_to : Int32) (c_token : Int32) (c_fault : Int32) (c_hasHooks : Int32) (c_hasTies : Int32) (c_low : Int32) (c_high : Int32) (c_s : Nat → Int32) (v1 : Int32) (res : Int32) (hf : fX7_upIn c_s v1 = some res) : MRi l yX7_upIn wsX7_upIn rmX7_upIn G [.ref h_this, .int v1] [(h_this, .inr (7, [.int c_thrown, .ref h_s, .ref h_draft, .ref h_past, .int c_undos, .ref h_kept, .ref h_isKept, .ref h_facts, .int c_manyFacts, .ref h_text, .int c_typed, .int c_from, .int c_to, .int c_token, .int c_fault, .int c_hasHooks, .int c_hasTies, .int c_low, .int c_high])), (h_s, .inl (G.2 0, 24, .inl c_s))] (res) := MRi.of (plainFor_of_name (by decide +kernel)) rfl (Nat.le_of_ble_eq_true rfl) (fun p e s m below meth c C hP ls hl => kX7_upIn h_this h_s h_draft h_past h_kept h_isKept h_facts h_text c_thrown c_undos c_manyFacts c_typed c_from c_to c_token c_fault c_hasHooks c_hasTies c_low c_high c_s v1 C hP (fun pc ls d => rRi C d) hf hl)
def fX7_rowsOf_L4 (k39 : Int32 → Option (Int32)) (c_s : Nat → Int32) (v1 : Int32) : Nat → Int32 → Int32 → Option (Int32)
  | 0, _, _ => none
  | n + 1, v2, v3 => if (c_s 2) ≤ v3 then k39 v2 else (fX7_isUp c_s v3 v1).bind (fun u1 => jn (fun (j31_0 : Int32) (j31_1 : Int32) => fX7_rowsOf_L4 k39 c_s v1 n (j31_1 ||| j31_0) (v3 + (1 : Int32))) (fun J31 => if u1 = 0 then J31 (0 : Int32) v2 else J31 ((1 : Int32) <<< (v3 &&& 31)) v2))
def fX7_rowsOf (c_s : Nat → Int32) (v1 : Int32) : Option (Int32) := (fX7_rowsOf_L4 (fun (v2_x2 : Int32) => some (v2_x2)) c_s v1 FU (0 : Int32) (0 : Int32))
theorem iX7_rowsOf_7 : ∀ w ∈ wsX70, w ∈ wsX7_rowsOf := fun w h => List.mem_cons_of_mem _ (List.mem_append_right _ (h))
theorem hdX7_rowsOf : yX7_rowsOf.cls = RX7 ∧ yX7_rowsOf.cls ≠ "java/lang/invoke/MethodHandle" ∧ yX7_rowsOf.cls ≠ "java/lang/invoke/VarHandle" ∧ (parseMethodDescriptor yX7_rowsOf.desc).map (fun d => d.parameters.length) = some 1 := by decide +kernel
abbrev rmX7_rowsOf : Room := { frames := 1, cells := 0, slots := 0, locals := 22 }
section SX7_rowsOf
variable {p : Program} {l : Launch} {e : Env} {s : State} {m : MethodId} {args : Array Value} {below : List Frame} {meth : Method} {c : Code} {Q : State → Prop} {G : GG}
set_option maxHeartbeats 4000000 in
set_option maxRecDepth 100000 in
theorem kX7_rowsOf_L4 (h_this : Nat) (h_s : Nat) (h_draft : Nat) (h_past : Nat) (h_kept : Nat) (h_isKept : Nat) (h_facts : Nat) (h_text : Nat) (c_thrown : Int32) (c_undos : Int32) (c_manyFacts : Int32) (c_typed : Int32) (c_from : Int32) (c_to : Int32) (c_token : Int32) (c_fault : Int32) (c_hasHooks : Int32) (c_hasTies : Int32) (c_low : Int32) (c_high : Int32) (c_s : Nat → Int32) (v1 : Int32) (C : Cx cX7_rowsOf (some .int) 4 RX7 wsX7_rowsOf G p s m args meth c) (hP : va_P G.1 CL [(h_this, .inr (7, [.int c_thrown, .ref h_s, .ref h_draft, .ref h_past, .int c_undos, .ref h_kept, .ref h_isKept, .ref h_facts, .int c_manyFacts, .ref h_text, .int c_typed, .int c_from, .int c_to, .int c_token, .int c_fault, .int c_hasHooks, .int c_hasTies, .int c_low, .int c_high])), (h_s, .inl (G.2 0, 24, .inl c_s))] s.heap) {res : Int32} (kr : ∀ (pc : Nat) (ls : Array Slot), decode cX7_rowsOf pc = .ok (.ireturn, 1) → W p l e rmX7_rowsOf s m args below meth c s.heap [] 0 0 Q (F0 m pc ls [.int res])) {k39 : Int32 → Option (Int32)} (hk39 : ∀ (v2 : Int32) , k39 v2 = some res → ∀ (ls : Array Slot), lv_has ls 4 [(2, .int v2)] → W p l e rmX7_rowsOf s m args below meth c s.heap [] 0 0 Q (F0 m 39 ls [])) : ∀ (n : Nat) (v2 : Int32) (v3 : Int32), fX7_rowsOf_L4 k39 c_s v1 n v2 v3 = some res → ∀ (ls : Array Slot), lv_has ls 4 [(0, .ref h_this), (1, .int v1), (2, .int v2), (3, .int v3)] → W p l e rmX7_rowsOf s m args below meth c s.heap [] 0 0 Q (F0 m 4 ls []) := by
  obtain ⟨hx, hb, hr, hlk, hml, hown, hts, hK⟩ := id C
  intro n
  induction n with
  | zero =>
    intro v2 v3 hf
    cases hf
  | succ n ih =>
    intro v2 v3 hf ls hl
    rw [fX7_rowsOf_L4] at hf
    refine lv_iload_n hx hb dX7_rowsOf_4 rfl (lv_at hl 3 rfl) ?_
    refine lv_aload_n hx hb dX7_rowsOf_5 rfl (lv_at hl 0 rfl) ?_
    refine va_get (D := G.1) (cl := CL) (ci := 7) (C := RX7) (T := TX7) (N := 19) hx hb hts iX7_rowsOf_7 hown hK hP 0 rfl rfl 1 (by decide) (hts (.fieldLink RX7 7 "LoomCardsModel" "s" "[I") (List.mem_of_getElem? (i := 1) rfl)) (fun _ h9 => h9) rfl dX7_rowsOf_6 ?_
    refine lv_iconst (v := (2 : Int32)) hx hb dX7_rowsOf_9 (by decide) ?_
    refine r_iald (j := 2) hx hb hK hP 1 rfl (ix_in (n := 24) (by decide)) (by decide) dX7_rowsOf_10 ?_
    refine lv_icmp_ge (tgt := 39) hx hb dX7_rowsOf_11 (by decide) (fun c9 => ?_) (fun c9 => ?_)
    · have hf := c_t hf c9
      exact hk39 v2 hf _ (lv_sub hl [2] rfl)
    · have hf := c_f hf c9
      refine lv_iload_n hx hb dX7_rowsOf_14 rfl (lv_at hl 2 rfl) ?_
      refine lv_aload_n hx hb dX7_rowsOf_15 rfl (lv_at hl 0 rfl) ?_
      refine lv_iload_n hx hb dX7_rowsOf_16 rfl (lv_at hl 3 rfl) ?_
      refine lv_iload_n hx hb dX7_rowsOf_17 rfl (lv_at hl 1 rfl) ?_
      refine r_bind hf (fun u1 hu1 hf => ?_)
      refine cRiV (ci := 7) (rest := [.int v2]) ⟨hx, hb, hml, hown, hts⟩ hK (tX7_isUp l G h_this h_s h_draft h_past h_kept h_isKept h_facts h_text c_thrown c_undos c_manyFacts c_typed c_from c_to c_token c_fault c_hasHooks c_hasTies c_low c_high c_s v3 v1 u1 hu1) gX7_rowsOf_X7_isUp rfl hdX7_isUp rfl rfl rfl ⟨Nat.le_of_ble_eq_true rfl, Nat.le_of_ble_eq_true rfl⟩ hP [0, 1] rfl 0 rfl rfl rfl hl.1 (Nat.le_of_ble_eq_true rfl) rfl dX7_rowsOf_18 ⟨Nat.zero_le _, Nat.zero_le _⟩ ?_
      refine r_jn2 hf (fun J31 eJ31 hf => ?_)
      have hJ31 : ∀ (j31_0 : Int32) (j31_1 : Int32) , J31 j31_0 j31_1 = some res → ∀ (ls : Array Slot), lv_has ls 4 [(0, .ref h_this), (1, .int v1), (3, .int v3)] → W p l e rmX7_rowsOf s m args below meth c s.heap [] 0 0 Q (F0 m 31 ls [.int j31_0, .int j31_1]) := by
        intro j31_0 j31_1 hf ls hl
        rw [eJ31] at hf
        refine lv_ior hx hb dX7_rowsOf_31 ?_
        refine lv_istore_n (lv' := [(2, .int (j31_1 ||| j31_0)), (0, .ref h_this), (1, .int v1), (3, .int v3)]) hx hb dX7_rowsOf_32 rfl hl (by decide) rfl (fun ls hl => ?_)
        refine lv_iinc (v := (v3 + (1 : Int32))) (lv' := [(3, .int (v3 + (1 : Int32))), (2, .int (j31_1 ||| j31_0)), (0, .ref h_this), (1, .int v1)]) hx hb dX7_rowsOf_33 hl (k := 3) rfl rfl (by decide) rfl (fun ls hl => ?_)
        refine lv_goto (tgt := 4) hx hb dX7_rowsOf_36 (by decide) ?_
        exact ih (j31_1 ||| j31_0) (v3 + (1 : Int32)) hf _ (lv_sub hl [2, 3, 1, 0] rfl)
      refine lv_if_eq (tgt := 30) hx hb dX7_rowsOf_21 (by decide) (fun c9 => ?_) (fun c9 => ?_)
      · have hf := c_t hf c9
        refine lv_iconst (v := (0 : Int32)) hx hb dX7_rowsOf_30 (by decide) ?_
        exact hJ31 (0 : Int32) v2 hf _ (lv_sub hl [0, 1, 3] rfl)
      · have hf := c_f hf c9
        refine lv_iconst (v := (1 : Int32)) hx hb dX7_rowsOf_24 (by decide) ?_
        refine lv_iload_n hx hb dX7_rowsOf_25 rfl (lv_at hl 3 rfl) ?_
        refine lv_ishl hx hb dX7_rowsOf_26 ?_
        refine lv_goto (tgt := 31) hx hb dX7_rowsOf_27 (by decide) ?_
        exact hJ31 ((1 : Int32) <<< (v3 &&& 31)) v2 hf _ (lv_sub hl [0, 1, 3] rfl)
set_option maxHeartbeats 4000000 in
set_option maxRecDepth 100000 in
theorem kX7_rowsOf (h_this : Nat) (h_s : Nat) (h_draft : Nat) (h_past : Nat) (h_kept : Nat) (h_isKept : Nat) (h_facts : Nat) (h_text : Nat) (c_thrown : Int32) (c_undos : Int32) (c_manyFacts : Int32) (c_typed : Int32) (c_from : Int32) (c_to : Int32) (c_token : Int32) (c_fault : Int32) (c_hasHooks : Int32) (c_hasTies : Int32) (c_low : Int32) (c_high : Int32) (c_s : Nat → Int32) (v1 : Int32) (C : Cx cX7_rowsOf (some .int) 4 RX7 wsX7_rowsOf G p s m args meth c) (hP : va_P G.1 CL [(h_this, .inr (7, [.int c_thrown, .ref h_s, .ref h_draft, .ref h_past, .int c_undos, .ref h_kept, .ref h_isKept, .ref h_facts, .int c_manyFacts, .ref h_text, .int c_typed, .int c_from, .int c_to, .int c_token, .int c_fault, .int c_hasHooks, .int c_hasTies, .int c_low, .int c_high])), (h_s, .inl (G.2 0, 24, .inl c_s))] s.heap) {res : Int32} (kr : ∀ (pc : Nat) (ls : Array Slot), decode cX7_rowsOf pc = .ok (.ireturn, 1) → W p l e rmX7_rowsOf s m args below meth c s.heap [] 0 0 Q (F0 m pc ls [.int res])) (hf : fX7_rowsOf c_s v1 = some res) {ls : Array Slot} (hl : lv_has ls 4 [(0, .ref h_this), (1, .int v1)]) : W p l e rmX7_rowsOf s m args below meth c s.heap [] 0 0 Q (F0 m 0 ls []) := by
  obtain ⟨hx, hb, hr, hlk, hml, hown, hts, hK⟩ := id C
  rw [fX7_rowsOf] at hf
  refine lv_iconst (v := (0 : Int32)) hx hb dX7_rowsOf_0 (by decide) ?_
  refine lv_istore_n (lv' := [(2, .int (0 : Int32)), (0, .ref h_this), (1, .int v1)]) hx hb dX7_rowsOf_1 rfl hl (by decide) rfl (fun ls hl => ?_)
  refine lv_iconst (v := (0 : Int32)) hx hb dX7_rowsOf_2 (by decide) ?_
  refine lv_istore_n (lv' := [(3, .int (0 : Int32)), (2, .int (0 : Int32)), (0, .ref h_this), (1, .int v1)]) hx hb dX7_rowsOf_3 rfl hl (by decide) rfl (fun ls hl => ?_)
  refine kX7_rowsOf_L4 h_this h_s h_draft h_past h_kept h_isKept h_facts h_text c_thrown c_undos c_manyFacts c_typed c_from c_to c_token c_fault c_hasHooks c_hasTies c_low c_high c_s v1 C hP kr ?_ FU (0 : Int32) (0 : Int32) hf _ (lv_sub hl [2, 3, 1, 0] rfl)
  intro v2_x2 hf ls hl
  refine lv_iload_n hx hb dX7_rowsOf_39 rfl (lv_at hl 0 rfl) ?_
  obtain rfl := Option.some.inj hf
  exact kr _ _ dX7_rowsOf_40
end SX7_rowsOf
set_option maxHeartbeats 4000000 in
set_option maxRecDepth 100000 in
theorem tX7_rowsOf (l : Launch) (G : GG) (h_this : Nat) (h_s : Nat) (h_draft : Nat) (h_past : Nat) (h_kept : Nat) (h_isKept : Nat) (h_facts : Nat) (h_text : Nat) (c_thrown : Int32) (c_undos : Int32) (c_manyFacts : Int32) (c_typed : Int32) (c_from : Int32) (c_to : Int32) (c_token : Int32) (c_fault : Int32) (c_hasHooks : Int32) (c_hasTies : Int32) (c_low : Int32) (c_high : Int32) (c_s : Nat → Int32) (v1 : Int32) (res : Int32) (hf : fX7_rowsOf c_s v1 = some res) : MRi l yX7_rowsOf wsX7_rowsOf rmX7_rowsOf G [.ref h_this, .int v1] [(h_this, .inr (7, [.int c_thrown, .ref h_s, .ref h_draft, .ref h_past, .int c_undos, .ref h_kept, .ref h_isKept, .ref h_facts, .int c_manyFacts, .ref h_text, .int c_typed, .int c_from, .int c_to, .int c_token, .int c_fault, .int c_hasHooks, .int c_hasTies, .int c_low, .int c_high])), (h_s, .inl (G.2 0, 24, .inl c_s))] (res) := MRi.of (plainFor_of_name (by decide +kernel)) rfl (Nat.le_of_ble_eq_true rfl) (fun p e s m below meth c C hP ls hl => kX7_rowsOf h_this h_s h_draft h_past h_kept h_isKept h_facts h_text c_thrown c_undos c_manyFacts c_typed c_from c_to c_token c_fault c_hasHooks c_hasTies c_low c_high c_s v1 C hP (fun pc ls d => rRi C d) hf hl)
def fX7_card (c_thrown : Int32) (c_s : Nat → Int32) (v1 : Int32) (v2 : Int32) : Option (Int32 × Int32) := (fX7_isCard c_s v1).bind (fun u1 => if u1 = 0 then some ((-1 : Int32), (0 : Int32)) else (fX7_in v2 (0 : Int32) (2 : Int32)).bind (fun u2 => if u2 = 0 then some ((-1 : Int32), (0 : Int32)) else if v2 = 0 then gd (ix ((16 : Int32) + v1) 24) (some ((c_s ((16 : Int32) + v1).toNatClampNeg), (0 : Int32))) else if v2 = (1 : Int32) then (fX7_upIn c_s v1).bind (fun u4 => some (u4, (0 : Int32))) else (fX7_across c_s v1).bind (fun u3 => some (u3, (0 : Int32)))))
theorem iX7_card_7 : ∀ w ∈ wsX70, w ∈ wsX7_card := fun w h => List.mem_cons_of_mem _ (List.mem_append_right _ (h))
theorem hdX7_card : yX7_card.cls = RX7 ∧ yX7_card.cls ≠ "java/lang/invoke/MethodHandle" ∧ yX7_card.cls ≠ "java/lang/invoke/VarHandle" ∧ (parseMethodDescriptor yX7_card.desc).map (fun d => d.parameters.length) = some 2 := by decide +kernel
abbrev rmX7_card : Room := { frames := 2, cells := 0, slots := 0, locals := 46 }
section SX7_card
variable {p : Program} {l : Launch} {e : Env} {s : State} {m : MethodId} {args : Array Value} {below : List Frame} {meth : Method} {c : Code} {Q : State → Prop} {G : GG} {A : Nat → Prop}
set_option maxHeartbeats 4000000 in
set_option maxRecDepth 100000 in
theorem kX7_card (h_this : Nat) (h_s : Nat) (h_draft : Nat) (h_past : Nat) (h_kept : Nat) (h_isKept : Nat) (h_facts : Nat) (h_text : Nat) (c_thrown : Int32) (c_undos : Int32) (c_manyFacts : Int32) (c_typed : Int32) (c_from : Int32) (c_to : Int32) (c_token : Int32) (c_fault : Int32) (c_hasHooks : Int32) (c_hasTies : Int32) (c_low : Int32) (c_high : Int32) (c_s : Nat → Int32) (v1 : Int32) (v2 : Int32) (C : Cx cX7_card (some .int) 3 RX7 wsX7_card G p s m args meth c) (hA : ∀ q : Nat, s.heap.size ≤ q → A q) (hP : va_P G.1 CL [(h_this, .inr (7, [.int c_thrown, .ref h_s, .ref h_draft, .ref h_past, .int c_undos, .ref h_kept, .ref h_isKept, .ref h_facts, .int c_manyFacts, .ref h_text, .int c_typed, .int c_from, .int c_to, .int c_token, .int c_fault, .int c_hasHooks, .int c_hasTies, .int c_low, .int c_high])), (h_s, .inl (G.2 0, 24, .inl c_s))] s.heap) (hD : va_D A [(h_this, .inr (7, [.int c_thrown, .ref h_s, .ref h_draft, .ref h_past, .int c_undos, .ref h_kept, .ref h_isKept, .ref h_facts, .int c_manyFacts, .ref h_text, .int c_typed, .int c_from, .int c_to, .int c_token, .int c_fault, .int c_hasHooks, .int c_hasTies, .int c_low, .int c_high])), (h_s, .inl (G.2 0, 24, .inl c_s))]) (hS : va_S A s.heap s.heap []) {res : Int32 × Int32} (kr : ∀ (pc : Nat) (ls : Array Slot) (H : Heap) (locs : List Loc), va_P G.1 CL [(h_this, .inr (7, [.int (res.2), .ref h_s, .ref h_draft, .ref h_past, .int c_undos, .ref h_kept, .ref h_isKept, .ref h_facts, .int c_manyFacts, .ref h_text, .int c_typed, .int c_from, .int c_to, .int c_token, .int c_fault, .int c_hasHooks, .int c_hasTies, .int c_low, .int c_high])), (h_s, .inl (G.2 0, 24, .inl c_s))] H → va_D A [(h_this, .inr (7, [.int (res.2), .ref h_s, .ref h_draft, .ref h_past, .int c_undos, .ref h_kept, .ref h_isKept, .ref h_facts, .int c_manyFacts, .ref h_text, .int c_typed, .int c_from, .int c_to, .int c_token, .int c_fault, .int c_hasHooks, .int c_hasTies, .int c_low, .int c_high])), (h_s, .inl (G.2 0, 24, .inl c_s))] → va_S A s.heap H locs → decode cX7_card pc = .ok (.ireturn, 1) → W p l e rmX7_card s m args below meth c H locs 0 0 Q (F0 m pc ls [.int res.1])) (hf : fX7_card c_thrown c_s v1 v2 = some res) {ls : Array Slot} (hl : lv_has ls 3 [(0, .ref h_this), (1, .int v1), (2, .int v2)]) : W p l e rmX7_card s m args below meth c s.heap [] 0 0 Q (F0 m 0 ls []) := by
  obtain ⟨hx, hb, hr, hlk, hml, hown, hts, hK⟩ := id C
  rw [fX7_card] at hf
  refine lv_aload_n hx hb dX7_card_0 rfl (lv_at hl 0 rfl) ?_
  refine lv_iconst (v := (0 : Int32)) hx hb dX7_card_1 (by decide) ?_
  refine va_put (D := G.1) (cl := CL) (ci := 7) (v := .int (0 : Int32)) (ty := .int) (C := RX7) (T := TX7) (N := 19) hx hb hts iX7_card_7 tyX7 tyX7_ok nmX7 hown hK hP hD hS 0 rfl rfl 0 (by decide) (hts (.fieldLink RX7 37 "LoomCardsModel" "thrown" "I") (List.mem_of_getElem? (i := 1) rfl)) (fun _ h9 => h9) rfl (tyX7_ok 0 (by decide)) rfl rfl (Nat.le_of_ble_eq_true rfl) dX7_card_2 (fun H locs hP hD hS => ?_)
  have hP : va_P G.1 CL [(h_this, .inr (7, [.int (0 : Int32), .ref h_s, .ref h_draft, .ref h_past, .int c_undos, .ref h_kept, .ref h_isKept, .ref h_facts, .int c_manyFacts, .ref h_text, .int c_typed, .int c_from, .int c_to, .int c_token, .int c_fault, .int c_hasHooks, .int c_hasTies, .int c_low, .int c_high])), (h_s, .inl (G.2 0, 24, .inl c_s))] H := hP
  have hD : va_D A [(h_this, .inr (7, [.int (0 : Int32), .ref h_s, .ref h_draft, .ref h_past, .int c_undos, .ref h_kept, .ref h_isKept, .ref h_facts, .int c_manyFacts, .ref h_text, .int c_typed, .int c_from, .int c_to, .int c_token, .int c_fault, .int c_hasHooks, .int c_hasTies, .int c_low, .int c_high])), (h_s, .inl (G.2 0, 24, .inl c_s))] := hD
  refine lv_aload_n hx hb dX7_card_5 rfl (lv_at hl 0 rfl) ?_
  refine lv_iload_n hx hb dX7_card_6 rfl (lv_at hl 1 rfl) ?_
  refine r_bind hf (fun u1 hu1 hf => ?_)
  refine cRiV (ci := 7) (rest := []) ⟨hx, hb, hml, hown, hts⟩ hK (tX7_isCard l G h_this h_s h_draft h_past h_kept h_isKept h_facts h_text (0 : Int32) c_undos c_manyFacts c_typed c_from c_to c_token c_fault c_hasHooks c_hasTies c_low c_high c_s v1 u1 hu1) gX7_card_X7_isCard rfl hdX7_isCard rfl rfl rfl ⟨Nat.le_of_ble_eq_true rfl, Nat.le_of_ble_eq_true rfl⟩ hP [0, 1] rfl 0 rfl rfl rfl hl.1 (Nat.le_of_ble_eq_true rfl) rfl dX7_card_7 ⟨Nat.zero_le _, Nat.zero_le _⟩ ?_
  refine lv_if_eq (tgt := 22) hx hb dX7_card_10 (by decide) (fun c9 => ?_) (fun c9 => ?_)
  · have hf := c_t hf c9
    refine lv_iconst (v := (-1 : Int32)) hx hb dX7_card_22 (by decide) ?_
    obtain rfl := Option.some.inj hf
    exact kr _ _ _ _ hP hD hS dX7_card_23
  · have hf := c_f hf c9
    refine lv_iload_n hx hb dX7_card_13 rfl (lv_at hl 2 rfl) ?_
    refine lv_iconst (v := (0 : Int32)) hx hb dX7_card_14 (by decide) ?_
    refine lv_iconst (v := (2 : Int32)) hx hb dX7_card_15 (by decide) ?_
    refine r_bind hf (fun u2 hu2 hf => ?_)
    refine cRiS (rest := []) ⟨hx, hb, hml, hown, hts⟩ hK (tX7_in l G v2 (0 : Int32) (2 : Int32) u2 hu2) gX7_card_X7_in rfl hdX7_in rfl rfl rfl ⟨Nat.le_of_ble_eq_true rfl, Nat.le_of_ble_eq_true rfl⟩ hP [] rfl hl.1 (Nat.le_of_ble_eq_true rfl) rfl dX7_card_16 ⟨Nat.zero_le _, Nat.zero_le _⟩ ?_
    refine lv_if_ne (tgt := 24) hx hb dX7_card_19 (by decide) (fun c9 => ?_) (fun c9 => ?_)
    · have hf := c_f hf c9
      refine lv_iload_n hx hb dX7_card_24 rfl (lv_at hl 2 rfl) ?_
      refine lv_if_ne (tgt := 40) hx hb dX7_card_25 (by decide) (fun c9 => ?_) (fun c9 => ?_)
      · have hf := c_f hf c9
        refine lv_iload_n hx hb dX7_card_40 rfl (lv_at hl 2 rfl) ?_
        refine lv_iconst (v := (1 : Int32)) hx hb dX7_card_41 (by decide) ?_
        refine lv_icmp_ne (tgt := 53) hx hb dX7_card_42 (by decide) (fun c9 => ?_) (fun c9 => ?_)
        · have hf := c_f hf c9
          refine lv_aload_n hx hb dX7_card_53 rfl (lv_at hl 0 rfl) ?_
          refine lv_iload_n hx hb dX7_card_54 rfl (lv_at hl 1 rfl) ?_
          refine r_bind hf (fun u3 hu3 hf => ?_)
          refine cRiV (ci := 7) (rest := []) ⟨hx, hb, hml, hown, hts⟩ hK (tX7_across l G h_this h_s h_draft h_past h_kept h_isKept h_facts h_text (0 : Int32) c_undos c_manyFacts c_typed c_from c_to c_token c_fault c_hasHooks c_hasTies c_low c_high c_s v1 u3 hu3) gX7_card_X7_across rfl hdX7_across rfl rfl rfl ⟨Nat.le_of_ble_eq_true rfl, Nat.le_of_ble_eq_true rfl⟩ hP [0, 1] rfl 0 rfl rfl rfl hl.1 (Nat.le_of_ble_eq_true rfl) rfl dX7_card_55 ⟨Nat.zero_le _, Nat.zero_le _⟩ ?_
          obtain rfl := Option.some.inj hf
          exact kr _ _ _ _ hP hD hS dX7_card_58
        · have hf := c_t hf c9
          refine lv_aload_n hx hb dX7_card_45 rfl (lv_at hl 0 rfl) ?_
          refine lv_iload_n hx hb dX7_card_46 rfl (lv_at hl 1 rfl) ?_
          refine r_bind hf (fun u4 hu4 hf => ?_)
          refine cRiV (ci := 7) (rest := []) ⟨hx, hb, hml, hown, hts⟩ hK (tX7_upIn l G h_this h_s h_draft h_past h_kept h_isKept h_facts h_text (0 : Int32) c_undos c_manyFacts c_typed c_from c_to c_token c_fault c_hasHooks c_hasTies c_low c_high c_s v1 u4 hu4) gX7_card_X7_upIn rfl hdX7_upIn rfl rfl rfl ⟨Nat.le_of_ble_eq_true rfl, Nat.le_of_ble_eq_true rfl⟩ hP [0, 1] rfl 0 rfl rfl rfl hl.1 (Nat.le_of_ble_eq_true rfl) rfl dX7_card_47 ⟨Nat.zero_le _, Nat.zero_le _⟩ ?_
          refine lv_goto (tgt := 58) hx hb dX7_card_50 (by decide) ?_
          obtain rfl := Option.some.inj hf
          exact kr _ _ _ _ hP hD hS dX7_card_58
      · have hf := c_t hf c9
        refine lv_aload_n hx hb dX7_card_28 rfl (lv_at hl 0 rfl) ?_
        refine va_get (D := G.1) (cl := CL) (ci := 7) (C := RX7) (T := TX7) (N := 19) hx hb hts iX7_card_7 hown hK hP 0 rfl rfl 1 (by decide) (hts (.fieldLink RX7 7 "LoomCardsModel" "s" "[I") (List.mem_of_getElem? (i := 2) rfl)) (fun _ h9 => h9) rfl dX7_card_29 ?_
        refine lv_bipush (v := (16 : Int32)) hx hb dX7_card_32 (by decide) ?_
        refine lv_iload_n hx hb dX7_card_34 rfl (lv_at hl 1 rfl) ?_
        refine lv_iadd hx hb dX7_card_35 ?_
        refine r_gd hf (fun g9 hf => ?_)
        refine r_iald hx hb hK hP 1 rfl (ix_in g9) rfl dX7_card_36 ?_
        refine lv_goto (tgt := 58) hx hb dX7_card_37 (by decide) ?_
        obtain rfl := Option.some.inj hf
        exact kr _ _ _ _ hP hD hS dX7_card_58
    · have hf := c_t hf c9
      refine lv_iconst (v := (-1 : Int32)) hx hb dX7_card_22 (by decide) ?_
      obtain rfl := Option.some.inj hf
      exact kr _ _ _ _ hP hD hS dX7_card_23
end SX7_card
set_option maxHeartbeats 4000000 in
set_option maxRecDepth 100000 in
theorem tX7_card (l : Launch) (G : GG) (h_this : Nat) (h_s : Nat) (h_draft : Nat) (h_past : Nat) (h_kept : Nat) (h_isKept : Nat) (h_facts : Nat) (h_text : Nat) (c_thrown : Int32) (c_undos : Int32) (c_manyFacts : Int32) (c_typed : Int32) (c_from : Int32) (c_to : Int32) (c_token : Int32) (c_fault : Int32) (c_hasHooks : Int32) (c_hasTies : Int32) (c_low : Int32) (c_high : Int32) (c_s : Nat → Int32) (v1 : Int32) (v2 : Int32) (res : Int32 × Int32) (hf : fX7_card c_thrown c_s v1 v2 = some res) : MWi l yX7_card wsX7_card rmX7_card G [.ref h_this, .int v1, .int v2] [(h_this, .inr (7, [.int c_thrown, .ref h_s, .ref h_draft, .ref h_past, .int c_undos, .ref h_kept, .ref h_isKept, .ref h_facts, .int c_manyFacts, .ref h_text, .int c_typed, .int c_from, .int c_to, .int c_token, .int c_fault, .int c_hasHooks, .int c_hasTies, .int c_low, .int c_high])), (h_s, .inl (G.2 0, 24, .inl c_s))] (res.1) [(h_this, .inr (7, [.int (res.2), .ref h_s, .ref h_draft, .ref h_past, .int c_undos, .ref h_kept, .ref h_isKept, .ref h_facts, .int c_manyFacts, .ref h_text, .int c_typed, .int c_from, .int c_to, .int c_token, .int c_fault, .int c_hasHooks, .int c_hasTies, .int c_low, .int c_high])), (h_s, .inl (G.2 0, 24, .inl c_s))] := MWi.of (plainFor_of_name (by decide +kernel)) rfl (Nat.le_of_ble_eq_true rfl) (fun p e s m below meth c A C hA hP hD hS ls hl => kX7_card h_this h_s h_draft h_past h_kept h_isKept h_facts h_text c_thrown c_undos c_manyFacts c_typed c_from c_to c_token c_fault c_hasHooks c_hasTies c_low c_high c_s v1 v2 C hA hP hD hS (fun pc ls H locs hP hD hS d => rWi C hP hD hS d) hf hl)
def fX7_end (c_thrown : Int32) (c_s : Nat → Int32) (v1 : Int32) (v2 : Int32) : Option (Int32 × Int32) := (fX7_isEnd c_s v1).bind (fun u1 => if u1 = 0 then some ((-1 : Int32), (0 : Int32)) else (fX7_in v2 (0 : Int32) (2 : Int32)).bind (fun u2 => if u2 = 0 then some ((-1 : Int32), (0 : Int32)) else if v2 = 0 then gd (ix ((4 : Int32) + v1) 24) (some ((c_s ((4 : Int32) + v1).toNatClampNeg), (0 : Int32))) else if v2 = (1 : Int32) then (fX7_along c_s v1).bind (fun u4 => some (u4, (0 : Int32))) else (fX7_rowsOf c_s v1).bind (fun u3 => some (u3, (0 : Int32)))))
theorem iX7_end_7 : ∀ w ∈ wsX70, w ∈ wsX7_end := fun w h => List.mem_cons_of_mem _ (List.mem_append_right _ (h))
theorem hdX7_end : yX7_end.cls = RX7 ∧ yX7_end.cls ≠ "java/lang/invoke/MethodHandle" ∧ yX7_end.cls ≠ "java/lang/invoke/VarHandle" ∧ (parseMethodDescriptor yX7_end.desc).map (fun d => d.parameters.length) = some 2 := by decide +kernel
abbrev rmX7_end : Room := { frames := 2, cells := 0, slots := 0, locals := 46 }
section SX7_end
variable {p : Program} {l : Launch} {e : Env} {s : State} {m : MethodId} {args : Array Value} {below : List Frame} {meth : Method} {c : Code} {Q : State → Prop} {G : GG} {A : Nat → Prop}
set_option maxHeartbeats 4000000 in
set_option maxRecDepth 100000 in
theorem kX7_end (h_this : Nat) (h_s : Nat) (h_draft : Nat) (h_past : Nat) (h_kept : Nat) (h_isKept : Nat) (h_facts : Nat) (h_text : Nat) (c_thrown : Int32) (c_undos : Int32) (c_manyFacts : Int32) (c_typed : Int32) (c_from : Int32) (c_to : Int32) (c_token : Int32) (c_fault : Int32) (c_hasHooks : Int32) (c_hasTies : Int32) (c_low : Int32) (c_high : Int32) (c_s : Nat → Int32) (v1 : Int32) (v2 : Int32) (C : Cx cX7_end (some .int) 3 RX7 wsX7_end G p s m args meth c) (hA : ∀ q : Nat, s.heap.size ≤ q → A q) (hP : va_P G.1 CL [(h_this, .inr (7, [.int c_thrown, .ref h_s, .ref h_draft, .ref h_past, .int c_undos, .ref h_kept, .ref h_isKept, .ref h_facts, .int c_manyFacts, .ref h_text, .int c_typed, .int c_from, .int c_to, .int c_token, .int c_fault, .int c_hasHooks, .int c_hasTies, .int c_low, .int c_high])), (h_s, .inl (G.2 0, 24, .inl c_s))] s.heap) (hD : va_D A [(h_this, .inr (7, [.int c_thrown, .ref h_s, .ref h_draft, .ref h_past, .int c_undos, .ref h_kept, .ref h_isKept, .ref h_facts, .int c_manyFacts, .ref h_text, .int c_typed, .int c_from, .int c_to, .int c_token, .int c_fault, .int c_hasHooks, .int c_hasTies, .int c_low, .int c_high])), (h_s, .inl (G.2 0, 24, .inl c_s))]) (hS : va_S A s.heap s.heap []) {res : Int32 × Int32} (kr : ∀ (pc : Nat) (ls : Array Slot) (H : Heap) (locs : List Loc), va_P G.1 CL [(h_this, .inr (7, [.int (res.2), .ref h_s, .ref h_draft, .ref h_past, .int c_undos, .ref h_kept, .ref h_isKept, .ref h_facts, .int c_manyFacts, .ref h_text, .int c_typed, .int c_from, .int c_to, .int c_token, .int c_fault, .int c_hasHooks, .int c_hasTies, .int c_low, .int c_high])), (h_s, .inl (G.2 0, 24, .inl c_s))] H → va_D A [(h_this, .inr (7, [.int (res.2), .ref h_s, .ref h_draft, .ref h_past, .int c_undos, .ref h_kept, .ref h_isKept, .ref h_facts, .int c_manyFacts, .ref h_text, .int c_typed, .int c_from, .int c_to, .int c_token, .int c_fault, .int c_hasHooks, .int c_hasTies, .int c_low, .int c_high])), (h_s, .inl (G.2 0, 24, .inl c_s))] → va_S A s.heap H locs → decode cX7_end pc = .ok (.ireturn, 1) → W p l e rmX7_end s m args below meth c H locs 0 0 Q (F0 m pc ls [.int res.1])) (hf : fX7_end c_thrown c_s v1 v2 = some res) {ls : Array Slot} (hl : lv_has ls 3 [(0, .ref h_this), (1, .int v1), (2, .int v2)]) : W p l e rmX7_end s m args below meth c s.heap [] 0 0 Q (F0 m 0 ls []) := by
  obtain ⟨hx, hb, hr, hlk, hml, hown, hts, hK⟩ := id C
  rw [fX7_end] at hf
  refine lv_aload_n hx hb dX7_end_0 rfl (lv_at hl 0 rfl) ?_
  refine lv_iconst (v := (0 : Int32)) hx hb dX7_end_1 (by decide) ?_
  refine va_put (D := G.1) (cl := CL) (ci := 7) (v := .int (0 : Int32)) (ty := .int) (C := RX7) (T := TX7) (N := 19) hx hb hts iX7_end_7 tyX7 tyX7_ok nmX7 hown hK hP hD hS 0 rfl rfl 0 (by decide) (hts (.fieldLink RX7 37 "LoomCardsModel" "thrown" "I") (List.mem_of_getElem? (i := 1) rfl)) (fun _ h9 => h9) rfl (tyX7_ok 0 (by decide)) rfl rfl (Nat.le_of_ble_eq_true rfl) dX7_end_2 (fun H locs hP hD hS => ?_)
  have hP : va_P G.1 CL [(h_this, .inr (7, [.int (0 : Int32), .ref h_s, .ref h_draft, .ref h_past, .int c_undos, .ref h_kept, .ref h_isKept, .ref h_facts, .int c_manyFacts, .ref h_text, .int c_typed, .int c_from, .int c_to, .int c_token, .int c_fault, .int c_hasHooks, .int c_hasTies, .int c_low, .int c_high])), (h_s, .inl (G.2 0, 24, .inl c_s))] H := hP
  have hD : va_D A [(h_this, .inr (7, [.int (0 : Int32), .ref h_s, .ref h_draft, .ref h_past, .int c_undos, .ref h_kept, .ref h_isKept, .ref h_facts, .int c_manyFacts, .ref h_text, .int c_typed, .int c_from, .int c_to, .int c_token, .int c_fault, .int c_hasHooks, .int c_hasTies, .int c_low, .int c_high])), (h_s, .inl (G.2 0, 24, .inl c_s))] := hD
  refine lv_aload_n hx hb dX7_end_5 rfl (lv_at hl 0 rfl) ?_
  refine lv_iload_n hx hb dX7_end_6 rfl (lv_at hl 1 rfl) ?_
  refine r_bind hf (fun u1 hu1 hf => ?_)
  refine cRiV (ci := 7) (rest := []) ⟨hx, hb, hml, hown, hts⟩ hK (tX7_isEnd l G h_this h_s h_draft h_past h_kept h_isKept h_facts h_text (0 : Int32) c_undos c_manyFacts c_typed c_from c_to c_token c_fault c_hasHooks c_hasTies c_low c_high c_s v1 u1 hu1) gX7_end_X7_isEnd rfl hdX7_isEnd rfl rfl rfl ⟨Nat.le_of_ble_eq_true rfl, Nat.le_of_ble_eq_true rfl⟩ hP [0, 1] rfl 0 rfl rfl rfl hl.1 (Nat.le_of_ble_eq_true rfl) rfl dX7_end_7 ⟨Nat.zero_le _, Nat.zero_le _⟩ ?_
  refine lv_if_eq (tgt := 22) hx hb dX7_end_10 (by decide) (fun c9 => ?_) (fun c9 => ?_)
  · have hf := c_t hf c9
    refine lv_iconst (v := (-1 : Int32)) hx hb dX7_end_22 (by decide) ?_
    obtain rfl := Option.some.inj hf
    exact kr _ _ _ _ hP hD hS dX7_end_23
  · have hf := c_f hf c9
    refine lv_iload_n hx hb dX7_end_13 rfl (lv_at hl 2 rfl) ?_
    refine lv_iconst (v := (0 : Int32)) hx hb dX7_end_14 (by decide) ?_
    refine lv_iconst (v := (2 : Int32)) hx hb dX7_end_15 (by decide) ?_
    refine r_bind hf (fun u2 hu2 hf => ?_)
    refine cRiS (rest := []) ⟨hx, hb, hml, hown, hts⟩ hK (tX7_in l G v2 (0 : Int32) (2 : Int32) u2 hu2) gX7_end_X7_in rfl hdX7_in rfl rfl rfl ⟨Nat.le_of_ble_eq_true rfl, Nat.le_of_ble_eq_true rfl⟩ hP [] rfl hl.1 (Nat.le_of_ble_eq_true rfl) rfl dX7_end_16 ⟨Nat.zero_le _, Nat.zero_le _⟩ ?_
    refine lv_if_ne (tgt := 24) hx hb dX7_end_19 (by decide) (fun c9 => ?_) (fun c9 => ?_)
    · have hf := c_f hf c9
      refine lv_iload_n hx hb dX7_end_24 rfl (lv_at hl 2 rfl) ?_
      refine lv_if_ne (tgt := 39) hx hb dX7_end_25 (by decide) (fun c9 => ?_) (fun c9 => ?_)
      · have hf := c_f hf c9
        refine lv_iload_n hx hb dX7_end_39 rfl (lv_at hl 2 rfl) ?_
        refine lv_iconst (v := (1 : Int32)) hx hb dX7_end_40 (by decide) ?_
        refine lv_icmp_ne (tgt := 52) hx hb dX7_end_41 (by decide) (fun c9 => ?_) (fun c9 => ?_)
        · have hf := c_f hf c9
          refine lv_aload_n hx hb dX7_end_52 rfl (lv_at hl 0 rfl) ?_
          refine lv_iload_n hx hb dX7_end_53 rfl (lv_at hl 1 rfl) ?_
          refine r_bind hf (fun u3 hu3 hf => ?_)
          refine cRiV (ci := 7) (rest := []) ⟨hx, hb, hml, hown, hts⟩ hK (tX7_rowsOf l G h_this h_s h_draft h_past h_kept h_isKept h_facts h_text (0 : Int32) c_undos c_manyFacts c_typed c_from c_to c_token c_fault c_hasHooks c_hasTies c_low c_high c_s v1 u3 hu3) gX7_end_X7_rowsOf rfl hdX7_rowsOf rfl rfl rfl ⟨Nat.le_of_ble_eq_true rfl, Nat.le_of_ble_eq_true rfl⟩ hP [0, 1] rfl 0 rfl rfl rfl hl.1 (Nat.le_of_ble_eq_true rfl) rfl dX7_end_54 ⟨Nat.zero_le _, Nat.zero_le _⟩ ?_
          obtain rfl := Option.some.inj hf
          exact kr _ _ _ _ hP hD hS dX7_end_57
        · have hf := c_t hf c9
          refine lv_aload_n hx hb dX7_end_44 rfl (lv_at hl 0 rfl) ?_
          refine lv_iload_n hx hb dX7_end_45 rfl (lv_at hl 1 rfl) ?_
          refine r_bind hf (fun u4 hu4 hf => ?_)
          refine cRiV (ci := 7) (rest := []) ⟨hx, hb, hml, hown, hts⟩ hK (tX7_along l G h_this h_s h_draft h_past h_kept h_isKept h_facts h_text (0 : Int32) c_undos c_manyFacts c_typed c_from c_to c_token c_fault c_hasHooks c_hasTies c_low c_high c_s v1 u4 hu4) gX7_end_X7_along rfl hdX7_along rfl rfl rfl ⟨Nat.le_of_ble_eq_true rfl, Nat.le_of_ble_eq_true rfl⟩ hP [0, 1] rfl 0 rfl rfl rfl hl.1 (Nat.le_of_ble_eq_true rfl) rfl dX7_end_46 ⟨Nat.zero_le _, Nat.zero_le _⟩ ?_
          refine lv_goto (tgt := 57) hx hb dX7_end_49 (by decide) ?_
          obtain rfl := Option.some.inj hf
          exact kr _ _ _ _ hP hD hS dX7_end_57
      · have hf := c_t hf c9
        refine lv_aload_n hx hb dX7_end_28 rfl (lv_at hl 0 rfl) ?_
        refine va_get (D := G.1) (cl := CL) (ci := 7) (C := RX7) (T := TX7) (N := 19) hx hb hts iX7_end_7 hown hK hP 0 rfl rfl 1 (by decide) (hts (.fieldLink RX7 7 "LoomCardsModel" "s" "[I") (List.mem_of_getElem? (i := 2) rfl)) (fun _ h9 => h9) rfl dX7_end_29 ?_
        refine lv_iconst (v := (4 : Int32)) hx hb dX7_end_32 (by decide) ?_
        refine lv_iload_n hx hb dX7_end_33 rfl (lv_at hl 1 rfl) ?_
        refine lv_iadd hx hb dX7_end_34 ?_
        refine r_gd hf (fun g9 hf => ?_)
        refine r_iald hx hb hK hP 1 rfl (ix_in g9) rfl dX7_end_35 ?_
        refine lv_goto (tgt := 57) hx hb dX7_end_36 (by decide) ?_
        obtain rfl := Option.some.inj hf
        exact kr _ _ _ _ hP hD hS dX7_end_57
    · have hf := c_t hf c9
      refine lv_iconst (v := (-1 : Int32)) hx hb dX7_end_22 (by decide) ?_
      obtain rfl := Option.some.inj hf
      exact kr _ _ _ _ hP hD hS dX7_end_23
end SX7_end
set_option maxHeartbeats 4000000 in
set_option maxRecDepth 100000 in
theorem tX7_end (l : Launch) (G : GG) (h_this : Nat) (h_s : Nat) (h_draft : Nat) (h_past : Nat) (h_kept : Nat) (h_isKept : Nat) (h_facts : Nat) (h_text : Nat) (c_thrown : Int32) (c_undos : Int32) (c_manyFacts : Int32) (c_typed : Int32) (c_from : Int32) (c_to : Int32) (c_token : Int32) (c_fault : Int32) (c_hasHooks : Int32) (c_hasTies : Int32) (c_low : Int32) (c_high : Int32) (c_s : Nat → Int32) (v1 : Int32) (v2 : Int32) (res : Int32 × Int32) (hf : fX7_end c_thrown c_s v1 v2 = some res) : MWi l yX7_end wsX7_end rmX7_end G [.ref h_this, .int v1, .int v2] [(h_this, .inr (7, [.int c_thrown, .ref h_s, .ref h_draft, .ref h_past, .int c_undos, .ref h_kept, .ref h_isKept, .ref h_facts, .int c_manyFacts, .ref h_text, .int c_typed, .int c_from, .int c_to, .int c_token, .int c_fault, .int c_hasHooks, .int c_hasTies, .int c_low, .int c_high])), (h_s, .inl (G.2 0, 24, .inl c_s))] (res.1) [(h_this, .inr (7, [.int (res.2), .ref h_s, .ref h_draft, .ref h_past, .int c_undos, .ref h_kept, .ref h_isKept, .ref h_facts, .int c_manyFacts, .ref h_text, .int c_typed, .int c_from, .int c_to, .int c_token, .int c_fault, .int c_hasHooks, .int c_hasTies, .int c_low, .int c_high])), (h_s, .inl (G.2 0, 24, .inl c_s))] := MWi.of (plainFor_of_name (by decide +kernel)) rfl (Nat.le_of_ble_eq_true rfl) (fun p e s m below meth c A C hA hP hD hS ls hl => kX7_end h_this h_s h_draft h_past h_kept h_isKept h_facts h_text c_thrown c_undos c_manyFacts c_typed c_from c_to c_token c_fault c_hasHooks c_hasTies c_low c_high c_s v1 v2 C hA hP hD hS (fun pc ls H locs hP hD hS d => rWi C hP hD hS d) hf hl)
def fX7_cloth (c_thrown : Int32) (c_s : Nat → Int32) (v1 : Int32) (v2 : Int32) : Option (Int32 × Int32) := (fX7_in v1 (0 : Int32) (9999 : Int32)).bind (fun u1 => if u1 = 0 then some ((-1 : Int32), (0 : Int32)) else (fX7_isEnd c_s v2).bind (fun u2 => if u2 = 0 then some ((-1 : Int32), (0 : Int32)) else (fX7_isUp c_s v1 v2).bind (fun u3 => if u3 = 0 then some ((0 : Int32), (0 : Int32)) else some ((1 : Int32), (0 : Int32)))))
theorem iX7_cloth_7 : ∀ w ∈ wsX70, w ∈ wsX7_cloth := fun w h => List.mem_cons_of_mem _ (List.mem_append_right _ (h))
theorem hdX7_cloth : yX7_cloth.cls = RX7 ∧ yX7_cloth.cls ≠ "java/lang/invoke/MethodHandle" ∧ yX7_cloth.cls ≠ "java/lang/invoke/VarHandle" ∧ (parseMethodDescriptor yX7_cloth.desc).map (fun d => d.parameters.length) = some 2 := by decide +kernel
abbrev rmX7_cloth : Room := { frames := 2, cells := 0, slots := 0, locals := 43 }
section SX7_cloth
variable {p : Program} {l : Launch} {e : Env} {s : State} {m : MethodId} {args : Array Value} {below : List Frame} {meth : Method} {c : Code} {Q : State → Prop} {G : GG} {A : Nat → Prop}
set_option maxHeartbeats 4000000 in
set_option maxRecDepth 100000 in
theorem kX7_cloth (h_this : Nat) (h_s : Nat) (h_draft : Nat) (h_past : Nat) (h_kept : Nat) (h_isKept : Nat) (h_facts : Nat) (h_text : Nat) (c_thrown : Int32) (c_undos : Int32) (c_manyFacts : Int32) (c_typed : Int32) (c_from : Int32) (c_to : Int32) (c_token : Int32) (c_fault : Int32) (c_hasHooks : Int32) (c_hasTies : Int32) (c_low : Int32) (c_high : Int32) (c_s : Nat → Int32) (v1 : Int32) (v2 : Int32) (C : Cx cX7_cloth (some .int) 3 RX7 wsX7_cloth G p s m args meth c) (hA : ∀ q : Nat, s.heap.size ≤ q → A q) (hP : va_P G.1 CL [(h_this, .inr (7, [.int c_thrown, .ref h_s, .ref h_draft, .ref h_past, .int c_undos, .ref h_kept, .ref h_isKept, .ref h_facts, .int c_manyFacts, .ref h_text, .int c_typed, .int c_from, .int c_to, .int c_token, .int c_fault, .int c_hasHooks, .int c_hasTies, .int c_low, .int c_high])), (h_s, .inl (G.2 0, 24, .inl c_s))] s.heap) (hD : va_D A [(h_this, .inr (7, [.int c_thrown, .ref h_s, .ref h_draft, .ref h_past, .int c_undos, .ref h_kept, .ref h_isKept, .ref h_facts, .int c_manyFacts, .ref h_text, .int c_typed, .int c_from, .int c_to, .int c_token, .int c_fault, .int c_hasHooks, .int c_hasTies, .int c_low, .int c_high])), (h_s, .inl (G.2 0, 24, .inl c_s))]) (hS : va_S A s.heap s.heap []) {res : Int32 × Int32} (kr : ∀ (pc : Nat) (ls : Array Slot) (H : Heap) (locs : List Loc), va_P G.1 CL [(h_this, .inr (7, [.int (res.2), .ref h_s, .ref h_draft, .ref h_past, .int c_undos, .ref h_kept, .ref h_isKept, .ref h_facts, .int c_manyFacts, .ref h_text, .int c_typed, .int c_from, .int c_to, .int c_token, .int c_fault, .int c_hasHooks, .int c_hasTies, .int c_low, .int c_high])), (h_s, .inl (G.2 0, 24, .inl c_s))] H → va_D A [(h_this, .inr (7, [.int (res.2), .ref h_s, .ref h_draft, .ref h_past, .int c_undos, .ref h_kept, .ref h_isKept, .ref h_facts, .int c_manyFacts, .ref h_text, .int c_typed, .int c_from, .int c_to, .int c_token, .int c_fault, .int c_hasHooks, .int c_hasTies, .int c_low, .int c_high])), (h_s, .inl (G.2 0, 24, .inl c_s))] → va_S A s.heap H locs → decode cX7_cloth pc = .ok (.ireturn, 1) → W p l e rmX7_cloth s m args below meth c H locs 0 0 Q (F0 m pc ls [.int res.1])) (hf : fX7_cloth c_thrown c_s v1 v2 = some res) {ls : Array Slot} (hl : lv_has ls 3 [(0, .ref h_this), (1, .int v1), (2, .int v2)]) : W p l e rmX7_cloth s m args below meth c s.heap [] 0 0 Q (F0 m 0 ls []) := by
  obtain ⟨hx, hb, hr, hlk, hml, hown, hts, hK⟩ := id C
  rw [fX7_cloth] at hf
  refine lv_aload_n hx hb dX7_cloth_0 rfl (lv_at hl 0 rfl) ?_
  refine lv_iconst (v := (0 : Int32)) hx hb dX7_cloth_1 (by decide) ?_
  refine va_put (D := G.1) (cl := CL) (ci := 7) (v := .int (0 : Int32)) (ty := .int) (C := RX7) (T := TX7) (N := 19) hx hb hts iX7_cloth_7 tyX7 tyX7_ok nmX7 hown hK hP hD hS 0 rfl rfl 0 (by decide) (hts (.fieldLink RX7 37 "LoomCardsModel" "thrown" "I") (List.mem_of_getElem? (i := 1) rfl)) (fun _ h9 => h9) rfl (tyX7_ok 0 (by decide)) rfl rfl (Nat.le_of_ble_eq_true rfl) dX7_cloth_2 (fun H locs hP hD hS => ?_)
  have hP : va_P G.1 CL [(h_this, .inr (7, [.int (0 : Int32), .ref h_s, .ref h_draft, .ref h_past, .int c_undos, .ref h_kept, .ref h_isKept, .ref h_facts, .int c_manyFacts, .ref h_text, .int c_typed, .int c_from, .int c_to, .int c_token, .int c_fault, .int c_hasHooks, .int c_hasTies, .int c_low, .int c_high])), (h_s, .inl (G.2 0, 24, .inl c_s))] H := hP
  have hD : va_D A [(h_this, .inr (7, [.int (0 : Int32), .ref h_s, .ref h_draft, .ref h_past, .int c_undos, .ref h_kept, .ref h_isKept, .ref h_facts, .int c_manyFacts, .ref h_text, .int c_typed, .int c_from, .int c_to, .int c_token, .int c_fault, .int c_hasHooks, .int c_hasTies, .int c_low, .int c_high])), (h_s, .inl (G.2 0, 24, .inl c_s))] := hD
  refine lv_iload_n hx hb dX7_cloth_5 rfl (lv_at hl 1 rfl) ?_
  refine lv_iconst (v := (0 : Int32)) hx hb dX7_cloth_6 (by decide) ?_
  refine lv_sipush (v := (9999 : Int32)) hx hb dX7_cloth_7 (by decide) ?_
  refine r_bind hf (fun u1 hu1 hf => ?_)
  refine cRiS (rest := []) ⟨hx, hb, hml, hown, hts⟩ hK (tX7_in l G v1 (0 : Int32) (9999 : Int32) u1 hu1) gX7_cloth_X7_in rfl hdX7_in rfl rfl rfl ⟨Nat.le_of_ble_eq_true rfl, Nat.le_of_ble_eq_true rfl⟩ hP [] rfl hl.1 (Nat.le_of_ble_eq_true rfl) rfl dX7_cloth_10 ⟨Nat.zero_le _, Nat.zero_le _⟩ ?_
  refine lv_if_eq (tgt := 24) hx hb dX7_cloth_13 (by decide) (fun c9 => ?_) (fun c9 => ?_)
  · have hf := c_t hf c9
    refine lv_iconst (v := (-1 : Int32)) hx hb dX7_cloth_24 (by decide) ?_
    obtain rfl := Option.some.inj hf
    exact kr _ _ _ _ hP hD hS dX7_cloth_25
  · have hf := c_f hf c9
    refine lv_aload_n hx hb dX7_cloth_16 rfl (lv_at hl 0 rfl) ?_
    refine lv_iload_n hx hb dX7_cloth_17 rfl (lv_at hl 2 rfl) ?_
    refine r_bind hf (fun u2 hu2 hf => ?_)
    refine cRiV (ci := 7) (rest := []) ⟨hx, hb, hml, hown, hts⟩ hK (tX7_isEnd l G h_this h_s h_draft h_past h_kept h_isKept h_facts h_text (0 : Int32) c_undos c_manyFacts c_typed c_from c_to c_token c_fault c_hasHooks c_hasTies c_low c_high c_s v2 u2 hu2) gX7_cloth_X7_isEnd rfl hdX7_isEnd rfl rfl rfl ⟨Nat.le_of_ble_eq_true rfl, Nat.le_of_ble_eq_true rfl⟩ hP [0, 1] rfl 0 rfl rfl rfl hl.1 (Nat.le_of_ble_eq_true rfl) rfl dX7_cloth_18 ⟨Nat.zero_le _, Nat.zero_le _⟩ ?_
    refine lv_if_ne (tgt := 26) hx hb dX7_cloth_21 (by decide) (fun c9 => ?_) (fun c9 => ?_)
    · have hf := c_f hf c9
      refine lv_aload_n hx hb dX7_cloth_26 rfl (lv_at hl 0 rfl) ?_
      refine lv_iload_n hx hb dX7_cloth_27 rfl (lv_at hl 1 rfl) ?_
      refine lv_iload_n hx hb dX7_cloth_28 rfl (lv_at hl 2 rfl) ?_
      refine r_bind hf (fun u3 hu3 hf => ?_)
      refine cRiV (ci := 7) (rest := []) ⟨hx, hb, hml, hown, hts⟩ hK (tX7_isUp l G h_this h_s h_draft h_past h_kept h_isKept h_facts h_text (0 : Int32) c_undos c_manyFacts c_typed c_from c_to c_token c_fault c_hasHooks c_hasTies c_low c_high c_s v1 v2 u3 hu3) gX7_cloth_X7_isUp rfl hdX7_isUp rfl rfl rfl ⟨Nat.le_of_ble_eq_true rfl, Nat.le_of_ble_eq_true rfl⟩ hP [0, 1] rfl 0 rfl rfl rfl hl.1 (Nat.le_of_ble_eq_true rfl) rfl dX7_cloth_29 ⟨Nat.zero_le _, Nat.zero_le _⟩ ?_
      refine lv_if_eq (tgt := 39) hx hb dX7_cloth_32 (by decide) (fun c9 => ?_) (fun c9 => ?_)
      · have hf := c_t hf c9
        refine lv_iconst (v := (0 : Int32)) hx hb dX7_cloth_39 (by decide) ?_
        obtain rfl := Option.some.inj hf
        exact kr _ _ _ _ hP hD hS dX7_cloth_40
      · have hf := c_f hf c9
        refine lv_iconst (v := (1 : Int32)) hx hb dX7_cloth_35 (by decide) ?_
        refine lv_goto (tgt := 40) hx hb dX7_cloth_36 (by decide) ?_
        obtain rfl := Option.some.inj hf
        exact kr _ _ _ _ hP hD hS dX7_cloth_40
    · have hf := c_t hf c9
      refine lv_iconst (v := (-1 : Int32)) hx hb dX7_cloth_24 (by decide) ?_
      obtain rfl := Option.some.inj hf
      exact kr _ _ _ _ hP hD hS dX7_cloth_25
end SX7_cloth
set_option maxHeartbeats 4000000 in
set_option maxRecDepth 100000 in
theorem tX7_cloth (l : Launch) (G : GG) (h_this : Nat) (h_s : Nat) (h_draft : Nat) (h_past : Nat) (h_kept : Nat) (h_isKept : Nat) (h_facts : Nat) (h_text : Nat) (c_thrown : Int32) (c_undos : Int32) (c_manyFacts : Int32) (c_typed : Int32) (c_from : Int32) (c_to : Int32) (c_token : Int32) (c_fault : Int32) (c_hasHooks : Int32) (c_hasTies : Int32) (c_low : Int32) (c_high : Int32) (c_s : Nat → Int32) (v1 : Int32) (v2 : Int32) (res : Int32 × Int32) (hf : fX7_cloth c_thrown c_s v1 v2 = some res) : MWi l yX7_cloth wsX7_cloth rmX7_cloth G [.ref h_this, .int v1, .int v2] [(h_this, .inr (7, [.int c_thrown, .ref h_s, .ref h_draft, .ref h_past, .int c_undos, .ref h_kept, .ref h_isKept, .ref h_facts, .int c_manyFacts, .ref h_text, .int c_typed, .int c_from, .int c_to, .int c_token, .int c_fault, .int c_hasHooks, .int c_hasTies, .int c_low, .int c_high])), (h_s, .inl (G.2 0, 24, .inl c_s))] (res.1) [(h_this, .inr (7, [.int (res.2), .ref h_s, .ref h_draft, .ref h_past, .int c_undos, .ref h_kept, .ref h_isKept, .ref h_facts, .int c_manyFacts, .ref h_text, .int c_typed, .int c_from, .int c_to, .int c_token, .int c_fault, .int c_hasHooks, .int c_hasTies, .int c_low, .int c_high])), (h_s, .inl (G.2 0, 24, .inl c_s))] := MWi.of (plainFor_of_name (by decide +kernel)) rfl (Nat.le_of_ble_eq_true rfl) (fun p e s m below meth c A C hA hP hD hS ls hl => kX7_cloth h_this h_s h_draft h_past h_kept h_isKept h_facts h_text c_thrown c_undos c_manyFacts c_typed c_from c_to c_token c_fault c_hasHooks c_hasTies c_low c_high c_s v1 v2 C hA hP hD hS (fun pc ls H locs hP hD hS d => rWi C hP hD hS d) hf hl)
def fX7_isAgain_L4 (k45 : Int32 → Option (Int32)) (c_s : Nat → Int32) (v1 : Int32) : Nat → Int32 → Int32 → Option (Int32)
  | 0, _, _ => none
  | n + 1, v2, v3 => if (c_s 2) ≤ v3 then k45 v2 else jn (fun (j38_0 : Int32) => fX7_isAgain_L4 k45 c_s v1 n j38_0 (v3 + (1 : Int32))) (fun J38 => jn (J38 (0 : Int32)) (fun J37 => if v2 = 0 then J37 else (fX7_upIn c_s v3).bind (fun u1 => (fX7_upIn c_s (v3 + v1)).bind (fun u2 => if u1 = u2 then J38 (1 : Int32) else J37))))
def fX7_isAgain (c_s : Nat → Int32) (v1 : Int32) : Option (Int32) := (fX7_isAgain_L4 (fun (v2_x3 : Int32) => gd (tf v2_x3) (some (v2_x3))) c_s v1 FU (1 : Int32) (0 : Int32))
theorem iX7_isAgain_7 : ∀ w ∈ wsX70, w ∈ wsX7_isAgain := fun w h => List.mem_cons_of_mem _ (List.mem_append_right _ (h))
theorem hdX7_isAgain : yX7_isAgain.cls = RX7 ∧ yX7_isAgain.cls ≠ "java/lang/invoke/MethodHandle" ∧ yX7_isAgain.cls ≠ "java/lang/invoke/VarHandle" ∧ (parseMethodDescriptor yX7_isAgain.desc).map (fun d => d.parameters.length) = some 1 := by decide +kernel
abbrev rmX7_isAgain : Room := { frames := 2, cells := 0, slots := 0, locals := 45 }
section SX7_isAgain
variable {p : Program} {l : Launch} {e : Env} {s : State} {m : MethodId} {args : Array Value} {below : List Frame} {meth : Method} {c : Code} {Q : State → Prop} {G : GG}
set_option maxHeartbeats 4000000 in
set_option maxRecDepth 100000 in
theorem kX7_isAgain_L4 (h_this : Nat) (h_s : Nat) (h_draft : Nat) (h_past : Nat) (h_kept : Nat) (h_isKept : Nat) (h_facts : Nat) (h_text : Nat) (c_thrown : Int32) (c_undos : Int32) (c_manyFacts : Int32) (c_typed : Int32) (c_from : Int32) (c_to : Int32) (c_token : Int32) (c_fault : Int32) (c_hasHooks : Int32) (c_hasTies : Int32) (c_low : Int32) (c_high : Int32) (c_s : Nat → Int32) (v1 : Int32) (C : Cx cX7_isAgain (some .boolean) 4 RX7 wsX7_isAgain G p s m args meth c) (hP : va_P G.1 CL [(h_this, .inr (7, [.int c_thrown, .ref h_s, .ref h_draft, .ref h_past, .int c_undos, .ref h_kept, .ref h_isKept, .ref h_facts, .int c_manyFacts, .ref h_text, .int c_typed, .int c_from, .int c_to, .int c_token, .int c_fault, .int c_hasHooks, .int c_hasTies, .int c_low, .int c_high])), (h_s, .inl (G.2 0, 24, .inl c_s))] s.heap) {res : Int32} (kr : ∀ (pc : Nat) (ls : Array Slot), narrow .boolean (.int res) = .int res → decode cX7_isAgain pc = .ok (.ireturn, 1) → W p l e rmX7_isAgain s m args below meth c s.heap [] 0 0 Q (F0 m pc ls [.int res])) {k45 : Int32 → Option (Int32)} (hk45 : ∀ (v2 : Int32) , k45 v2 = some res → ∀ (ls : Array Slot), lv_has ls 4 [(2, .int v2)] → W p l e rmX7_isAgain s m args below meth c s.heap [] 0 0 Q (F0 m 45 ls [])) : ∀ (n : Nat) (v2 : Int32) (v3 : Int32), fX7_isAgain_L4 k45 c_s v1 n v2 v3 = some res → ∀ (ls : Array Slot), lv_has ls 4 [(0, .ref h_this), (1, .int v1), (2, .int v2), (3, .int v3)] → W p l e rmX7_isAgain s m args below meth c s.heap [] 0 0 Q (F0 m 4 ls []) := by
  obtain ⟨hx, hb, hr, hlk, hml, hown, hts, hK⟩ := id C
  intro n
  induction n with
  | zero =>
    intro v2 v3 hf
    cases hf
  | succ n ih =>
    intro v2 v3 hf ls hl
    rw [fX7_isAgain_L4] at hf
    refine lv_iload_n hx hb dX7_isAgain_4 rfl (lv_at hl 3 rfl) ?_
    refine lv_aload_n hx hb dX7_isAgain_5 rfl (lv_at hl 0 rfl) ?_
    refine va_get (D := G.1) (cl := CL) (ci := 7) (C := RX7) (T := TX7) (N := 19) hx hb hts iX7_isAgain_7 hown hK hP 0 rfl rfl 1 (by decide) (hts (.fieldLink RX7 7 "LoomCardsModel" "s" "[I") (List.mem_of_getElem? (i := 1) rfl)) (fun _ h9 => h9) rfl dX7_isAgain_6 ?_
    refine lv_iconst (v := (2 : Int32)) hx hb dX7_isAgain_9 (by decide) ?_
    refine r_iald (j := 2) hx hb hK hP 1 rfl (ix_in (n := 24) (by decide)) (by decide) dX7_isAgain_10 ?_
    refine lv_icmp_ge (tgt := 45) hx hb dX7_isAgain_11 (by decide) (fun c9 => ?_) (fun c9 => ?_)
    · have hf := c_t hf c9
      exact hk45 v2 hf _ (lv_sub hl [2] rfl)
    · have hf := c_f hf c9
      refine lv_iload_n hx hb dX7_isAgain_14 rfl (lv_at hl 2 rfl) ?_
      refine r_jn1 hf (fun J38 eJ38 hf => ?_)
      have hJ38 : ∀ (j38_0 : Int32) , J38 j38_0 = some res → ∀ (ls : Array Slot), lv_has ls 4 [(0, .ref h_this), (1, .int v1), (3, .int v3)] → W p l e rmX7_isAgain s m args below meth c s.heap [] 0 0 Q (F0 m 38 ls [.int j38_0]) := by
        intro j38_0 hf ls hl
        rw [eJ38] at hf
        refine lv_istore_n (lv' := [(2, .int j38_0), (0, .ref h_this), (1, .int v1), (3, .int v3)]) hx hb dX7_isAgain_38 rfl hl (by decide) rfl (fun ls hl => ?_)
        refine lv_iinc (v := (v3 + (1 : Int32))) (lv' := [(3, .int (v3 + (1 : Int32))), (2, .int j38_0), (0, .ref h_this), (1, .int v1)]) hx hb dX7_isAgain_39 hl (k := 3) rfl rfl (by decide) rfl (fun ls hl => ?_)
        refine lv_goto (tgt := 4) hx hb dX7_isAgain_42 (by decide) ?_
        exact ih j38_0 (v3 + (1 : Int32)) hf _ (lv_sub hl [2, 3, 1, 0] rfl)
      refine r_jn0 hf (fun J37 eJ37 hf => ?_)
      have hJ37 : J37 = some res → ∀ (ls : Array Slot), lv_has ls 4 [(0, .ref h_this), (1, .int v1), (3, .int v3)] → W p l e rmX7_isAgain s m args below meth c s.heap [] 0 0 Q (F0 m 37 ls []) := by
        intro hf ls hl
        rw [eJ37] at hf
        refine lv_iconst (v := (0 : Int32)) hx hb dX7_isAgain_37 (by decide) ?_
        exact hJ38 (0 : Int32) hf _ (lv_sub hl [0, 1, 2] rfl)
      refine lv_if_eq (tgt := 37) hx hb dX7_isAgain_15 (by decide) (fun c9 => ?_) (fun c9 => ?_)
      · have hf := c_t hf c9
        exact hJ37 hf _ (lv_sub hl [0, 1, 3] rfl)
      · have hf := c_f hf c9
        refine lv_aload_n hx hb dX7_isAgain_18 rfl (lv_at hl 0 rfl) ?_
        refine lv_iload_n hx hb dX7_isAgain_19 rfl (lv_at hl 3 rfl) ?_
        refine r_bind hf (fun u1 hu1 hf => ?_)
        refine cRiV (ci := 7) (rest := []) ⟨hx, hb, hml, hown, hts⟩ hK (tX7_upIn l G h_this h_s h_draft h_past h_kept h_isKept h_facts h_text c_thrown c_undos c_manyFacts c_typed c_from c_to c_token c_fault c_hasHooks c_hasTies c_low c_high c_s v3 u1 hu1) gX7_isAgain_X7_upIn rfl hdX7_upIn rfl rfl rfl ⟨Nat.le_of_ble_eq_true rfl, Nat.le_of_ble_eq_true rfl⟩ hP [0, 1] rfl 0 rfl rfl rfl hl.1 (Nat.le_of_ble_eq_true rfl) rfl dX7_isAgain_20 ⟨Nat.zero_le _, Nat.zero_le _⟩ ?_
        refine lv_aload_n hx hb dX7_isAgain_23 rfl (lv_at hl 0 rfl) ?_
        refine lv_iload_n hx hb dX7_isAgain_24 rfl (lv_at hl 3 rfl) ?_
        refine lv_iload_n hx hb dX7_isAgain_25 rfl (lv_at hl 1 rfl) ?_
        refine lv_iadd hx hb dX7_isAgain_26 ?_
        refine r_bind hf (fun u2 hu2 hf => ?_)
        refine cRiV (ci := 7) (rest := [.int u1]) ⟨hx, hb, hml, hown, hts⟩ hK (tX7_upIn l G h_this h_s h_draft h_past h_kept h_isKept h_facts h_text c_thrown c_undos c_manyFacts c_typed c_from c_to c_token c_fault c_hasHooks c_hasTies c_low c_high c_s (v3 + v1) u2 hu2) gX7_isAgain_X7_upIn rfl hdX7_upIn rfl rfl rfl ⟨Nat.le_of_ble_eq_true rfl, Nat.le_of_ble_eq_true rfl⟩ hP [0, 1] rfl 0 rfl rfl rfl hl.1 (Nat.le_of_ble_eq_true rfl) rfl dX7_isAgain_27 ⟨Nat.zero_le _, Nat.zero_le _⟩ ?_
        refine lv_icmp_ne (tgt := 37) hx hb dX7_isAgain_30 (by decide) (fun c9 => ?_) (fun c9 => ?_)
        · have hf := c_f hf c9
          exact hJ37 hf _ (lv_sub hl [0, 1, 3] rfl)
        · have hf := c_t hf c9
          refine lv_iconst (v := (1 : Int32)) hx hb dX7_isAgain_33 (by decide) ?_
          refine lv_goto (tgt := 38) hx hb dX7_isAgain_34 (by decide) ?_
          exact hJ38 (1 : Int32) hf _ (lv_sub hl [0, 1, 3] rfl)
set_option maxHeartbeats 4000000 in
set_option maxRecDepth 100000 in
theorem kX7_isAgain (h_this : Nat) (h_s : Nat) (h_draft : Nat) (h_past : Nat) (h_kept : Nat) (h_isKept : Nat) (h_facts : Nat) (h_text : Nat) (c_thrown : Int32) (c_undos : Int32) (c_manyFacts : Int32) (c_typed : Int32) (c_from : Int32) (c_to : Int32) (c_token : Int32) (c_fault : Int32) (c_hasHooks : Int32) (c_hasTies : Int32) (c_low : Int32) (c_high : Int32) (c_s : Nat → Int32) (v1 : Int32) (C : Cx cX7_isAgain (some .boolean) 4 RX7 wsX7_isAgain G p s m args meth c) (hP : va_P G.1 CL [(h_this, .inr (7, [.int c_thrown, .ref h_s, .ref h_draft, .ref h_past, .int c_undos, .ref h_kept, .ref h_isKept, .ref h_facts, .int c_manyFacts, .ref h_text, .int c_typed, .int c_from, .int c_to, .int c_token, .int c_fault, .int c_hasHooks, .int c_hasTies, .int c_low, .int c_high])), (h_s, .inl (G.2 0, 24, .inl c_s))] s.heap) {res : Int32} (kr : ∀ (pc : Nat) (ls : Array Slot), narrow .boolean (.int res) = .int res → decode cX7_isAgain pc = .ok (.ireturn, 1) → W p l e rmX7_isAgain s m args below meth c s.heap [] 0 0 Q (F0 m pc ls [.int res])) (hf : fX7_isAgain c_s v1 = some res) {ls : Array Slot} (hl : lv_has ls 4 [(0, .ref h_this), (1, .int v1)]) : W p l e rmX7_isAgain s m args below meth c s.heap [] 0 0 Q (F0 m 0 ls []) := by
  obtain ⟨hx, hb, hr, hlk, hml, hown, hts, hK⟩ := id C
  rw [fX7_isAgain] at hf
  refine lv_iconst (v := (1 : Int32)) hx hb dX7_isAgain_0 (by decide) ?_
  refine lv_istore_n (lv' := [(2, .int (1 : Int32)), (0, .ref h_this), (1, .int v1)]) hx hb dX7_isAgain_1 rfl hl (by decide) rfl (fun ls hl => ?_)
  refine lv_iconst (v := (0 : Int32)) hx hb dX7_isAgain_2 (by decide) ?_
  refine lv_istore_n (lv' := [(3, .int (0 : Int32)), (2, .int (1 : Int32)), (0, .ref h_this), (1, .int v1)]) hx hb dX7_isAgain_3 rfl hl (by decide) rfl (fun ls hl => ?_)
  refine kX7_isAgain_L4 h_this h_s h_draft h_past h_kept h_isKept h_facts h_text c_thrown c_undos c_manyFacts c_typed c_from c_to c_token c_fault c_hasHooks c_hasTies c_low c_high c_s v1 C hP kr ?_ FU (1 : Int32) (0 : Int32) hf _ (lv_sub hl [2, 3, 1, 0] rfl)
  intro v2_x3 hf ls hl
  refine lv_iload_n hx hb dX7_isAgain_45 rfl (lv_at hl 0 rfl) ?_
  refine r_gd hf (fun g9 hf => ?_)
  obtain rfl := Option.some.inj hf
  exact kr _ _ (tf_nar g9) dX7_isAgain_46
end SX7_isAgain
set_option maxHeartbeats 4000000 in
set_option maxRecDepth 100000 in
theorem tX7_isAgain (l : Launch) (G : GG) (h_this : Nat) (h_s : Nat) (h_draft : Nat) (h_past : Nat) (h_kept : Nat) (h_isKept : Nat) (h_facts : Nat) (h_text : Nat) (c_thrown : Int32) (c_undos : Int32) (c_manyFacts : Int32) (c_typed : Int32) (c_from : Int32) (c_to : Int32) (c_token : Int32) (c_fault : Int32) (c_hasHooks : Int32) (c_hasTies : Int32) (c_low : Int32) (c_high : Int32) (c_s : Nat → Int32) (v1 : Int32) (res : Int32) (hf : fX7_isAgain c_s v1 = some res) : MRi l yX7_isAgain wsX7_isAgain rmX7_isAgain G [.ref h_this, .int v1] [(h_this, .inr (7, [.int c_thrown, .ref h_s, .ref h_draft, .ref h_past, .int c_undos, .ref h_kept, .ref h_isKept, .ref h_facts, .int c_manyFacts, .ref h_text, .int c_typed, .int c_from, .int c_to, .int c_token, .int c_fault, .int c_hasHooks, .int c_hasTies, .int c_low, .int c_high])), (h_s, .inl (G.2 0, 24, .inl c_s))] (res) := MRi.of (plainFor_of_name (by decide +kernel)) rfl (Nat.le_of_ble_eq_true rfl) (fun p e s m below meth c C hP ls hl => kX7_isAgain h_this h_s h_draft h_past h_kept h_isKept h_facts h_text c_thrown c_undos c_manyFacts c_typed c_from c_to c_token c_fault c_hasHooks c_hasTies c_low c_high c_s v1 C hP (fun pc ls hn d => rRz C hn d) hf hl)

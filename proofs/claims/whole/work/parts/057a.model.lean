def fX7_plain_L2 (k18 : (Nat → Int32) → Option ((Nat → Int32)))  : Nat → Int32 → (Nat → Int32) → Option ((Nat → Int32))
  | 0, _, _ => none
  | n + 1, v1, c_a0_row => if (24 : Int32) ≤ v1 then k18 c_a0_row else gd (ix v1 24) (fX7_plain_L2 k18 n (v1 + (1 : Int32)) (upd c_a0_row v1.toNatClampNeg (0 : Int32)))
def fX7_plain (c_a0_row : Nat → Int32)  : Option ((Nat → Int32)) := (fX7_plain_L2 (fun (c_a0_row_x1 : Nat → Int32) => some ((upd (upd (upd (upd c_a0_row_x1 0 (2 : Int32)) 1 (2 : Int32)) 3 (12 : Int32)) 5 (1 : Int32)))) FU (0 : Int32) c_a0_row)
theorem hdX7_plain : yX7_plain.cls ≠ "java/lang/invoke/MethodHandle" ∧ yX7_plain.cls ≠ "java/lang/invoke/VarHandle" ∧ (parseMethodDescriptor yX7_plain.desc).map (fun d => d.parameters.length) = some 1 := by decide +kernel
abbrev rmX7_plain : Room := { frames := 0, cells := 0, slots := 0, locals := 0 }
section SX7_plain
variable {p : Program} {l : Launch} {e : Env} {s : State} {m : MethodId} {args : Array Value} {below : List Frame} {meth : Method} {c : Code} {Q : State → Prop} {G : GG} {A : Nat → Prop}
set_option maxHeartbeats 4000000 in
set_option maxRecDepth 100000 in
theorem kX7_plain_L2 (h_a0_this : Nat) (C : Cx cX7_plain none 2 RX7 wsX7_plain G p s m args meth c) (hA : ∀ q : Nat, s.heap.size ≤ q → A q) {res : (Nat → Int32)} (kr : ∀ (pc : Nat) (ls : Array Slot) (H : Heap) (locs : List Loc), va_P G.1 CL [(h_a0_this, .inl (G.2 0, 24, .inl (res)))] H → va_D A [(h_a0_this, .inl (G.2 0, 24, .inl (res)))] → va_S A s.heap H locs → decode cX7_plain pc = .ok (.return_, 1) → W p l e rmX7_plain s m args below meth c H locs 0 0 Q (F0 m pc ls [])) {k18 : (Nat → Int32) → Option ((Nat → Int32))} (hk18 : ∀ (c_a0_row : Nat → Int32) (H : Heap) (locs : List Loc), k18 c_a0_row = some res → va_P G.1 CL [(h_a0_this, .inl (G.2 0, 24, .inl c_a0_row))] H → va_D A [(h_a0_this, .inl (G.2 0, 24, .inl c_a0_row))] → va_S A s.heap H locs → ∀ (ls : Array Slot), lv_has ls 2 [(0, .ref h_a0_this)] → W p l e rmX7_plain s m args below meth c H locs 0 0 Q (F0 m 18 ls [])) : ∀ (n : Nat) (v1 : Int32) (c_a0_row : Nat → Int32) (H : Heap) (locs : List Loc), fX7_plain_L2 k18 n v1 c_a0_row = some res → va_P G.1 CL [(h_a0_this, .inl (G.2 0, 24, .inl c_a0_row))] H → va_D A [(h_a0_this, .inl (G.2 0, 24, .inl c_a0_row))] → va_S A s.heap H locs → ∀ (ls : Array Slot), lv_has ls 2 [(0, .ref h_a0_this), (1, .int v1)] → W p l e rmX7_plain s m args below meth c H locs 0 0 Q (F0 m 2 ls []) := by
  obtain ⟨hx, hb, hr, hlk, hml, hown, hts, hK⟩ := id C
  intro n
  induction n with
  | zero =>
    intro v1 c_a0_row H locs hf
    cases hf
  | succ n ih =>
    intro v1 c_a0_row H locs hf hP hD hS ls hl
    rw [fX7_plain_L2] at hf
    refine lv_iload_n hx hb dX7_plain_2 rfl (lv_at hl 1 rfl) ?_
    refine lv_bipush (v := (24 : Int32)) hx hb dX7_plain_3 (by decide) ?_
    refine lv_icmp_ge (tgt := 18) hx hb dX7_plain_5 (by decide) (fun c9 => ?_) (fun c9 => ?_)
    · have hf := c_t hf c9
      exact hk18 c_a0_row _ _ hf hP hD hS _ (lv_sub hl [0] rfl)
    · have hf := c_f hf c9
      refine lv_aload_n hx hb dX7_plain_8 rfl (lv_at hl 0 rfl) ?_
      refine lv_iload_n hx hb dX7_plain_9 rfl (lv_at hl 1 rfl) ?_
      refine lv_iconst (v := (0 : Int32)) hx hb dX7_plain_10 (by decide) ?_
      refine r_gd hf (fun g9 hf => ?_)
      refine r_iast hx hb hK hP hD hS 0 rfl (ix_in g9) rfl dX7_plain_11 (fun H locs hP hD hS => ?_)
      have hP : va_P G.1 CL [(h_a0_this, .inl (G.2 0, 24, .inl (upd c_a0_row v1.toNatClampNeg (0 : Int32))))] H := hP
      have hD : va_D A [(h_a0_this, .inl (G.2 0, 24, .inl (upd c_a0_row v1.toNatClampNeg (0 : Int32))))] := hD
      refine lv_iinc (v := (v1 + (1 : Int32))) (lv' := [(1, .int (v1 + (1 : Int32))), (0, .ref h_a0_this)]) hx hb dX7_plain_12 hl (k := 1) rfl rfl (by decide) rfl (fun ls hl => ?_)
      refine lv_goto (tgt := 2) hx hb dX7_plain_15 (by decide) ?_
      exact ih (v1 + (1 : Int32)) (upd c_a0_row v1.toNatClampNeg (0 : Int32)) _ _ hf hP hD hS _ (lv_sub hl [1, 0] rfl)
set_option maxHeartbeats 4000000 in
set_option maxRecDepth 100000 in
theorem kX7_plain (h_a0_this : Nat) (c_a0_row : Nat → Int32) (C : Cx cX7_plain none 2 RX7 wsX7_plain G p s m args meth c) (hA : ∀ q : Nat, s.heap.size ≤ q → A q) (hP : va_P G.1 CL [(h_a0_this, .inl (G.2 0, 24, .inl c_a0_row))] s.heap) (hD : va_D A [(h_a0_this, .inl (G.2 0, 24, .inl c_a0_row))]) (hS : va_S A s.heap s.heap []) {res : (Nat → Int32)} (kr : ∀ (pc : Nat) (ls : Array Slot) (H : Heap) (locs : List Loc), va_P G.1 CL [(h_a0_this, .inl (G.2 0, 24, .inl (res)))] H → va_D A [(h_a0_this, .inl (G.2 0, 24, .inl (res)))] → va_S A s.heap H locs → decode cX7_plain pc = .ok (.return_, 1) → W p l e rmX7_plain s m args below meth c H locs 0 0 Q (F0 m pc ls [])) (hf : fX7_plain c_a0_row = some res) {ls : Array Slot} (hl : lv_has ls 2 [(0, .ref h_a0_this)]) : W p l e rmX7_plain s m args below meth c s.heap [] 0 0 Q (F0 m 0 ls []) := by
  obtain ⟨hx, hb, hr, hlk, hml, hown, hts, hK⟩ := id C
  rw [fX7_plain] at hf
  refine lv_iconst (v := (0 : Int32)) hx hb dX7_plain_0 (by decide) ?_
  refine lv_istore_n (lv' := [(1, .int (0 : Int32)), (0, .ref h_a0_this)]) hx hb dX7_plain_1 rfl hl (by decide) rfl (fun ls hl => ?_)
  refine kX7_plain_L2 h_a0_this C hA kr ?_ FU (0 : Int32) c_a0_row _ _ hf hP hD hS _ (lv_sub hl [1, 0] rfl)
  intro c_a0_row_x1 H locs hf hP hD hS ls hl
  refine lv_aload_n hx hb dX7_plain_18 rfl (lv_at hl 0 rfl) ?_
  refine lv_iconst (v := (0 : Int32)) hx hb dX7_plain_19 (by decide) ?_
  refine lv_iconst (v := (2 : Int32)) hx hb dX7_plain_20 (by decide) ?_
  refine r_iast (j := 0) hx hb hK hP hD hS 0 rfl (ix_in (n := 24) (by decide)) (by decide) dX7_plain_21 (fun H locs hP hD hS => ?_)
  have hP : va_P G.1 CL [(h_a0_this, .inl (G.2 0, 24, .inl (upd c_a0_row_x1 0 (2 : Int32))))] H := hP
  have hD : va_D A [(h_a0_this, .inl (G.2 0, 24, .inl (upd c_a0_row_x1 0 (2 : Int32))))] := hD
  refine lv_aload_n hx hb dX7_plain_22 rfl (lv_at hl 0 rfl) ?_
  refine lv_iconst (v := (1 : Int32)) hx hb dX7_plain_23 (by decide) ?_
  refine lv_iconst (v := (2 : Int32)) hx hb dX7_plain_24 (by decide) ?_
  refine r_iast (j := 1) hx hb hK hP hD hS 0 rfl (ix_in (n := 24) (by decide)) (by decide) dX7_plain_25 (fun H locs hP hD hS => ?_)
  have hP : va_P G.1 CL [(h_a0_this, .inl (G.2 0, 24, .inl (upd (upd c_a0_row_x1 0 (2 : Int32)) 1 (2 : Int32))))] H := hP
  have hD : va_D A [(h_a0_this, .inl (G.2 0, 24, .inl (upd (upd c_a0_row_x1 0 (2 : Int32)) 1 (2 : Int32))))] := hD
  refine lv_aload_n hx hb dX7_plain_26 rfl (lv_at hl 0 rfl) ?_
  refine lv_iconst (v := (3 : Int32)) hx hb dX7_plain_27 (by decide) ?_
  refine lv_bipush (v := (12 : Int32)) hx hb dX7_plain_28 (by decide) ?_
  refine r_iast (j := 3) hx hb hK hP hD hS 0 rfl (ix_in (n := 24) (by decide)) (by decide) dX7_plain_30 (fun H locs hP hD hS => ?_)
  have hP : va_P G.1 CL [(h_a0_this, .inl (G.2 0, 24, .inl (upd (upd (upd c_a0_row_x1 0 (2 : Int32)) 1 (2 : Int32)) 3 (12 : Int32))))] H := hP
  have hD : va_D A [(h_a0_this, .inl (G.2 0, 24, .inl (upd (upd (upd c_a0_row_x1 0 (2 : Int32)) 1 (2 : Int32)) 3 (12 : Int32))))] := hD
  refine lv_aload_n hx hb dX7_plain_31 rfl (lv_at hl 0 rfl) ?_
  refine lv_iconst (v := (5 : Int32)) hx hb dX7_plain_32 (by decide) ?_
  refine lv_iconst (v := (1 : Int32)) hx hb dX7_plain_33 (by decide) ?_
  refine r_iast (j := 5) hx hb hK hP hD hS 0 rfl (ix_in (n := 24) (by decide)) (by decide) dX7_plain_34 (fun H locs hP hD hS => ?_)
  have hP : va_P G.1 CL [(h_a0_this, .inl (G.2 0, 24, .inl (upd (upd (upd (upd c_a0_row_x1 0 (2 : Int32)) 1 (2 : Int32)) 3 (12 : Int32)) 5 (1 : Int32))))] H := hP
  have hD : va_D A [(h_a0_this, .inl (G.2 0, 24, .inl (upd (upd (upd (upd c_a0_row_x1 0 (2 : Int32)) 1 (2 : Int32)) 3 (12 : Int32)) 5 (1 : Int32))))] := hD
  obtain rfl := Option.some.inj hf
  exact kr _ _ _ _ hP hD hS dX7_plain_35
end SX7_plain
set_option maxHeartbeats 4000000 in
set_option maxRecDepth 100000 in
theorem tX7_plain (l : Launch) (G : GG) (h_a0_this : Nat) (c_a0_row : Nat → Int32) (res : (Nat → Int32)) (hf : fX7_plain c_a0_row = some res) : MWv l yX7_plain wsX7_plain rmX7_plain G [.ref h_a0_this] [(h_a0_this, .inl (G.2 0, 24, .inl c_a0_row))] [(h_a0_this, .inl (G.2 0, 24, .inl (res)))] := MWv.of (plainFor_of_name (by decide +kernel)) rfl (Nat.le_of_ble_eq_true rfl) (fun p e s m below meth c A C hA hP hD hS ls hl => kX7_plain h_a0_this c_a0_row C hA hP hD hS (fun pc ls H locs hP hD hS d => rWv C hP hD hS d) hf hl)
def fX7_in  (v0 : Int32) (v1 : Int32) (v2 : Int32) : Option (Int32) := if v0 < v1 then some ((0 : Int32)) else if v2 < v0 then some ((0 : Int32)) else some ((1 : Int32))
theorem hdX7_in : yX7_in.cls ≠ "java/lang/invoke/MethodHandle" ∧ yX7_in.cls ≠ "java/lang/invoke/VarHandle" ∧ (parseMethodDescriptor yX7_in.desc).map (fun d => d.parameters.length) = some 3 := by decide +kernel
abbrev rmX7_in : Room := { frames := 0, cells := 0, slots := 0, locals := 0 }
section SX7_in
variable {p : Program} {l : Launch} {e : Env} {s : State} {m : MethodId} {args : Array Value} {below : List Frame} {meth : Method} {c : Code} {Q : State → Prop} {G : GG}
set_option maxHeartbeats 4000000 in
set_option maxRecDepth 100000 in
theorem kX7_in (v0 : Int32) (v1 : Int32) (v2 : Int32) (C : Cx cX7_in (some .boolean) 3 RX7 wsX7_in G p s m args meth c) (hP : va_P G.1 CL [] s.heap) {res : Int32} (kr : ∀ (pc : Nat) (ls : Array Slot), narrow .boolean (.int res) = .int res → decode cX7_in pc = .ok (.ireturn, 1) → W p l e rmX7_in s m args below meth c s.heap [] 0 0 Q (F0 m pc ls [.int res])) (hf : fX7_in v0 v1 v2 = some res) {ls : Array Slot} (hl : lv_has ls 3 [(0, .int v0), (1, .int v1), (2, .int v2)]) : W p l e rmX7_in s m args below meth c s.heap [] 0 0 Q (F0 m 0 ls []) := by
  obtain ⟨hx, hb, hr, hlk, hml, hown, hts, hK⟩ := id C
  rw [fX7_in] at hf
  refine lv_iload_n hx hb dX7_in_0 rfl (lv_at hl 0 rfl) ?_
  refine lv_iload_n hx hb dX7_in_1 rfl (lv_at hl 1 rfl) ?_
  refine lv_icmp_lt (tgt := 14) hx hb dX7_in_2 (by decide) (fun c9 => ?_) (fun c9 => ?_)
  · have hf := c_t hf c9
    refine lv_iconst (v := (0 : Int32)) hx hb dX7_in_14 (by decide) ?_
    obtain rfl := Option.some.inj hf
    exact kr _ _ nb0 dX7_in_15
  · have hf := c_f hf c9
    refine lv_iload_n hx hb dX7_in_5 rfl (lv_at hl 0 rfl) ?_
    refine lv_iload_n hx hb dX7_in_6 rfl (lv_at hl 2 rfl) ?_
    refine lv_icmp_gt (tgt := 14) hx hb dX7_in_7 (by decide) (fun c9 => ?_) (fun c9 => ?_)
    · have hf := c_t hf c9
      refine lv_iconst (v := (0 : Int32)) hx hb dX7_in_14 (by decide) ?_
      obtain rfl := Option.some.inj hf
      exact kr _ _ nb0 dX7_in_15
    · have hf := c_f hf c9
      refine lv_iconst (v := (1 : Int32)) hx hb dX7_in_10 (by decide) ?_
      refine lv_goto (tgt := 15) hx hb dX7_in_11 (by decide) ?_
      obtain rfl := Option.some.inj hf
      exact kr _ _ nb1 dX7_in_15
end SX7_in
set_option maxHeartbeats 4000000 in
set_option maxRecDepth 100000 in
theorem tX7_in (l : Launch) (G : GG) (v0 : Int32) (v1 : Int32) (v2 : Int32) (res : Int32) (hf : fX7_in v0 v1 v2 = some res) : MRi l yX7_in wsX7_in rmX7_in G [.int v0, .int v1, .int v2] [] (res) := MRi.of (plainFor_of_name (by decide +kernel)) rfl (Nat.le_of_ble_eq_true rfl) (fun p e s m below meth c C hP ls hl => kX7_in v0 v1 v2 C hP (fun pc ls hn d => rRz C hn d) hf hl)
def fX7_type (c_thrown : Int32) (c_typed : Int32) (c_text : Nat → Int32) (v1 : Int32) : Option (Int32 × Int32 × Int32 × (Nat → Int32)) := (fX7_in v1 (0 : Int32) (255 : Int32)).bind (fun u1 => if u1 = 0 then some ((-1 : Int32), (0 : Int32), c_typed, c_text) else if c_typed = (120 : Int32) then some ((-3 : Int32), (0 : Int32), c_typed, c_text) else gd (ix c_typed 120) (some ((c_typed + (1 : Int32)), (0 : Int32), (c_typed + (1 : Int32)), (upd c_text c_typed.toNatClampNeg (vp_nar .byte (v1.toInt8.toInt32))))))
theorem iX7_type_7 : ∀ w ∈ wsX70, w ∈ wsX7_type := fun w h => List.mem_cons_of_mem _ (List.mem_append_right _ (h))
theorem hdX7_type : yX7_type.cls = RX7 ∧ yX7_type.cls ≠ "java/lang/invoke/MethodHandle" ∧ yX7_type.cls ≠ "java/lang/invoke/VarHandle" ∧ (parseMethodDescriptor yX7_type.desc).map (fun d => d.parameters.length) = some 1 := by decide +kernel
abbrev rmX7_type : Room := { frames := 1, cells := 0, slots := 0, locals := 22 }
section SX7_type
variable {p : Program} {l : Launch} {e : Env} {s : State} {m : MethodId} {args : Array Value} {below : List Frame} {meth : Method} {c : Code} {Q : State → Prop} {G : GG} {A : Nat → Prop}
set_option maxHeartbeats 4000000 in
set_option maxRecDepth 100000 in
theorem kX7_type (h_this : Nat) (h_s : Nat) (h_draft : Nat) (h_past : Nat) (h_kept : Nat) (h_isKept : Nat) (h_facts : Nat) (h_text : Nat) (c_thrown : Int32) (c_undos : Int32) (c_manyFacts : Int32) (c_typed : Int32) (c_from : Int32) (c_to : Int32) (c_token : Int32) (c_fault : Int32) (c_hasHooks : Int32) (c_hasTies : Int32) (c_low : Int32) (c_high : Int32) (c_text : Nat → Int32) (v1 : Int32) (C : Cx cX7_type (some .int) 2 RX7 wsX7_type G p s m args meth c) (hA : ∀ q : Nat, s.heap.size ≤ q → A q) (hP : va_P G.1 CL [(h_this, .inr (7, [.int c_thrown, .ref h_s, .ref h_draft, .ref h_past, .int c_undos, .ref h_kept, .ref h_isKept, .ref h_facts, .int c_manyFacts, .ref h_text, .int c_typed, .int c_from, .int c_to, .int c_token, .int c_fault, .int c_hasHooks, .int c_hasTies, .int c_low, .int c_high])), (h_text, .inl (G.2 1, 120, .inl c_text))] s.heap) (hD : va_D A [(h_this, .inr (7, [.int c_thrown, .ref h_s, .ref h_draft, .ref h_past, .int c_undos, .ref h_kept, .ref h_isKept, .ref h_facts, .int c_manyFacts, .ref h_text, .int c_typed, .int c_from, .int c_to, .int c_token, .int c_fault, .int c_hasHooks, .int c_hasTies, .int c_low, .int c_high])), (h_text, .inl (G.2 1, 120, .inl c_text))]) (hS : va_S A s.heap s.heap []) {res : Int32 × Int32 × Int32 × (Nat → Int32)} (kr : ∀ (pc : Nat) (ls : Array Slot) (H : Heap) (locs : List Loc), va_P G.1 CL [(h_this, .inr (7, [.int (res.2.1), .ref h_s, .ref h_draft, .ref h_past, .int c_undos, .ref h_kept, .ref h_isKept, .ref h_facts, .int c_manyFacts, .ref h_text, .int (res.2.2.1), .int c_from, .int c_to, .int c_token, .int c_fault, .int c_hasHooks, .int c_hasTies, .int c_low, .int c_high])), (h_text, .inl (G.2 1, 120, .inl (res.2.2.2)))] H → va_D A [(h_this, .inr (7, [.int (res.2.1), .ref h_s, .ref h_draft, .ref h_past, .int c_undos, .ref h_kept, .ref h_isKept, .ref h_facts, .int c_manyFacts, .ref h_text, .int (res.2.2.1), .int c_from, .int c_to, .int c_token, .int c_fault, .int c_hasHooks, .int c_hasTies, .int c_low, .int c_high])), (h_text, .inl (G.2 1, 120, .inl (res.2.2.2)))] → va_S A s.heap H locs → decode cX7_type pc = .ok (.ireturn, 1) → W p l e rmX7_type s m args below meth c H locs 0 0 Q (F0 m pc ls [.int res.1])) (hf : fX7_type c_thrown c_typed c_text v1 = some res) {ls : Array Slot} (hl : lv_has ls 2 [(0, .ref h_this), (1, .int v1)]) : W p l e rmX7_type s m args below meth c s.heap [] 0 0 Q (F0 m 0 ls []) := by
  obtain ⟨hx, hb, hr, hlk, hml, hown, hts, hK⟩ := id C
  rw [fX7_type] at hf
  refine lv_aload_n hx hb dX7_type_0 rfl (lv_at hl 0 rfl) ?_
  refine lv_iconst (v := (0 : Int32)) hx hb dX7_type_1 (by decide) ?_
  refine va_put (D := G.1) (cl := CL) (ci := 7) (v := .int (0 : Int32)) (ty := .int) (C := RX7) (T := TX7) (N := 19) hx hb hts iX7_type_7 tyX7 tyX7_ok nmX7 hown hK hP hD hS 0 rfl rfl 0 (by decide) (hts (.fieldLink RX7 37 "LoomCardsModel" "thrown" "I") (List.mem_of_getElem? (i := 1) rfl)) (fun _ h9 => h9) rfl (tyX7_ok 0 (by decide)) rfl rfl (Nat.le_of_ble_eq_true rfl) dX7_type_2 (fun H locs hP hD hS => ?_)
  have hP : va_P G.1 CL [(h_this, .inr (7, [.int (0 : Int32), .ref h_s, .ref h_draft, .ref h_past, .int c_undos, .ref h_kept, .ref h_isKept, .ref h_facts, .int c_manyFacts, .ref h_text, .int c_typed, .int c_from, .int c_to, .int c_token, .int c_fault, .int c_hasHooks, .int c_hasTies, .int c_low, .int c_high])), (h_text, .inl (G.2 1, 120, .inl c_text))] H := hP
  have hD : va_D A [(h_this, .inr (7, [.int (0 : Int32), .ref h_s, .ref h_draft, .ref h_past, .int c_undos, .ref h_kept, .ref h_isKept, .ref h_facts, .int c_manyFacts, .ref h_text, .int c_typed, .int c_from, .int c_to, .int c_token, .int c_fault, .int c_hasHooks, .int c_hasTies, .int c_low, .int c_high])), (h_text, .inl (G.2 1, 120, .inl c_text))] := hD
  refine lv_iload_n hx hb dX7_type_5 rfl (lv_at hl 1 rfl) ?_
  refine lv_iconst (v := (0 : Int32)) hx hb dX7_type_6 (by decide) ?_
  refine lv_sipush (v := (255 : Int32)) hx hb dX7_type_7 (by decide) ?_
  refine r_bind hf (fun u1 hu1 hf => ?_)
  refine cRiS (rest := []) ⟨hx, hb, hml, hown, hts⟩ hK (tX7_in l G v1 (0 : Int32) (255 : Int32) u1 hu1) gX7_type_X7_in rfl hdX7_in rfl rfl rfl ⟨Nat.le_of_ble_eq_true rfl, Nat.le_of_ble_eq_true rfl⟩ hP [] rfl hl.1 (Nat.le_of_ble_eq_true rfl) rfl dX7_type_10 ⟨Nat.zero_le _, Nat.zero_le _⟩ ?_
  refine lv_if_ne (tgt := 18) hx hb dX7_type_13 (by decide) (fun c9 => ?_) (fun c9 => ?_)
  · have hf := c_f hf c9
    refine lv_aload_n hx hb dX7_type_18 rfl (lv_at hl 0 rfl) ?_
    refine va_get (D := G.1) (cl := CL) (ci := 7) (C := RX7) (T := TX7) (N := 19) hx hb hts iX7_type_7 hown hK hP 0 rfl rfl 10 (by decide) (hts (.fieldLink RX7 45 "LoomCardsModel" "typed" "I") (List.mem_of_getElem? (i := 2) rfl)) (fun _ h9 => h9) rfl dX7_type_19 ?_
    refine lv_bipush (v := (120 : Int32)) hx hb dX7_type_22 (by decide) ?_
    refine lv_icmp_ne (tgt := 30) hx hb dX7_type_24 (by decide) (fun c9 => ?_) (fun c9 => ?_)
    · have hf := c_f hf c9
      refine lv_aload_n hx hb dX7_type_30 rfl (lv_at hl 0 rfl) ?_
      refine va_get (D := G.1) (cl := CL) (ci := 7) (C := RX7) (T := TX7) (N := 19) hx hb hts iX7_type_7 hown hK hP 0 rfl rfl 9 (by decide) (hts (.fieldLink RX7 29 "LoomCardsModel" "text" "[B") (List.mem_of_getElem? (i := 3) rfl)) (fun _ h9 => h9) rfl dX7_type_31 ?_
      refine lv_aload_n hx hb dX7_type_34 rfl (lv_at hl 0 rfl) ?_
      refine va_get (D := G.1) (cl := CL) (ci := 7) (C := RX7) (T := TX7) (N := 19) hx hb hts iX7_type_7 hown hK hP 0 rfl rfl 10 (by decide) (hts (.fieldLink RX7 45 "LoomCardsModel" "typed" "I") (List.mem_of_getElem? (i := 2) rfl)) (fun _ h9 => h9) rfl dX7_type_35 ?_
      refine lv_iload_n hx hb dX7_type_38 rfl (lv_at hl 1 rfl) ?_
      refine lv_i2b (v := v1.toInt8.toInt32) hx hb dX7_type_39 rfl ?_
      refine r_gd hf (fun g9 hf => ?_)
      refine r_bast hx hb hK hP hD hS 1 rfl (ix_in g9) rfl dX7_type_40 (fun H locs hP hD hS => ?_)
      have hP : va_P G.1 CL [(h_this, .inr (7, [.int (0 : Int32), .ref h_s, .ref h_draft, .ref h_past, .int c_undos, .ref h_kept, .ref h_isKept, .ref h_facts, .int c_manyFacts, .ref h_text, .int c_typed, .int c_from, .int c_to, .int c_token, .int c_fault, .int c_hasHooks, .int c_hasTies, .int c_low, .int c_high])), (h_text, .inl (G.2 1, 120, .inl (upd c_text c_typed.toNatClampNeg (vp_nar .byte (v1.toInt8.toInt32)))))] H := hP
      have hD : va_D A [(h_this, .inr (7, [.int (0 : Int32), .ref h_s, .ref h_draft, .ref h_past, .int c_undos, .ref h_kept, .ref h_isKept, .ref h_facts, .int c_manyFacts, .ref h_text, .int c_typed, .int c_from, .int c_to, .int c_token, .int c_fault, .int c_hasHooks, .int c_hasTies, .int c_low, .int c_high])), (h_text, .inl (G.2 1, 120, .inl (upd c_text c_typed.toNatClampNeg (vp_nar .byte (v1.toInt8.toInt32)))))] := hD
      refine lv_aload_n hx hb dX7_type_41 rfl (lv_at hl 0 rfl) ?_
      refine lv_dup hx hb dX7_type_42 rfl ?_
      refine va_get (D := G.1) (cl := CL) (ci := 7) (C := RX7) (T := TX7) (N := 19) hx hb hts iX7_type_7 hown hK hP 0 rfl rfl 10 (by decide) (hts (.fieldLink RX7 45 "LoomCardsModel" "typed" "I") (List.mem_of_getElem? (i := 2) rfl)) (fun _ h9 => h9) rfl dX7_type_43 ?_
      refine lv_iconst (v := (1 : Int32)) hx hb dX7_type_46 (by decide) ?_
      refine lv_iadd hx hb dX7_type_47 ?_
      refine va_put (D := G.1) (cl := CL) (ci := 7) (v := .int (c_typed + (1 : Int32))) (ty := .int) (C := RX7) (T := TX7) (N := 19) hx hb hts iX7_type_7 tyX7 tyX7_ok nmX7 hown hK hP hD hS 0 rfl rfl 10 (by decide) (hts (.fieldLink RX7 45 "LoomCardsModel" "typed" "I") (List.mem_of_getElem? (i := 2) rfl)) (fun _ h9 => h9) rfl (tyX7_ok 10 (by decide)) rfl rfl (Nat.le_of_ble_eq_true rfl) dX7_type_48 (fun H locs hP hD hS => ?_)
      have hP : va_P G.1 CL [(h_this, .inr (7, [.int (0 : Int32), .ref h_s, .ref h_draft, .ref h_past, .int c_undos, .ref h_kept, .ref h_isKept, .ref h_facts, .int c_manyFacts, .ref h_text, .int (c_typed + (1 : Int32)), .int c_from, .int c_to, .int c_token, .int c_fault, .int c_hasHooks, .int c_hasTies, .int c_low, .int c_high])), (h_text, .inl (G.2 1, 120, .inl (upd c_text c_typed.toNatClampNeg (vp_nar .byte (v1.toInt8.toInt32)))))] H := hP
      have hD : va_D A [(h_this, .inr (7, [.int (0 : Int32), .ref h_s, .ref h_draft, .ref h_past, .int c_undos, .ref h_kept, .ref h_isKept, .ref h_facts, .int c_manyFacts, .ref h_text, .int (c_typed + (1 : Int32)), .int c_from, .int c_to, .int c_token, .int c_fault, .int c_hasHooks, .int c_hasTies, .int c_low, .int c_high])), (h_text, .inl (G.2 1, 120, .inl (upd c_text c_typed.toNatClampNeg (vp_nar .byte (v1.toInt8.toInt32)))))] := hD
      refine lv_aload_n hx hb dX7_type_51 rfl (lv_at hl 0 rfl) ?_
      refine va_get (D := G.1) (cl := CL) (ci := 7) (C := RX7) (T := TX7) (N := 19) hx hb hts iX7_type_7 hown hK hP 0 rfl rfl 10 (by decide) (hts (.fieldLink RX7 45 "LoomCardsModel" "typed" "I") (List.mem_of_getElem? (i := 2) rfl)) (fun _ h9 => h9) rfl dX7_type_52 ?_
      obtain rfl := Option.some.inj hf
      exact kr _ _ _ _ hP hD hS dX7_type_55
    · have hf := c_t hf c9
      refine lv_bipush (v := (-3 : Int32)) hx hb dX7_type_27 (by decide) ?_
      obtain rfl := Option.some.inj hf
      exact kr _ _ _ _ hP hD hS dX7_type_29
  · have hf := c_t hf c9
    refine lv_iconst (v := (-1 : Int32)) hx hb dX7_type_16 (by decide) ?_
    obtain rfl := Option.some.inj hf
    exact kr _ _ _ _ hP hD hS dX7_type_17
end SX7_type
set_option maxHeartbeats 4000000 in
set_option maxRecDepth 100000 in
theorem tX7_type (l : Launch) (G : GG) (h_this : Nat) (h_s : Nat) (h_draft : Nat) (h_past : Nat) (h_kept : Nat) (h_isKept : Nat) (h_facts : Nat) (h_text : Nat) (c_thrown : Int32) (c_undos : Int32) (c_manyFacts : Int32) (c_typed : Int32) (c_from : Int32) (c_to : Int32) (c_token : Int32) (c_fault : Int32) (c_hasHooks : Int32) (c_hasTies : Int32) (c_low : Int32) (c_high : Int32) (c_text : Nat → Int32) (v1 : Int32) (res : Int32 × Int32 × Int32 × (Nat → Int32)) (hf : fX7_type c_thrown c_typed c_text v1 = some res) : MWi l yX7_type wsX7_type rmX7_type G [.ref h_this, .int v1] [(h_this, .inr (7, [.int c_thrown, .ref h_s, .ref h_draft, .ref h_past, .int c_undos, .ref h_kept, .ref h_isKept, .ref h_facts, .int c_manyFacts, .ref h_text, .int c_typed, .int c_from, .int c_to, .int c_token, .int c_fault, .int c_hasHooks, .int c_hasTies, .int c_low, .int c_high])), (h_text, .inl (G.2 1, 120, .inl c_text))] (res.1) [(h_this, .inr (7, [.int (res.2.1), .ref h_s, .ref h_draft, .ref h_past, .int c_undos, .ref h_kept, .ref h_isKept, .ref h_facts, .int c_manyFacts, .ref h_text, .int (res.2.2.1), .int c_from, .int c_to, .int c_token, .int c_fault, .int c_hasHooks, .int c_hasTies, .int c_low, .int c_high])), (h_text, .inl (G.2 1, 120, .inl (res.2.2.2)))] := MWi.of (plainFor_of_name (by decide +kernel)) rfl (Nat.le_of_ble_eq_true rfl) (fun p e s m below meth c A C hA hP hD hS ls hl => kX7_type h_this h_s h_draft h_past h_kept h_isKept h_facts h_text c_thrown c_undos c_manyFacts c_typed c_from c_to c_token c_fault c_hasHooks c_hasTies c_low c_high c_text v1 C hA hP hD hS (fun pc ls H locs hP hD hS d => rWi C hP hD hS d) hf hl)
def fX7_clear (c_thrown : Int32) (c_typed : Int32)  : Option (Int32 × Int32 × Int32) := some (c_typed, (0 : Int32), (0 : Int32))
theorem iX7_clear_7 : ∀ w ∈ wsX70, w ∈ wsX7_clear := fun w h => List.mem_cons_of_mem _ (List.mem_append_right _ (h))
theorem hdX7_clear : yX7_clear.cls = RX7 ∧ yX7_clear.cls ≠ "java/lang/invoke/MethodHandle" ∧ yX7_clear.cls ≠ "java/lang/invoke/VarHandle" ∧ (parseMethodDescriptor yX7_clear.desc).map (fun d => d.parameters.length) = some 0 := by decide +kernel
abbrev rmX7_clear : Room := { frames := 0, cells := 0, slots := 0, locals := 0 }
section SX7_clear
variable {p : Program} {l : Launch} {e : Env} {s : State} {m : MethodId} {args : Array Value} {below : List Frame} {meth : Method} {c : Code} {Q : State → Prop} {G : GG} {A : Nat → Prop}
set_option maxHeartbeats 4000000 in
set_option maxRecDepth 100000 in
theorem kX7_clear (h_this : Nat) (h_s : Nat) (h_draft : Nat) (h_past : Nat) (h_kept : Nat) (h_isKept : Nat) (h_facts : Nat) (h_text : Nat) (c_thrown : Int32) (c_undos : Int32) (c_manyFacts : Int32) (c_typed : Int32) (c_from : Int32) (c_to : Int32) (c_token : Int32) (c_fault : Int32) (c_hasHooks : Int32) (c_hasTies : Int32) (c_low : Int32) (c_high : Int32) (C : Cx cX7_clear (some .int) 2 RX7 wsX7_clear G p s m args meth c) (hA : ∀ q : Nat, s.heap.size ≤ q → A q) (hP : va_P G.1 CL [(h_this, .inr (7, [.int c_thrown, .ref h_s, .ref h_draft, .ref h_past, .int c_undos, .ref h_kept, .ref h_isKept, .ref h_facts, .int c_manyFacts, .ref h_text, .int c_typed, .int c_from, .int c_to, .int c_token, .int c_fault, .int c_hasHooks, .int c_hasTies, .int c_low, .int c_high]))] s.heap) (hD : va_D A [(h_this, .inr (7, [.int c_thrown, .ref h_s, .ref h_draft, .ref h_past, .int c_undos, .ref h_kept, .ref h_isKept, .ref h_facts, .int c_manyFacts, .ref h_text, .int c_typed, .int c_from, .int c_to, .int c_token, .int c_fault, .int c_hasHooks, .int c_hasTies, .int c_low, .int c_high]))]) (hS : va_S A s.heap s.heap []) {res : Int32 × Int32 × Int32} (kr : ∀ (pc : Nat) (ls : Array Slot) (H : Heap) (locs : List Loc), va_P G.1 CL [(h_this, .inr (7, [.int (res.2.1), .ref h_s, .ref h_draft, .ref h_past, .int c_undos, .ref h_kept, .ref h_isKept, .ref h_facts, .int c_manyFacts, .ref h_text, .int (res.2.2), .int c_from, .int c_to, .int c_token, .int c_fault, .int c_hasHooks, .int c_hasTies, .int c_low, .int c_high]))] H → va_D A [(h_this, .inr (7, [.int (res.2.1), .ref h_s, .ref h_draft, .ref h_past, .int c_undos, .ref h_kept, .ref h_isKept, .ref h_facts, .int c_manyFacts, .ref h_text, .int (res.2.2), .int c_from, .int c_to, .int c_token, .int c_fault, .int c_hasHooks, .int c_hasTies, .int c_low, .int c_high]))] → va_S A s.heap H locs → decode cX7_clear pc = .ok (.ireturn, 1) → W p l e rmX7_clear s m args below meth c H locs 0 0 Q (F0 m pc ls [.int res.1])) (hf : fX7_clear c_thrown c_typed = some res) {ls : Array Slot} (hl : lv_has ls 2 [(0, .ref h_this)]) : W p l e rmX7_clear s m args below meth c s.heap [] 0 0 Q (F0 m 0 ls []) := by
  obtain ⟨hx, hb, hr, hlk, hml, hown, hts, hK⟩ := id C
  rw [fX7_clear] at hf
  refine lv_aload_n hx hb dX7_clear_0 rfl (lv_at hl 0 rfl) ?_
  refine lv_iconst (v := (0 : Int32)) hx hb dX7_clear_1 (by decide) ?_
  refine va_put (D := G.1) (cl := CL) (ci := 7) (v := .int (0 : Int32)) (ty := .int) (C := RX7) (T := TX7) (N := 19) hx hb hts iX7_clear_7 tyX7 tyX7_ok nmX7 hown hK hP hD hS 0 rfl rfl 0 (by decide) (hts (.fieldLink RX7 37 "LoomCardsModel" "thrown" "I") (List.mem_of_getElem? (i := 1) rfl)) (fun _ h9 => h9) rfl (tyX7_ok 0 (by decide)) rfl rfl (Nat.le_of_ble_eq_true rfl) dX7_clear_2 (fun H locs hP hD hS => ?_)
  have hP : va_P G.1 CL [(h_this, .inr (7, [.int (0 : Int32), .ref h_s, .ref h_draft, .ref h_past, .int c_undos, .ref h_kept, .ref h_isKept, .ref h_facts, .int c_manyFacts, .ref h_text, .int c_typed, .int c_from, .int c_to, .int c_token, .int c_fault, .int c_hasHooks, .int c_hasTies, .int c_low, .int c_high]))] H := hP
  have hD : va_D A [(h_this, .inr (7, [.int (0 : Int32), .ref h_s, .ref h_draft, .ref h_past, .int c_undos, .ref h_kept, .ref h_isKept, .ref h_facts, .int c_manyFacts, .ref h_text, .int c_typed, .int c_from, .int c_to, .int c_token, .int c_fault, .int c_hasHooks, .int c_hasTies, .int c_low, .int c_high]))] := hD
  refine lv_aload_n hx hb dX7_clear_5 rfl (lv_at hl 0 rfl) ?_
  refine va_get (D := G.1) (cl := CL) (ci := 7) (C := RX7) (T := TX7) (N := 19) hx hb hts iX7_clear_7 hown hK hP 0 rfl rfl 10 (by decide) (hts (.fieldLink RX7 45 "LoomCardsModel" "typed" "I") (List.mem_of_getElem? (i := 2) rfl)) (fun _ h9 => h9) rfl dX7_clear_6 ?_
  refine lv_istore_n (lv' := [(1, .int c_typed), (0, .ref h_this)]) hx hb dX7_clear_9 rfl hl (by decide) rfl (fun ls hl => ?_)
  refine lv_aload_n hx hb dX7_clear_10 rfl (lv_at hl 1 rfl) ?_
  refine lv_iconst (v := (0 : Int32)) hx hb dX7_clear_11 (by decide) ?_
  refine va_put (D := G.1) (cl := CL) (ci := 7) (v := .int (0 : Int32)) (ty := .int) (C := RX7) (T := TX7) (N := 19) hx hb hts iX7_clear_7 tyX7 tyX7_ok nmX7 hown hK hP hD hS 0 rfl rfl 10 (by decide) (hts (.fieldLink RX7 45 "LoomCardsModel" "typed" "I") (List.mem_of_getElem? (i := 2) rfl)) (fun _ h9 => h9) rfl (tyX7_ok 10 (by decide)) rfl rfl (Nat.le_of_ble_eq_true rfl) dX7_clear_12 (fun H locs hP hD hS => ?_)
  have hP : va_P G.1 CL [(h_this, .inr (7, [.int (0 : Int32), .ref h_s, .ref h_draft, .ref h_past, .int c_undos, .ref h_kept, .ref h_isKept, .ref h_facts, .int c_manyFacts, .ref h_text, .int (0 : Int32), .int c_from, .int c_to, .int c_token, .int c_fault, .int c_hasHooks, .int c_hasTies, .int c_low, .int c_high]))] H := hP
  have hD : va_D A [(h_this, .inr (7, [.int (0 : Int32), .ref h_s, .ref h_draft, .ref h_past, .int c_undos, .ref h_kept, .ref h_isKept, .ref h_facts, .int c_manyFacts, .ref h_text, .int (0 : Int32), .int c_from, .int c_to, .int c_token, .int c_fault, .int c_hasHooks, .int c_hasTies, .int c_low, .int c_high]))] := hD
  refine lv_iload_n hx hb dX7_clear_15 rfl (lv_at hl 0 rfl) ?_
  obtain rfl := Option.some.inj hf
  exact kr _ _ _ _ hP hD hS dX7_clear_16
end SX7_clear
set_option maxHeartbeats 4000000 in
set_option maxRecDepth 100000 in
theorem tX7_clear (l : Launch) (G : GG) (h_this : Nat) (h_s : Nat) (h_draft : Nat) (h_past : Nat) (h_kept : Nat) (h_isKept : Nat) (h_facts : Nat) (h_text : Nat) (c_thrown : Int32) (c_undos : Int32) (c_manyFacts : Int32) (c_typed : Int32) (c_from : Int32) (c_to : Int32) (c_token : Int32) (c_fault : Int32) (c_hasHooks : Int32) (c_hasTies : Int32) (c_low : Int32) (c_high : Int32) (res : Int32 × Int32 × Int32) (hf : fX7_clear c_thrown c_typed = some res) : MWi l yX7_clear wsX7_clear rmX7_clear G [.ref h_this] [(h_this, .inr (7, [.int c_thrown, .ref h_s, .ref h_draft, .ref h_past, .int c_undos, .ref h_kept, .ref h_isKept, .ref h_facts, .int c_manyFacts, .ref h_text, .int c_typed, .int c_from, .int c_to, .int c_token, .int c_fault, .int c_hasHooks, .int c_hasTies, .int c_low, .int c_high]))] (res.1) [(h_this, .inr (7, [.int (res.2.1), .ref h_s, .ref h_draft, .ref h_past, .int c_undos, .ref h_kept, .ref h_isKept, .ref h_facts, .int c_manyFacts, .ref h_text, .int (res.2.2), .int c_from, .int c_to, .int c_token, .int c_fault, .int c_hasHooks, .int c_hasTies, .int c_low, .int c_high]))] := MWi.of (plainFor_of_name (by decide +kernel)) rfl (Nat.le_of_ble_eq_true rfl) (fun p e s m below meth c A C hA hP hD hS ls hl => kX7_clear h_this h_s h_draft h_past h_kept h_isKept h_facts h_text c_thrown c_undos c_manyFacts c_typed c_from c_to c_token c_fault c_hasHooks c_hasTies c_low c_high C hA hP hD hS (fun pc ls H locs hP hD hS d => rWi C hP hD hS d) hf hl)
def fX7_at (c_typed : Int32) (c_text : Nat → Int32) (v1 : Int32) : Option (Int32) := if c_typed ≤ v1 then some ((-1 : Int32)) else gd (ix v1 120) (some (((c_text v1.toNatClampNeg) &&& (255 : Int32))))
theorem iX7_at_7 : ∀ w ∈ wsX70, w ∈ wsX7_at := fun w h => List.mem_cons_of_mem _ (List.mem_append_right _ (h))
theorem hdX7_at : yX7_at.cls = RX7 ∧ yX7_at.cls ≠ "java/lang/invoke/MethodHandle" ∧ yX7_at.cls ≠ "java/lang/invoke/VarHandle" ∧ (parseMethodDescriptor yX7_at.desc).map (fun d => d.parameters.length) = some 1 := by decide +kernel
abbrev rmX7_at : Room := { frames := 0, cells := 0, slots := 0, locals := 0 }
section SX7_at
variable {p : Program} {l : Launch} {e : Env} {s : State} {m : MethodId} {args : Array Value} {below : List Frame} {meth : Method} {c : Code} {Q : State → Prop} {G : GG}
set_option maxHeartbeats 4000000 in
set_option maxRecDepth 100000 in
theorem kX7_at (h_this : Nat) (h_s : Nat) (h_draft : Nat) (h_past : Nat) (h_kept : Nat) (h_isKept : Nat) (h_facts : Nat) (h_text : Nat) (c_thrown : Int32) (c_undos : Int32) (c_manyFacts : Int32) (c_typed : Int32) (c_from : Int32) (c_to : Int32) (c_token : Int32) (c_fault : Int32) (c_hasHooks : Int32) (c_hasTies : Int32) (c_low : Int32) (c_high : Int32) (c_text : Nat → Int32) (v1 : Int32) (C : Cx cX7_at (some .int) 2 RX7 wsX7_at G p s m args meth c) (hP : va_P G.1 CL [(h_this, .inr (7, [.int c_thrown, .ref h_s, .ref h_draft, .ref h_past, .int c_undos, .ref h_kept, .ref h_isKept, .ref h_facts, .int c_manyFacts, .ref h_text, .int c_typed, .int c_from, .int c_to, .int c_token, .int c_fault, .int c_hasHooks, .int c_hasTies, .int c_low, .int c_high])), (h_text, .inl (G.2 1, 120, .inl c_text))] s.heap) {res : Int32} (kr : ∀ (pc : Nat) (ls : Array Slot), decode cX7_at pc = .ok (.ireturn, 1) → W p l e rmX7_at s m args below meth c s.heap [] 0 0 Q (F0 m pc ls [.int res])) (hf : fX7_at c_typed c_text v1 = some res) {ls : Array Slot} (hl : lv_has ls 2 [(0, .ref h_this), (1, .int v1)]) : W p l e rmX7_at s m args below meth c s.heap [] 0 0 Q (F0 m 0 ls []) := by
  obtain ⟨hx, hb, hr, hlk, hml, hown, hts, hK⟩ := id C
  rw [fX7_at] at hf
  refine lv_iload_n hx hb dX7_at_0 rfl (lv_at hl 1 rfl) ?_
  refine lv_aload_n hx hb dX7_at_1 rfl (lv_at hl 0 rfl) ?_
  refine va_get (D := G.1) (cl := CL) (ci := 7) (C := RX7) (T := TX7) (N := 19) hx hb hts iX7_at_7 hown hK hP 0 rfl rfl 10 (by decide) (hts (.fieldLink RX7 45 "LoomCardsModel" "typed" "I") (List.mem_of_getElem? (i := 1) rfl)) (fun _ h9 => h9) rfl dX7_at_2 ?_
  refine lv_icmp_ge (tgt := 21) hx hb dX7_at_5 (by decide) (fun c9 => ?_) (fun c9 => ?_)
  · have hf := c_t hf c9
    refine lv_iconst (v := (-1 : Int32)) hx hb dX7_at_21 (by decide) ?_
    obtain rfl := Option.some.inj hf
    exact kr _ _ dX7_at_22
  · have hf := c_f hf c9
    refine lv_aload_n hx hb dX7_at_8 rfl (lv_at hl 0 rfl) ?_
    refine va_get (D := G.1) (cl := CL) (ci := 7) (C := RX7) (T := TX7) (N := 19) hx hb hts iX7_at_7 hown hK hP 0 rfl rfl 9 (by decide) (hts (.fieldLink RX7 29 "LoomCardsModel" "text" "[B") (List.mem_of_getElem? (i := 2) rfl)) (fun _ h9 => h9) rfl dX7_at_9 ?_
    refine lv_iload_n hx hb dX7_at_12 rfl (lv_at hl 1 rfl) ?_
    refine r_gd hf (fun g9 hf => ?_)
    refine r_bald hx hb hK hP 1 rfl (ix_in g9) rfl dX7_at_13 ?_
    refine lv_sipush (v := (255 : Int32)) hx hb dX7_at_14 (by decide) ?_
    refine lv_iand hx hb dX7_at_17 ?_
    refine lv_goto (tgt := 22) hx hb dX7_at_18 (by decide) ?_
    obtain rfl := Option.some.inj hf
    exact kr _ _ dX7_at_22
end SX7_at
set_option maxHeartbeats 4000000 in
set_option maxRecDepth 100000 in
theorem tX7_at (l : Launch) (G : GG) (h_this : Nat) (h_s : Nat) (h_draft : Nat) (h_past : Nat) (h_kept : Nat) (h_isKept : Nat) (h_facts : Nat) (h_text : Nat) (c_thrown : Int32) (c_undos : Int32) (c_manyFacts : Int32) (c_typed : Int32) (c_from : Int32) (c_to : Int32) (c_token : Int32) (c_fault : Int32) (c_hasHooks : Int32) (c_hasTies : Int32) (c_low : Int32) (c_high : Int32) (c_text : Nat → Int32) (v1 : Int32) (res : Int32) (hf : fX7_at c_typed c_text v1 = some res) : MRi l yX7_at wsX7_at rmX7_at G [.ref h_this, .int v1] [(h_this, .inr (7, [.int c_thrown, .ref h_s, .ref h_draft, .ref h_past, .int c_undos, .ref h_kept, .ref h_isKept, .ref h_facts, .int c_manyFacts, .ref h_text, .int c_typed, .int c_from, .int c_to, .int c_token, .int c_fault, .int c_hasHooks, .int c_hasTies, .int c_low, .int c_high])), (h_text, .inl (G.2 1, 120, .inl c_text))] (res) := MRi.of (plainFor_of_name (by decide +kernel)) rfl (Nat.le_of_ble_eq_true rfl) (fun p e s m below meth c C hP ls hl => kX7_at h_this h_s h_draft h_past h_kept h_isKept h_facts h_text c_thrown c_undos c_manyFacts c_typed c_from c_to c_token c_fault c_hasHooks c_hasTies c_low c_high c_text v1 C hP (fun pc ls d => rRi C d) hf hl)
def fX7_isWord (c_typed : Int32) (c_from : Int32) (c_to : Int32) (c_text : Nat → Int32) (v1 : Int32) (v2 : Int32) (v3 : Int32) (v4 : Int32) (v5 : Int32) : Option (Int32) := jn (fun (j10_0 : Int32) => if (c_to - c_from) = j10_0 then (fX7_at c_typed c_text c_from).bind (fun u1 => if u1 = v1 then (fX7_at c_typed c_text (c_from + (1 : Int32))).bind (fun u2 => if u2 = v2 then (fX7_at c_typed c_text (c_from + (2 : Int32))).bind (fun u3 => if u3 = v3 then (fX7_at c_typed c_text (c_from + (3 : Int32))).bind (fun u4 => if u4 = v4 then if v5 = 0 then some ((1 : Int32)) else (fX7_at c_typed c_text (c_from + (4 : Int32))).bind (fun u5 => if u5 = v5 then some ((1 : Int32)) else some ((0 : Int32))) else some ((0 : Int32))) else some ((0 : Int32))) else some ((0 : Int32))) else some ((0 : Int32))) else some ((0 : Int32))) (fun J10 => if v5 = 0 then J10 (4 : Int32) else J10 (5 : Int32))
theorem iX7_isWord_7 : ∀ w ∈ wsX70, w ∈ wsX7_isWord := fun w h => List.mem_cons_of_mem _ (List.mem_append_right _ (h))
theorem hdX7_isWord : yX7_isWord.cls = RX7 ∧ yX7_isWord.cls ≠ "java/lang/invoke/MethodHandle" ∧ yX7_isWord.cls ≠ "java/lang/invoke/VarHandle" ∧ (parseMethodDescriptor yX7_isWord.desc).map (fun d => d.parameters.length) = some 5 := by decide +kernel
abbrev rmX7_isWord : Room := { frames := 1, cells := 0, slots := 0, locals := 21 }
section SX7_isWord
variable {p : Program} {l : Launch} {e : Env} {s : State} {m : MethodId} {args : Array Value} {below : List Frame} {meth : Method} {c : Code} {Q : State → Prop} {G : GG}
set_option maxHeartbeats 4000000 in
set_option maxRecDepth 100000 in
theorem kX7_isWord (h_this : Nat) (h_s : Nat) (h_draft : Nat) (h_past : Nat) (h_kept : Nat) (h_isKept : Nat) (h_facts : Nat) (h_text : Nat) (c_thrown : Int32) (c_undos : Int32) (c_manyFacts : Int32) (c_typed : Int32) (c_from : Int32) (c_to : Int32) (c_token : Int32) (c_fault : Int32) (c_hasHooks : Int32) (c_hasTies : Int32) (c_low : Int32) (c_high : Int32) (c_text : Nat → Int32) (v1 : Int32) (v2 : Int32) (v3 : Int32) (v4 : Int32) (v5 : Int32) (C : Cx cX7_isWord (some .boolean) 7 RX7 wsX7_isWord G p s m args meth c) (hP : va_P G.1 CL [(h_this, .inr (7, [.int c_thrown, .ref h_s, .ref h_draft, .ref h_past, .int c_undos, .ref h_kept, .ref h_isKept, .ref h_facts, .int c_manyFacts, .ref h_text, .int c_typed, .int c_from, .int c_to, .int c_token, .int c_fault, .int c_hasHooks, .int c_hasTies, .int c_low, .int c_high])), (h_text, .inl (G.2 1, 120, .inl c_text))] s.heap) {res : Int32} (kr : ∀ (pc : Nat) (ls : Array Slot), narrow .boolean (.int res) = .int res → decode cX7_isWord pc = .ok (.ireturn, 1) → W p l e rmX7_isWord s m args below meth c s.heap [] 0 0 Q (F0 m pc ls [.int res])) (hf : fX7_isWord c_typed c_from c_to c_text v1 v2 v3 v4 v5 = some res) {ls : Array Slot} (hl : lv_has ls 7 [(0, .ref h_this), (1, .int v1), (2, .int v2), (3, .int v3), (4, .int v4), (5, .int v5)]) : W p l e rmX7_isWord s m args below meth c s.heap [] 0 0 Q (F0 m 0 ls []) := by
  obtain ⟨hx, hb, hr, hlk, hml, hown, hts, hK⟩ := id C
  rw [fX7_isWord] at hf
  refine lv_iload hx hb dX7_isWord_0 (lv_at hl 5 rfl) ?_
  refine r_jn1 hf (fun J10 eJ10 hf => ?_)
  have hJ10 : ∀ (j10_0 : Int32) , J10 j10_0 = some res → ∀ (ls : Array Slot), lv_has ls 7 [(0, .ref h_this), (1, .int v1), (2, .int v2), (3, .int v3), (4, .int v4), (5, .int v5)] → W p l e rmX7_isWord s m args below meth c s.heap [] 0 0 Q (F0 m 10 ls [.int j10_0]) := by
    intro j10_0 hf ls hl
    rw [eJ10] at hf
    refine lv_istore (lv' := [(6, .int j10_0), (0, .ref h_this), (1, .int v1), (2, .int v2), (3, .int v3), (4, .int v4), (5, .int v5)]) hx hb dX7_isWord_10 hl (by decide) rfl (fun ls hl => ?_)
    refine lv_aload_n hx hb dX7_isWord_12 rfl (lv_at hl 1 rfl) ?_
    refine va_get (D := G.1) (cl := CL) (ci := 7) (C := RX7) (T := TX7) (N := 19) hx hb hts iX7_isWord_7 hown hK hP 0 rfl rfl 12 (by decide) (hts (.fieldLink RX7 48 "LoomCardsModel" "to" "I") (List.mem_of_getElem? (i := 1) rfl)) (fun _ h9 => h9) rfl dX7_isWord_13 ?_
    refine lv_aload_n hx hb dX7_isWord_16 rfl (lv_at hl 1 rfl) ?_
    refine va_get (D := G.1) (cl := CL) (ci := 7) (C := RX7) (T := TX7) (N := 19) hx hb hts iX7_isWord_7 hown hK hP 0 rfl rfl 11 (by decide) (hts (.fieldLink RX7 51 "LoomCardsModel" "from" "I") (List.mem_of_getElem? (i := 2) rfl)) (fun _ h9 => h9) rfl dX7_isWord_17 ?_
    refine lv_isub hx hb dX7_isWord_20 ?_
    refine lv_iload hx hb dX7_isWord_21 (lv_at hl 0 rfl) ?_
    refine lv_icmp_ne (tgt := 105) hx hb dX7_isWord_23 (by decide) (fun c9 => ?_) (fun c9 => ?_)
    · have hf := c_f hf c9
      refine lv_iconst (v := (0 : Int32)) hx hb dX7_isWord_105 (by decide) ?_
      obtain rfl := Option.some.inj hf
      exact kr _ _ nb0 dX7_isWord_106
    · have hf := c_t hf c9
      refine lv_aload_n hx hb dX7_isWord_26 rfl (lv_at hl 1 rfl) ?_
      refine lv_aload_n hx hb dX7_isWord_27 rfl (lv_at hl 1 rfl) ?_
      refine va_get (D := G.1) (cl := CL) (ci := 7) (C := RX7) (T := TX7) (N := 19) hx hb hts iX7_isWord_7 hown hK hP 0 rfl rfl 11 (by decide) (hts (.fieldLink RX7 51 "LoomCardsModel" "from" "I") (List.mem_of_getElem? (i := 2) rfl)) (fun _ h9 => h9) rfl dX7_isWord_28 ?_
      refine r_bind hf (fun u1 hu1 hf => ?_)
      refine cRiV (ci := 7) (rest := []) ⟨hx, hb, hml, hown, hts⟩ hK (tX7_at l G h_this h_s h_draft h_past h_kept h_isKept h_facts h_text c_thrown c_undos c_manyFacts c_typed c_from c_to c_token c_fault c_hasHooks c_hasTies c_low c_high c_text c_from u1 hu1) gX7_isWord_X7_at rfl hdX7_at rfl rfl rfl ⟨Nat.le_of_ble_eq_true rfl, Nat.le_of_ble_eq_true rfl⟩ hP [0, 1] rfl 0 rfl rfl rfl hl.1 (Nat.le_of_ble_eq_true rfl) rfl dX7_isWord_31 ⟨Nat.zero_le _, Nat.zero_le _⟩ ?_
      refine lv_iload_n hx hb dX7_isWord_34 rfl (lv_at hl 2 rfl) ?_
      refine lv_icmp_ne (tgt := 105) hx hb dX7_isWord_35 (by decide) (fun c9 => ?_) (fun c9 => ?_)
      · have hf := c_f hf c9
        refine lv_iconst (v := (0 : Int32)) hx hb dX7_isWord_105 (by decide) ?_
        obtain rfl := Option.some.inj hf
        exact kr _ _ nb0 dX7_isWord_106
      · have hf := c_t hf c9
        refine lv_aload_n hx hb dX7_isWord_38 rfl (lv_at hl 1 rfl) ?_
        refine lv_aload_n hx hb dX7_isWord_39 rfl (lv_at hl 1 rfl) ?_
        refine va_get (D := G.1) (cl := CL) (ci := 7) (C := RX7) (T := TX7) (N := 19) hx hb hts iX7_isWord_7 hown hK hP 0 rfl rfl 11 (by decide) (hts (.fieldLink RX7 51 "LoomCardsModel" "from" "I") (List.mem_of_getElem? (i := 2) rfl)) (fun _ h9 => h9) rfl dX7_isWord_40 ?_
        refine lv_iconst (v := (1 : Int32)) hx hb dX7_isWord_43 (by decide) ?_
        refine lv_iadd hx hb dX7_isWord_44 ?_
        refine r_bind hf (fun u2 hu2 hf => ?_)
        refine cRiV (ci := 7) (rest := []) ⟨hx, hb, hml, hown, hts⟩ hK (tX7_at l G h_this h_s h_draft h_past h_kept h_isKept h_facts h_text c_thrown c_undos c_manyFacts c_typed c_from c_to c_token c_fault c_hasHooks c_hasTies c_low c_high c_text (c_from + (1 : Int32)) u2 hu2) gX7_isWord_X7_at rfl hdX7_at rfl rfl rfl ⟨Nat.le_of_ble_eq_true rfl, Nat.le_of_ble_eq_true rfl⟩ hP [0, 1] rfl 0 rfl rfl rfl hl.1 (Nat.le_of_ble_eq_true rfl) rfl dX7_isWord_45 ⟨Nat.zero_le _, Nat.zero_le _⟩ ?_
        refine lv_iload_n hx hb dX7_isWord_48 rfl (lv_at hl 3 rfl) ?_
        refine lv_icmp_ne (tgt := 105) hx hb dX7_isWord_49 (by decide) (fun c9 => ?_) (fun c9 => ?_)
        · have hf := c_f hf c9
          refine lv_iconst (v := (0 : Int32)) hx hb dX7_isWord_105 (by decide) ?_
          obtain rfl := Option.some.inj hf
          exact kr _ _ nb0 dX7_isWord_106
        · have hf := c_t hf c9
          refine lv_aload_n hx hb dX7_isWord_52 rfl (lv_at hl 1 rfl) ?_
          refine lv_aload_n hx hb dX7_isWord_53 rfl (lv_at hl 1 rfl) ?_
          refine va_get (D := G.1) (cl := CL) (ci := 7) (C := RX7) (T := TX7) (N := 19) hx hb hts iX7_isWord_7 hown hK hP 0 rfl rfl 11 (by decide) (hts (.fieldLink RX7 51 "LoomCardsModel" "from" "I") (List.mem_of_getElem? (i := 2) rfl)) (fun _ h9 => h9) rfl dX7_isWord_54 ?_
          refine lv_iconst (v := (2 : Int32)) hx hb dX7_isWord_57 (by decide) ?_
          refine lv_iadd hx hb dX7_isWord_58 ?_
          refine r_bind hf (fun u3 hu3 hf => ?_)
          refine cRiV (ci := 7) (rest := []) ⟨hx, hb, hml, hown, hts⟩ hK (tX7_at l G h_this h_s h_draft h_past h_kept h_isKept h_facts h_text c_thrown c_undos c_manyFacts c_typed c_from c_to c_token c_fault c_hasHooks c_hasTies c_low c_high c_text (c_from + (2 : Int32)) u3 hu3) gX7_isWord_X7_at rfl hdX7_at rfl rfl rfl ⟨Nat.le_of_ble_eq_true rfl, Nat.le_of_ble_eq_true rfl⟩ hP [0, 1] rfl 0 rfl rfl rfl hl.1 (Nat.le_of_ble_eq_true rfl) rfl dX7_isWord_59 ⟨Nat.zero_le _, Nat.zero_le _⟩ ?_
          refine lv_iload_n hx hb dX7_isWord_62 rfl (lv_at hl 4 rfl) ?_
          refine lv_icmp_ne (tgt := 105) hx hb dX7_isWord_63 (by decide) (fun c9 => ?_) (fun c9 => ?_)
          · have hf := c_f hf c9
            refine lv_iconst (v := (0 : Int32)) hx hb dX7_isWord_105 (by decide) ?_
            obtain rfl := Option.some.inj hf
            exact kr _ _ nb0 dX7_isWord_106
          · have hf := c_t hf c9
            refine lv_aload_n hx hb dX7_isWord_66 rfl (lv_at hl 1 rfl) ?_
            refine lv_aload_n hx hb dX7_isWord_67 rfl (lv_at hl 1 rfl) ?_
            refine va_get (D := G.1) (cl := CL) (ci := 7) (C := RX7) (T := TX7) (N := 19) hx hb hts iX7_isWord_7 hown hK hP 0 rfl rfl 11 (by decide) (hts (.fieldLink RX7 51 "LoomCardsModel" "from" "I") (List.mem_of_getElem? (i := 2) rfl)) (fun _ h9 => h9) rfl dX7_isWord_68 ?_
            refine lv_iconst (v := (3 : Int32)) hx hb dX7_isWord_71 (by decide) ?_
            refine lv_iadd hx hb dX7_isWord_72 ?_
            refine r_bind hf (fun u4 hu4 hf => ?_)
            refine cRiV (ci := 7) (rest := []) ⟨hx, hb, hml, hown, hts⟩ hK (tX7_at l G h_this h_s h_draft h_past h_kept h_isKept h_facts h_text c_thrown c_undos c_manyFacts c_typed c_from c_to c_token c_fault c_hasHooks c_hasTies c_low c_high c_text (c_from + (3 : Int32)) u4 hu4) gX7_isWord_X7_at rfl hdX7_at rfl rfl rfl ⟨Nat.le_of_ble_eq_true rfl, Nat.le_of_ble_eq_true rfl⟩ hP [0, 1] rfl 0 rfl rfl rfl hl.1 (Nat.le_of_ble_eq_true rfl) rfl dX7_isWord_73 ⟨Nat.zero_le _, Nat.zero_le _⟩ ?_
            refine lv_iload hx hb dX7_isWord_76 (lv_at hl 5 rfl) ?_
            refine lv_icmp_ne (tgt := 105) hx hb dX7_isWord_78 (by decide) (fun c9 => ?_) (fun c9 => ?_)
            · have hf := c_f hf c9
              refine lv_iconst (v := (0 : Int32)) hx hb dX7_isWord_105 (by decide) ?_
              obtain rfl := Option.some.inj hf
              exact kr _ _ nb0 dX7_isWord_106
            · have hf := c_t hf c9
              refine lv_iload hx hb dX7_isWord_81 (lv_at hl 6 rfl) ?_
              refine lv_if_eq (tgt := 101) hx hb dX7_isWord_83 (by decide) (fun c9 => ?_) (fun c9 => ?_)
              · have hf := c_t hf c9
                refine lv_iconst (v := (1 : Int32)) hx hb dX7_isWord_101 (by decide) ?_
                refine lv_goto (tgt := 106) hx hb dX7_isWord_102 (by decide) ?_
                obtain rfl := Option.some.inj hf
                exact kr _ _ nb1 dX7_isWord_106
              · have hf := c_f hf c9
                refine lv_aload_n hx hb dX7_isWord_86 rfl (lv_at hl 1 rfl) ?_
                refine lv_aload_n hx hb dX7_isWord_87 rfl (lv_at hl 1 rfl) ?_
                refine va_get (D := G.1) (cl := CL) (ci := 7) (C := RX7) (T := TX7) (N := 19) hx hb hts iX7_isWord_7 hown hK hP 0 rfl rfl 11 (by decide) (hts (.fieldLink RX7 51 "LoomCardsModel" "from" "I") (List.mem_of_getElem? (i := 2) rfl)) (fun _ h9 => h9) rfl dX7_isWord_88 ?_
                refine lv_iconst (v := (4 : Int32)) hx hb dX7_isWord_91 (by decide) ?_
                refine lv_iadd hx hb dX7_isWord_92 ?_
                refine r_bind hf (fun u5 hu5 hf => ?_)
                refine cRiV (ci := 7) (rest := []) ⟨hx, hb, hml, hown, hts⟩ hK (tX7_at l G h_this h_s h_draft h_past h_kept h_isKept h_facts h_text c_thrown c_undos c_manyFacts c_typed c_from c_to c_token c_fault c_hasHooks c_hasTies c_low c_high c_text (c_from + (4 : Int32)) u5 hu5) gX7_isWord_X7_at rfl hdX7_at rfl rfl rfl ⟨Nat.le_of_ble_eq_true rfl, Nat.le_of_ble_eq_true rfl⟩ hP [0, 1] rfl 0 rfl rfl rfl hl.1 (Nat.le_of_ble_eq_true rfl) rfl dX7_isWord_93 ⟨Nat.zero_le _, Nat.zero_le _⟩ ?_
                refine lv_iload hx hb dX7_isWord_96 (lv_at hl 6 rfl) ?_
                refine lv_icmp_ne (tgt := 105) hx hb dX7_isWord_98 (by decide) (fun c9 => ?_) (fun c9 => ?_)
                · have hf := c_f hf c9
                  refine lv_iconst (v := (0 : Int32)) hx hb dX7_isWord_105 (by decide) ?_
                  obtain rfl := Option.some.inj hf
                  exact kr _ _ nb0 dX7_isWord_106
                · have hf := c_t hf c9
                  refine lv_iconst (v := (1 : Int32)) hx hb dX7_isWord_101 (by decide) ?_
                  refine lv_goto (tgt := 106) hx hb dX7_isWord_102 (by decide) ?_
                  obtain rfl := Option.some.inj hf
                  exact kr _ _ nb1 dX7_isWord_106
  refine lv_if_ne (tgt := 9) hx hb dX7_isWord_2 (by decide) (fun c9 => ?_) (fun c9 => ?_)
  · have hf := c_f hf c9
    refine lv_iconst (v := (5 : Int32)) hx hb dX7_isWord_9 (by decide) ?_
    exact hJ10 (5 : Int32) hf _ (lv_sub hl [0, 1, 2, 3, 4, 5] rfl)
  · have hf := c_t hf c9
    refine lv_iconst (v := (4 : Int32)) hx hb dX7_isWord_5 (by decide) ?_
    refine lv_goto (tgt := 10) hx hb dX7_isWord_6 (by decide) ?_
    exact hJ10 (4 : Int32) hf _ (lv_sub hl [0, 1, 2, 3, 4, 5] rfl)
end SX7_isWord
set_option maxHeartbeats 4000000 in
set_option maxRecDepth 100000 in
theorem tX7_isWord (l : Launch) (G : GG) (h_this : Nat) (h_s : Nat) (h_draft : Nat) (h_past : Nat) (h_kept : Nat) (h_isKept : Nat) (h_facts : Nat) (h_text : Nat) (c_thrown : Int32) (c_undos : Int32) (c_manyFacts : Int32) (c_typed : Int32) (c_from : Int32) (c_to : Int32) (c_token : Int32) (c_fault : Int32) (c_hasHooks : Int32) (c_hasTies : Int32) (c_low : Int32) (c_high : Int32) (c_text : Nat → Int32) (v1 : Int32) (v2 : Int32) (v3 : Int32) (v4 : Int32) (v5 : Int32) (res : Int32) (hf : fX7_isWord c_typed c_from c_to c_text v1 v2 v3 v4 v5 = some res) : MRi l yX7_isWord wsX7_isWord rmX7_isWord G [.ref h_this, .int v1, .int v2, .int v3, .int v4, .int v5] [(h_this, .inr (7, [.int c_thrown, .ref h_s, .ref h_draft, .ref h_past, .int c_undos, .ref h_kept, .ref h_isKept, .ref h_facts, .int c_manyFacts, .ref h_text, .int c_typed, .int c_from, .int c_to, .int c_token, .int c_fault, .int c_hasHooks, .int c_hasTies, .int c_low, .int c_high])), (h_text, .inl (G.2 1, 120, .inl c_text))] (res) := MRi.of (plainFor_of_name (by decide +kernel)) rfl (Nat.le_of_ble_eq_true rfl) (fun p e s m below meth c C hP ls hl => kX7_isWord h_this h_s h_draft h_past h_kept h_isKept h_facts h_text c_thrown c_undos c_manyFacts c_typed c_from c_to c_token c_fault c_hasHooks c_hasTies c_low c_high c_text v1 v2 v3 v4 v5 C hP (fun pc ls hn d => rRz C hn d) hf hl)
def fX7_wordOf (c_typed : Int32) (c_from : Int32) (c_to : Int32) (c_text : Nat → Int32)  : Option (Int32) := (fX7_isWord c_typed c_from c_to c_text (104 : Int32) (111 : Int32) (111 : Int32) (107 : Int32) (115 : Int32)).bind (fun u1 => if u1 = 0 then (fX7_isWord c_typed c_from c_to c_text (116 : Int32) (105 : Int32) (101 : Int32) (115 : Int32) (0 : Int32)).bind (fun u2 => if u2 = 0 then (fX7_isWord c_typed c_from c_to c_text (99 : Int32) (97 : Int32) (114 : Int32) (100 : Int32) (0 : Int32)).bind (fun u3 => if u3 = 0 then (fX7_isWord c_typed c_from c_to c_text (99 : Int32) (108 : Int32) (111 : Int32) (116 : Int32) (104 : Int32)).bind (fun u4 => if u4 = 0 then (fX7_isWord c_typed c_from c_to c_text (108 : Int32) (105 : Int32) (109 : Int32) (105 : Int32) (116 : Int32)).bind (fun u5 => if u5 = 0 then some ((8 : Int32)) else some ((5 : Int32))) else some ((4 : Int32))) else some ((3 : Int32))) else some ((2 : Int32))) else some ((1 : Int32)))
theorem iX7_wordOf_7 : ∀ w ∈ wsX70, w ∈ wsX7_wordOf := fun w h => List.mem_cons_of_mem _ (List.mem_append_right _ (h))
theorem hdX7_wordOf : yX7_wordOf.cls = RX7 ∧ yX7_wordOf.cls ≠ "java/lang/invoke/MethodHandle" ∧ yX7_wordOf.cls ≠ "java/lang/invoke/VarHandle" ∧ (parseMethodDescriptor yX7_wordOf.desc).map (fun d => d.parameters.length) = some 0 := by decide +kernel
abbrev rmX7_wordOf : Room := { frames := 2, cells := 0, slots := 0, locals := 47 }
section SX7_wordOf
variable {p : Program} {l : Launch} {e : Env} {s : State} {m : MethodId} {args : Array Value} {below : List Frame} {meth : Method} {c : Code} {Q : State → Prop} {G : GG}
set_option maxHeartbeats 4000000 in
set_option maxRecDepth 100000 in
theorem kX7_wordOf (h_this : Nat) (h_s : Nat) (h_draft : Nat) (h_past : Nat) (h_kept : Nat) (h_isKept : Nat) (h_facts : Nat) (h_text : Nat) (c_thrown : Int32) (c_undos : Int32) (c_manyFacts : Int32) (c_typed : Int32) (c_from : Int32) (c_to : Int32) (c_token : Int32) (c_fault : Int32) (c_hasHooks : Int32) (c_hasTies : Int32) (c_low : Int32) (c_high : Int32) (c_text : Nat → Int32) (C : Cx cX7_wordOf (some .int) 1 RX7 wsX7_wordOf G p s m args meth c) (hP : va_P G.1 CL [(h_this, .inr (7, [.int c_thrown, .ref h_s, .ref h_draft, .ref h_past, .int c_undos, .ref h_kept, .ref h_isKept, .ref h_facts, .int c_manyFacts, .ref h_text, .int c_typed, .int c_from, .int c_to, .int c_token, .int c_fault, .int c_hasHooks, .int c_hasTies, .int c_low, .int c_high])), (h_text, .inl (G.2 1, 120, .inl c_text))] s.heap) {res : Int32} (kr : ∀ (pc : Nat) (ls : Array Slot), decode cX7_wordOf pc = .ok (.ireturn, 1) → W p l e rmX7_wordOf s m args below meth c s.heap [] 0 0 Q (F0 m pc ls [.int res])) (hf : fX7_wordOf c_typed c_from c_to c_text = some res) {ls : Array Slot} (hl : lv_has ls 1 [(0, .ref h_this)]) : W p l e rmX7_wordOf s m args below meth c s.heap [] 0 0 Q (F0 m 0 ls []) := by
  obtain ⟨hx, hb, hr, hlk, hml, hown, hts, hK⟩ := id C
  rw [fX7_wordOf] at hf
  refine lv_aload_n hx hb dX7_wordOf_0 rfl (lv_at hl 0 rfl) ?_
  refine lv_bipush (v := (104 : Int32)) hx hb dX7_wordOf_1 (by decide) ?_
  refine lv_bipush (v := (111 : Int32)) hx hb dX7_wordOf_3 (by decide) ?_
  refine lv_bipush (v := (111 : Int32)) hx hb dX7_wordOf_5 (by decide) ?_
  refine lv_bipush (v := (107 : Int32)) hx hb dX7_wordOf_7 (by decide) ?_
  refine lv_bipush (v := (115 : Int32)) hx hb dX7_wordOf_9 (by decide) ?_
  refine r_bind hf (fun u1 hu1 hf => ?_)
  refine cRiV (ci := 7) (rest := []) ⟨hx, hb, hml, hown, hts⟩ hK (tX7_isWord l G h_this h_s h_draft h_past h_kept h_isKept h_facts h_text c_thrown c_undos c_manyFacts c_typed c_from c_to c_token c_fault c_hasHooks c_hasTies c_low c_high c_text (104 : Int32) (111 : Int32) (111 : Int32) (107 : Int32) (115 : Int32) u1 hu1) gX7_wordOf_X7_isWord rfl hdX7_isWord rfl rfl rfl ⟨Nat.le_of_ble_eq_true rfl, Nat.le_of_ble_eq_true rfl⟩ hP [0, 1] rfl 0 rfl rfl rfl hl.1 (Nat.le_of_ble_eq_true rfl) rfl dX7_wordOf_11 ⟨Nat.zero_le _, Nat.zero_le _⟩ ?_
  refine lv_if_eq (tgt := 19) hx hb dX7_wordOf_14 (by decide) (fun c9 => ?_) (fun c9 => ?_)
  · have hf := c_t hf c9
    refine lv_aload_n hx hb dX7_wordOf_19 rfl (lv_at hl 0 rfl) ?_
    refine lv_bipush (v := (116 : Int32)) hx hb dX7_wordOf_20 (by decide) ?_
    refine lv_bipush (v := (105 : Int32)) hx hb dX7_wordOf_22 (by decide) ?_
    refine lv_bipush (v := (101 : Int32)) hx hb dX7_wordOf_24 (by decide) ?_
    refine lv_bipush (v := (115 : Int32)) hx hb dX7_wordOf_26 (by decide) ?_
    refine lv_iconst (v := (0 : Int32)) hx hb dX7_wordOf_28 (by decide) ?_
    refine r_bind hf (fun u2 hu2 hf => ?_)
    refine cRiV (ci := 7) (rest := []) ⟨hx, hb, hml, hown, hts⟩ hK (tX7_isWord l G h_this h_s h_draft h_past h_kept h_isKept h_facts h_text c_thrown c_undos c_manyFacts c_typed c_from c_to c_token c_fault c_hasHooks c_hasTies c_low c_high c_text (116 : Int32) (105 : Int32) (101 : Int32) (115 : Int32) (0 : Int32) u2 hu2) gX7_wordOf_X7_isWord rfl hdX7_isWord rfl rfl rfl ⟨Nat.le_of_ble_eq_true rfl, Nat.le_of_ble_eq_true rfl⟩ hP [0, 1] rfl 0 rfl rfl rfl hl.1 (Nat.le_of_ble_eq_true rfl) rfl dX7_wordOf_29 ⟨Nat.zero_le _, Nat.zero_le _⟩ ?_
    refine lv_if_eq (tgt := 37) hx hb dX7_wordOf_32 (by decide) (fun c9 => ?_) (fun c9 => ?_)
    · have hf := c_t hf c9
      refine lv_aload_n hx hb dX7_wordOf_37 rfl (lv_at hl 0 rfl) ?_
      refine lv_bipush (v := (99 : Int32)) hx hb dX7_wordOf_38 (by decide) ?_
      refine lv_bipush (v := (97 : Int32)) hx hb dX7_wordOf_40 (by decide) ?_
      refine lv_bipush (v := (114 : Int32)) hx hb dX7_wordOf_42 (by decide) ?_
      refine lv_bipush (v := (100 : Int32)) hx hb dX7_wordOf_44 (by decide) ?_
      refine lv_iconst (v := (0 : Int32)) hx hb dX7_wordOf_46 (by decide) ?_
      refine r_bind hf (fun u3 hu3 hf => ?_)
      refine cRiV (ci := 7) (rest := []) ⟨hx, hb, hml, hown, hts⟩ hK (tX7_isWord l G h_this h_s h_draft h_past h_kept h_isKept h_facts h_text c_thrown c_undos c_manyFacts c_typed c_from c_to c_token c_fault c_hasHooks c_hasTies c_low c_high c_text (99 : Int32) (97 : Int32) (114 : Int32) (100 : Int32) (0 : Int32) u3 hu3) gX7_wordOf_X7_isWord rfl hdX7_isWord rfl rfl rfl ⟨Nat.le_of_ble_eq_true rfl, Nat.le_of_ble_eq_true rfl⟩ hP [0, 1] rfl 0 rfl rfl rfl hl.1 (Nat.le_of_ble_eq_true rfl) rfl dX7_wordOf_47 ⟨Nat.zero_le _, Nat.zero_le _⟩ ?_
      refine lv_if_eq (tgt := 55) hx hb dX7_wordOf_50 (by decide) (fun c9 => ?_) (fun c9 => ?_)
      · have hf := c_t hf c9
        refine lv_aload_n hx hb dX7_wordOf_55 rfl (lv_at hl 0 rfl) ?_
        refine lv_bipush (v := (99 : Int32)) hx hb dX7_wordOf_56 (by decide) ?_
        refine lv_bipush (v := (108 : Int32)) hx hb dX7_wordOf_58 (by decide) ?_
        refine lv_bipush (v := (111 : Int32)) hx hb dX7_wordOf_60 (by decide) ?_
        refine lv_bipush (v := (116 : Int32)) hx hb dX7_wordOf_62 (by decide) ?_
        refine lv_bipush (v := (104 : Int32)) hx hb dX7_wordOf_64 (by decide) ?_
        refine r_bind hf (fun u4 hu4 hf => ?_)
        refine cRiV (ci := 7) (rest := []) ⟨hx, hb, hml, hown, hts⟩ hK (tX7_isWord l G h_this h_s h_draft h_past h_kept h_isKept h_facts h_text c_thrown c_undos c_manyFacts c_typed c_from c_to c_token c_fault c_hasHooks c_hasTies c_low c_high c_text (99 : Int32) (108 : Int32) (111 : Int32) (116 : Int32) (104 : Int32) u4 hu4) gX7_wordOf_X7_isWord rfl hdX7_isWord rfl rfl rfl ⟨Nat.le_of_ble_eq_true rfl, Nat.le_of_ble_eq_true rfl⟩ hP [0, 1] rfl 0 rfl rfl rfl hl.1 (Nat.le_of_ble_eq_true rfl) rfl dX7_wordOf_66 ⟨Nat.zero_le _, Nat.zero_le _⟩ ?_
        refine lv_if_eq (tgt := 76) hx hb dX7_wordOf_69 (by decide) (fun c9 => ?_) (fun c9 => ?_)
        · have hf := c_t hf c9
          refine lv_aload_n hx hb dX7_wordOf_76 rfl (lv_at hl 0 rfl) ?_
          refine lv_bipush (v := (108 : Int32)) hx hb dX7_wordOf_77 (by decide) ?_
          refine lv_bipush (v := (105 : Int32)) hx hb dX7_wordOf_79 (by decide) ?_
          refine lv_bipush (v := (109 : Int32)) hx hb dX7_wordOf_81 (by decide) ?_
          refine lv_bipush (v := (105 : Int32)) hx hb dX7_wordOf_83 (by decide) ?_
          refine lv_bipush (v := (116 : Int32)) hx hb dX7_wordOf_85 (by decide) ?_
          refine r_bind hf (fun u5 hu5 hf => ?_)
          refine cRiV (ci := 7) (rest := []) ⟨hx, hb, hml, hown, hts⟩ hK (tX7_isWord l G h_this h_s h_draft h_past h_kept h_isKept h_facts h_text c_thrown c_undos c_manyFacts c_typed c_from c_to c_token c_fault c_hasHooks c_hasTies c_low c_high c_text (108 : Int32) (105 : Int32) (109 : Int32) (105 : Int32) (116 : Int32) u5 hu5) gX7_wordOf_X7_isWord rfl hdX7_isWord rfl rfl rfl ⟨Nat.le_of_ble_eq_true rfl, Nat.le_of_ble_eq_true rfl⟩ hP [0, 1] rfl 0 rfl rfl rfl hl.1 (Nat.le_of_ble_eq_true rfl) rfl dX7_wordOf_87 ⟨Nat.zero_le _, Nat.zero_le _⟩ ?_
          refine lv_if_eq (tgt := 97) hx hb dX7_wordOf_90 (by decide) (fun c9 => ?_) (fun c9 => ?_)
          · have hf := c_t hf c9
            refine lv_bipush (v := (8 : Int32)) hx hb dX7_wordOf_97 (by decide) ?_
            obtain rfl := Option.some.inj hf
            exact kr _ _ dX7_wordOf_99
          · have hf := c_f hf c9
            refine lv_iconst (v := (5 : Int32)) hx hb dX7_wordOf_93 (by decide) ?_
            refine lv_goto (tgt := 99) hx hb dX7_wordOf_94 (by decide) ?_
            obtain rfl := Option.some.inj hf
            exact kr _ _ dX7_wordOf_99
        · have hf := c_f hf c9
          refine lv_iconst (v := (4 : Int32)) hx hb dX7_wordOf_72 (by decide) ?_
          refine lv_goto (tgt := 99) hx hb dX7_wordOf_73 (by decide) ?_
          obtain rfl := Option.some.inj hf
          exact kr _ _ dX7_wordOf_99
      · have hf := c_f hf c9
        refine lv_iconst (v := (3 : Int32)) hx hb dX7_wordOf_53 (by decide) ?_
        obtain rfl := Option.some.inj hf
        exact kr _ _ dX7_wordOf_54
    · have hf := c_f hf c9
      refine lv_iconst (v := (2 : Int32)) hx hb dX7_wordOf_35 (by decide) ?_
      obtain rfl := Option.some.inj hf
      exact kr _ _ dX7_wordOf_36
  · have hf := c_f hf c9
    refine lv_iconst (v := (1 : Int32)) hx hb dX7_wordOf_17 (by decide) ?_
    obtain rfl := Option.some.inj hf
    exact kr _ _ dX7_wordOf_18
end SX7_wordOf
set_option maxHeartbeats 4000000 in
set_option maxRecDepth 100000 in
theorem tX7_wordOf (l : Launch) (G : GG) (h_this : Nat) (h_s : Nat) (h_draft : Nat) (h_past : Nat) (h_kept : Nat) (h_isKept : Nat) (h_facts : Nat) (h_text : Nat) (c_thrown : Int32) (c_undos : Int32) (c_manyFacts : Int32) (c_typed : Int32) (c_from : Int32) (c_to : Int32) (c_token : Int32) (c_fault : Int32) (c_hasHooks : Int32) (c_hasTies : Int32) (c_low : Int32) (c_high : Int32) (c_text : Nat → Int32) (res : Int32) (hf : fX7_wordOf c_typed c_from c_to c_text = some res) : MRi l yX7_wordOf wsX7_wordOf rmX7_wordOf G [.ref h_this] [(h_this, .inr (7, [.int c_thrown, .ref h_s, .ref h_draft, .ref h_past, .int c_undos, .ref h_kept, .ref h_isKept, .ref h_facts, .int c_manyFacts, .ref h_text, .int c_typed, .int c_from, .int c_to, .int c_token, .int c_fault, .int c_hasHooks, .int c_hasTies, .int c_low, .int c_high])), (h_text, .inl (G.2 1, 120, .inl c_text))] (res) := MRi.of (plainFor_of_name (by decide +kernel)) rfl (Nat.le_of_ble_eq_true rfl) (fun p e s m below meth c C hP ls hl => kX7_wordOf h_this h_s h_draft h_past h_kept h_isKept h_facts h_text c_thrown c_undos c_manyFacts c_typed c_from c_to c_token c_fault c_hasHooks c_hasTies c_low c_high c_text C hP (fun pc ls d => rRi C d) hf hl)
def fX7_steps_L8 (k34 : Int32 → Option (Int32 × Int32 × Int32)) (c_typed : Int32) (c_text : Nat → Int32) : Nat → Int32 → Option (Int32 × Int32 × Int32)
  | 0, _ => none
  | n + 1, c_from => (fX7_at c_typed c_text c_from).bind (fun u1 => if u1 = (32 : Int32) then fX7_steps_L8 k34 c_typed c_text n (c_from + (1 : Int32)) else k34 c_from)
def fX7_steps_L137 (k168 : Int32 → Option (Int32 × Int32 × Int32)) (c_typed : Int32) (c_text : Nat → Int32) : Nat → Int32 → Option (Int32 × Int32 × Int32)
  | 0, _ => none
  | n + 1, c_to => (fX7_at c_typed c_text c_to).bind (fun u9 => (fX7_in u9 (97 : Int32) (122 : Int32)).bind (fun u10 => if u10 = 0 then k168 c_to else fX7_steps_L137 k168 c_typed c_text n (c_to + (1 : Int32))))
def fX7_steps_L79 (k110 : Int32 → Option (Int32 × Int32 × Int32)) (c_typed : Int32) (c_text : Nat → Int32) : Nat → Int32 → Option (Int32 × Int32 × Int32)
  | 0, _ => none
  | n + 1, c_to => (fX7_at c_typed c_text c_to).bind (fun u13 => (fX7_in u13 (48 : Int32) (57 : Int32)).bind (fun u14 => if u14 = 0 then k110 c_to else fX7_steps_L79 k110 c_typed c_text n (c_to + (1 : Int32))))
def fX7_steps (c_typed : Int32) (c_from : Int32) (c_to : Int32) (c_token : Int32) (c_text : Nat → Int32)  : Option (Int32 × Int32 × Int32) := (fX7_steps_L8 (fun (c_from_x2 : Int32) => (fX7_at c_typed c_text c_from_x2).bind (fun u3 => if 0 ≤ u3 then (fX7_at c_typed c_text c_from_x2).bind (fun u4 => (fX7_in u4 (48 : Int32) (57 : Int32)).bind (fun u5 => if u5 = 0 then (fX7_at c_typed c_text c_from_x2).bind (fun u6 => (fX7_in u6 (97 : Int32) (122 : Int32)).bind (fun u7 => if u7 = 0 then (fX7_at c_typed c_text c_from_x2).bind (fun u8 => jn (fun (j200_0 : Int32) => some (c_from_x2, (c_from_x2 + (1 : Int32)), j200_0)) (fun J200 => if u8 = (59 : Int32) then J200 (7 : Int32) else J200 (8 : Int32))) else (fX7_steps_L137 (fun (c_to_x11 : Int32) => (fX7_wordOf c_typed c_from_x2 c_to_x11 c_text).bind (fun u12 => some (c_from_x2, c_to_x11, u12))) c_typed c_text FU c_from_x2))) else (fX7_steps_L79 (fun (c_to_x15 : Int32) => some (c_from_x2, c_to_x15, (6 : Int32))) c_typed c_text FU c_from_x2))) else some (c_from_x2, c_from_x2, (0 : Int32)))) c_typed c_text FU c_to)
theorem iX7_steps_7 : ∀ w ∈ wsX70, w ∈ wsX7_steps := fun w h => List.mem_cons_of_mem _ (List.mem_append_right _ (h))
theorem hdX7_steps : yX7_steps.cls = RX7 ∧ yX7_steps.cls ≠ "java/lang/invoke/MethodHandle" ∧ yX7_steps.cls ≠ "java/lang/invoke/VarHandle" ∧ (parseMethodDescriptor yX7_steps.desc).map (fun d => d.parameters.length) = some 0 := by decide +kernel
abbrev rmX7_steps : Room := { frames := 3, cells := 0, slots := 0, locals := 67 }
section SX7_steps
variable {p : Program} {l : Launch} {e : Env} {s : State} {m : MethodId} {args : Array Value} {below : List Frame} {meth : Method} {c : Code} {Q : State → Prop} {G : GG} {A : Nat → Prop}
set_option maxHeartbeats 4000000 in
set_option maxRecDepth 100000 in
theorem kX7_steps_L8 (h_this : Nat) (h_s : Nat) (h_draft : Nat) (h_past : Nat) (h_kept : Nat) (h_isKept : Nat) (h_facts : Nat) (h_text : Nat) (c_thrown : Int32) (c_undos : Int32) (c_manyFacts : Int32) (c_typed : Int32) (c_to : Int32) (c_token : Int32) (c_fault : Int32) (c_hasHooks : Int32) (c_hasTies : Int32) (c_low : Int32) (c_high : Int32) (c_text : Nat → Int32) (C : Cx cX7_steps none 1 RX7 wsX7_steps G p s m args meth c) (hA : ∀ q : Nat, s.heap.size ≤ q → A q) {res : Int32 × Int32 × Int32} (kr : ∀ (pc : Nat) (ls : Array Slot) (H : Heap) (locs : List Loc), va_P G.1 CL [(h_this, .inr (7, [.int c_thrown, .ref h_s, .ref h_draft, .ref h_past, .int c_undos, .ref h_kept, .ref h_isKept, .ref h_facts, .int c_manyFacts, .ref h_text, .int c_typed, .int (res.1), .int (res.2.1), .int (res.2.2), .int c_fault, .int c_hasHooks, .int c_hasTies, .int c_low, .int c_high])), (h_text, .inl (G.2 1, 120, .inl c_text))] H → va_D A [(h_this, .inr (7, [.int c_thrown, .ref h_s, .ref h_draft, .ref h_past, .int c_undos, .ref h_kept, .ref h_isKept, .ref h_facts, .int c_manyFacts, .ref h_text, .int c_typed, .int (res.1), .int (res.2.1), .int (res.2.2), .int c_fault, .int c_hasHooks, .int c_hasTies, .int c_low, .int c_high])), (h_text, .inl (G.2 1, 120, .inl c_text))] → va_S A s.heap H locs → decode cX7_steps pc = .ok (.return_, 1) → W p l e rmX7_steps s m args below meth c H locs 0 0 Q (F0 m pc ls [])) {k34 : Int32 → Option (Int32 × Int32 × Int32)} (hk34 : ∀ (c_from : Int32) (H : Heap) (locs : List Loc), k34 c_from = some res → va_P G.1 CL [(h_this, .inr (7, [.int c_thrown, .ref h_s, .ref h_draft, .ref h_past, .int c_undos, .ref h_kept, .ref h_isKept, .ref h_facts, .int c_manyFacts, .ref h_text, .int c_typed, .int c_from, .int c_to, .int c_token, .int c_fault, .int c_hasHooks, .int c_hasTies, .int c_low, .int c_high])), (h_text, .inl (G.2 1, 120, .inl c_text))] H → va_D A [(h_this, .inr (7, [.int c_thrown, .ref h_s, .ref h_draft, .ref h_past, .int c_undos, .ref h_kept, .ref h_isKept, .ref h_facts, .int c_manyFacts, .ref h_text, .int c_typed, .int c_from, .int c_to, .int c_token, .int c_fault, .int c_hasHooks, .int c_hasTies, .int c_low, .int c_high])), (h_text, .inl (G.2 1, 120, .inl c_text))] → va_S A s.heap H locs → ∀ (ls : Array Slot), lv_has ls 1 [(0, .ref h_this)] → W p l e rmX7_steps s m args below meth c H locs 0 0 Q (F0 m 34 ls [])) : ∀ (n : Nat) (c_from : Int32) (H : Heap) (locs : List Loc), fX7_steps_L8 k34 c_typed c_text n c_from = some res → va_P G.1 CL [(h_this, .inr (7, [.int c_thrown, .ref h_s, .ref h_draft, .ref h_past, .int c_undos, .ref h_kept, .ref h_isKept, .ref h_facts, .int c_manyFacts, .ref h_text, .int c_typed, .int c_from, .int c_to, .int c_token, .int c_fault, .int c_hasHooks, .int c_hasTies, .int c_low, .int c_high])), (h_text, .inl (G.2 1, 120, .inl c_text))] H → va_D A [(h_this, .inr (7, [.int c_thrown, .ref h_s, .ref h_draft, .ref h_past, .int c_undos, .ref h_kept, .ref h_isKept, .ref h_facts, .int c_manyFacts, .ref h_text, .int c_typed, .int c_from, .int c_to, .int c_token, .int c_fault, .int c_hasHooks, .int c_hasTies, .int c_low, .int c_high])), (h_text, .inl (G.2 1, 120, .inl c_text))] → va_S A s.heap H locs → ∀ (ls : Array Slot), lv_has ls 1 [(0, .ref h_this)] → W p l e rmX7_steps s m args below meth c H locs 0 0 Q (F0 m 8 ls []) := by
  obtain ⟨hx, hb, hr, hlk, hml, hown, hts, hK⟩ := id C
  intro n
  induction n with
  | zero =>
    intro c_from H locs hf
    cases hf
  | succ n ih =>
    intro c_from H locs hf hP hD hS ls hl
    rw [fX7_steps_L8] at hf
    refine lv_aload_n hx hb dX7_steps_8 rfl (lv_at hl 0 rfl) ?_
    refine lv_aload_n hx hb dX7_steps_9 rfl (lv_at hl 0 rfl) ?_
    refine va_get (D := G.1) (cl := CL) (ci := 7) (C := RX7) (T := TX7) (N := 19) hx hb hts iX7_steps_7 hown hK hP 0 rfl rfl 11 (by decide) (hts (.fieldLink RX7 51 "LoomCardsModel" "from" "I") (List.mem_of_getElem? (i := 2) rfl)) (fun _ h9 => h9) rfl dX7_steps_10 ?_
    refine r_bind hf (fun u1 hu1 hf => ?_)
    refine cRiV (ci := 7) (rest := []) ⟨hx, hb, hml, hown, hts⟩ hK (tX7_at l G h_this h_s h_draft h_past h_kept h_isKept h_facts h_text c_thrown c_undos c_manyFacts c_typed c_from c_to c_token c_fault c_hasHooks c_hasTies c_low c_high c_text c_from u1 hu1) gX7_steps_X7_at rfl hdX7_at rfl rfl rfl ⟨Nat.le_of_ble_eq_true rfl, Nat.le_of_ble_eq_true rfl⟩ hP [0, 1] rfl 0 rfl rfl rfl hl.1 (Nat.le_of_ble_eq_true rfl) rfl dX7_steps_13 ⟨Nat.zero_le _, Nat.zero_le _⟩ ?_
    refine lv_bipush (v := (32 : Int32)) hx hb dX7_steps_16 (by decide) ?_
    refine lv_icmp_ne (tgt := 34) hx hb dX7_steps_18 (by decide) (fun c9 => ?_) (fun c9 => ?_)
    · have hf := c_f hf c9
      exact hk34 c_from _ _ hf hP hD hS _ (lv_sub hl [0] rfl)
    · have hf := c_t hf c9
      refine lv_aload_n hx hb dX7_steps_21 rfl (lv_at hl 0 rfl) ?_
      refine lv_dup hx hb dX7_steps_22 rfl ?_
      refine va_get (D := G.1) (cl := CL) (ci := 7) (C := RX7) (T := TX7) (N := 19) hx hb hts iX7_steps_7 hown hK hP 0 rfl rfl 11 (by decide) (hts (.fieldLink RX7 51 "LoomCardsModel" "from" "I") (List.mem_of_getElem? (i := 2) rfl)) (fun _ h9 => h9) rfl dX7_steps_23 ?_
      refine lv_iconst (v := (1 : Int32)) hx hb dX7_steps_26 (by decide) ?_
      refine lv_iadd hx hb dX7_steps_27 ?_
      refine va_put (D := G.1) (cl := CL) (ci := 7) (v := .int (c_from + (1 : Int32))) (ty := .int) (C := RX7) (T := TX7) (N := 19) hx hb hts iX7_steps_7 tyX7 tyX7_ok nmX7 hown hK hP hD hS 0 rfl rfl 11 (by decide) (hts (.fieldLink RX7 51 "LoomCardsModel" "from" "I") (List.mem_of_getElem? (i := 2) rfl)) (fun _ h9 => h9) rfl (tyX7_ok 11 (by decide)) rfl rfl (Nat.le_of_ble_eq_true rfl) dX7_steps_28 (fun H locs hP hD hS => ?_)
      have hP : va_P G.1 CL [(h_this, .inr (7, [.int c_thrown, .ref h_s, .ref h_draft, .ref h_past, .int c_undos, .ref h_kept, .ref h_isKept, .ref h_facts, .int c_manyFacts, .ref h_text, .int c_typed, .int (c_from + (1 : Int32)), .int c_to, .int c_token, .int c_fault, .int c_hasHooks, .int c_hasTies, .int c_low, .int c_high])), (h_text, .inl (G.2 1, 120, .inl c_text))] H := hP
      have hD : va_D A [(h_this, .inr (7, [.int c_thrown, .ref h_s, .ref h_draft, .ref h_past, .int c_undos, .ref h_kept, .ref h_isKept, .ref h_facts, .int c_manyFacts, .ref h_text, .int c_typed, .int (c_from + (1 : Int32)), .int c_to, .int c_token, .int c_fault, .int c_hasHooks, .int c_hasTies, .int c_low, .int c_high])), (h_text, .inl (G.2 1, 120, .inl c_text))] := hD
      refine lv_goto (tgt := 8) hx hb dX7_steps_31 (by decide) ?_
      exact ih (c_from + (1 : Int32)) _ _ hf hP hD hS _ (lv_sub hl [0] rfl)
set_option maxHeartbeats 4000000 in
set_option maxRecDepth 100000 in
theorem kX7_steps_L137 (h_this : Nat) (h_s : Nat) (h_draft : Nat) (h_past : Nat) (h_kept : Nat) (h_isKept : Nat) (h_facts : Nat) (h_text : Nat) (c_thrown : Int32) (c_undos : Int32) (c_manyFacts : Int32) (c_typed : Int32) (c_from : Int32) (c_token : Int32) (c_fault : Int32) (c_hasHooks : Int32) (c_hasTies : Int32) (c_low : Int32) (c_high : Int32) (c_text : Nat → Int32) (C : Cx cX7_steps none 1 RX7 wsX7_steps G p s m args meth c) (hA : ∀ q : Nat, s.heap.size ≤ q → A q) {res : Int32 × Int32 × Int32} (kr : ∀ (pc : Nat) (ls : Array Slot) (H : Heap) (locs : List Loc), va_P G.1 CL [(h_this, .inr (7, [.int c_thrown, .ref h_s, .ref h_draft, .ref h_past, .int c_undos, .ref h_kept, .ref h_isKept, .ref h_facts, .int c_manyFacts, .ref h_text, .int c_typed, .int (res.1), .int (res.2.1), .int (res.2.2), .int c_fault, .int c_hasHooks, .int c_hasTies, .int c_low, .int c_high])), (h_text, .inl (G.2 1, 120, .inl c_text))] H → va_D A [(h_this, .inr (7, [.int c_thrown, .ref h_s, .ref h_draft, .ref h_past, .int c_undos, .ref h_kept, .ref h_isKept, .ref h_facts, .int c_manyFacts, .ref h_text, .int c_typed, .int (res.1), .int (res.2.1), .int (res.2.2), .int c_fault, .int c_hasHooks, .int c_hasTies, .int c_low, .int c_high])), (h_text, .inl (G.2 1, 120, .inl c_text))] → va_S A s.heap H locs → decode cX7_steps pc = .ok (.return_, 1) → W p l e rmX7_steps s m args below meth c H locs 0 0 Q (F0 m pc ls [])) {k168 : Int32 → Option (Int32 × Int32 × Int32)} (hk168 : ∀ (c_to : Int32) (H : Heap) (locs : List Loc), k168 c_to = some res → va_P G.1 CL [(h_this, .inr (7, [.int c_thrown, .ref h_s, .ref h_draft, .ref h_past, .int c_undos, .ref h_kept, .ref h_isKept, .ref h_facts, .int c_manyFacts, .ref h_text, .int c_typed, .int c_from, .int c_to, .int c_token, .int c_fault, .int c_hasHooks, .int c_hasTies, .int c_low, .int c_high])), (h_text, .inl (G.2 1, 120, .inl c_text))] H → va_D A [(h_this, .inr (7, [.int c_thrown, .ref h_s, .ref h_draft, .ref h_past, .int c_undos, .ref h_kept, .ref h_isKept, .ref h_facts, .int c_manyFacts, .ref h_text, .int c_typed, .int c_from, .int c_to, .int c_token, .int c_fault, .int c_hasHooks, .int c_hasTies, .int c_low, .int c_high])), (h_text, .inl (G.2 1, 120, .inl c_text))] → va_S A s.heap H locs → ∀ (ls : Array Slot), lv_has ls 1 [(0, .ref h_this)] → W p l e rmX7_steps s m args below meth c H locs 0 0 Q (F0 m 168 ls [])) : ∀ (n : Nat) (c_to : Int32) (H : Heap) (locs : List Loc), fX7_steps_L137 k168 c_typed c_text n c_to = some res → va_P G.1 CL [(h_this, .inr (7, [.int c_thrown, .ref h_s, .ref h_draft, .ref h_past, .int c_undos, .ref h_kept, .ref h_isKept, .ref h_facts, .int c_manyFacts, .ref h_text, .int c_typed, .int c_from, .int c_to, .int c_token, .int c_fault, .int c_hasHooks, .int c_hasTies, .int c_low, .int c_high])), (h_text, .inl (G.2 1, 120, .inl c_text))] H → va_D A [(h_this, .inr (7, [.int c_thrown, .ref h_s, .ref h_draft, .ref h_past, .int c_undos, .ref h_kept, .ref h_isKept, .ref h_facts, .int c_manyFacts, .ref h_text, .int c_typed, .int c_from, .int c_to, .int c_token, .int c_fault, .int c_hasHooks, .int c_hasTies, .int c_low, .int c_high])), (h_text, .inl (G.2 1, 120, .inl c_text))] → va_S A s.heap H locs → ∀ (ls : Array Slot), lv_has ls 1 [(0, .ref h_this)] → W p l e rmX7_steps s m args below meth c H locs 0 0 Q (F0 m 137 ls []) := by
  obtain ⟨hx, hb, hr, hlk, hml, hown, hts, hK⟩ := id C
  intro n
  induction n with
  | zero =>
    intro c_to H locs hf
    cases hf
  | succ n ih =>
    intro c_to H locs hf hP hD hS ls hl
    rw [fX7_steps_L137] at hf
    refine lv_aload_n hx hb dX7_steps_137 rfl (lv_at hl 0 rfl) ?_
    refine lv_aload_n hx hb dX7_steps_138 rfl (lv_at hl 0 rfl) ?_
    refine va_get (D := G.1) (cl := CL) (ci := 7) (C := RX7) (T := TX7) (N := 19) hx hb hts iX7_steps_7 hown hK hP 0 rfl rfl 12 (by decide) (hts (.fieldLink RX7 48 "LoomCardsModel" "to" "I") (List.mem_of_getElem? (i := 1) rfl)) (fun _ h9 => h9) rfl dX7_steps_139 ?_
    refine r_bind hf (fun u9 hu9 hf => ?_)
    refine cRiV (ci := 7) (rest := []) ⟨hx, hb, hml, hown, hts⟩ hK (tX7_at l G h_this h_s h_draft h_past h_kept h_isKept h_facts h_text c_thrown c_undos c_manyFacts c_typed c_from c_to c_token c_fault c_hasHooks c_hasTies c_low c_high c_text c_to u9 hu9) gX7_steps_X7_at rfl hdX7_at rfl rfl rfl ⟨Nat.le_of_ble_eq_true rfl, Nat.le_of_ble_eq_true rfl⟩ hP [0, 1] rfl 0 rfl rfl rfl hl.1 (Nat.le_of_ble_eq_true rfl) rfl dX7_steps_142 ⟨Nat.zero_le _, Nat.zero_le _⟩ ?_
    refine lv_bipush (v := (97 : Int32)) hx hb dX7_steps_145 (by decide) ?_
    refine lv_bipush (v := (122 : Int32)) hx hb dX7_steps_147 (by decide) ?_
    refine r_bind hf (fun u10 hu10 hf => ?_)
    refine cRiS (rest := []) ⟨hx, hb, hml, hown, hts⟩ hK (tX7_in l G u9 (97 : Int32) (122 : Int32) u10 hu10) gX7_steps_X7_in rfl hdX7_in rfl rfl rfl ⟨Nat.le_of_ble_eq_true rfl, Nat.le_of_ble_eq_true rfl⟩ hP [] rfl hl.1 (Nat.le_of_ble_eq_true rfl) rfl dX7_steps_149 ⟨Nat.zero_le _, Nat.zero_le _⟩ ?_
    refine lv_if_eq (tgt := 168) hx hb dX7_steps_152 (by decide) (fun c9 => ?_) (fun c9 => ?_)
    · have hf := c_t hf c9
      exact hk168 c_to _ _ hf hP hD hS _ (lv_sub hl [0] rfl)
    · have hf := c_f hf c9
      refine lv_aload_n hx hb dX7_steps_155 rfl (lv_at hl 0 rfl) ?_
      refine lv_dup hx hb dX7_steps_156 rfl ?_
      refine va_get (D := G.1) (cl := CL) (ci := 7) (C := RX7) (T := TX7) (N := 19) hx hb hts iX7_steps_7 hown hK hP 0 rfl rfl 12 (by decide) (hts (.fieldLink RX7 48 "LoomCardsModel" "to" "I") (List.mem_of_getElem? (i := 1) rfl)) (fun _ h9 => h9) rfl dX7_steps_157 ?_
      refine lv_iconst (v := (1 : Int32)) hx hb dX7_steps_160 (by decide) ?_
      refine lv_iadd hx hb dX7_steps_161 ?_
      refine va_put (D := G.1) (cl := CL) (ci := 7) (v := .int (c_to + (1 : Int32))) (ty := .int) (C := RX7) (T := TX7) (N := 19) hx hb hts iX7_steps_7 tyX7 tyX7_ok nmX7 hown hK hP hD hS 0 rfl rfl 12 (by decide) (hts (.fieldLink RX7 48 "LoomCardsModel" "to" "I") (List.mem_of_getElem? (i := 1) rfl)) (fun _ h9 => h9) rfl (tyX7_ok 12 (by decide)) rfl rfl (Nat.le_of_ble_eq_true rfl) dX7_steps_162 (fun H locs hP hD hS => ?_)
      have hP : va_P G.1 CL [(h_this, .inr (7, [.int c_thrown, .ref h_s, .ref h_draft, .ref h_past, .int c_undos, .ref h_kept, .ref h_isKept, .ref h_facts, .int c_manyFacts, .ref h_text, .int c_typed, .int c_from, .int (c_to + (1 : Int32)), .int c_token, .int c_fault, .int c_hasHooks, .int c_hasTies, .int c_low, .int c_high])), (h_text, .inl (G.2 1, 120, .inl c_text))] H := hP
      have hD : va_D A [(h_this, .inr (7, [.int c_thrown, .ref h_s, .ref h_draft, .ref h_past, .int c_undos, .ref h_kept, .ref h_isKept, .ref h_facts, .int c_manyFacts, .ref h_text, .int c_typed, .int c_from, .int (c_to + (1 : Int32)), .int c_token, .int c_fault, .int c_hasHooks, .int c_hasTies, .int c_low, .int c_high])), (h_text, .inl (G.2 1, 120, .inl c_text))] := hD
      refine lv_goto (tgt := 137) hx hb dX7_steps_165 (by decide) ?_
      exact ih (c_to + (1 : Int32)) _ _ hf hP hD hS _ (lv_sub hl [0] rfl)
set_option maxHeartbeats 4000000 in
set_option maxRecDepth 100000 in
theorem kX7_steps_L79 (h_this : Nat) (h_s : Nat) (h_draft : Nat) (h_past : Nat) (h_kept : Nat) (h_isKept : Nat) (h_facts : Nat) (h_text : Nat) (c_thrown : Int32) (c_undos : Int32) (c_manyFacts : Int32) (c_typed : Int32) (c_from : Int32) (c_token : Int32) (c_fault : Int32) (c_hasHooks : Int32) (c_hasTies : Int32) (c_low : Int32) (c_high : Int32) (c_text : Nat → Int32) (C : Cx cX7_steps none 1 RX7 wsX7_steps G p s m args meth c) (hA : ∀ q : Nat, s.heap.size ≤ q → A q) {res : Int32 × Int32 × Int32} (kr : ∀ (pc : Nat) (ls : Array Slot) (H : Heap) (locs : List Loc), va_P G.1 CL [(h_this, .inr (7, [.int c_thrown, .ref h_s, .ref h_draft, .ref h_past, .int c_undos, .ref h_kept, .ref h_isKept, .ref h_facts, .int c_manyFacts, .ref h_text, .int c_typed, .int (res.1), .int (res.2.1), .int (res.2.2), .int c_fault, .int c_hasHooks, .int c_hasTies, .int c_low, .int c_high])), (h_text, .inl (G.2 1, 120, .inl c_text))] H → va_D A [(h_this, .inr (7, [.int c_thrown, .ref h_s, .ref h_draft, .ref h_past, .int c_undos, .ref h_kept, .ref h_isKept, .ref h_facts, .int c_manyFacts, .ref h_text, .int c_typed, .int (res.1), .int (res.2.1), .int (res.2.2), .int c_fault, .int c_hasHooks, .int c_hasTies, .int c_low, .int c_high])), (h_text, .inl (G.2 1, 120, .inl c_text))] → va_S A s.heap H locs → decode cX7_steps pc = .ok (.return_, 1) → W p l e rmX7_steps s m args below meth c H locs 0 0 Q (F0 m pc ls [])) {k110 : Int32 → Option (Int32 × Int32 × Int32)} (hk110 : ∀ (c_to : Int32) (H : Heap) (locs : List Loc), k110 c_to = some res → va_P G.1 CL [(h_this, .inr (7, [.int c_thrown, .ref h_s, .ref h_draft, .ref h_past, .int c_undos, .ref h_kept, .ref h_isKept, .ref h_facts, .int c_manyFacts, .ref h_text, .int c_typed, .int c_from, .int c_to, .int c_token, .int c_fault, .int c_hasHooks, .int c_hasTies, .int c_low, .int c_high])), (h_text, .inl (G.2 1, 120, .inl c_text))] H → va_D A [(h_this, .inr (7, [.int c_thrown, .ref h_s, .ref h_draft, .ref h_past, .int c_undos, .ref h_kept, .ref h_isKept, .ref h_facts, .int c_manyFacts, .ref h_text, .int c_typed, .int c_from, .int c_to, .int c_token, .int c_fault, .int c_hasHooks, .int c_hasTies, .int c_low, .int c_high])), (h_text, .inl (G.2 1, 120, .inl c_text))] → va_S A s.heap H locs → ∀ (ls : Array Slot), lv_has ls 1 [(0, .ref h_this)] → W p l e rmX7_steps s m args below meth c H locs 0 0 Q (F0 m 110 ls [])) : ∀ (n : Nat) (c_to : Int32) (H : Heap) (locs : List Loc), fX7_steps_L79 k110 c_typed c_text n c_to = some res → va_P G.1 CL [(h_this, .inr (7, [.int c_thrown, .ref h_s, .ref h_draft, .ref h_past, .int c_undos, .ref h_kept, .ref h_isKept, .ref h_facts, .int c_manyFacts, .ref h_text, .int c_typed, .int c_from, .int c_to, .int c_token, .int c_fault, .int c_hasHooks, .int c_hasTies, .int c_low, .int c_high])), (h_text, .inl (G.2 1, 120, .inl c_text))] H → va_D A [(h_this, .inr (7, [.int c_thrown, .ref h_s, .ref h_draft, .ref h_past, .int c_undos, .ref h_kept, .ref h_isKept, .ref h_facts, .int c_manyFacts, .ref h_text, .int c_typed, .int c_from, .int c_to, .int c_token, .int c_fault, .int c_hasHooks, .int c_hasTies, .int c_low, .int c_high])), (h_text, .inl (G.2 1, 120, .inl c_text))] → va_S A s.heap H locs → ∀ (ls : Array Slot), lv_has ls 1 [(0, .ref h_this)] → W p l e rmX7_steps s m args below meth c H locs 0 0 Q (F0 m 79 ls []) := by
  obtain ⟨hx, hb, hr, hlk, hml, hown, hts, hK⟩ := id C
  intro n
  induction n with
  | zero =>
    intro c_to H locs hf
    cases hf
  | succ n ih =>
    intro c_to H locs hf hP hD hS ls hl
    rw [fX7_steps_L79] at hf
    refine lv_aload_n hx hb dX7_steps_79 rfl (lv_at hl 0 rfl) ?_
    refine lv_aload_n hx hb dX7_steps_80 rfl (lv_at hl 0 rfl) ?_
    refine va_get (D := G.1) (cl := CL) (ci := 7) (C := RX7) (T := TX7) (N := 19) hx hb hts iX7_steps_7 hown hK hP 0 rfl rfl 12 (by decide) (hts (.fieldLink RX7 48 "LoomCardsModel" "to" "I") (List.mem_of_getElem? (i := 1) rfl)) (fun _ h9 => h9) rfl dX7_steps_81 ?_
    refine r_bind hf (fun u13 hu13 hf => ?_)
    refine cRiV (ci := 7) (rest := []) ⟨hx, hb, hml, hown, hts⟩ hK (tX7_at l G h_this h_s h_draft h_past h_kept h_isKept h_facts h_text c_thrown c_undos c_manyFacts c_typed c_from c_to c_token c_fault c_hasHooks c_hasTies c_low c_high c_text c_to u13 hu13) gX7_steps_X7_at rfl hdX7_at rfl rfl rfl ⟨Nat.le_of_ble_eq_true rfl, Nat.le_of_ble_eq_true rfl⟩ hP [0, 1] rfl 0 rfl rfl rfl hl.1 (Nat.le_of_ble_eq_true rfl) rfl dX7_steps_84 ⟨Nat.zero_le _, Nat.zero_le _⟩ ?_
    refine lv_bipush (v := (48 : Int32)) hx hb dX7_steps_87 (by decide) ?_
    refine lv_bipush (v := (57 : Int32)) hx hb dX7_steps_89 (by decide) ?_
    refine r_bind hf (fun u14 hu14 hf => ?_)
    refine cRiS (rest := []) ⟨hx, hb, hml, hown, hts⟩ hK (tX7_in l G u13 (48 : Int32) (57 : Int32) u14 hu14) gX7_steps_X7_in rfl hdX7_in rfl rfl rfl ⟨Nat.le_of_ble_eq_true rfl, Nat.le_of_ble_eq_true rfl⟩ hP [] rfl hl.1 (Nat.le_of_ble_eq_true rfl) rfl dX7_steps_91 ⟨Nat.zero_le _, Nat.zero_le _⟩ ?_
    refine lv_if_eq (tgt := 110) hx hb dX7_steps_94 (by decide) (fun c9 => ?_) (fun c9 => ?_)
    · have hf := c_t hf c9
      exact hk110 c_to _ _ hf hP hD hS _ (lv_sub hl [0] rfl)
    · have hf := c_f hf c9
      refine lv_aload_n hx hb dX7_steps_97 rfl (lv_at hl 0 rfl) ?_
      refine lv_dup hx hb dX7_steps_98 rfl ?_
      refine va_get (D := G.1) (cl := CL) (ci := 7) (C := RX7) (T := TX7) (N := 19) hx hb hts iX7_steps_7 hown hK hP 0 rfl rfl 12 (by decide) (hts (.fieldLink RX7 48 "LoomCardsModel" "to" "I") (List.mem_of_getElem? (i := 1) rfl)) (fun _ h9 => h9) rfl dX7_steps_99 ?_
      refine lv_iconst (v := (1 : Int32)) hx hb dX7_steps_102 (by decide) ?_
      refine lv_iadd hx hb dX7_steps_103 ?_
      refine va_put (D := G.1) (cl := CL) (ci := 7) (v := .int (c_to + (1 : Int32))) (ty := .int) (C := RX7) (T := TX7) (N := 19) hx hb hts iX7_steps_7 tyX7 tyX7_ok nmX7 hown hK hP hD hS 0 rfl rfl 12 (by decide) (hts (.fieldLink RX7 48 "LoomCardsModel" "to" "I") (List.mem_of_getElem? (i := 1) rfl)) (fun _ h9 => h9) rfl (tyX7_ok 12 (by decide)) rfl rfl (Nat.le_of_ble_eq_true rfl) dX7_steps_104 (fun H locs hP hD hS => ?_)
      have hP : va_P G.1 CL [(h_this, .inr (7, [.int c_thrown, .ref h_s, .ref h_draft, .ref h_past, .int c_undos, .ref h_kept, .ref h_isKept, .ref h_facts, .int c_manyFacts, .ref h_text, .int c_typed, .int c_from, .int (c_to + (1 : Int32)), .int c_token, .int c_fault, .int c_hasHooks, .int c_hasTies, .int c_low, .int c_high])), (h_text, .inl (G.2 1, 120, .inl c_text))] H := hP
      have hD : va_D A [(h_this, .inr (7, [.int c_thrown, .ref h_s, .ref h_draft, .ref h_past, .int c_undos, .ref h_kept, .ref h_isKept, .ref h_facts, .int c_manyFacts, .ref h_text, .int c_typed, .int c_from, .int (c_to + (1 : Int32)), .int c_token, .int c_fault, .int c_hasHooks, .int c_hasTies, .int c_low, .int c_high])), (h_text, .inl (G.2 1, 120, .inl c_text))] := hD
      refine lv_goto (tgt := 79) hx hb dX7_steps_107 (by decide) ?_
      exact ih (c_to + (1 : Int32)) _ _ hf hP hD hS _ (lv_sub hl [0] rfl)
set_option maxHeartbeats 4000000 in
set_option maxRecDepth 100000 in
theorem kX7_steps (h_this : Nat) (h_s : Nat) (h_draft : Nat) (h_past : Nat) (h_kept : Nat) (h_isKept : Nat) (h_facts : Nat) (h_text : Nat) (c_thrown : Int32) (c_undos : Int32) (c_manyFacts : Int32) (c_typed : Int32) (c_from : Int32) (c_to : Int32) (c_token : Int32) (c_fault : Int32) (c_hasHooks : Int32) (c_hasTies : Int32) (c_low : Int32) (c_high : Int32) (c_text : Nat → Int32) (C : Cx cX7_steps none 1 RX7 wsX7_steps G p s m args meth c) (hA : ∀ q : Nat, s.heap.size ≤ q → A q) (hP : va_P G.1 CL [(h_this, .inr (7, [.int c_thrown, .ref h_s, .ref h_draft, .ref h_past, .int c_undos, .ref h_kept, .ref h_isKept, .ref h_facts, .int c_manyFacts, .ref h_text, .int c_typed, .int c_from, .int c_to, .int c_token, .int c_fault, .int c_hasHooks, .int c_hasTies, .int c_low, .int c_high])), (h_text, .inl (G.2 1, 120, .inl c_text))] s.heap) (hD : va_D A [(h_this, .inr (7, [.int c_thrown, .ref h_s, .ref h_draft, .ref h_past, .int c_undos, .ref h_kept, .ref h_isKept, .ref h_facts, .int c_manyFacts, .ref h_text, .int c_typed, .int c_from, .int c_to, .int c_token, .int c_fault, .int c_hasHooks, .int c_hasTies, .int c_low, .int c_high])), (h_text, .inl (G.2 1, 120, .inl c_text))]) (hS : va_S A s.heap s.heap []) {res : Int32 × Int32 × Int32} (kr : ∀ (pc : Nat) (ls : Array Slot) (H : Heap) (locs : List Loc), va_P G.1 CL [(h_this, .inr (7, [.int c_thrown, .ref h_s, .ref h_draft, .ref h_past, .int c_undos, .ref h_kept, .ref h_isKept, .ref h_facts, .int c_manyFacts, .ref h_text, .int c_typed, .int (res.1), .int (res.2.1), .int (res.2.2), .int c_fault, .int c_hasHooks, .int c_hasTies, .int c_low, .int c_high])), (h_text, .inl (G.2 1, 120, .inl c_text))] H → va_D A [(h_this, .inr (7, [.int c_thrown, .ref h_s, .ref h_draft, .ref h_past, .int c_undos, .ref h_kept, .ref h_isKept, .ref h_facts, .int c_manyFacts, .ref h_text, .int c_typed, .int (res.1), .int (res.2.1), .int (res.2.2), .int c_fault, .int c_hasHooks, .int c_hasTies, .int c_low, .int c_high])), (h_text, .inl (G.2 1, 120, .inl c_text))] → va_S A s.heap H locs → decode cX7_steps pc = .ok (.return_, 1) → W p l e rmX7_steps s m args below meth c H locs 0 0 Q (F0 m pc ls [])) (hf : fX7_steps c_typed c_from c_to c_token c_text = some res) {ls : Array Slot} (hl : lv_has ls 1 [(0, .ref h_this)]) : W p l e rmX7_steps s m args below meth c s.heap [] 0 0 Q (F0 m 0 ls []) := by
  obtain ⟨hx, hb, hr, hlk, hml, hown, hts, hK⟩ := id C
  rw [fX7_steps] at hf
  refine lv_aload_n hx hb dX7_steps_0 rfl (lv_at hl 0 rfl) ?_
  refine lv_aload_n hx hb dX7_steps_1 rfl (lv_at hl 0 rfl) ?_
  refine va_get (D := G.1) (cl := CL) (ci := 7) (C := RX7) (T := TX7) (N := 19) hx hb hts iX7_steps_7 hown hK hP 0 rfl rfl 12 (by decide) (hts (.fieldLink RX7 48 "LoomCardsModel" "to" "I") (List.mem_of_getElem? (i := 1) rfl)) (fun _ h9 => h9) rfl dX7_steps_2 ?_
  refine va_put (D := G.1) (cl := CL) (ci := 7) (v := .int c_to) (ty := .int) (C := RX7) (T := TX7) (N := 19) hx hb hts iX7_steps_7 tyX7 tyX7_ok nmX7 hown hK hP hD hS 0 rfl rfl 11 (by decide) (hts (.fieldLink RX7 51 "LoomCardsModel" "from" "I") (List.mem_of_getElem? (i := 2) rfl)) (fun _ h9 => h9) rfl (tyX7_ok 11 (by decide)) rfl rfl (Nat.le_of_ble_eq_true rfl) dX7_steps_5 (fun H locs hP hD hS => ?_)
  have hP : va_P G.1 CL [(h_this, .inr (7, [.int c_thrown, .ref h_s, .ref h_draft, .ref h_past, .int c_undos, .ref h_kept, .ref h_isKept, .ref h_facts, .int c_manyFacts, .ref h_text, .int c_typed, .int c_to, .int c_to, .int c_token, .int c_fault, .int c_hasHooks, .int c_hasTies, .int c_low, .int c_high])), (h_text, .inl (G.2 1, 120, .inl c_text))] H := hP
  have hD : va_D A [(h_this, .inr (7, [.int c_thrown, .ref h_s, .ref h_draft, .ref h_past, .int c_undos, .ref h_kept, .ref h_isKept, .ref h_facts, .int c_manyFacts, .ref h_text, .int c_typed, .int c_to, .int c_to, .int c_token, .int c_fault, .int c_hasHooks, .int c_hasTies, .int c_low, .int c_high])), (h_text, .inl (G.2 1, 120, .inl c_text))] := hD
  refine kX7_steps_L8 h_this h_s h_draft h_past h_kept h_isKept h_facts h_text c_thrown c_undos c_manyFacts c_typed c_to c_token c_fault c_hasHooks c_hasTies c_low c_high c_text C hA kr ?_ FU c_to _ _ hf hP hD hS _ (lv_sub hl [0] rfl)
  intro c_from_x2 H locs hf hP hD hS ls hl
  refine lv_aload_n hx hb dX7_steps_34 rfl (lv_at hl 0 rfl) ?_
  refine lv_aload_n hx hb dX7_steps_35 rfl (lv_at hl 0 rfl) ?_
  refine va_get (D := G.1) (cl := CL) (ci := 7) (C := RX7) (T := TX7) (N := 19) hx hb hts iX7_steps_7 hown hK hP 0 rfl rfl 11 (by decide) (hts (.fieldLink RX7 51 "LoomCardsModel" "from" "I") (List.mem_of_getElem? (i := 2) rfl)) (fun _ h9 => h9) rfl dX7_steps_36 ?_
  refine va_put (D := G.1) (cl := CL) (ci := 7) (v := .int c_from_x2) (ty := .int) (C := RX7) (T := TX7) (N := 19) hx hb hts iX7_steps_7 tyX7 tyX7_ok nmX7 hown hK hP hD hS 0 rfl rfl 12 (by decide) (hts (.fieldLink RX7 48 "LoomCardsModel" "to" "I") (List.mem_of_getElem? (i := 1) rfl)) (fun _ h9 => h9) rfl (tyX7_ok 12 (by decide)) rfl rfl (Nat.le_of_ble_eq_true rfl) dX7_steps_39 (fun H locs hP hD hS => ?_)
  have hP : va_P G.1 CL [(h_this, .inr (7, [.int c_thrown, .ref h_s, .ref h_draft, .ref h_past, .int c_undos, .ref h_kept, .ref h_isKept, .ref h_facts, .int c_manyFacts, .ref h_text, .int c_typed, .int c_from_x2, .int c_from_x2, .int c_token, .int c_fault, .int c_hasHooks, .int c_hasTies, .int c_low, .int c_high])), (h_text, .inl (G.2 1, 120, .inl c_text))] H := hP
  have hD : va_D A [(h_this, .inr (7, [.int c_thrown, .ref h_s, .ref h_draft, .ref h_past, .int c_undos, .ref h_kept, .ref h_isKept, .ref h_facts, .int c_manyFacts, .ref h_text, .int c_typed, .int c_from_x2, .int c_from_x2, .int c_token, .int c_fault, .int c_hasHooks, .int c_hasTies, .int c_low, .int c_high])), (h_text, .inl (G.2 1, 120, .inl c_text))] := hD
  refine lv_aload_n hx hb dX7_steps_42 rfl (lv_at hl 0 rfl) ?_
  refine lv_aload_n hx hb dX7_steps_43 rfl (lv_at hl 0 rfl) ?_
  refine va_get (D := G.1) (cl := CL) (ci := 7) (C := RX7) (T := TX7) (N := 19) hx hb hts iX7_steps_7 hown hK hP 0 rfl rfl 12 (by decide) (hts (.fieldLink RX7 48 "LoomCardsModel" "to" "I") (List.mem_of_getElem? (i := 1) rfl)) (fun _ h9 => h9) rfl dX7_steps_44 ?_
  refine r_bind hf (fun u3 hu3 hf => ?_)
  refine cRiV (ci := 7) (rest := []) ⟨hx, hb, hml, hown, hts⟩ hK (tX7_at l G h_this h_s h_draft h_past h_kept h_isKept h_facts h_text c_thrown c_undos c_manyFacts c_typed c_from_x2 c_from_x2 c_token c_fault c_hasHooks c_hasTies c_low c_high c_text c_from_x2 u3 hu3) gX7_steps_X7_at rfl hdX7_at rfl rfl rfl ⟨Nat.le_of_ble_eq_true rfl, Nat.le_of_ble_eq_true rfl⟩ hP [0, 1] rfl 0 rfl rfl rfl hl.1 (Nat.le_of_ble_eq_true rfl) rfl dX7_steps_47 ⟨Nat.zero_le _, Nat.zero_le _⟩ ?_
  refine lv_if_ge (tgt := 61) hx hb dX7_steps_50 (by decide) (fun c9 => ?_) (fun c9 => ?_)
  · have hf := c_t hf c9
    refine lv_aload_n hx hb dX7_steps_61 rfl (lv_at hl 0 rfl) ?_
    refine lv_aload_n hx hb dX7_steps_62 rfl (lv_at hl 0 rfl) ?_
    refine va_get (D := G.1) (cl := CL) (ci := 7) (C := RX7) (T := TX7) (N := 19) hx hb hts iX7_steps_7 hown hK hP 0 rfl rfl 12 (by decide) (hts (.fieldLink RX7 48 "LoomCardsModel" "to" "I") (List.mem_of_getElem? (i := 1) rfl)) (fun _ h9 => h9) rfl dX7_steps_63 ?_
    refine r_bind hf (fun u4 hu4 hf => ?_)
    refine cRiV (ci := 7) (rest := []) ⟨hx, hb, hml, hown, hts⟩ hK (tX7_at l G h_this h_s h_draft h_past h_kept h_isKept h_facts h_text c_thrown c_undos c_manyFacts c_typed c_from_x2 c_from_x2 c_token c_fault c_hasHooks c_hasTies c_low c_high c_text c_from_x2 u4 hu4) gX7_steps_X7_at rfl hdX7_at rfl rfl rfl ⟨Nat.le_of_ble_eq_true rfl, Nat.le_of_ble_eq_true rfl⟩ hP [0, 1] rfl 0 rfl rfl rfl hl.1 (Nat.le_of_ble_eq_true rfl) rfl dX7_steps_66 ⟨Nat.zero_le _, Nat.zero_le _⟩ ?_
    refine lv_bipush (v := (48 : Int32)) hx hb dX7_steps_69 (by decide) ?_
    refine lv_bipush (v := (57 : Int32)) hx hb dX7_steps_71 (by decide) ?_
    refine r_bind hf (fun u5 hu5 hf => ?_)
    refine cRiS (rest := []) ⟨hx, hb, hml, hown, hts⟩ hK (tX7_in l G u4 (48 : Int32) (57 : Int32) u5 hu5) gX7_steps_X7_in rfl hdX7_in rfl rfl rfl ⟨Nat.le_of_ble_eq_true rfl, Nat.le_of_ble_eq_true rfl⟩ hP [] rfl hl.1 (Nat.le_of_ble_eq_true rfl) rfl dX7_steps_73 ⟨Nat.zero_le _, Nat.zero_le _⟩ ?_
    refine lv_if_eq (tgt := 119) hx hb dX7_steps_76 (by decide) (fun c9 => ?_) (fun c9 => ?_)
    · have hf := c_t hf c9
      refine lv_aload_n hx hb dX7_steps_119 rfl (lv_at hl 0 rfl) ?_
      refine lv_aload_n hx hb dX7_steps_120 rfl (lv_at hl 0 rfl) ?_
      refine va_get (D := G.1) (cl := CL) (ci := 7) (C := RX7) (T := TX7) (N := 19) hx hb hts iX7_steps_7 hown hK hP 0 rfl rfl 12 (by decide) (hts (.fieldLink RX7 48 "LoomCardsModel" "to" "I") (List.mem_of_getElem? (i := 1) rfl)) (fun _ h9 => h9) rfl dX7_steps_121 ?_
      refine r_bind hf (fun u6 hu6 hf => ?_)
      refine cRiV (ci := 7) (rest := []) ⟨hx, hb, hml, hown, hts⟩ hK (tX7_at l G h_this h_s h_draft h_past h_kept h_isKept h_facts h_text c_thrown c_undos c_manyFacts c_typed c_from_x2 c_from_x2 c_token c_fault c_hasHooks c_hasTies c_low c_high c_text c_from_x2 u6 hu6) gX7_steps_X7_at rfl hdX7_at rfl rfl rfl ⟨Nat.le_of_ble_eq_true rfl, Nat.le_of_ble_eq_true rfl⟩ hP [0, 1] rfl 0 rfl rfl rfl hl.1 (Nat.le_of_ble_eq_true rfl) rfl dX7_steps_124 ⟨Nat.zero_le _, Nat.zero_le _⟩ ?_
      refine lv_bipush (v := (97 : Int32)) hx hb dX7_steps_127 (by decide) ?_
      refine lv_bipush (v := (122 : Int32)) hx hb dX7_steps_129 (by decide) ?_
      refine r_bind hf (fun u7 hu7 hf => ?_)
      refine cRiS (rest := []) ⟨hx, hb, hml, hown, hts⟩ hK (tX7_in l G u6 (97 : Int32) (122 : Int32) u7 hu7) gX7_steps_X7_in rfl hdX7_in rfl rfl rfl ⟨Nat.le_of_ble_eq_true rfl, Nat.le_of_ble_eq_true rfl⟩ hP [] rfl hl.1 (Nat.le_of_ble_eq_true rfl) rfl dX7_steps_131 ⟨Nat.zero_le _, Nat.zero_le _⟩ ?_
      refine lv_if_eq (tgt := 179) hx hb dX7_steps_134 (by decide) (fun c9 => ?_) (fun c9 => ?_)
      · have hf := c_t hf c9
        refine lv_aload_n hx hb dX7_steps_179 rfl (lv_at hl 0 rfl) ?_
        refine lv_aload_n hx hb dX7_steps_180 rfl (lv_at hl 0 rfl) ?_
        refine lv_aload_n hx hb dX7_steps_181 rfl (lv_at hl 0 rfl) ?_
        refine va_get (D := G.1) (cl := CL) (ci := 7) (C := RX7) (T := TX7) (N := 19) hx hb hts iX7_steps_7 hown hK hP 0 rfl rfl 12 (by decide) (hts (.fieldLink RX7 48 "LoomCardsModel" "to" "I") (List.mem_of_getElem? (i := 1) rfl)) (fun _ h9 => h9) rfl dX7_steps_182 ?_
        refine r_bind hf (fun u8 hu8 hf => ?_)
        refine cRiV (ci := 7) (rest := [.ref h_this]) ⟨hx, hb, hml, hown, hts⟩ hK (tX7_at l G h_this h_s h_draft h_past h_kept h_isKept h_facts h_text c_thrown c_undos c_manyFacts c_typed c_from_x2 c_from_x2 c_token c_fault c_hasHooks c_hasTies c_low c_high c_text c_from_x2 u8 hu8) gX7_steps_X7_at rfl hdX7_at rfl rfl rfl ⟨Nat.le_of_ble_eq_true rfl, Nat.le_of_ble_eq_true rfl⟩ hP [0, 1] rfl 0 rfl rfl rfl hl.1 (Nat.le_of_ble_eq_true rfl) rfl dX7_steps_185 ⟨Nat.zero_le _, Nat.zero_le _⟩ ?_
        refine lv_bipush (v := (59 : Int32)) hx hb dX7_steps_188 (by decide) ?_
        refine r_jn1 hf (fun J200 eJ200 hf => ?_)
        have hJ200 : ∀ (j200_0 : Int32) (H : Heap) (locs : List Loc), J200 j200_0 = some res → va_P G.1 CL [(h_this, .inr (7, [.int c_thrown, .ref h_s, .ref h_draft, .ref h_past, .int c_undos, .ref h_kept, .ref h_isKept, .ref h_facts, .int c_manyFacts, .ref h_text, .int c_typed, .int c_from_x2, .int c_from_x2, .int c_token, .int c_fault, .int c_hasHooks, .int c_hasTies, .int c_low, .int c_high])), (h_text, .inl (G.2 1, 120, .inl c_text))] H → va_D A [(h_this, .inr (7, [.int c_thrown, .ref h_s, .ref h_draft, .ref h_past, .int c_undos, .ref h_kept, .ref h_isKept, .ref h_facts, .int c_manyFacts, .ref h_text, .int c_typed, .int c_from_x2, .int c_from_x2, .int c_token, .int c_fault, .int c_hasHooks, .int c_hasTies, .int c_low, .int c_high])), (h_text, .inl (G.2 1, 120, .inl c_text))] → va_S A s.heap H locs → ∀ (ls : Array Slot), lv_has ls 1 [(0, .ref h_this)] → W p l e rmX7_steps s m args below meth c H locs 0 0 Q (F0 m 200 ls [.int j200_0, .ref h_this]) := by
          intro j200_0 H locs hf hP hD hS ls hl
          rw [eJ200] at hf
          refine va_put (D := G.1) (cl := CL) (ci := 7) (v := .int j200_0) (ty := .int) (C := RX7) (T := TX7) (N := 19) hx hb hts iX7_steps_7 tyX7 tyX7_ok nmX7 hown hK hP hD hS 0 rfl rfl 13 (by decide) (hts (.fieldLink RX7 62 "LoomCardsModel" "token" "I") (List.mem_of_getElem? (i := 3) rfl)) (fun _ h9 => h9) rfl (tyX7_ok 13 (by decide)) rfl rfl (Nat.le_of_ble_eq_true rfl) dX7_steps_200 (fun H locs hP hD hS => ?_)
          have hP : va_P G.1 CL [(h_this, .inr (7, [.int c_thrown, .ref h_s, .ref h_draft, .ref h_past, .int c_undos, .ref h_kept, .ref h_isKept, .ref h_facts, .int c_manyFacts, .ref h_text, .int c_typed, .int c_from_x2, .int c_from_x2, .int j200_0, .int c_fault, .int c_hasHooks, .int c_hasTies, .int c_low, .int c_high])), (h_text, .inl (G.2 1, 120, .inl c_text))] H := hP
          have hD : va_D A [(h_this, .inr (7, [.int c_thrown, .ref h_s, .ref h_draft, .ref h_past, .int c_undos, .ref h_kept, .ref h_isKept, .ref h_facts, .int c_manyFacts, .ref h_text, .int c_typed, .int c_from_x2, .int c_from_x2, .int j200_0, .int c_fault, .int c_hasHooks, .int c_hasTies, .int c_low, .int c_high])), (h_text, .inl (G.2 1, 120, .inl c_text))] := hD
          refine lv_aload_n hx hb dX7_steps_203 rfl (lv_at hl 0 rfl) ?_
          refine lv_dup hx hb dX7_steps_204 rfl ?_
          refine va_get (D := G.1) (cl := CL) (ci := 7) (C := RX7) (T := TX7) (N := 19) hx hb hts iX7_steps_7 hown hK hP 0 rfl rfl 12 (by decide) (hts (.fieldLink RX7 48 "LoomCardsModel" "to" "I") (List.mem_of_getElem? (i := 1) rfl)) (fun _ h9 => h9) rfl dX7_steps_205 ?_
          refine lv_iconst (v := (1 : Int32)) hx hb dX7_steps_208 (by decide) ?_
          refine lv_iadd hx hb dX7_steps_209 ?_
          refine va_put (D := G.1) (cl := CL) (ci := 7) (v := .int (c_from_x2 + (1 : Int32))) (ty := .int) (C := RX7) (T := TX7) (N := 19) hx hb hts iX7_steps_7 tyX7 tyX7_ok nmX7 hown hK hP hD hS 0 rfl rfl 12 (by decide) (hts (.fieldLink RX7 48 "LoomCardsModel" "to" "I") (List.mem_of_getElem? (i := 1) rfl)) (fun _ h9 => h9) rfl (tyX7_ok 12 (by decide)) rfl rfl (Nat.le_of_ble_eq_true rfl) dX7_steps_210 (fun H locs hP hD hS => ?_)
          have hP : va_P G.1 CL [(h_this, .inr (7, [.int c_thrown, .ref h_s, .ref h_draft, .ref h_past, .int c_undos, .ref h_kept, .ref h_isKept, .ref h_facts, .int c_manyFacts, .ref h_text, .int c_typed, .int c_from_x2, .int (c_from_x2 + (1 : Int32)), .int j200_0, .int c_fault, .int c_hasHooks, .int c_hasTies, .int c_low, .int c_high])), (h_text, .inl (G.2 1, 120, .inl c_text))] H := hP
          have hD : va_D A [(h_this, .inr (7, [.int c_thrown, .ref h_s, .ref h_draft, .ref h_past, .int c_undos, .ref h_kept, .ref h_isKept, .ref h_facts, .int c_manyFacts, .ref h_text, .int c_typed, .int c_from_x2, .int (c_from_x2 + (1 : Int32)), .int j200_0, .int c_fault, .int c_hasHooks, .int c_hasTies, .int c_low, .int c_high])), (h_text, .inl (G.2 1, 120, .inl c_text))] := hD
          obtain rfl := Option.some.inj hf
          exact kr _ _ _ _ hP hD hS dX7_steps_213
        refine lv_icmp_ne (tgt := 198) hx hb dX7_steps_190 (by decide) (fun c9 => ?_) (fun c9 => ?_)
        · have hf := c_f hf c9
          refine lv_bipush (v := (8 : Int32)) hx hb dX7_steps_198 (by decide) ?_
          exact hJ200 (8 : Int32) _ _ hf hP hD hS _ (lv_sub hl [0] rfl)
        · have hf := c_t hf c9
          refine lv_bipush (v := (7 : Int32)) hx hb dX7_steps_193 (by decide) ?_
          refine lv_goto (tgt := 200) hx hb dX7_steps_195 (by decide) ?_
          exact hJ200 (7 : Int32) _ _ hf hP hD hS _ (lv_sub hl [0] rfl)
      · have hf := c_f hf c9
        refine kX7_steps_L137 h_this h_s h_draft h_past h_kept h_isKept h_facts h_text c_thrown c_undos c_manyFacts c_typed c_from_x2 c_token c_fault c_hasHooks c_hasTies c_low c_high c_text C hA kr ?_ FU c_from_x2 _ _ hf hP hD hS _ (lv_sub hl [0] rfl)
        intro c_to_x11 H locs hf hP hD hS ls hl
        refine lv_aload_n hx hb dX7_steps_168 rfl (lv_at hl 0 rfl) ?_
        refine lv_aload_n hx hb dX7_steps_169 rfl (lv_at hl 0 rfl) ?_
        refine r_bind hf (fun u12 hu12 hf => ?_)
        refine cRiV (ci := 7) (rest := [.ref h_this]) ⟨hx, hb, hml, hown, hts⟩ hK (tX7_wordOf l G h_this h_s h_draft h_past h_kept h_isKept h_facts h_text c_thrown c_undos c_manyFacts c_typed c_from_x2 c_to_x11 c_token c_fault c_hasHooks c_hasTies c_low c_high c_text u12 hu12) gX7_steps_X7_wordOf rfl hdX7_wordOf rfl rfl rfl ⟨Nat.le_of_ble_eq_true rfl, Nat.le_of_ble_eq_true rfl⟩ hP [0, 1] rfl 0 rfl rfl rfl hl.1 (Nat.le_of_ble_eq_true rfl) rfl dX7_steps_170 ⟨Nat.zero_le _, Nat.zero_le _⟩ ?_
        refine va_put (D := G.1) (cl := CL) (ci := 7) (v := .int u12) (ty := .int) (C := RX7) (T := TX7) (N := 19) hx hb hts iX7_steps_7 tyX7 tyX7_ok nmX7 hown hK hP hD hS 0 rfl rfl 13 (by decide) (hts (.fieldLink RX7 62 "LoomCardsModel" "token" "I") (List.mem_of_getElem? (i := 3) rfl)) (fun _ h9 => h9) rfl (tyX7_ok 13 (by decide)) rfl rfl (Nat.le_of_ble_eq_true rfl) dX7_steps_173 (fun H locs hP hD hS => ?_)
        have hP : va_P G.1 CL [(h_this, .inr (7, [.int c_thrown, .ref h_s, .ref h_draft, .ref h_past, .int c_undos, .ref h_kept, .ref h_isKept, .ref h_facts, .int c_manyFacts, .ref h_text, .int c_typed, .int c_from_x2, .int c_to_x11, .int u12, .int c_fault, .int c_hasHooks, .int c_hasTies, .int c_low, .int c_high])), (h_text, .inl (G.2 1, 120, .inl c_text))] H := hP
        have hD : va_D A [(h_this, .inr (7, [.int c_thrown, .ref h_s, .ref h_draft, .ref h_past, .int c_undos, .ref h_kept, .ref h_isKept, .ref h_facts, .int c_manyFacts, .ref h_text, .int c_typed, .int c_from_x2, .int c_to_x11, .int u12, .int c_fault, .int c_hasHooks, .int c_hasTies, .int c_low, .int c_high])), (h_text, .inl (G.2 1, 120, .inl c_text))] := hD
        refine lv_goto (tgt := 213) hx hb dX7_steps_176 (by decide) ?_
        obtain rfl := Option.some.inj hf
        exact kr _ _ _ _ hP hD hS dX7_steps_213
    · have hf := c_f hf c9
      refine kX7_steps_L79 h_this h_s h_draft h_past h_kept h_isKept h_facts h_text c_thrown c_undos c_manyFacts c_typed c_from_x2 c_token c_fault c_hasHooks c_hasTies c_low c_high c_text C hA kr ?_ FU c_from_x2 _ _ hf hP hD hS _ (lv_sub hl [0] rfl)
      intro c_to_x15 H locs hf hP hD hS ls hl
      refine lv_aload_n hx hb dX7_steps_110 rfl (lv_at hl 0 rfl) ?_
      refine lv_bipush (v := (6 : Int32)) hx hb dX7_steps_111 (by decide) ?_
      refine va_put (D := G.1) (cl := CL) (ci := 7) (v := .int (6 : Int32)) (ty := .int) (C := RX7) (T := TX7) (N := 19) hx hb hts iX7_steps_7 tyX7 tyX7_ok nmX7 hown hK hP hD hS 0 rfl rfl 13 (by decide) (hts (.fieldLink RX7 62 "LoomCardsModel" "token" "I") (List.mem_of_getElem? (i := 3) rfl)) (fun _ h9 => h9) rfl (tyX7_ok 13 (by decide)) rfl rfl (Nat.le_of_ble_eq_true rfl) dX7_steps_113 (fun H locs hP hD hS => ?_)
      have hP : va_P G.1 CL [(h_this, .inr (7, [.int c_thrown, .ref h_s, .ref h_draft, .ref h_past, .int c_undos, .ref h_kept, .ref h_isKept, .ref h_facts, .int c_manyFacts, .ref h_text, .int c_typed, .int c_from_x2, .int c_to_x15, .int (6 : Int32), .int c_fault, .int c_hasHooks, .int c_hasTies, .int c_low, .int c_high])), (h_text, .inl (G.2 1, 120, .inl c_text))] H := hP
      have hD : va_D A [(h_this, .inr (7, [.int c_thrown, .ref h_s, .ref h_draft, .ref h_past, .int c_undos, .ref h_kept, .ref h_isKept, .ref h_facts, .int c_manyFacts, .ref h_text, .int c_typed, .int c_from_x2, .int c_to_x15, .int (6 : Int32), .int c_fault, .int c_hasHooks, .int c_hasTies, .int c_low, .int c_high])), (h_text, .inl (G.2 1, 120, .inl c_text))] := hD
      refine lv_goto (tgt := 213) hx hb dX7_steps_116 (by decide) ?_
      obtain rfl := Option.some.inj hf
      exact kr _ _ _ _ hP hD hS dX7_steps_213
  · have hf := c_f hf c9
    refine lv_aload_n hx hb dX7_steps_53 rfl (lv_at hl 0 rfl) ?_
    refine lv_iconst (v := (0 : Int32)) hx hb dX7_steps_54 (by decide) ?_
    refine va_put (D := G.1) (cl := CL) (ci := 7) (v := .int (0 : Int32)) (ty := .int) (C := RX7) (T := TX7) (N := 19) hx hb hts iX7_steps_7 tyX7 tyX7_ok nmX7 hown hK hP hD hS 0 rfl rfl 13 (by decide) (hts (.fieldLink RX7 62 "LoomCardsModel" "token" "I") (List.mem_of_getElem? (i := 3) rfl)) (fun _ h9 => h9) rfl (tyX7_ok 13 (by decide)) rfl rfl (Nat.le_of_ble_eq_true rfl) dX7_steps_55 (fun H locs hP hD hS => ?_)
    have hP : va_P G.1 CL [(h_this, .inr (7, [.int c_thrown, .ref h_s, .ref h_draft, .ref h_past, .int c_undos, .ref h_kept, .ref h_isKept, .ref h_facts, .int c_manyFacts, .ref h_text, .int c_typed, .int c_from_x2, .int c_from_x2, .int (0 : Int32), .int c_fault, .int c_hasHooks, .int c_hasTies, .int c_low, .int c_high])), (h_text, .inl (G.2 1, 120, .inl c_text))] H := hP
    have hD : va_D A [(h_this, .inr (7, [.int c_thrown, .ref h_s, .ref h_draft, .ref h_past, .int c_undos, .ref h_kept, .ref h_isKept, .ref h_facts, .int c_manyFacts, .ref h_text, .int c_typed, .int c_from_x2, .int c_from_x2, .int (0 : Int32), .int c_fault, .int c_hasHooks, .int c_hasTies, .int c_low, .int c_high])), (h_text, .inl (G.2 1, 120, .inl c_text))] := hD
    refine lv_goto (tgt := 213) hx hb dX7_steps_58 (by decide) ?_
    obtain rfl := Option.some.inj hf
    exact kr _ _ _ _ hP hD hS dX7_steps_213
end SX7_steps
set_option maxHeartbeats 4000000 in
set_option maxRecDepth 100000 in
theorem tX7_steps (l : Launch) (G : GG) (h_this : Nat) (h_s : Nat) (h_draft : Nat) (h_past : Nat) (h_kept : Nat) (h_isKept : Nat) (h_facts : Nat) (h_text : Nat) (c_thrown : Int32) (c_undos : Int32) (c_manyFacts : Int32) (c_typed : Int32) (c_from : Int32) (c_to : Int32) (c_token : Int32) (c_fault : Int32) (c_hasHooks : Int32) (c_hasTies : Int32) (c_low : Int32) (c_high : Int32) (c_text : Nat → Int32) (res : Int32 × Int32 × Int32) (hf : fX7_steps c_typed c_from c_to c_token c_text = some res) : MWv l yX7_steps wsX7_steps rmX7_steps G [.ref h_this] [(h_this, .inr (7, [.int c_thrown, .ref h_s, .ref h_draft, .ref h_past, .int c_undos, .ref h_kept, .ref h_isKept, .ref h_facts, .int c_manyFacts, .ref h_text, .int c_typed, .int c_from, .int c_to, .int c_token, .int c_fault, .int c_hasHooks, .int c_hasTies, .int c_low, .int c_high])), (h_text, .inl (G.2 1, 120, .inl c_text))] [(h_this, .inr (7, [.int c_thrown, .ref h_s, .ref h_draft, .ref h_past, .int c_undos, .ref h_kept, .ref h_isKept, .ref h_facts, .int c_manyFacts, .ref h_text, .int c_typed, .int (res.1), .int (res.2.1), .int (res.2.2), .int c_fault, .int c_hasHooks, .int c_hasTies, .int c_low, .int c_high])), (h_text, .inl (G.2 1, 120, .inl c_text))] := MWv.of (plainFor_of_name (by decide +kernel)) rfl (Nat.le_of_ble_eq_true rfl) (fun p e s m below meth c A C hA hP hD hS ls hl => kX7_steps h_this h_s h_draft h_past h_kept h_isKept h_facts h_text c_thrown c_undos c_manyFacts c_typed c_from c_to c_token c_fault c_hasHooks c_hasTies c_low c_high c_text C hA hP hD hS (fun pc ls H locs hP hD hS d => rWv C hP hD hS d) hf hl)
def fX7_takes (c_typed : Int32) (c_from : Int32) (c_to : Int32) (c_token : Int32) (c_fault : Int32) (c_text : Nat → Int32) (v1 : Int32) : Option (Int32 × Int32 × Int32 × Int32) := if c_fault = (-9 : Int32) then if v1 = 0 then some (c_from, c_to, c_token, c_from) else (fX7_steps c_typed c_from c_to c_token c_text).bind (fun u1 => some (u1.1, u1.2.1, u1.2.2, c_fault)) else some (c_from, c_to, c_token, c_fault)
theorem iX7_takes_7 : ∀ w ∈ wsX70, w ∈ wsX7_takes := fun w h => List.mem_cons_of_mem _ (List.mem_append_right _ (h))
theorem hdX7_takes : yX7_takes.cls = RX7 ∧ yX7_takes.cls ≠ "java/lang/invoke/MethodHandle" ∧ yX7_takes.cls ≠ "java/lang/invoke/VarHandle" ∧ (parseMethodDescriptor yX7_takes.desc).map (fun d => d.parameters.length) = some 1 := by decide +kernel
abbrev rmX7_takes : Room := { frames := 4, cells := 0, slots := 0, locals := 87 }
section SX7_takes
variable {p : Program} {l : Launch} {e : Env} {s : State} {m : MethodId} {args : Array Value} {below : List Frame} {meth : Method} {c : Code} {Q : State → Prop} {G : GG} {A : Nat → Prop}
set_option maxHeartbeats 4000000 in
set_option maxRecDepth 100000 in
theorem kX7_takes (h_this : Nat) (h_s : Nat) (h_draft : Nat) (h_past : Nat) (h_kept : Nat) (h_isKept : Nat) (h_facts : Nat) (h_text : Nat) (c_thrown : Int32) (c_undos : Int32) (c_manyFacts : Int32) (c_typed : Int32) (c_from : Int32) (c_to : Int32) (c_token : Int32) (c_fault : Int32) (c_hasHooks : Int32) (c_hasTies : Int32) (c_low : Int32) (c_high : Int32) (c_text : Nat → Int32) (v1 : Int32) (C : Cx cX7_takes none 2 RX7 wsX7_takes G p s m args meth c) (hA : ∀ q : Nat, s.heap.size ≤ q → A q) (hP : va_P G.1 CL [(h_this, .inr (7, [.int c_thrown, .ref h_s, .ref h_draft, .ref h_past, .int c_undos, .ref h_kept, .ref h_isKept, .ref h_facts, .int c_manyFacts, .ref h_text, .int c_typed, .int c_from, .int c_to, .int c_token, .int c_fault, .int c_hasHooks, .int c_hasTies, .int c_low, .int c_high])), (h_text, .inl (G.2 1, 120, .inl c_text))] s.heap) (hD : va_D A [(h_this, .inr (7, [.int c_thrown, .ref h_s, .ref h_draft, .ref h_past, .int c_undos, .ref h_kept, .ref h_isKept, .ref h_facts, .int c_manyFacts, .ref h_text, .int c_typed, .int c_from, .int c_to, .int c_token, .int c_fault, .int c_hasHooks, .int c_hasTies, .int c_low, .int c_high])), (h_text, .inl (G.2 1, 120, .inl c_text))]) (hS : va_S A s.heap s.heap []) {res : Int32 × Int32 × Int32 × Int32} (kr : ∀ (pc : Nat) (ls : Array Slot) (H : Heap) (locs : List Loc), va_P G.1 CL [(h_this, .inr (7, [.int c_thrown, .ref h_s, .ref h_draft, .ref h_past, .int c_undos, .ref h_kept, .ref h_isKept, .ref h_facts, .int c_manyFacts, .ref h_text, .int c_typed, .int (res.1), .int (res.2.1), .int (res.2.2.1), .int (res.2.2.2), .int c_hasHooks, .int c_hasTies, .int c_low, .int c_high])), (h_text, .inl (G.2 1, 120, .inl c_text))] H → va_D A [(h_this, .inr (7, [.int c_thrown, .ref h_s, .ref h_draft, .ref h_past, .int c_undos, .ref h_kept, .ref h_isKept, .ref h_facts, .int c_manyFacts, .ref h_text, .int c_typed, .int (res.1), .int (res.2.1), .int (res.2.2.1), .int (res.2.2.2), .int c_hasHooks, .int c_hasTies, .int c_low, .int c_high])), (h_text, .inl (G.2 1, 120, .inl c_text))] → va_S A s.heap H locs → decode cX7_takes pc = .ok (.return_, 1) → W p l e rmX7_takes s m args below meth c H locs 0 0 Q (F0 m pc ls [])) (hf : fX7_takes c_typed c_from c_to c_token c_fault c_text v1 = some res) {ls : Array Slot} (hl : lv_has ls 2 [(0, .ref h_this), (1, .int v1)]) : W p l e rmX7_takes s m args below meth c s.heap [] 0 0 Q (F0 m 0 ls []) := by
  obtain ⟨hx, hb, hr, hlk, hml, hown, hts, hK⟩ := id C
  rw [fX7_takes] at hf
  refine lv_aload_n hx hb dX7_takes_0 rfl (lv_at hl 0 rfl) ?_
  refine va_get (D := G.1) (cl := CL) (ci := 7) (C := RX7) (T := TX7) (N := 19) hx hb hts iX7_takes_7 hown hK hP 0 rfl rfl 14 (by decide) (hts (.fieldLink RX7 69 "LoomCardsModel" "fault" "I") (List.mem_of_getElem? (i := 1) rfl)) (fun _ h9 => h9) rfl dX7_takes_1 ?_
  refine lv_bipush (v := (-9 : Int32)) hx hb dX7_takes_4 (by decide) ?_
  refine lv_icmp_ne (tgt := 28) hx hb dX7_takes_6 (by decide) (fun c9 => ?_) (fun c9 => ?_)
  · have hf := c_f hf c9
    obtain rfl := Option.some.inj hf
    exact kr _ _ _ _ hP hD hS dX7_takes_28
  · have hf := c_t hf c9
    refine lv_iload_n hx hb dX7_takes_9 rfl (lv_at hl 1 rfl) ?_
    refine lv_if_eq (tgt := 20) hx hb dX7_takes_10 (by decide) (fun c9 => ?_) (fun c9 => ?_)
    · have hf := c_t hf c9
      refine lv_aload_n hx hb dX7_takes_20 rfl (lv_at hl 0 rfl) ?_
      refine lv_aload_n hx hb dX7_takes_21 rfl (lv_at hl 0 rfl) ?_
      refine va_get (D := G.1) (cl := CL) (ci := 7) (C := RX7) (T := TX7) (N := 19) hx hb hts iX7_takes_7 hown hK hP 0 rfl rfl 11 (by decide) (hts (.fieldLink RX7 51 "LoomCardsModel" "from" "I") (List.mem_of_getElem? (i := 2) rfl)) (fun _ h9 => h9) rfl dX7_takes_22 ?_
      refine va_put (D := G.1) (cl := CL) (ci := 7) (v := .int c_from) (ty := .int) (C := RX7) (T := TX7) (N := 19) hx hb hts iX7_takes_7 tyX7 tyX7_ok nmX7 hown hK hP hD hS 0 rfl rfl 14 (by decide) (hts (.fieldLink RX7 69 "LoomCardsModel" "fault" "I") (List.mem_of_getElem? (i := 1) rfl)) (fun _ h9 => h9) rfl (tyX7_ok 14 (by decide)) rfl rfl (Nat.le_of_ble_eq_true rfl) dX7_takes_25 (fun H locs hP hD hS => ?_)
      have hP : va_P G.1 CL [(h_this, .inr (7, [.int c_thrown, .ref h_s, .ref h_draft, .ref h_past, .int c_undos, .ref h_kept, .ref h_isKept, .ref h_facts, .int c_manyFacts, .ref h_text, .int c_typed, .int c_from, .int c_to, .int c_token, .int c_from, .int c_hasHooks, .int c_hasTies, .int c_low, .int c_high])), (h_text, .inl (G.2 1, 120, .inl c_text))] H := hP
      have hD : va_D A [(h_this, .inr (7, [.int c_thrown, .ref h_s, .ref h_draft, .ref h_past, .int c_undos, .ref h_kept, .ref h_isKept, .ref h_facts, .int c_manyFacts, .ref h_text, .int c_typed, .int c_from, .int c_to, .int c_token, .int c_from, .int c_hasHooks, .int c_hasTies, .int c_low, .int c_high])), (h_text, .inl (G.2 1, 120, .inl c_text))] := hD
      obtain rfl := Option.some.inj hf
      exact kr _ _ _ _ hP hD hS dX7_takes_28
    · have hf := c_f hf c9
      refine lv_aload_n hx hb dX7_takes_13 rfl (lv_at hl 0 rfl) ?_
      refine r_bind hf (fun u1 hu1 hf => ?_)
      refine cWvV (ci := 7) (rest := []) (wr := []) (wf := [(h_this, .inr (7, [.int c_thrown, .ref h_s, .ref h_draft, .ref h_past, .int c_undos, .ref h_kept, .ref h_isKept, .ref h_facts, .int c_manyFacts, .ref h_text, .int c_typed, .int u1.1, .int u1.2.1, .int u1.2.2, .int c_fault, .int c_hasHooks, .int c_hasTies, .int c_low, .int c_high])), (h_text, .inl (G.2 1, 120, .inl c_text))]) ⟨hx, hb, hml, hown, hts⟩ hK (tX7_steps l G h_this h_s h_draft h_past h_kept h_isKept h_facts h_text c_thrown c_undos c_manyFacts c_typed c_from c_to c_token c_fault c_hasHooks c_hasTies c_low c_high c_text u1 hu1) gX7_takes_X7_steps rfl hdX7_steps rfl rfl rfl ⟨Nat.le_of_ble_eq_true rfl, Nat.le_of_ble_eq_true rfl⟩ hP hD hS hA [0, 1] [] [0, 1] rfl rfl rfl (by decide) (by decide) (by decide) (by decide) 0 rfl rfl rfl hl.1 (Nat.le_of_ble_eq_true rfl) rfl dX7_takes_14 ⟨Nat.zero_le _, Nat.zero_le _⟩ (fun H locs hP hD hS => ?_)
      refine lv_goto (tgt := 28) hx hb dX7_takes_17 (by decide) ?_
      obtain rfl := Option.some.inj hf
      exact kr _ _ _ _ hP hD hS dX7_takes_28
end SX7_takes
set_option maxHeartbeats 4000000 in
set_option maxRecDepth 100000 in
theorem tX7_takes (l : Launch) (G : GG) (h_this : Nat) (h_s : Nat) (h_draft : Nat) (h_past : Nat) (h_kept : Nat) (h_isKept : Nat) (h_facts : Nat) (h_text : Nat) (c_thrown : Int32) (c_undos : Int32) (c_manyFacts : Int32) (c_typed : Int32) (c_from : Int32) (c_to : Int32) (c_token : Int32) (c_fault : Int32) (c_hasHooks : Int32) (c_hasTies : Int32) (c_low : Int32) (c_high : Int32) (c_text : Nat → Int32) (v1 : Int32) (res : Int32 × Int32 × Int32 × Int32) (hf : fX7_takes c_typed c_from c_to c_token c_fault c_text v1 = some res) : MWv l yX7_takes wsX7_takes rmX7_takes G [.ref h_this, .int v1] [(h_this, .inr (7, [.int c_thrown, .ref h_s, .ref h_draft, .ref h_past, .int c_undos, .ref h_kept, .ref h_isKept, .ref h_facts, .int c_manyFacts, .ref h_text, .int c_typed, .int c_from, .int c_to, .int c_token, .int c_fault, .int c_hasHooks, .int c_hasTies, .int c_low, .int c_high])), (h_text, .inl (G.2 1, 120, .inl c_text))] [(h_this, .inr (7, [.int c_thrown, .ref h_s, .ref h_draft, .ref h_past, .int c_undos, .ref h_kept, .ref h_isKept, .ref h_facts, .int c_manyFacts, .ref h_text, .int c_typed, .int (res.1), .int (res.2.1), .int (res.2.2.1), .int (res.2.2.2), .int c_hasHooks, .int c_hasTies, .int c_low, .int c_high])), (h_text, .inl (G.2 1, 120, .inl c_text))] := MWv.of (plainFor_of_name (by decide +kernel)) rfl (Nat.le_of_ble_eq_true rfl) (fun p e s m below meth c A C hA hP hD hS ls hl => kX7_takes h_this h_s h_draft h_past h_kept h_isKept h_facts h_text c_thrown c_undos c_manyFacts c_typed c_from c_to c_token c_fault c_hasHooks c_hasTies c_low c_high c_text v1 C hA hP hD hS (fun pc ls H locs hP hD hS d => rWv C hP hD hS d) hf hl)
def fX7_areFigures_L39 (k79 : Int32 → Option (Int32)) (c_typed : Int32) (c_to : Int32) (c_text : Nat → Int32) (v3 : Int32) : Nat → Int32 → Int32 → Option (Int32)
  | 0, _, _ => none
  | n + 1, v4, v5 => if c_to ≤ v5 then k79 v4 else if v4 = 0 then k79 v4 else (fX7_at c_typed c_text v5).bind (fun u1 => jn (fun (j71_0 : Int32) => fX7_areFigures_L39 k79 c_typed c_to c_text v3 n j71_0 (v5 + (1 : Int32))) (fun J71 => if v3 ≤ (u1 - (48 : Int32)) then J71 (0 : Int32) else J71 (1 : Int32)))
def fX7_areFigures (c_typed : Int32) (c_from : Int32) (c_to : Int32) (c_token : Int32) (c_text : Nat → Int32) (v1 : Int32) (v2 : Int32) (v3 : Int32) : Option (Int32) := jn (fun (j31_0 : Int32) => (fX7_areFigures_L39 (fun (v4_x2 : Int32) => gd (tf v4_x2) (some (v4_x2))) c_typed c_to c_text v3 FU j31_0 c_from)) (fun J31 => jn (J31 (0 : Int32)) (fun J30 => if c_token = (6 : Int32) then (fX7_in (c_to - c_from) v1 v2).bind (fun u3 => if u3 = 0 then J30 else J31 (1 : Int32)) else J30))
theorem iX7_areFigures_7 : ∀ w ∈ wsX70, w ∈ wsX7_areFigures := fun w h => List.mem_cons_of_mem _ (List.mem_append_right _ (h))
theorem hdX7_areFigures : yX7_areFigures.cls = RX7 ∧ yX7_areFigures.cls ≠ "java/lang/invoke/MethodHandle" ∧ yX7_areFigures.cls ≠ "java/lang/invoke/VarHandle" ∧ (parseMethodDescriptor yX7_areFigures.desc).map (fun d => d.parameters.length) = some 3 := by decide +kernel
abbrev rmX7_areFigures : Room := { frames := 1, cells := 0, slots := 0, locals := 22 }
section SX7_areFigures
variable {p : Program} {l : Launch} {e : Env} {s : State} {m : MethodId} {args : Array Value} {below : List Frame} {meth : Method} {c : Code} {Q : State → Prop} {G : GG}
set_option maxHeartbeats 4000000 in
set_option maxRecDepth 100000 in
theorem kX7_areFigures_L39 (h_this : Nat) (h_s : Nat) (h_draft : Nat) (h_past : Nat) (h_kept : Nat) (h_isKept : Nat) (h_facts : Nat) (h_text : Nat) (c_thrown : Int32) (c_undos : Int32) (c_manyFacts : Int32) (c_typed : Int32) (c_from : Int32) (c_to : Int32) (c_token : Int32) (c_fault : Int32) (c_hasHooks : Int32) (c_hasTies : Int32) (c_low : Int32) (c_high : Int32) (c_text : Nat → Int32) (v3 : Int32) (C : Cx cX7_areFigures (some .boolean) 6 RX7 wsX7_areFigures G p s m args meth c) (hP : va_P G.1 CL [(h_this, .inr (7, [.int c_thrown, .ref h_s, .ref h_draft, .ref h_past, .int c_undos, .ref h_kept, .ref h_isKept, .ref h_facts, .int c_manyFacts, .ref h_text, .int c_typed, .int c_from, .int c_to, .int c_token, .int c_fault, .int c_hasHooks, .int c_hasTies, .int c_low, .int c_high])), (h_text, .inl (G.2 1, 120, .inl c_text))] s.heap) {res : Int32} (kr : ∀ (pc : Nat) (ls : Array Slot), narrow .boolean (.int res) = .int res → decode cX7_areFigures pc = .ok (.ireturn, 1) → W p l e rmX7_areFigures s m args below meth c s.heap [] 0 0 Q (F0 m pc ls [.int res])) {k79 : Int32 → Option (Int32)} (hk79 : ∀ (v4 : Int32) , k79 v4 = some res → ∀ (ls : Array Slot), lv_has ls 6 [(4, .int v4)] → W p l e rmX7_areFigures s m args below meth c s.heap [] 0 0 Q (F0 m 79 ls [])) : ∀ (n : Nat) (v4 : Int32) (v5 : Int32), fX7_areFigures_L39 k79 c_typed c_to c_text v3 n v4 v5 = some res → ∀ (ls : Array Slot), lv_has ls 6 [(0, .ref h_this), (3, .int v3), (4, .int v4), (5, .int v5)] → W p l e rmX7_areFigures s m args below meth c s.heap [] 0 0 Q (F0 m 39 ls []) := by
  obtain ⟨hx, hb, hr, hlk, hml, hown, hts, hK⟩ := id C
  intro n
  induction n with
  | zero =>
    intro v4 v5 hf
    cases hf
  | succ n ih =>
    intro v4 v5 hf ls hl
    rw [fX7_areFigures_L39] at hf
    refine lv_iload hx hb dX7_areFigures_39 (lv_at hl 3 rfl) ?_
    refine lv_aload_n hx hb dX7_areFigures_41 rfl (lv_at hl 0 rfl) ?_
    refine va_get (D := G.1) (cl := CL) (ci := 7) (C := RX7) (T := TX7) (N := 19) hx hb hts iX7_areFigures_7 hown hK hP 0 rfl rfl 12 (by decide) (hts (.fieldLink RX7 48 "LoomCardsModel" "to" "I") (List.mem_of_getElem? (i := 2) rfl)) (fun _ h9 => h9) rfl dX7_areFigures_42 ?_
    refine lv_icmp_ge (tgt := 79) hx hb dX7_areFigures_45 (by decide) (fun c9 => ?_) (fun c9 => ?_)
    · have hf := c_t hf c9
      exact hk79 v4 hf _ (lv_sub hl [2] rfl)
    · have hf := c_f hf c9
      refine lv_iload hx hb dX7_areFigures_48 (lv_at hl 2 rfl) ?_
      refine lv_if_eq (tgt := 79) hx hb dX7_areFigures_50 (by decide) (fun c9 => ?_) (fun c9 => ?_)
      · have hf := c_t hf c9
        exact hk79 v4 hf _ (lv_sub hl [2] rfl)
      · have hf := c_f hf c9
        refine lv_aload_n hx hb dX7_areFigures_53 rfl (lv_at hl 0 rfl) ?_
        refine lv_iload hx hb dX7_areFigures_54 (lv_at hl 3 rfl) ?_
        refine r_bind hf (fun u1 hu1 hf => ?_)
        refine cRiV (ci := 7) (rest := []) ⟨hx, hb, hml, hown, hts⟩ hK (tX7_at l G h_this h_s h_draft h_past h_kept h_isKept h_facts h_text c_thrown c_undos c_manyFacts c_typed c_from c_to c_token c_fault c_hasHooks c_hasTies c_low c_high c_text v5 u1 hu1) gX7_areFigures_X7_at rfl hdX7_at rfl rfl rfl ⟨Nat.le_of_ble_eq_true rfl, Nat.le_of_ble_eq_true rfl⟩ hP [0, 1] rfl 0 rfl rfl rfl hl.1 (Nat.le_of_ble_eq_true rfl) rfl dX7_areFigures_56 ⟨Nat.zero_le _, Nat.zero_le _⟩ ?_
        refine lv_bipush (v := (48 : Int32)) hx hb dX7_areFigures_59 (by decide) ?_
        refine lv_isub hx hb dX7_areFigures_61 ?_
        refine lv_iload_n hx hb dX7_areFigures_62 rfl (lv_at hl 1 rfl) ?_
        refine r_jn1 hf (fun J71 eJ71 hf => ?_)
        have hJ71 : ∀ (j71_0 : Int32) , J71 j71_0 = some res → ∀ (ls : Array Slot), lv_has ls 6 [(0, .ref h_this), (3, .int v3), (5, .int v5)] → W p l e rmX7_areFigures s m args below meth c s.heap [] 0 0 Q (F0 m 71 ls [.int j71_0]) := by
          intro j71_0 hf ls hl
          rw [eJ71] at hf
          refine lv_istore (lv' := [(4, .int j71_0), (0, .ref h_this), (3, .int v3), (5, .int v5)]) hx hb dX7_areFigures_71 hl (by decide) rfl (fun ls hl => ?_)
          refine lv_iinc (v := (v5 + (1 : Int32))) (lv' := [(5, .int (v5 + (1 : Int32))), (4, .int j71_0), (0, .ref h_this), (3, .int v3)]) hx hb dX7_areFigures_73 hl (k := 3) rfl rfl (by decide) rfl (fun ls hl => ?_)
          refine lv_goto (tgt := 39) hx hb dX7_areFigures_76 (by decide) ?_
          exact ih j71_0 (v5 + (1 : Int32)) hf _ (lv_sub hl [2, 3, 1, 0] rfl)
        refine lv_icmp_ge (tgt := 70) hx hb dX7_areFigures_63 (by decide) (fun c9 => ?_) (fun c9 => ?_)
        · have hf := c_t hf c9
          refine lv_iconst (v := (0 : Int32)) hx hb dX7_areFigures_70 (by decide) ?_
          exact hJ71 (0 : Int32) hf _ (lv_sub hl [0, 1, 3] rfl)
        · have hf := c_f hf c9
          refine lv_iconst (v := (1 : Int32)) hx hb dX7_areFigures_66 (by decide) ?_
          refine lv_goto (tgt := 71) hx hb dX7_areFigures_67 (by decide) ?_
          exact hJ71 (1 : Int32) hf _ (lv_sub hl [0, 1, 3] rfl)
set_option maxHeartbeats 4000000 in
set_option maxRecDepth 100000 in
theorem kX7_areFigures (h_this : Nat) (h_s : Nat) (h_draft : Nat) (h_past : Nat) (h_kept : Nat) (h_isKept : Nat) (h_facts : Nat) (h_text : Nat) (c_thrown : Int32) (c_undos : Int32) (c_manyFacts : Int32) (c_typed : Int32) (c_from : Int32) (c_to : Int32) (c_token : Int32) (c_fault : Int32) (c_hasHooks : Int32) (c_hasTies : Int32) (c_low : Int32) (c_high : Int32) (c_text : Nat → Int32) (v1 : Int32) (v2 : Int32) (v3 : Int32) (C : Cx cX7_areFigures (some .boolean) 6 RX7 wsX7_areFigures G p s m args meth c) (hP : va_P G.1 CL [(h_this, .inr (7, [.int c_thrown, .ref h_s, .ref h_draft, .ref h_past, .int c_undos, .ref h_kept, .ref h_isKept, .ref h_facts, .int c_manyFacts, .ref h_text, .int c_typed, .int c_from, .int c_to, .int c_token, .int c_fault, .int c_hasHooks, .int c_hasTies, .int c_low, .int c_high])), (h_text, .inl (G.2 1, 120, .inl c_text))] s.heap) {res : Int32} (kr : ∀ (pc : Nat) (ls : Array Slot), narrow .boolean (.int res) = .int res → decode cX7_areFigures pc = .ok (.ireturn, 1) → W p l e rmX7_areFigures s m args below meth c s.heap [] 0 0 Q (F0 m pc ls [.int res])) (hf : fX7_areFigures c_typed c_from c_to c_token c_text v1 v2 v3 = some res) {ls : Array Slot} (hl : lv_has ls 6 [(0, .ref h_this), (1, .int v1), (2, .int v2), (3, .int v3)]) : W p l e rmX7_areFigures s m args below meth c s.heap [] 0 0 Q (F0 m 0 ls []) := by
  obtain ⟨hx, hb, hr, hlk, hml, hown, hts, hK⟩ := id C
  rw [fX7_areFigures] at hf
  refine lv_aload_n hx hb dX7_areFigures_0 rfl (lv_at hl 0 rfl) ?_
  refine va_get (D := G.1) (cl := CL) (ci := 7) (C := RX7) (T := TX7) (N := 19) hx hb hts iX7_areFigures_7 hown hK hP 0 rfl rfl 13 (by decide) (hts (.fieldLink RX7 62 "LoomCardsModel" "token" "I") (List.mem_of_getElem? (i := 1) rfl)) (fun _ h9 => h9) rfl dX7_areFigures_1 ?_
  refine lv_bipush (v := (6 : Int32)) hx hb dX7_areFigures_4 (by decide) ?_
  refine r_jn1 hf (fun J31 eJ31 hf => ?_)
  have hJ31 : ∀ (j31_0 : Int32) , J31 j31_0 = some res → ∀ (ls : Array Slot), lv_has ls 6 [(0, .ref h_this), (3, .int v3)] → W p l e rmX7_areFigures s m args below meth c s.heap [] 0 0 Q (F0 m 31 ls [.int j31_0]) := by
    intro j31_0 hf ls hl
    rw [eJ31] at hf
    refine lv_istore (lv' := [(4, .int j31_0), (0, .ref h_this), (3, .int v3)]) hx hb dX7_areFigures_31 hl (by decide) rfl (fun ls hl => ?_)
    refine lv_aload_n hx hb dX7_areFigures_33 rfl (lv_at hl 1 rfl) ?_
    refine va_get (D := G.1) (cl := CL) (ci := 7) (C := RX7) (T := TX7) (N := 19) hx hb hts iX7_areFigures_7 hown hK hP 0 rfl rfl 11 (by decide) (hts (.fieldLink RX7 51 "LoomCardsModel" "from" "I") (List.mem_of_getElem? (i := 3) rfl)) (fun _ h9 => h9) rfl dX7_areFigures_34 ?_
    refine lv_istore (lv' := [(5, .int c_from), (4, .int j31_0), (0, .ref h_this), (3, .int v3)]) hx hb dX7_areFigures_37 hl (by decide) rfl (fun ls hl => ?_)
    refine kX7_areFigures_L39 h_this h_s h_draft h_past h_kept h_isKept h_facts h_text c_thrown c_undos c_manyFacts c_typed c_from c_to c_token c_fault c_hasHooks c_hasTies c_low c_high c_text v3 C hP kr ?_ FU j31_0 c_from hf _ (lv_sub hl [2, 3, 1, 0] rfl)
    intro v4_x2 hf ls hl
    refine lv_iload hx hb dX7_areFigures_79 (lv_at hl 0 rfl) ?_
    refine r_gd hf (fun g9 hf => ?_)
    obtain rfl := Option.some.inj hf
    exact kr _ _ (tf_nar g9) dX7_areFigures_81
  refine r_jn0 hf (fun J30 eJ30 hf => ?_)
  have hJ30 : J30 = some res → ∀ (ls : Array Slot), lv_has ls 6 [(0, .ref h_this), (3, .int v3)] → W p l e rmX7_areFigures s m args below meth c s.heap [] 0 0 Q (F0 m 30 ls []) := by
    intro hf ls hl
    rw [eJ30] at hf
    refine lv_iconst (v := (0 : Int32)) hx hb dX7_areFigures_30 (by decide) ?_
    exact hJ31 (0 : Int32) hf _ (lv_sub hl [0, 1] rfl)
  refine lv_icmp_ne (tgt := 30) hx hb dX7_areFigures_6 (by decide) (fun c9 => ?_) (fun c9 => ?_)
  · have hf := c_f hf c9
    exact hJ30 hf _ (lv_sub hl [0, 3] rfl)
  · have hf := c_t hf c9
    refine lv_aload_n hx hb dX7_areFigures_9 rfl (lv_at hl 0 rfl) ?_
    refine va_get (D := G.1) (cl := CL) (ci := 7) (C := RX7) (T := TX7) (N := 19) hx hb hts iX7_areFigures_7 hown hK hP 0 rfl rfl 12 (by decide) (hts (.fieldLink RX7 48 "LoomCardsModel" "to" "I") (List.mem_of_getElem? (i := 2) rfl)) (fun _ h9 => h9) rfl dX7_areFigures_10 ?_
    refine lv_aload_n hx hb dX7_areFigures_13 rfl (lv_at hl 0 rfl) ?_
    refine va_get (D := G.1) (cl := CL) (ci := 7) (C := RX7) (T := TX7) (N := 19) hx hb hts iX7_areFigures_7 hown hK hP 0 rfl rfl 11 (by decide) (hts (.fieldLink RX7 51 "LoomCardsModel" "from" "I") (List.mem_of_getElem? (i := 3) rfl)) (fun _ h9 => h9) rfl dX7_areFigures_14 ?_
    refine lv_isub hx hb dX7_areFigures_17 ?_
    refine lv_iload_n hx hb dX7_areFigures_18 rfl (lv_at hl 1 rfl) ?_
    refine lv_iload_n hx hb dX7_areFigures_19 rfl (lv_at hl 2 rfl) ?_
    refine r_bind hf (fun u3 hu3 hf => ?_)
    refine cRiS (rest := []) ⟨hx, hb, hml, hown, hts⟩ hK (tX7_in l G (c_to - c_from) v1 v2 u3 hu3) gX7_areFigures_X7_in rfl hdX7_in rfl rfl rfl ⟨Nat.le_of_ble_eq_true rfl, Nat.le_of_ble_eq_true rfl⟩ hP [] rfl hl.1 (Nat.le_of_ble_eq_true rfl) rfl dX7_areFigures_20 ⟨Nat.zero_le _, Nat.zero_le _⟩ ?_
    refine lv_if_eq (tgt := 30) hx hb dX7_areFigures_23 (by decide) (fun c9 => ?_) (fun c9 => ?_)
    · have hf := c_t hf c9
      exact hJ30 hf _ (lv_sub hl [0, 3] rfl)
    · have hf := c_f hf c9
      refine lv_iconst (v := (1 : Int32)) hx hb dX7_areFigures_26 (by decide) ?_
      refine lv_goto (tgt := 31) hx hb dX7_areFigures_27 (by decide) ?_
      exact hJ31 (1 : Int32) hf _ (lv_sub hl [0, 3] rfl)
end SX7_areFigures
set_option maxHeartbeats 4000000 in
set_option maxRecDepth 100000 in
theorem tX7_areFigures (l : Launch) (G : GG) (h_this : Nat) (h_s : Nat) (h_draft : Nat) (h_past : Nat) (h_kept : Nat) (h_isKept : Nat) (h_facts : Nat) (h_text : Nat) (c_thrown : Int32) (c_undos : Int32) (c_manyFacts : Int32) (c_typed : Int32) (c_from : Int32) (c_to : Int32) (c_token : Int32) (c_fault : Int32) (c_hasHooks : Int32) (c_hasTies : Int32) (c_low : Int32) (c_high : Int32) (c_text : Nat → Int32) (v1 : Int32) (v2 : Int32) (v3 : Int32) (res : Int32) (hf : fX7_areFigures c_typed c_from c_to c_token c_text v1 v2 v3 = some res) : MRi l yX7_areFigures wsX7_areFigures rmX7_areFigures G [.ref h_this, .int v1, .int v2, .int v3] [(h_this, .inr (7, [.int c_thrown, .ref h_s, .ref h_draft, .ref h_past, .int c_undos, .ref h_kept, .ref h_isKept, .ref h_facts, .int c_manyFacts, .ref h_text, .int c_typed, .int c_from, .int c_to, .int c_token, .int c_fault, .int c_hasHooks, .int c_hasTies, .int c_low, .int c_high])), (h_text, .inl (G.2 1, 120, .inl c_text))] (res) := MRi.of (plainFor_of_name (by decide +kernel)) rfl (Nat.le_of_ble_eq_true rfl) (fun p e s m below meth c C hP ls hl => kX7_areFigures h_this h_s h_draft h_past h_kept h_isKept h_facts h_text c_thrown c_undos c_manyFacts c_typed c_from c_to c_token c_fault c_hasHooks c_hasTies c_low c_high c_text v1 v2 v3 C hP (fun pc ls hn d => rRz C hn d) hf hl)
def fX7_number (c_typed : Int32) (c_from : Int32) (c_to : Int32) (c_token : Int32) (c_fault : Int32) (c_text : Nat → Int32) (v1 : Int32) (v2 : Int32) : Option (Int32 × Int32 × Int32 × Int32 × Int32) := jn (fun (j57_0 : Int32) => jn (fun (j111_0 : Int32) => (fX7_takes c_typed c_from c_to c_token c_fault c_text j111_0).bind (fun u1 => some (j57_0, u1.1, u1.2.1, u1.2.2.1, u1.2.2.2))) (fun J111 => jn (J111 (0 : Int32)) (fun J110 => if c_token = (6 : Int32) then (fX7_in (c_to - c_from) (1 : Int32) (2 : Int32)).bind (fun u2 => if u2 = 0 then J110 else jn ((fX7_in j57_0 v1 v2).bind (fun u3 => if u3 = 0 then J110 else J111 (1 : Int32))) (fun J96 => if (c_to - c_from) = (1 : Int32) then J96 else (fX7_at c_typed c_text c_from).bind (fun u4 => if u4 = (48 : Int32) then J110 else J96))) else J110))) (fun J57 => if (c_to - c_from) = (1 : Int32) then (fX7_at c_typed c_text c_from).bind (fun u7 => J57 (u7 - (48 : Int32))) else (fX7_at c_typed c_text c_from).bind (fun u5 => (fX7_at c_typed c_text (c_from + (1 : Int32))).bind (fun u6 => J57 ((((10 : Int32) * (u5 - (48 : Int32))) + u6) - (48 : Int32)))))
theorem iX7_number_7 : ∀ w ∈ wsX70, w ∈ wsX7_number := fun w h => List.mem_cons_of_mem _ (List.mem_append_right _ (h))
theorem hdX7_number : yX7_number.cls = RX7 ∧ yX7_number.cls ≠ "java/lang/invoke/MethodHandle" ∧ yX7_number.cls ≠ "java/lang/invoke/VarHandle" ∧ (parseMethodDescriptor yX7_number.desc).map (fun d => d.parameters.length) = some 2 := by decide +kernel
abbrev rmX7_number : Room := { frames := 5, cells := 0, slots := 0, locals := 108 }
section SX7_number
variable {p : Program} {l : Launch} {e : Env} {s : State} {m : MethodId} {args : Array Value} {below : List Frame} {meth : Method} {c : Code} {Q : State → Prop} {G : GG} {A : Nat → Prop}
set_option maxHeartbeats 4000000 in
set_option maxRecDepth 100000 in
theorem kX7_number (h_this : Nat) (h_s : Nat) (h_draft : Nat) (h_past : Nat) (h_kept : Nat) (h_isKept : Nat) (h_facts : Nat) (h_text : Nat) (c_thrown : Int32) (c_undos : Int32) (c_manyFacts : Int32) (c_typed : Int32) (c_from : Int32) (c_to : Int32) (c_token : Int32) (c_fault : Int32) (c_hasHooks : Int32) (c_hasTies : Int32) (c_low : Int32) (c_high : Int32) (c_text : Nat → Int32) (v1 : Int32) (v2 : Int32) (C : Cx cX7_number (some .int) 5 RX7 wsX7_number G p s m args meth c) (hA : ∀ q : Nat, s.heap.size ≤ q → A q) (hP : va_P G.1 CL [(h_this, .inr (7, [.int c_thrown, .ref h_s, .ref h_draft, .ref h_past, .int c_undos, .ref h_kept, .ref h_isKept, .ref h_facts, .int c_manyFacts, .ref h_text, .int c_typed, .int c_from, .int c_to, .int c_token, .int c_fault, .int c_hasHooks, .int c_hasTies, .int c_low, .int c_high])), (h_text, .inl (G.2 1, 120, .inl c_text))] s.heap) (hD : va_D A [(h_this, .inr (7, [.int c_thrown, .ref h_s, .ref h_draft, .ref h_past, .int c_undos, .ref h_kept, .ref h_isKept, .ref h_facts, .int c_manyFacts, .ref h_text, .int c_typed, .int c_from, .int c_to, .int c_token, .int c_fault, .int c_hasHooks, .int c_hasTies, .int c_low, .int c_high])), (h_text, .inl (G.2 1, 120, .inl c_text))]) (hS : va_S A s.heap s.heap []) {res : Int32 × Int32 × Int32 × Int32 × Int32} (kr : ∀ (pc : Nat) (ls : Array Slot) (H : Heap) (locs : List Loc), va_P G.1 CL [(h_this, .inr (7, [.int c_thrown, .ref h_s, .ref h_draft, .ref h_past, .int c_undos, .ref h_kept, .ref h_isKept, .ref h_facts, .int c_manyFacts, .ref h_text, .int c_typed, .int (res.2.1), .int (res.2.2.1), .int (res.2.2.2.1), .int (res.2.2.2.2), .int c_hasHooks, .int c_hasTies, .int c_low, .int c_high])), (h_text, .inl (G.2 1, 120, .inl c_text))] H → va_D A [(h_this, .inr (7, [.int c_thrown, .ref h_s, .ref h_draft, .ref h_past, .int c_undos, .ref h_kept, .ref h_isKept, .ref h_facts, .int c_manyFacts, .ref h_text, .int c_typed, .int (res.2.1), .int (res.2.2.1), .int (res.2.2.2.1), .int (res.2.2.2.2), .int c_hasHooks, .int c_hasTies, .int c_low, .int c_high])), (h_text, .inl (G.2 1, 120, .inl c_text))] → va_S A s.heap H locs → decode cX7_number pc = .ok (.ireturn, 1) → W p l e rmX7_number s m args below meth c H locs 0 0 Q (F0 m pc ls [.int res.1])) (hf : fX7_number c_typed c_from c_to c_token c_fault c_text v1 v2 = some res) {ls : Array Slot} (hl : lv_has ls 5 [(0, .ref h_this), (1, .int v1), (2, .int v2)]) : W p l e rmX7_number s m args below meth c s.heap [] 0 0 Q (F0 m 0 ls []) := by
  obtain ⟨hx, hb, hr, hlk, hml, hown, hts, hK⟩ := id C
  rw [fX7_number] at hf
  refine lv_aload_n hx hb dX7_number_0 rfl (lv_at hl 0 rfl) ?_
  refine va_get (D := G.1) (cl := CL) (ci := 7) (C := RX7) (T := TX7) (N := 19) hx hb hts iX7_number_7 hown hK hP 0 rfl rfl 12 (by decide) (hts (.fieldLink RX7 48 "LoomCardsModel" "to" "I") (List.mem_of_getElem? (i := 1) rfl)) (fun _ h9 => h9) rfl dX7_number_1 ?_
  refine lv_aload_n hx hb dX7_number_4 rfl (lv_at hl 0 rfl) ?_
  refine va_get (D := G.1) (cl := CL) (ci := 7) (C := RX7) (T := TX7) (N := 19) hx hb hts iX7_number_7 hown hK hP 0 rfl rfl 11 (by decide) (hts (.fieldLink RX7 51 "LoomCardsModel" "from" "I") (List.mem_of_getElem? (i := 2) rfl)) (fun _ h9 => h9) rfl dX7_number_5 ?_
  refine lv_isub hx hb dX7_number_8 ?_
  refine lv_istore_n (lv' := [(3, .int (c_to - c_from)), (0, .ref h_this), (1, .int v1), (2, .int v2)]) hx hb dX7_number_9 rfl hl (by decide) rfl (fun ls hl => ?_)
  refine lv_iload_n hx hb dX7_number_10 rfl (lv_at hl 0 rfl) ?_
  refine lv_iconst (v := (1 : Int32)) hx hb dX7_number_11 (by decide) ?_
  refine r_jn1 hf (fun J57 eJ57 hf => ?_)
  have hJ57 : ∀ (j57_0 : Int32) (H : Heap) (locs : List Loc), J57 j57_0 = some res → va_P G.1 CL [(h_this, .inr (7, [.int c_thrown, .ref h_s, .ref h_draft, .ref h_past, .int c_undos, .ref h_kept, .ref h_isKept, .ref h_facts, .int c_manyFacts, .ref h_text, .int c_typed, .int c_from, .int c_to, .int c_token, .int c_fault, .int c_hasHooks, .int c_hasTies, .int c_low, .int c_high])), (h_text, .inl (G.2 1, 120, .inl c_text))] H → va_D A [(h_this, .inr (7, [.int c_thrown, .ref h_s, .ref h_draft, .ref h_past, .int c_undos, .ref h_kept, .ref h_isKept, .ref h_facts, .int c_manyFacts, .ref h_text, .int c_typed, .int c_from, .int c_to, .int c_token, .int c_fault, .int c_hasHooks, .int c_hasTies, .int c_low, .int c_high])), (h_text, .inl (G.2 1, 120, .inl c_text))] → va_S A s.heap H locs → ∀ (ls : Array Slot), lv_has ls 5 [(0, .ref h_this), (1, .int v1), (2, .int v2), (3, .int (c_to - c_from))] → W p l e rmX7_number s m args below meth c H locs 0 0 Q (F0 m 57 ls [.int j57_0]) := by
    intro j57_0 H locs hf hP hD hS ls hl
    rw [eJ57] at hf
    refine lv_istore (lv' := [(4, .int j57_0), (0, .ref h_this), (1, .int v1), (2, .int v2), (3, .int (c_to - c_from))]) hx hb dX7_number_57 hl (by decide) rfl (fun ls hl => ?_)
    refine lv_aload_n hx hb dX7_number_59 rfl (lv_at hl 1 rfl) ?_
    refine lv_aload_n hx hb dX7_number_60 rfl (lv_at hl 1 rfl) ?_
    refine va_get (D := G.1) (cl := CL) (ci := 7) (C := RX7) (T := TX7) (N := 19) hx hb hts iX7_number_7 hown hK hP 0 rfl rfl 13 (by decide) (hts (.fieldLink RX7 62 "LoomCardsModel" "token" "I") (List.mem_of_getElem? (i := 3) rfl)) (fun _ h9 => h9) rfl dX7_number_61 ?_
    refine lv_bipush (v := (6 : Int32)) hx hb dX7_number_64 (by decide) ?_
    refine r_jn1 hf (fun J111 eJ111 hf => ?_)
    have hJ111 : ∀ (j111_0 : Int32) (H : Heap) (locs : List Loc), J111 j111_0 = some res → va_P G.1 CL [(h_this, .inr (7, [.int c_thrown, .ref h_s, .ref h_draft, .ref h_past, .int c_undos, .ref h_kept, .ref h_isKept, .ref h_facts, .int c_manyFacts, .ref h_text, .int c_typed, .int c_from, .int c_to, .int c_token, .int c_fault, .int c_hasHooks, .int c_hasTies, .int c_low, .int c_high])), (h_text, .inl (G.2 1, 120, .inl c_text))] H → va_D A [(h_this, .inr (7, [.int c_thrown, .ref h_s, .ref h_draft, .ref h_past, .int c_undos, .ref h_kept, .ref h_isKept, .ref h_facts, .int c_manyFacts, .ref h_text, .int c_typed, .int c_from, .int c_to, .int c_token, .int c_fault, .int c_hasHooks, .int c_hasTies, .int c_low, .int c_high])), (h_text, .inl (G.2 1, 120, .inl c_text))] → va_S A s.heap H locs → ∀ (ls : Array Slot), lv_has ls 5 [(4, .int j57_0)] → W p l e rmX7_number s m args below meth c H locs 0 0 Q (F0 m 111 ls [.int j111_0, .ref h_this]) := by
      intro j111_0 H locs hf hP hD hS ls hl
      rw [eJ111] at hf
      refine r_bind hf (fun u1 hu1 hf => ?_)
      refine cWvV (ci := 7) (rest := []) (wr := []) (wf := [(h_this, .inr (7, [.int c_thrown, .ref h_s, .ref h_draft, .ref h_past, .int c_undos, .ref h_kept, .ref h_isKept, .ref h_facts, .int c_manyFacts, .ref h_text, .int c_typed, .int u1.1, .int u1.2.1, .int u1.2.2.1, .int u1.2.2.2, .int c_hasHooks, .int c_hasTies, .int c_low, .int c_high])), (h_text, .inl (G.2 1, 120, .inl c_text))]) ⟨hx, hb, hml, hown, hts⟩ hK (tX7_takes l G h_this h_s h_draft h_past h_kept h_isKept h_facts h_text c_thrown c_undos c_manyFacts c_typed c_from c_to c_token c_fault c_hasHooks c_hasTies c_low c_high c_text j111_0 u1 hu1) gX7_number_X7_takes rfl hdX7_takes rfl rfl rfl ⟨Nat.le_of_ble_eq_true rfl, Nat.le_of_ble_eq_true rfl⟩ hP hD hS hA [0, 1] [] [0, 1] rfl rfl rfl (by decide) (by decide) (by decide) (by decide) 0 rfl rfl rfl hl.1 (Nat.le_of_ble_eq_true rfl) rfl dX7_number_111 ⟨Nat.zero_le _, Nat.zero_le _⟩ (fun H locs hP hD hS => ?_)
      refine lv_iload hx hb dX7_number_114 (lv_at hl 0 rfl) ?_
      obtain rfl := Option.some.inj hf
      exact kr _ _ _ _ hP hD hS dX7_number_116
    refine r_jn0 hf (fun J110 eJ110 hf => ?_)
    have hJ110 : ∀ (H : Heap) (locs : List Loc), J110 = some res → va_P G.1 CL [(h_this, .inr (7, [.int c_thrown, .ref h_s, .ref h_draft, .ref h_past, .int c_undos, .ref h_kept, .ref h_isKept, .ref h_facts, .int c_manyFacts, .ref h_text, .int c_typed, .int c_from, .int c_to, .int c_token, .int c_fault, .int c_hasHooks, .int c_hasTies, .int c_low, .int c_high])), (h_text, .inl (G.2 1, 120, .inl c_text))] H → va_D A [(h_this, .inr (7, [.int c_thrown, .ref h_s, .ref h_draft, .ref h_past, .int c_undos, .ref h_kept, .ref h_isKept, .ref h_facts, .int c_manyFacts, .ref h_text, .int c_typed, .int c_from, .int c_to, .int c_token, .int c_fault, .int c_hasHooks, .int c_hasTies, .int c_low, .int c_high])), (h_text, .inl (G.2 1, 120, .inl c_text))] → va_S A s.heap H locs → ∀ (ls : Array Slot), lv_has ls 5 [(4, .int j57_0)] → W p l e rmX7_number s m args below meth c H locs 0 0 Q (F0 m 110 ls [.ref h_this]) := by
      intro H locs hf hP hD hS ls hl
      rw [eJ110] at hf
      refine lv_iconst (v := (0 : Int32)) hx hb dX7_number_110 (by decide) ?_
      exact hJ111 (0 : Int32) _ _ hf hP hD hS _ (lv_sub hl [0] rfl)
    refine lv_icmp_ne (tgt := 110) hx hb dX7_number_66 (by decide) (fun c9 => ?_) (fun c9 => ?_)
    · have hf := c_f hf c9
      exact hJ110 _ _ hf hP hD hS _ (lv_sub hl [0] rfl)
    · have hf := c_t hf c9
      refine lv_iload_n hx hb dX7_number_69 rfl (lv_at hl 4 rfl) ?_
      refine lv_iconst (v := (1 : Int32)) hx hb dX7_number_70 (by decide) ?_
      refine lv_iconst (v := (2 : Int32)) hx hb dX7_number_71 (by decide) ?_
      refine r_bind hf (fun u2 hu2 hf => ?_)
      refine cRiS (rest := [.ref h_this]) ⟨hx, hb, hml, hown, hts⟩ hK (tX7_in l G (c_to - c_from) (1 : Int32) (2 : Int32) u2 hu2) gX7_number_X7_in rfl hdX7_in rfl rfl rfl ⟨Nat.le_of_ble_eq_true rfl, Nat.le_of_ble_eq_true rfl⟩ hP [] rfl hl.1 (Nat.le_of_ble_eq_true rfl) rfl dX7_number_72 ⟨Nat.zero_le _, Nat.zero_le _⟩ ?_
      refine lv_if_eq (tgt := 110) hx hb dX7_number_75 (by decide) (fun c9 => ?_) (fun c9 => ?_)
      · have hf := c_t hf c9
        exact hJ110 _ _ hf hP hD hS _ (lv_sub hl [0] rfl)
      · have hf := c_f hf c9
        refine lv_iload_n hx hb dX7_number_78 rfl (lv_at hl 4 rfl) ?_
        refine lv_iconst (v := (1 : Int32)) hx hb dX7_number_79 (by decide) ?_
        refine r_jn0 hf (fun J96 eJ96 hf => ?_)
        have hJ96 : ∀ (H : Heap) (locs : List Loc), J96 = some res → va_P G.1 CL [(h_this, .inr (7, [.int c_thrown, .ref h_s, .ref h_draft, .ref h_past, .int c_undos, .ref h_kept, .ref h_isKept, .ref h_facts, .int c_manyFacts, .ref h_text, .int c_typed, .int c_from, .int c_to, .int c_token, .int c_fault, .int c_hasHooks, .int c_hasTies, .int c_low, .int c_high])), (h_text, .inl (G.2 1, 120, .inl c_text))] H → va_D A [(h_this, .inr (7, [.int c_thrown, .ref h_s, .ref h_draft, .ref h_past, .int c_undos, .ref h_kept, .ref h_isKept, .ref h_facts, .int c_manyFacts, .ref h_text, .int c_typed, .int c_from, .int c_to, .int c_token, .int c_fault, .int c_hasHooks, .int c_hasTies, .int c_low, .int c_high])), (h_text, .inl (G.2 1, 120, .inl c_text))] → va_S A s.heap H locs → ∀ (ls : Array Slot), lv_has ls 5 [(1, .int v1), (2, .int v2), (4, .int j57_0)] → W p l e rmX7_number s m args below meth c H locs 0 0 Q (F0 m 96 ls [.ref h_this]) := by
          intro H locs hf hP hD hS ls hl
          rw [eJ96] at hf
          refine lv_iload hx hb dX7_number_96 (lv_at hl 2 rfl) ?_
          refine lv_iload_n hx hb dX7_number_98 rfl (lv_at hl 0 rfl) ?_
          refine lv_iload_n hx hb dX7_number_99 rfl (lv_at hl 1 rfl) ?_
          refine r_bind hf (fun u3 hu3 hf => ?_)
          refine cRiS (rest := [.ref h_this]) ⟨hx, hb, hml, hown, hts⟩ hK (tX7_in l G j57_0 v1 v2 u3 hu3) gX7_number_X7_in rfl hdX7_in rfl rfl rfl ⟨Nat.le_of_ble_eq_true rfl, Nat.le_of_ble_eq_true rfl⟩ hP [] rfl hl.1 (Nat.le_of_ble_eq_true rfl) rfl dX7_number_100 ⟨Nat.zero_le _, Nat.zero_le _⟩ ?_
          refine lv_if_eq (tgt := 110) hx hb dX7_number_103 (by decide) (fun c9 => ?_) (fun c9 => ?_)
          · have hf := c_t hf c9
            exact hJ110 _ _ hf hP hD hS _ (lv_sub hl [2] rfl)
          · have hf := c_f hf c9
            refine lv_iconst (v := (1 : Int32)) hx hb dX7_number_106 (by decide) ?_
            refine lv_goto (tgt := 111) hx hb dX7_number_107 (by decide) ?_
            exact hJ111 (1 : Int32) _ _ hf hP hD hS _ (lv_sub hl [2] rfl)
        refine lv_icmp_eq (tgt := 96) hx hb dX7_number_80 (by decide) (fun c9 => ?_) (fun c9 => ?_)
        · have hf := c_t hf c9
          exact hJ96 _ _ hf hP hD hS _ (lv_sub hl [2, 3, 0] rfl)
        · have hf := c_f hf c9
          refine lv_aload_n hx hb dX7_number_83 rfl (lv_at hl 1 rfl) ?_
          refine lv_aload_n hx hb dX7_number_84 rfl (lv_at hl 1 rfl) ?_
          refine va_get (D := G.1) (cl := CL) (ci := 7) (C := RX7) (T := TX7) (N := 19) hx hb hts iX7_number_7 hown hK hP 0 rfl rfl 11 (by decide) (hts (.fieldLink RX7 51 "LoomCardsModel" "from" "I") (List.mem_of_getElem? (i := 2) rfl)) (fun _ h9 => h9) rfl dX7_number_85 ?_
          refine r_bind hf (fun u4 hu4 hf => ?_)
          refine cRiV (ci := 7) (rest := [.ref h_this]) ⟨hx, hb, hml, hown, hts⟩ hK (tX7_at l G h_this h_s h_draft h_past h_kept h_isKept h_facts h_text c_thrown c_undos c_manyFacts c_typed c_from c_to c_token c_fault c_hasHooks c_hasTies c_low c_high c_text c_from u4 hu4) gX7_number_X7_at rfl hdX7_at rfl rfl rfl ⟨Nat.le_of_ble_eq_true rfl, Nat.le_of_ble_eq_true rfl⟩ hP [0, 1] rfl 0 rfl rfl rfl hl.1 (Nat.le_of_ble_eq_true rfl) rfl dX7_number_88 ⟨Nat.zero_le _, Nat.zero_le _⟩ ?_
          refine lv_bipush (v := (48 : Int32)) hx hb dX7_number_91 (by decide) ?_
          refine lv_icmp_eq (tgt := 110) hx hb dX7_number_93 (by decide) (fun c9 => ?_) (fun c9 => ?_)
          · have hf := c_t hf c9
            exact hJ110 _ _ hf hP hD hS _ (lv_sub hl [0] rfl)
          · have hf := c_f hf c9
            exact hJ96 _ _ hf hP hD hS _ (lv_sub hl [2, 3, 0] rfl)
  refine lv_icmp_ne (tgt := 29) hx hb dX7_number_12 (by decide) (fun c9 => ?_) (fun c9 => ?_)
  · have hf := c_f hf c9
    refine lv_bipush (v := (10 : Int32)) hx hb dX7_number_29 (by decide) ?_
    refine lv_aload_n hx hb dX7_number_31 rfl (lv_at hl 1 rfl) ?_
    refine lv_aload_n hx hb dX7_number_32 rfl (lv_at hl 1 rfl) ?_
    refine va_get (D := G.1) (cl := CL) (ci := 7) (C := RX7) (T := TX7) (N := 19) hx hb hts iX7_number_7 hown hK hP 0 rfl rfl 11 (by decide) (hts (.fieldLink RX7 51 "LoomCardsModel" "from" "I") (List.mem_of_getElem? (i := 2) rfl)) (fun _ h9 => h9) rfl dX7_number_33 ?_
    refine r_bind hf (fun u5 hu5 hf => ?_)
    refine cRiV (ci := 7) (rest := [.int (10 : Int32)]) ⟨hx, hb, hml, hown, hts⟩ hK (tX7_at l G h_this h_s h_draft h_past h_kept h_isKept h_facts h_text c_thrown c_undos c_manyFacts c_typed c_from c_to c_token c_fault c_hasHooks c_hasTies c_low c_high c_text c_from u5 hu5) gX7_number_X7_at rfl hdX7_at rfl rfl rfl ⟨Nat.le_of_ble_eq_true rfl, Nat.le_of_ble_eq_true rfl⟩ hP [0, 1] rfl 0 rfl rfl rfl hl.1 (Nat.le_of_ble_eq_true rfl) rfl dX7_number_36 ⟨Nat.zero_le _, Nat.zero_le _⟩ ?_
    refine lv_bipush (v := (48 : Int32)) hx hb dX7_number_39 (by decide) ?_
    refine lv_isub hx hb dX7_number_41 ?_
    refine lv_imul hx hb dX7_number_42 ?_
    refine lv_aload_n hx hb dX7_number_43 rfl (lv_at hl 1 rfl) ?_
    refine lv_aload_n hx hb dX7_number_44 rfl (lv_at hl 1 rfl) ?_
    refine va_get (D := G.1) (cl := CL) (ci := 7) (C := RX7) (T := TX7) (N := 19) hx hb hts iX7_number_7 hown hK hP 0 rfl rfl 11 (by decide) (hts (.fieldLink RX7 51 "LoomCardsModel" "from" "I") (List.mem_of_getElem? (i := 2) rfl)) (fun _ h9 => h9) rfl dX7_number_45 ?_
    refine lv_iconst (v := (1 : Int32)) hx hb dX7_number_48 (by decide) ?_
    refine lv_iadd hx hb dX7_number_49 ?_
    refine r_bind hf (fun u6 hu6 hf => ?_)
    refine cRiV (ci := 7) (rest := [.int ((10 : Int32) * (u5 - (48 : Int32)))]) ⟨hx, hb, hml, hown, hts⟩ hK (tX7_at l G h_this h_s h_draft h_past h_kept h_isKept h_facts h_text c_thrown c_undos c_manyFacts c_typed c_from c_to c_token c_fault c_hasHooks c_hasTies c_low c_high c_text (c_from + (1 : Int32)) u6 hu6) gX7_number_X7_at rfl hdX7_at rfl rfl rfl ⟨Nat.le_of_ble_eq_true rfl, Nat.le_of_ble_eq_true rfl⟩ hP [0, 1] rfl 0 rfl rfl rfl hl.1 (Nat.le_of_ble_eq_true rfl) rfl dX7_number_50 ⟨Nat.zero_le _, Nat.zero_le _⟩ ?_
    refine lv_iadd hx hb dX7_number_53 ?_
    refine lv_bipush (v := (48 : Int32)) hx hb dX7_number_54 (by decide) ?_
    refine lv_isub hx hb dX7_number_56 ?_
    exact hJ57 ((((10 : Int32) * (u5 - (48 : Int32))) + u6) - (48 : Int32)) _ _ hf hP hD hS _ (lv_sub hl [1, 2, 3, 0] rfl)
  · have hf := c_t hf c9
    refine lv_aload_n hx hb dX7_number_15 rfl (lv_at hl 1 rfl) ?_
    refine lv_aload_n hx hb dX7_number_16 rfl (lv_at hl 1 rfl) ?_
    refine va_get (D := G.1) (cl := CL) (ci := 7) (C := RX7) (T := TX7) (N := 19) hx hb hts iX7_number_7 hown hK hP 0 rfl rfl 11 (by decide) (hts (.fieldLink RX7 51 "LoomCardsModel" "from" "I") (List.mem_of_getElem? (i := 2) rfl)) (fun _ h9 => h9) rfl dX7_number_17 ?_
    refine r_bind hf (fun u7 hu7 hf => ?_)
    refine cRiV (ci := 7) (rest := []) ⟨hx, hb, hml, hown, hts⟩ hK (tX7_at l G h_this h_s h_draft h_past h_kept h_isKept h_facts h_text c_thrown c_undos c_manyFacts c_typed c_from c_to c_token c_fault c_hasHooks c_hasTies c_low c_high c_text c_from u7 hu7) gX7_number_X7_at rfl hdX7_at rfl rfl rfl ⟨Nat.le_of_ble_eq_true rfl, Nat.le_of_ble_eq_true rfl⟩ hP [0, 1] rfl 0 rfl rfl rfl hl.1 (Nat.le_of_ble_eq_true rfl) rfl dX7_number_20 ⟨Nat.zero_le _, Nat.zero_le _⟩ ?_
    refine lv_bipush (v := (48 : Int32)) hx hb dX7_number_23 (by decide) ?_
    refine lv_isub hx hb dX7_number_25 ?_
    refine lv_goto (tgt := 57) hx hb dX7_number_26 (by decide) ?_
    exact hJ57 (u7 - (48 : Int32)) _ _ hf hP hD hS _ (lv_sub hl [1, 2, 3, 0] rfl)
end SX7_number
set_option maxHeartbeats 4000000 in
set_option maxRecDepth 100000 in
theorem tX7_number (l : Launch) (G : GG) (h_this : Nat) (h_s : Nat) (h_draft : Nat) (h_past : Nat) (h_kept : Nat) (h_isKept : Nat) (h_facts : Nat) (h_text : Nat) (c_thrown : Int32) (c_undos : Int32) (c_manyFacts : Int32) (c_typed : Int32) (c_from : Int32) (c_to : Int32) (c_token : Int32) (c_fault : Int32) (c_hasHooks : Int32) (c_hasTies : Int32) (c_low : Int32) (c_high : Int32) (c_text : Nat → Int32) (v1 : Int32) (v2 : Int32) (res : Int32 × Int32 × Int32 × Int32 × Int32) (hf : fX7_number c_typed c_from c_to c_token c_fault c_text v1 v2 = some res) : MWi l yX7_number wsX7_number rmX7_number G [.ref h_this, .int v1, .int v2] [(h_this, .inr (7, [.int c_thrown, .ref h_s, .ref h_draft, .ref h_past, .int c_undos, .ref h_kept, .ref h_isKept, .ref h_facts, .int c_manyFacts, .ref h_text, .int c_typed, .int c_from, .int c_to, .int c_token, .int c_fault, .int c_hasHooks, .int c_hasTies, .int c_low, .int c_high])), (h_text, .inl (G.2 1, 120, .inl c_text))] (res.1) [(h_this, .inr (7, [.int c_thrown, .ref h_s, .ref h_draft, .ref h_past, .int c_undos, .ref h_kept, .ref h_isKept, .ref h_facts, .int c_manyFacts, .ref h_text, .int c_typed, .int (res.2.1), .int (res.2.2.1), .int (res.2.2.2.1), .int (res.2.2.2.2), .int c_hasHooks, .int c_hasTies, .int c_low, .int c_high])), (h_text, .inl (G.2 1, 120, .inl c_text))] := MWi.of (plainFor_of_name (by decide +kernel)) rfl (Nat.le_of_ble_eq_true rfl) (fun p e s m below meth c A C hA hP hD hS ls hl => kX7_number h_this h_s h_draft h_past h_kept h_isKept h_facts h_text c_thrown c_undos c_manyFacts c_typed c_from c_to c_token c_fault c_hasHooks c_hasTies c_low c_high c_text v1 v2 C hA hP hD hS (fun pc ls H locs hP hD hS d => rWi C hP hD hS d) hf hl)
def fX7_readsHooks (c_typed : Int32) (c_from : Int32) (c_to : Int32) (c_token : Int32) (c_fault : Int32) (c_hasHooks : Int32) (c_hasTies : Int32) (c_draft : Nat → Int32) (c_text : Nat → Int32)  : Option (Int32 × Int32 × Int32 × Int32 × Int32 × (Nat → Int32)) := jn (fun (j29_0 : Int32) => (fX7_takes c_typed c_from c_to c_token c_fault c_text j29_0).bind (fun u1 => (fX7_number c_typed u1.1 u1.2.1 u1.2.2.1 u1.2.2.2 c_text (1 : Int32) (6 : Int32)).bind (fun u2 => if u2.2.2.2.2 = (-9 : Int32) then jn (fun (j76_0 : Int32) (j76_1 : Int32) => gd (ix j76_1 24) (some (u2.2.1, u2.2.2.1, u2.2.2.2.1, u2.2.2.2.2, (1 : Int32), (upd (upd c_draft 0 u2.1) j76_1.toNatClampNeg j76_0)))) (fun J76 => if u2.1 = (1 : Int32) then J76 (0 : Int32) (5 : Int32) else J76 (1 : Int32) (5 : Int32)) else some (u2.2.1, u2.2.2.1, u2.2.2.2.1, u2.2.2.2.2, (1 : Int32), c_draft)))) (fun J29 => jn (J29 (0 : Int32)) (fun J28 => if c_hasHooks = 0 then if c_hasTies = 0 then if (c_draft 2) = 0 then J29 (1 : Int32) else J28 else J28 else J28))
theorem iX7_readsHooks_7 : ∀ w ∈ wsX70, w ∈ wsX7_readsHooks := fun w h => List.mem_cons_of_mem _ (List.mem_append_right _ (h))
theorem hdX7_readsHooks : yX7_readsHooks.cls = RX7 ∧ yX7_readsHooks.cls ≠ "java/lang/invoke/MethodHandle" ∧ yX7_readsHooks.cls ≠ "java/lang/invoke/VarHandle" ∧ (parseMethodDescriptor yX7_readsHooks.desc).map (fun d => d.parameters.length) = some 0 := by decide +kernel
abbrev rmX7_readsHooks : Room := { frames := 6, cells := 0, slots := 0, locals := 132 }
section SX7_readsHooks
variable {p : Program} {l : Launch} {e : Env} {s : State} {m : MethodId} {args : Array Value} {below : List Frame} {meth : Method} {c : Code} {Q : State → Prop} {G : GG} {A : Nat → Prop}
set_option maxHeartbeats 4000000 in
set_option maxRecDepth 100000 in
theorem kX7_readsHooks (h_this : Nat) (h_s : Nat) (h_draft : Nat) (h_past : Nat) (h_kept : Nat) (h_isKept : Nat) (h_facts : Nat) (h_text : Nat) (c_thrown : Int32) (c_undos : Int32) (c_manyFacts : Int32) (c_typed : Int32) (c_from : Int32) (c_to : Int32) (c_token : Int32) (c_fault : Int32) (c_hasHooks : Int32) (c_hasTies : Int32) (c_low : Int32) (c_high : Int32) (c_draft : Nat → Int32) (c_text : Nat → Int32) (C : Cx cX7_readsHooks none 2 RX7 wsX7_readsHooks G p s m args meth c) (hA : ∀ q : Nat, s.heap.size ≤ q → A q) (hP : va_P G.1 CL [(h_this, .inr (7, [.int c_thrown, .ref h_s, .ref h_draft, .ref h_past, .int c_undos, .ref h_kept, .ref h_isKept, .ref h_facts, .int c_manyFacts, .ref h_text, .int c_typed, .int c_from, .int c_to, .int c_token, .int c_fault, .int c_hasHooks, .int c_hasTies, .int c_low, .int c_high])), (h_draft, .inl (G.2 0, 24, .inl c_draft)), (h_text, .inl (G.2 1, 120, .inl c_text))] s.heap) (hD : va_D A [(h_this, .inr (7, [.int c_thrown, .ref h_s, .ref h_draft, .ref h_past, .int c_undos, .ref h_kept, .ref h_isKept, .ref h_facts, .int c_manyFacts, .ref h_text, .int c_typed, .int c_from, .int c_to, .int c_token, .int c_fault, .int c_hasHooks, .int c_hasTies, .int c_low, .int c_high])), (h_draft, .inl (G.2 0, 24, .inl c_draft)), (h_text, .inl (G.2 1, 120, .inl c_text))]) (hS : va_S A s.heap s.heap []) {res : Int32 × Int32 × Int32 × Int32 × Int32 × (Nat → Int32)} (kr : ∀ (pc : Nat) (ls : Array Slot) (H : Heap) (locs : List Loc), va_P G.1 CL [(h_this, .inr (7, [.int c_thrown, .ref h_s, .ref h_draft, .ref h_past, .int c_undos, .ref h_kept, .ref h_isKept, .ref h_facts, .int c_manyFacts, .ref h_text, .int c_typed, .int (res.1), .int (res.2.1), .int (res.2.2.1), .int (res.2.2.2.1), .int (res.2.2.2.2.1), .int c_hasTies, .int c_low, .int c_high])), (h_draft, .inl (G.2 0, 24, .inl (res.2.2.2.2.2))), (h_text, .inl (G.2 1, 120, .inl c_text))] H → va_D A [(h_this, .inr (7, [.int c_thrown, .ref h_s, .ref h_draft, .ref h_past, .int c_undos, .ref h_kept, .ref h_isKept, .ref h_facts, .int c_manyFacts, .ref h_text, .int c_typed, .int (res.1), .int (res.2.1), .int (res.2.2.1), .int (res.2.2.2.1), .int (res.2.2.2.2.1), .int c_hasTies, .int c_low, .int c_high])), (h_draft, .inl (G.2 0, 24, .inl (res.2.2.2.2.2))), (h_text, .inl (G.2 1, 120, .inl c_text))] → va_S A s.heap H locs → decode cX7_readsHooks pc = .ok (.return_, 1) → W p l e rmX7_readsHooks s m args below meth c H locs 0 0 Q (F0 m pc ls [])) (hf : fX7_readsHooks c_typed c_from c_to c_token c_fault c_hasHooks c_hasTies c_draft c_text = some res) {ls : Array Slot} (hl : lv_has ls 2 [(0, .ref h_this)]) : W p l e rmX7_readsHooks s m args below meth c s.heap [] 0 0 Q (F0 m 0 ls []) := by
  obtain ⟨hx, hb, hr, hlk, hml, hown, hts, hK⟩ := id C
  rw [fX7_readsHooks] at hf
  refine lv_aload_n hx hb dX7_readsHooks_0 rfl (lv_at hl 0 rfl) ?_
  refine lv_aload_n hx hb dX7_readsHooks_1 rfl (lv_at hl 0 rfl) ?_
  refine va_get (D := G.1) (cl := CL) (ci := 7) (C := RX7) (T := TX7) (N := 19) hx hb hts iX7_readsHooks_7 hown hK hP 0 rfl rfl 15 (by decide) (hts (.fieldLink RX7 79 "LoomCardsModel" "hasHooks" "Z") (List.mem_of_getElem? (i := 1) rfl)) (fun _ h9 => h9) rfl dX7_readsHooks_2 ?_
  refine r_jn1 hf (fun J29 eJ29 hf => ?_)
  have hJ29 : ∀ (j29_0 : Int32) (H : Heap) (locs : List Loc), J29 j29_0 = some res → va_P G.1 CL [(h_this, .inr (7, [.int c_thrown, .ref h_s, .ref h_draft, .ref h_past, .int c_undos, .ref h_kept, .ref h_isKept, .ref h_facts, .int c_manyFacts, .ref h_text, .int c_typed, .int c_from, .int c_to, .int c_token, .int c_fault, .int c_hasHooks, .int c_hasTies, .int c_low, .int c_high])), (h_draft, .inl (G.2 0, 24, .inl c_draft)), (h_text, .inl (G.2 1, 120, .inl c_text))] H → va_D A [(h_this, .inr (7, [.int c_thrown, .ref h_s, .ref h_draft, .ref h_past, .int c_undos, .ref h_kept, .ref h_isKept, .ref h_facts, .int c_manyFacts, .ref h_text, .int c_typed, .int c_from, .int c_to, .int c_token, .int c_fault, .int c_hasHooks, .int c_hasTies, .int c_low, .int c_high])), (h_draft, .inl (G.2 0, 24, .inl c_draft)), (h_text, .inl (G.2 1, 120, .inl c_text))] → va_S A s.heap H locs → ∀ (ls : Array Slot), lv_has ls 2 [(0, .ref h_this)] → W p l e rmX7_readsHooks s m args below meth c H locs 0 0 Q (F0 m 29 ls [.int j29_0, .ref h_this]) := by
    intro j29_0 H locs hf hP hD hS ls hl
    rw [eJ29] at hf
    refine r_bind hf (fun u1 hu1 hf => ?_)
    refine cWvV (ci := 7) (rest := []) (wr := [(h_draft, .inl (G.2 0, 24, .inl c_draft))]) (wf := [(h_this, .inr (7, [.int c_thrown, .ref h_s, .ref h_draft, .ref h_past, .int c_undos, .ref h_kept, .ref h_isKept, .ref h_facts, .int c_manyFacts, .ref h_text, .int c_typed, .int u1.1, .int u1.2.1, .int u1.2.2.1, .int u1.2.2.2, .int c_hasHooks, .int c_hasTies, .int c_low, .int c_high])), (h_draft, .inl (G.2 0, 24, .inl c_draft)), (h_text, .inl (G.2 1, 120, .inl c_text))]) ⟨hx, hb, hml, hown, hts⟩ hK (tX7_takes l G h_this h_s h_draft h_past h_kept h_isKept h_facts h_text c_thrown c_undos c_manyFacts c_typed c_from c_to c_token c_fault c_hasHooks c_hasTies c_low c_high c_text j29_0 u1 hu1) gX7_readsHooks_X7_takes rfl hdX7_takes rfl rfl rfl ⟨Nat.le_of_ble_eq_true rfl, Nat.le_of_ble_eq_true rfl⟩ hP hD hS hA [0, 2] [1] [1, 0, 2] rfl rfl rfl (by decide) (by decide) (by decide) (by decide) 0 rfl rfl rfl hl.1 (Nat.le_of_ble_eq_true rfl) rfl dX7_readsHooks_29 ⟨Nat.zero_le _, Nat.zero_le _⟩ (fun H locs hP hD hS => ?_)
    refine lv_aload_n hx hb dX7_readsHooks_32 rfl (lv_at hl 0 rfl) ?_
    refine lv_iconst (v := (1 : Int32)) hx hb dX7_readsHooks_33 (by decide) ?_
    refine va_put (D := G.1) (cl := CL) (ci := 7) (v := .int (1 : Int32)) (ty := .boolean) (C := RX7) (T := TX7) (N := 19) hx hb hts iX7_readsHooks_7 tyX7 tyX7_ok nmX7 hown hK hP hD hS 0 rfl rfl 15 (by decide) (hts (.fieldLink RX7 79 "LoomCardsModel" "hasHooks" "Z") (List.mem_of_getElem? (i := 1) rfl)) (fun _ h9 => h9) rfl (tyX7_ok 15 (by decide)) rfl rfl (Nat.le_of_ble_eq_true rfl) dX7_readsHooks_34 (fun H locs hP hD hS => ?_)
    have hP : va_P G.1 CL [(h_this, .inr (7, [.int c_thrown, .ref h_s, .ref h_draft, .ref h_past, .int c_undos, .ref h_kept, .ref h_isKept, .ref h_facts, .int c_manyFacts, .ref h_text, .int c_typed, .int u1.1, .int u1.2.1, .int u1.2.2.1, .int u1.2.2.2, .int (1 : Int32), .int c_hasTies, .int c_low, .int c_high])), (h_draft, .inl (G.2 0, 24, .inl c_draft)), (h_text, .inl (G.2 1, 120, .inl c_text))] H := hP
    have hD : va_D A [(h_this, .inr (7, [.int c_thrown, .ref h_s, .ref h_draft, .ref h_past, .int c_undos, .ref h_kept, .ref h_isKept, .ref h_facts, .int c_manyFacts, .ref h_text, .int c_typed, .int u1.1, .int u1.2.1, .int u1.2.2.1, .int u1.2.2.2, .int (1 : Int32), .int c_hasTies, .int c_low, .int c_high])), (h_draft, .inl (G.2 0, 24, .inl c_draft)), (h_text, .inl (G.2 1, 120, .inl c_text))] := hD
    refine lv_aload_n hx hb dX7_readsHooks_37 rfl (lv_at hl 0 rfl) ?_
    refine lv_iconst (v := (1 : Int32)) hx hb dX7_readsHooks_38 (by decide) ?_
    refine lv_bipush (v := (6 : Int32)) hx hb dX7_readsHooks_39 (by decide) ?_
    refine r_bind hf (fun u2 hu2 hf => ?_)
    refine cWiV (ci := 7) (rest := []) (wr := [(h_draft, .inl (G.2 0, 24, .inl c_draft))]) (wf := [(h_this, .inr (7, [.int c_thrown, .ref h_s, .ref h_draft, .ref h_past, .int c_undos, .ref h_kept, .ref h_isKept, .ref h_facts, .int c_manyFacts, .ref h_text, .int c_typed, .int u2.2.1, .int u2.2.2.1, .int u2.2.2.2.1, .int u2.2.2.2.2, .int (1 : Int32), .int c_hasTies, .int c_low, .int c_high])), (h_draft, .inl (G.2 0, 24, .inl c_draft)), (h_text, .inl (G.2 1, 120, .inl c_text))]) ⟨hx, hb, hml, hown, hts⟩ hK (tX7_number l G h_this h_s h_draft h_past h_kept h_isKept h_facts h_text c_thrown c_undos c_manyFacts c_typed u1.1 u1.2.1 u1.2.2.1 u1.2.2.2 (1 : Int32) c_hasTies c_low c_high c_text (1 : Int32) (6 : Int32) u2 hu2) gX7_readsHooks_X7_number rfl hdX7_number rfl rfl rfl ⟨Nat.le_of_ble_eq_true rfl, Nat.le_of_ble_eq_true rfl⟩ hP hD hS hA [0, 2] [1] [1, 0, 2] rfl rfl rfl (by decide) (by decide) (by decide) (by decide) 0 rfl rfl rfl hl.1 (Nat.le_of_ble_eq_true rfl) rfl dX7_readsHooks_41 ⟨Nat.zero_le _, Nat.zero_le _⟩ (fun H locs hP hD hS => ?_)
    refine lv_istore_n (lv' := [(1, .int u2.1), (0, .ref h_this)]) hx hb dX7_readsHooks_44 rfl hl (by decide) rfl (fun ls hl => ?_)
    refine lv_aload_n hx hb dX7_readsHooks_45 rfl (lv_at hl 1 rfl) ?_
    refine va_get (D := G.1) (cl := CL) (ci := 7) (C := RX7) (T := TX7) (N := 19) hx hb hts iX7_readsHooks_7 hown hK hP 0 rfl rfl 14 (by decide) (hts (.fieldLink RX7 69 "LoomCardsModel" "fault" "I") (List.mem_of_getElem? (i := 4) rfl)) (fun _ h9 => h9) rfl dX7_readsHooks_46 ?_
    refine lv_bipush (v := (-9 : Int32)) hx hb dX7_readsHooks_49 (by decide) ?_
    refine lv_icmp_ne (tgt := 77) hx hb dX7_readsHooks_51 (by decide) (fun c9 => ?_) (fun c9 => ?_)
    · have hf := c_f hf c9
      obtain rfl := Option.some.inj hf
      exact kr _ _ _ _ hP hD hS dX7_readsHooks_77
    · have hf := c_t hf c9
      refine lv_aload_n hx hb dX7_readsHooks_54 rfl (lv_at hl 1 rfl) ?_
      refine va_get (D := G.1) (cl := CL) (ci := 7) (C := RX7) (T := TX7) (N := 19) hx hb hts iX7_readsHooks_7 hown hK hP 0 rfl rfl 2 (by decide) (hts (.fieldLink RX7 13 "LoomCardsModel" "draft" "[I") (List.mem_of_getElem? (i := 3) rfl)) (fun _ h9 => h9) rfl dX7_readsHooks_55 ?_
      refine lv_iconst (v := (0 : Int32)) hx hb dX7_readsHooks_58 (by decide) ?_
      refine lv_iload_n hx hb dX7_readsHooks_59 rfl (lv_at hl 0 rfl) ?_
      refine r_iast (j := 0) hx hb hK hP hD hS 1 rfl (ix_in (n := 24) (by decide)) (by decide) dX7_readsHooks_60 (fun H locs hP hD hS => ?_)
      have hP : va_P G.1 CL [(h_this, .inr (7, [.int c_thrown, .ref h_s, .ref h_draft, .ref h_past, .int c_undos, .ref h_kept, .ref h_isKept, .ref h_facts, .int c_manyFacts, .ref h_text, .int c_typed, .int u2.2.1, .int u2.2.2.1, .int u2.2.2.2.1, .int u2.2.2.2.2, .int (1 : Int32), .int c_hasTies, .int c_low, .int c_high])), (h_draft, .inl (G.2 0, 24, .inl (upd c_draft 0 u2.1))), (h_text, .inl (G.2 1, 120, .inl c_text))] H := hP
      have hD : va_D A [(h_this, .inr (7, [.int c_thrown, .ref h_s, .ref h_draft, .ref h_past, .int c_undos, .ref h_kept, .ref h_isKept, .ref h_facts, .int c_manyFacts, .ref h_text, .int c_typed, .int u2.2.1, .int u2.2.2.1, .int u2.2.2.2.1, .int u2.2.2.2.2, .int (1 : Int32), .int c_hasTies, .int c_low, .int c_high])), (h_draft, .inl (G.2 0, 24, .inl (upd c_draft 0 u2.1))), (h_text, .inl (G.2 1, 120, .inl c_text))] := hD
      refine lv_aload_n hx hb dX7_readsHooks_61 rfl (lv_at hl 1 rfl) ?_
      refine va_get (D := G.1) (cl := CL) (ci := 7) (C := RX7) (T := TX7) (N := 19) hx hb hts iX7_readsHooks_7 hown hK hP 0 rfl rfl 2 (by decide) (hts (.fieldLink RX7 13 "LoomCardsModel" "draft" "[I") (List.mem_of_getElem? (i := 3) rfl)) (fun _ h9 => h9) rfl dX7_readsHooks_62 ?_
      refine lv_iconst (v := (5 : Int32)) hx hb dX7_readsHooks_65 (by decide) ?_
      refine lv_iload_n hx hb dX7_readsHooks_66 rfl (lv_at hl 0 rfl) ?_
      refine lv_iconst (v := (1 : Int32)) hx hb dX7_readsHooks_67 (by decide) ?_
      refine r_jn2 hf (fun J76 eJ76 hf => ?_)
      have hJ76 : ∀ (j76_0 : Int32) (j76_1 : Int32) (H : Heap) (locs : List Loc), J76 j76_0 j76_1 = some res → va_P G.1 CL [(h_this, .inr (7, [.int c_thrown, .ref h_s, .ref h_draft, .ref h_past, .int c_undos, .ref h_kept, .ref h_isKept, .ref h_facts, .int c_manyFacts, .ref h_text, .int c_typed, .int u2.2.1, .int u2.2.2.1, .int u2.2.2.2.1, .int u2.2.2.2.2, .int (1 : Int32), .int c_hasTies, .int c_low, .int c_high])), (h_draft, .inl (G.2 0, 24, .inl (upd c_draft 0 u2.1))), (h_text, .inl (G.2 1, 120, .inl c_text))] H → va_D A [(h_this, .inr (7, [.int c_thrown, .ref h_s, .ref h_draft, .ref h_past, .int c_undos, .ref h_kept, .ref h_isKept, .ref h_facts, .int c_manyFacts, .ref h_text, .int c_typed, .int u2.2.1, .int u2.2.2.1, .int u2.2.2.2.1, .int u2.2.2.2.2, .int (1 : Int32), .int c_hasTies, .int c_low, .int c_high])), (h_draft, .inl (G.2 0, 24, .inl (upd c_draft 0 u2.1))), (h_text, .inl (G.2 1, 120, .inl c_text))] → va_S A s.heap H locs → ∀ (ls : Array Slot), lv_has ls 2 [] → W p l e rmX7_readsHooks s m args below meth c H locs 0 0 Q (F0 m 76 ls [.int j76_0, .int j76_1, .ref h_draft]) := by
        intro j76_0 j76_1 H locs hf hP hD hS ls hl
        rw [eJ76] at hf
        refine r_gd hf (fun g9 hf => ?_)
        refine r_iast hx hb hK hP hD hS 1 rfl (ix_in g9) rfl dX7_readsHooks_76 (fun H locs hP hD hS => ?_)
        have hP : va_P G.1 CL [(h_this, .inr (7, [.int c_thrown, .ref h_s, .ref h_draft, .ref h_past, .int c_undos, .ref h_kept, .ref h_isKept, .ref h_facts, .int c_manyFacts, .ref h_text, .int c_typed, .int u2.2.1, .int u2.2.2.1, .int u2.2.2.2.1, .int u2.2.2.2.2, .int (1 : Int32), .int c_hasTies, .int c_low, .int c_high])), (h_draft, .inl (G.2 0, 24, .inl (upd (upd c_draft 0 u2.1) j76_1.toNatClampNeg j76_0))), (h_text, .inl (G.2 1, 120, .inl c_text))] H := hP
        have hD : va_D A [(h_this, .inr (7, [.int c_thrown, .ref h_s, .ref h_draft, .ref h_past, .int c_undos, .ref h_kept, .ref h_isKept, .ref h_facts, .int c_manyFacts, .ref h_text, .int c_typed, .int u2.2.1, .int u2.2.2.1, .int u2.2.2.2.1, .int u2.2.2.2.2, .int (1 : Int32), .int c_hasTies, .int c_low, .int c_high])), (h_draft, .inl (G.2 0, 24, .inl (upd (upd c_draft 0 u2.1) j76_1.toNatClampNeg j76_0))), (h_text, .inl (G.2 1, 120, .inl c_text))] := hD
        obtain rfl := Option.some.inj hf
        exact kr _ _ _ _ hP hD hS dX7_readsHooks_77
      refine lv_icmp_ne (tgt := 75) hx hb dX7_readsHooks_68 (by decide) (fun c9 => ?_) (fun c9 => ?_)
      · have hf := c_f hf c9
        refine lv_iconst (v := (1 : Int32)) hx hb dX7_readsHooks_75 (by decide) ?_
        exact hJ76 (1 : Int32) (5 : Int32) _ _ hf hP hD hS _ (lv_sub hl [] rfl)
      · have hf := c_t hf c9
        refine lv_iconst (v := (0 : Int32)) hx hb dX7_readsHooks_71 (by decide) ?_
        refine lv_goto (tgt := 76) hx hb dX7_readsHooks_72 (by decide) ?_
        exact hJ76 (0 : Int32) (5 : Int32) _ _ hf hP hD hS _ (lv_sub hl [] rfl)
  refine r_jn0 hf (fun J28 eJ28 hf => ?_)
  have hJ28 : ∀ (H : Heap) (locs : List Loc), J28 = some res → va_P G.1 CL [(h_this, .inr (7, [.int c_thrown, .ref h_s, .ref h_draft, .ref h_past, .int c_undos, .ref h_kept, .ref h_isKept, .ref h_facts, .int c_manyFacts, .ref h_text, .int c_typed, .int c_from, .int c_to, .int c_token, .int c_fault, .int c_hasHooks, .int c_hasTies, .int c_low, .int c_high])), (h_draft, .inl (G.2 0, 24, .inl c_draft)), (h_text, .inl (G.2 1, 120, .inl c_text))] H → va_D A [(h_this, .inr (7, [.int c_thrown, .ref h_s, .ref h_draft, .ref h_past, .int c_undos, .ref h_kept, .ref h_isKept, .ref h_facts, .int c_manyFacts, .ref h_text, .int c_typed, .int c_from, .int c_to, .int c_token, .int c_fault, .int c_hasHooks, .int c_hasTies, .int c_low, .int c_high])), (h_draft, .inl (G.2 0, 24, .inl c_draft)), (h_text, .inl (G.2 1, 120, .inl c_text))] → va_S A s.heap H locs → ∀ (ls : Array Slot), lv_has ls 2 [(0, .ref h_this)] → W p l e rmX7_readsHooks s m args below meth c H locs 0 0 Q (F0 m 28 ls [.ref h_this]) := by
    intro H locs hf hP hD hS ls hl
    rw [eJ28] at hf
    refine lv_iconst (v := (0 : Int32)) hx hb dX7_readsHooks_28 (by decide) ?_
    exact hJ29 (0 : Int32) _ _ hf hP hD hS _ (lv_sub hl [0] rfl)
  refine lv_if_ne (tgt := 28) hx hb dX7_readsHooks_5 (by decide) (fun c9 => ?_) (fun c9 => ?_)
  · have hf := c_f hf c9
    exact hJ28 _ _ hf hP hD hS _ (lv_sub hl [0] rfl)
  · have hf := c_t hf c9
    refine lv_aload_n hx hb dX7_readsHooks_8 rfl (lv_at hl 0 rfl) ?_
    refine va_get (D := G.1) (cl := CL) (ci := 7) (C := RX7) (T := TX7) (N := 19) hx hb hts iX7_readsHooks_7 hown hK hP 0 rfl rfl 16 (by decide) (hts (.fieldLink RX7 83 "LoomCardsModel" "hasTies" "Z") (List.mem_of_getElem? (i := 2) rfl)) (fun _ h9 => h9) rfl dX7_readsHooks_9 ?_
    refine lv_if_ne (tgt := 28) hx hb dX7_readsHooks_12 (by decide) (fun c9 => ?_) (fun c9 => ?_)
    · have hf := c_f hf c9
      exact hJ28 _ _ hf hP hD hS _ (lv_sub hl [0] rfl)
    · have hf := c_t hf c9
      refine lv_aload_n hx hb dX7_readsHooks_15 rfl (lv_at hl 0 rfl) ?_
      refine va_get (D := G.1) (cl := CL) (ci := 7) (C := RX7) (T := TX7) (N := 19) hx hb hts iX7_readsHooks_7 hown hK hP 0 rfl rfl 2 (by decide) (hts (.fieldLink RX7 13 "LoomCardsModel" "draft" "[I") (List.mem_of_getElem? (i := 3) rfl)) (fun _ h9 => h9) rfl dX7_readsHooks_16 ?_
      refine lv_iconst (v := (2 : Int32)) hx hb dX7_readsHooks_19 (by decide) ?_
      refine r_iald (j := 2) hx hb hK hP 1 rfl (ix_in (n := 24) (by decide)) (by decide) dX7_readsHooks_20 ?_
      refine lv_if_ne (tgt := 28) hx hb dX7_readsHooks_21 (by decide) (fun c9 => ?_) (fun c9 => ?_)
      · have hf := c_f hf c9
        exact hJ28 _ _ hf hP hD hS _ (lv_sub hl [0] rfl)
      · have hf := c_t hf c9
        refine lv_iconst (v := (1 : Int32)) hx hb dX7_readsHooks_24 (by decide) ?_
        refine lv_goto (tgt := 29) hx hb dX7_readsHooks_25 (by decide) ?_
        exact hJ29 (1 : Int32) _ _ hf hP hD hS _ (lv_sub hl [0] rfl)
end SX7_readsHooks
set_option maxHeartbeats 4000000 in
set_option maxRecDepth 100000 in
theorem tX7_readsHooks (l : Launch) (G : GG) (h_this : Nat) (h_s : Nat) (h_draft : Nat) (h_past : Nat) (h_kept : Nat) (h_isKept : Nat) (h_facts : Nat) (h_text : Nat) (c_thrown : Int32) (c_undos : Int32) (c_manyFacts : Int32) (c_typed : Int32) (c_from : Int32) (c_to : Int32) (c_token : Int32) (c_fault : Int32) (c_hasHooks : Int32) (c_hasTies : Int32) (c_low : Int32) (c_high : Int32) (c_draft : Nat → Int32) (c_text : Nat → Int32) (res : Int32 × Int32 × Int32 × Int32 × Int32 × (Nat → Int32)) (hf : fX7_readsHooks c_typed c_from c_to c_token c_fault c_hasHooks c_hasTies c_draft c_text = some res) : MWv l yX7_readsHooks wsX7_readsHooks rmX7_readsHooks G [.ref h_this] [(h_this, .inr (7, [.int c_thrown, .ref h_s, .ref h_draft, .ref h_past, .int c_undos, .ref h_kept, .ref h_isKept, .ref h_facts, .int c_manyFacts, .ref h_text, .int c_typed, .int c_from, .int c_to, .int c_token, .int c_fault, .int c_hasHooks, .int c_hasTies, .int c_low, .int c_high])), (h_draft, .inl (G.2 0, 24, .inl c_draft)), (h_text, .inl (G.2 1, 120, .inl c_text))] [(h_this, .inr (7, [.int c_thrown, .ref h_s, .ref h_draft, .ref h_past, .int c_undos, .ref h_kept, .ref h_isKept, .ref h_facts, .int c_manyFacts, .ref h_text, .int c_typed, .int (res.1), .int (res.2.1), .int (res.2.2.1), .int (res.2.2.2.1), .int (res.2.2.2.2.1), .int c_hasTies, .int c_low, .int c_high])), (h_draft, .inl (G.2 0, 24, .inl (res.2.2.2.2.2))), (h_text, .inl (G.2 1, 120, .inl c_text))] := MWv.of (plainFor_of_name (by decide +kernel)) rfl (Nat.le_of_ble_eq_true rfl) (fun p e s m below meth c A C hA hP hD hS ls hl => kX7_readsHooks h_this h_s h_draft h_past h_kept h_isKept h_facts h_text c_thrown c_undos c_manyFacts c_typed c_from c_to c_token c_fault c_hasHooks c_hasTies c_low c_high c_draft c_text C hA hP hD hS (fun pc ls H locs hP hD hS d => rWv C hP hD hS d) hf hl)
def fX7_readsTies_L82 (k119 : (Nat → Int32) → Option (Int32 × Int32 × Int32 × Int32 × Int32 × (Nat → Int32))) (c_typed : Int32) (c_from : Int32) (c_text : Nat → Int32) : Nat → Int32 → (Nat → Int32) → Option (Int32 × Int32 × Int32 × Int32 × Int32 × (Nat → Int32))
  | 0, _, _ => none
  | n + 1, v2, c_draft => if (c_draft 1) ≤ v2 then k119 c_draft else (fX7_at c_typed c_text (c_from + v2)).bind (fun u3 => gd (ix ((4 : Int32) + v2) 24) (fX7_readsTies_L82 k119 c_typed c_from c_text n (v2 + (1 : Int32)) (upd c_draft ((4 : Int32) + v2).toNatClampNeg (u3 - (48 : Int32)))))
def fX7_readsTies (c_typed : Int32) (c_from : Int32) (c_to : Int32) (c_token : Int32) (c_fault : Int32) (c_hasTies : Int32) (c_draft : Nat → Int32) (c_text : Nat → Int32)  : Option (Int32 × Int32 × Int32 × Int32 × Int32 × (Nat → Int32)) := jn (fun (j22_0 : Int32) => (fX7_takes c_typed c_from c_to c_token c_fault c_text j22_0).bind (fun u1 => jn (fun (j60_0 : Int32) => jn (fun (j119_c_draft : Nat → Int32) => (fX7_takes c_typed u1.1 u1.2.1 u1.2.2.1 u1.2.2.2 c_text j60_0).bind (fun u2 => some (u2.1, u2.2.1, u2.2.2.1, u2.2.2.2, (1 : Int32), j119_c_draft))) (fun J119 => if j60_0 = 0 then J119 c_draft else (fX7_readsTies_L82 (fun (c_draft_x4 : Nat → Int32) => J119 c_draft_x4) c_typed u1.1 c_text FU (0 : Int32) (upd c_draft 1 (u1.2.1 - u1.1))))) (fun J60 => jn (J60 (0 : Int32)) (fun J59 => if u1.2.2.2 = (-9 : Int32) then (fX7_areFigures c_typed u1.1 u1.2.1 u1.2.2.1 c_text (1 : Int32) (12 : Int32) (c_draft 0)).bind (fun u5 => if u5 = 0 then J59 else J60 (1 : Int32)) else J59)))) (fun J22 => jn (J22 (0 : Int32)) (fun J21 => if c_hasTies = 0 then if (c_draft 2) = 0 then J22 (1 : Int32) else J21 else J21))
theorem iX7_readsTies_7 : ∀ w ∈ wsX70, w ∈ wsX7_readsTies := fun w h => List.mem_cons_of_mem _ (List.mem_append_right _ (h))
theorem hdX7_readsTies : yX7_readsTies.cls = RX7 ∧ yX7_readsTies.cls ≠ "java/lang/invoke/MethodHandle" ∧ yX7_readsTies.cls ≠ "java/lang/invoke/VarHandle" ∧ (parseMethodDescriptor yX7_readsTies.desc).map (fun d => d.parameters.length) = some 0 := by decide +kernel
abbrev rmX7_readsTies : Room := { frames := 5, cells := 0, slots := 0, locals := 108 }
section SX7_readsTies
variable {p : Program} {l : Launch} {e : Env} {s : State} {m : MethodId} {args : Array Value} {below : List Frame} {meth : Method} {c : Code} {Q : State → Prop} {G : GG} {A : Nat → Prop}
set_option maxHeartbeats 4000000 in
set_option maxRecDepth 100000 in
theorem kX7_readsTies_L82 (h_this : Nat) (h_s : Nat) (h_draft : Nat) (h_past : Nat) (h_kept : Nat) (h_isKept : Nat) (h_facts : Nat) (h_text : Nat) (c_thrown : Int32) (c_undos : Int32) (c_manyFacts : Int32) (c_typed : Int32) (c_from : Int32) (c_to : Int32) (c_token : Int32) (c_fault : Int32) (c_hasHooks : Int32) (c_hasTies : Int32) (c_low : Int32) (c_high : Int32) (c_text : Nat → Int32) (v1 : Int32) (C : Cx cX7_readsTies none 3 RX7 wsX7_readsTies G p s m args meth c) (hA : ∀ q : Nat, s.heap.size ≤ q → A q) {res : Int32 × Int32 × Int32 × Int32 × Int32 × (Nat → Int32)} (kr : ∀ (pc : Nat) (ls : Array Slot) (H : Heap) (locs : List Loc), va_P G.1 CL [(h_this, .inr (7, [.int c_thrown, .ref h_s, .ref h_draft, .ref h_past, .int c_undos, .ref h_kept, .ref h_isKept, .ref h_facts, .int c_manyFacts, .ref h_text, .int c_typed, .int (res.1), .int (res.2.1), .int (res.2.2.1), .int (res.2.2.2.1), .int c_hasHooks, .int (res.2.2.2.2.1), .int c_low, .int c_high])), (h_draft, .inl (G.2 0, 24, .inl (res.2.2.2.2.2))), (h_text, .inl (G.2 1, 120, .inl c_text))] H → va_D A [(h_this, .inr (7, [.int c_thrown, .ref h_s, .ref h_draft, .ref h_past, .int c_undos, .ref h_kept, .ref h_isKept, .ref h_facts, .int c_manyFacts, .ref h_text, .int c_typed, .int (res.1), .int (res.2.1), .int (res.2.2.1), .int (res.2.2.2.1), .int c_hasHooks, .int (res.2.2.2.2.1), .int c_low, .int c_high])), (h_draft, .inl (G.2 0, 24, .inl (res.2.2.2.2.2))), (h_text, .inl (G.2 1, 120, .inl c_text))] → va_S A s.heap H locs → decode cX7_readsTies pc = .ok (.return_, 1) → W p l e rmX7_readsTies s m args below meth c H locs 0 0 Q (F0 m pc ls [])) {k119 : (Nat → Int32) → Option (Int32 × Int32 × Int32 × Int32 × Int32 × (Nat → Int32))} (hk119 : ∀ (c_draft : Nat → Int32) (H : Heap) (locs : List Loc), k119 c_draft = some res → va_P G.1 CL [(h_this, .inr (7, [.int c_thrown, .ref h_s, .ref h_draft, .ref h_past, .int c_undos, .ref h_kept, .ref h_isKept, .ref h_facts, .int c_manyFacts, .ref h_text, .int c_typed, .int c_from, .int c_to, .int c_token, .int c_fault, .int c_hasHooks, .int c_hasTies, .int c_low, .int c_high])), (h_draft, .inl (G.2 0, 24, .inl c_draft)), (h_text, .inl (G.2 1, 120, .inl c_text))] H → va_D A [(h_this, .inr (7, [.int c_thrown, .ref h_s, .ref h_draft, .ref h_past, .int c_undos, .ref h_kept, .ref h_isKept, .ref h_facts, .int c_manyFacts, .ref h_text, .int c_typed, .int c_from, .int c_to, .int c_token, .int c_fault, .int c_hasHooks, .int c_hasTies, .int c_low, .int c_high])), (h_draft, .inl (G.2 0, 24, .inl c_draft)), (h_text, .inl (G.2 1, 120, .inl c_text))] → va_S A s.heap H locs → ∀ (ls : Array Slot), lv_has ls 3 [(0, .ref h_this), (1, .int v1)] → W p l e rmX7_readsTies s m args below meth c H locs 0 0 Q (F0 m 119 ls [])) : ∀ (n : Nat) (v2 : Int32) (c_draft : Nat → Int32) (H : Heap) (locs : List Loc), fX7_readsTies_L82 k119 c_typed c_from c_text n v2 c_draft = some res → va_P G.1 CL [(h_this, .inr (7, [.int c_thrown, .ref h_s, .ref h_draft, .ref h_past, .int c_undos, .ref h_kept, .ref h_isKept, .ref h_facts, .int c_manyFacts, .ref h_text, .int c_typed, .int c_from, .int c_to, .int c_token, .int c_fault, .int c_hasHooks, .int c_hasTies, .int c_low, .int c_high])), (h_draft, .inl (G.2 0, 24, .inl c_draft)), (h_text, .inl (G.2 1, 120, .inl c_text))] H → va_D A [(h_this, .inr (7, [.int c_thrown, .ref h_s, .ref h_draft, .ref h_past, .int c_undos, .ref h_kept, .ref h_isKept, .ref h_facts, .int c_manyFacts, .ref h_text, .int c_typed, .int c_from, .int c_to, .int c_token, .int c_fault, .int c_hasHooks, .int c_hasTies, .int c_low, .int c_high])), (h_draft, .inl (G.2 0, 24, .inl c_draft)), (h_text, .inl (G.2 1, 120, .inl c_text))] → va_S A s.heap H locs → ∀ (ls : Array Slot), lv_has ls 3 [(0, .ref h_this), (1, .int v1), (2, .int v2)] → W p l e rmX7_readsTies s m args below meth c H locs 0 0 Q (F0 m 82 ls []) := by
  obtain ⟨hx, hb, hr, hlk, hml, hown, hts, hK⟩ := id C
  intro n
  induction n with
  | zero =>
    intro v2 c_draft H locs hf
    cases hf
  | succ n ih =>
    intro v2 c_draft H locs hf hP hD hS ls hl
    rw [fX7_readsTies_L82] at hf
    refine lv_iload_n hx hb dX7_readsTies_82 rfl (lv_at hl 2 rfl) ?_
    refine lv_aload_n hx hb dX7_readsTies_83 rfl (lv_at hl 0 rfl) ?_
    refine va_get (D := G.1) (cl := CL) (ci := 7) (C := RX7) (T := TX7) (N := 19) hx hb hts iX7_readsTies_7 hown hK hP 0 rfl rfl 2 (by decide) (hts (.fieldLink RX7 13 "LoomCardsModel" "draft" "[I") (List.mem_of_getElem? (i := 2) rfl)) (fun _ h9 => h9) rfl dX7_readsTies_84 ?_
    refine lv_iconst (v := (1 : Int32)) hx hb dX7_readsTies_87 (by decide) ?_
    refine r_iald (j := 1) hx hb hK hP 1 rfl (ix_in (n := 24) (by decide)) (by decide) dX7_readsTies_88 ?_
    refine lv_icmp_ge (tgt := 119) hx hb dX7_readsTies_89 (by decide) (fun c9 => ?_) (fun c9 => ?_)
    · have hf := c_t hf c9
      exact hk119 c_draft _ _ hf hP hD hS _ (lv_sub hl [0, 1] rfl)
    · have hf := c_f hf c9
      refine lv_aload_n hx hb dX7_readsTies_92 rfl (lv_at hl 0 rfl) ?_
      refine va_get (D := G.1) (cl := CL) (ci := 7) (C := RX7) (T := TX7) (N := 19) hx hb hts iX7_readsTies_7 hown hK hP 0 rfl rfl 2 (by decide) (hts (.fieldLink RX7 13 "LoomCardsModel" "draft" "[I") (List.mem_of_getElem? (i := 2) rfl)) (fun _ h9 => h9) rfl dX7_readsTies_93 ?_
      refine lv_iconst (v := (4 : Int32)) hx hb dX7_readsTies_96 (by decide) ?_
      refine lv_iload_n hx hb dX7_readsTies_97 rfl (lv_at hl 2 rfl) ?_
      refine lv_iadd hx hb dX7_readsTies_98 ?_
      refine lv_aload_n hx hb dX7_readsTies_99 rfl (lv_at hl 0 rfl) ?_
      refine lv_aload_n hx hb dX7_readsTies_100 rfl (lv_at hl 0 rfl) ?_
      refine va_get (D := G.1) (cl := CL) (ci := 7) (C := RX7) (T := TX7) (N := 19) hx hb hts iX7_readsTies_7 hown hK hP 0 rfl rfl 11 (by decide) (hts (.fieldLink RX7 51 "LoomCardsModel" "from" "I") (List.mem_of_getElem? (i := 5) rfl)) (fun _ h9 => h9) rfl dX7_readsTies_101 ?_
      refine lv_iload_n hx hb dX7_readsTies_104 rfl (lv_at hl 2 rfl) ?_
      refine lv_iadd hx hb dX7_readsTies_105 ?_
      refine r_bind hf (fun u3 hu3 hf => ?_)
      refine cRiV (ci := 7) (rest := [.int ((4 : Int32) + v2), .ref h_draft]) ⟨hx, hb, hml, hown, hts⟩ hK (tX7_at l G h_this h_s h_draft h_past h_kept h_isKept h_facts h_text c_thrown c_undos c_manyFacts c_typed c_from c_to c_token c_fault c_hasHooks c_hasTies c_low c_high c_text (c_from + v2) u3 hu3) gX7_readsTies_X7_at rfl hdX7_at rfl rfl rfl ⟨Nat.le_of_ble_eq_true rfl, Nat.le_of_ble_eq_true rfl⟩ hP [0, 2] rfl 0 rfl rfl rfl hl.1 (Nat.le_of_ble_eq_true rfl) rfl dX7_readsTies_106 ⟨Nat.zero_le _, Nat.zero_le _⟩ ?_
      refine lv_bipush (v := (48 : Int32)) hx hb dX7_readsTies_109 (by decide) ?_
      refine lv_isub hx hb dX7_readsTies_111 ?_
      refine r_gd hf (fun g9 hf => ?_)
      refine r_iast hx hb hK hP hD hS 1 rfl (ix_in g9) rfl dX7_readsTies_112 (fun H locs hP hD hS => ?_)
      have hP : va_P G.1 CL [(h_this, .inr (7, [.int c_thrown, .ref h_s, .ref h_draft, .ref h_past, .int c_undos, .ref h_kept, .ref h_isKept, .ref h_facts, .int c_manyFacts, .ref h_text, .int c_typed, .int c_from, .int c_to, .int c_token, .int c_fault, .int c_hasHooks, .int c_hasTies, .int c_low, .int c_high])), (h_draft, .inl (G.2 0, 24, .inl (upd c_draft ((4 : Int32) + v2).toNatClampNeg (u3 - (48 : Int32))))), (h_text, .inl (G.2 1, 120, .inl c_text))] H := hP
      have hD : va_D A [(h_this, .inr (7, [.int c_thrown, .ref h_s, .ref h_draft, .ref h_past, .int c_undos, .ref h_kept, .ref h_isKept, .ref h_facts, .int c_manyFacts, .ref h_text, .int c_typed, .int c_from, .int c_to, .int c_token, .int c_fault, .int c_hasHooks, .int c_hasTies, .int c_low, .int c_high])), (h_draft, .inl (G.2 0, 24, .inl (upd c_draft ((4 : Int32) + v2).toNatClampNeg (u3 - (48 : Int32))))), (h_text, .inl (G.2 1, 120, .inl c_text))] := hD
      refine lv_iinc (v := (v2 + (1 : Int32))) (lv' := [(2, .int (v2 + (1 : Int32))), (0, .ref h_this), (1, .int v1)]) hx hb dX7_readsTies_113 hl (k := 2) rfl rfl (by decide) rfl (fun ls hl => ?_)
      refine lv_goto (tgt := 82) hx hb dX7_readsTies_116 (by decide) ?_
      exact ih (v2 + (1 : Int32)) (upd c_draft ((4 : Int32) + v2).toNatClampNeg (u3 - (48 : Int32))) _ _ hf hP hD hS _ (lv_sub hl [1, 2, 0] rfl)
set_option maxHeartbeats 4000000 in
set_option maxRecDepth 100000 in
theorem kX7_readsTies (h_this : Nat) (h_s : Nat) (h_draft : Nat) (h_past : Nat) (h_kept : Nat) (h_isKept : Nat) (h_facts : Nat) (h_text : Nat) (c_thrown : Int32) (c_undos : Int32) (c_manyFacts : Int32) (c_typed : Int32) (c_from : Int32) (c_to : Int32) (c_token : Int32) (c_fault : Int32) (c_hasHooks : Int32) (c_hasTies : Int32) (c_low : Int32) (c_high : Int32) (c_draft : Nat → Int32) (c_text : Nat → Int32) (C : Cx cX7_readsTies none 3 RX7 wsX7_readsTies G p s m args meth c) (hA : ∀ q : Nat, s.heap.size ≤ q → A q) (hP : va_P G.1 CL [(h_this, .inr (7, [.int c_thrown, .ref h_s, .ref h_draft, .ref h_past, .int c_undos, .ref h_kept, .ref h_isKept, .ref h_facts, .int c_manyFacts, .ref h_text, .int c_typed, .int c_from, .int c_to, .int c_token, .int c_fault, .int c_hasHooks, .int c_hasTies, .int c_low, .int c_high])), (h_draft, .inl (G.2 0, 24, .inl c_draft)), (h_text, .inl (G.2 1, 120, .inl c_text))] s.heap) (hD : va_D A [(h_this, .inr (7, [.int c_thrown, .ref h_s, .ref h_draft, .ref h_past, .int c_undos, .ref h_kept, .ref h_isKept, .ref h_facts, .int c_manyFacts, .ref h_text, .int c_typed, .int c_from, .int c_to, .int c_token, .int c_fault, .int c_hasHooks, .int c_hasTies, .int c_low, .int c_high])), (h_draft, .inl (G.2 0, 24, .inl c_draft)), (h_text, .inl (G.2 1, 120, .inl c_text))]) (hS : va_S A s.heap s.heap []) {res : Int32 × Int32 × Int32 × Int32 × Int32 × (Nat → Int32)} (kr : ∀ (pc : Nat) (ls : Array Slot) (H : Heap) (locs : List Loc), va_P G.1 CL [(h_this, .inr (7, [.int c_thrown, .ref h_s, .ref h_draft, .ref h_past, .int c_undos, .ref h_kept, .ref h_isKept, .ref h_facts, .int c_manyFacts, .ref h_text, .int c_typed, .int (res.1), .int (res.2.1), .int (res.2.2.1), .int (res.2.2.2.1), .int c_hasHooks, .int (res.2.2.2.2.1), .int c_low, .int c_high])), (h_draft, .inl (G.2 0, 24, .inl (res.2.2.2.2.2))), (h_text, .inl (G.2 1, 120, .inl c_text))] H → va_D A [(h_this, .inr (7, [.int c_thrown, .ref h_s, .ref h_draft, .ref h_past, .int c_undos, .ref h_kept, .ref h_isKept, .ref h_facts, .int c_manyFacts, .ref h_text, .int c_typed, .int (res.1), .int (res.2.1), .int (res.2.2.1), .int (res.2.2.2.1), .int c_hasHooks, .int (res.2.2.2.2.1), .int c_low, .int c_high])), (h_draft, .inl (G.2 0, 24, .inl (res.2.2.2.2.2))), (h_text, .inl (G.2 1, 120, .inl c_text))] → va_S A s.heap H locs → decode cX7_readsTies pc = .ok (.return_, 1) → W p l e rmX7_readsTies s m args below meth c H locs 0 0 Q (F0 m pc ls [])) (hf : fX7_readsTies c_typed c_from c_to c_token c_fault c_hasTies c_draft c_text = some res) {ls : Array Slot} (hl : lv_has ls 3 [(0, .ref h_this)]) : W p l e rmX7_readsTies s m args below meth c s.heap [] 0 0 Q (F0 m 0 ls []) := by
  obtain ⟨hx, hb, hr, hlk, hml, hown, hts, hK⟩ := id C
  rw [fX7_readsTies] at hf
  refine lv_aload_n hx hb dX7_readsTies_0 rfl (lv_at hl 0 rfl) ?_
  refine lv_aload_n hx hb dX7_readsTies_1 rfl (lv_at hl 0 rfl) ?_
  refine va_get (D := G.1) (cl := CL) (ci := 7) (C := RX7) (T := TX7) (N := 19) hx hb hts iX7_readsTies_7 hown hK hP 0 rfl rfl 16 (by decide) (hts (.fieldLink RX7 83 "LoomCardsModel" "hasTies" "Z") (List.mem_of_getElem? (i := 1) rfl)) (fun _ h9 => h9) rfl dX7_readsTies_2 ?_
  refine r_jn1 hf (fun J22 eJ22 hf => ?_)
  have hJ22 : ∀ (j22_0 : Int32) (H : Heap) (locs : List Loc), J22 j22_0 = some res → va_P G.1 CL [(h_this, .inr (7, [.int c_thrown, .ref h_s, .ref h_draft, .ref h_past, .int c_undos, .ref h_kept, .ref h_isKept, .ref h_facts, .int c_manyFacts, .ref h_text, .int c_typed, .int c_from, .int c_to, .int c_token, .int c_fault, .int c_hasHooks, .int c_hasTies, .int c_low, .int c_high])), (h_draft, .inl (G.2 0, 24, .inl c_draft)), (h_text, .inl (G.2 1, 120, .inl c_text))] H → va_D A [(h_this, .inr (7, [.int c_thrown, .ref h_s, .ref h_draft, .ref h_past, .int c_undos, .ref h_kept, .ref h_isKept, .ref h_facts, .int c_manyFacts, .ref h_text, .int c_typed, .int c_from, .int c_to, .int c_token, .int c_fault, .int c_hasHooks, .int c_hasTies, .int c_low, .int c_high])), (h_draft, .inl (G.2 0, 24, .inl c_draft)), (h_text, .inl (G.2 1, 120, .inl c_text))] → va_S A s.heap H locs → ∀ (ls : Array Slot), lv_has ls 3 [(0, .ref h_this)] → W p l e rmX7_readsTies s m args below meth c H locs 0 0 Q (F0 m 22 ls [.int j22_0, .ref h_this]) := by
    intro j22_0 H locs hf hP hD hS ls hl
    rw [eJ22] at hf
    refine r_bind hf (fun u1 hu1 hf => ?_)
    refine cWvV (ci := 7) (rest := []) (wr := [(h_draft, .inl (G.2 0, 24, .inl c_draft))]) (wf := [(h_this, .inr (7, [.int c_thrown, .ref h_s, .ref h_draft, .ref h_past, .int c_undos, .ref h_kept, .ref h_isKept, .ref h_facts, .int c_manyFacts, .ref h_text, .int c_typed, .int u1.1, .int u1.2.1, .int u1.2.2.1, .int u1.2.2.2, .int c_hasHooks, .int c_hasTies, .int c_low, .int c_high])), (h_draft, .inl (G.2 0, 24, .inl c_draft)), (h_text, .inl (G.2 1, 120, .inl c_text))]) ⟨hx, hb, hml, hown, hts⟩ hK (tX7_takes l G h_this h_s h_draft h_past h_kept h_isKept h_facts h_text c_thrown c_undos c_manyFacts c_typed c_from c_to c_token c_fault c_hasHooks c_hasTies c_low c_high c_text j22_0 u1 hu1) gX7_readsTies_X7_takes rfl hdX7_takes rfl rfl rfl ⟨Nat.le_of_ble_eq_true rfl, Nat.le_of_ble_eq_true rfl⟩ hP hD hS hA [0, 2] [1] [1, 0, 2] rfl rfl rfl (by decide) (by decide) (by decide) (by decide) 0 rfl rfl rfl hl.1 (Nat.le_of_ble_eq_true rfl) rfl dX7_readsTies_22 ⟨Nat.zero_le _, Nat.zero_le _⟩ (fun H locs hP hD hS => ?_)
    refine lv_aload_n hx hb dX7_readsTies_25 rfl (lv_at hl 0 rfl) ?_
    refine lv_iconst (v := (1 : Int32)) hx hb dX7_readsTies_26 (by decide) ?_
    refine va_put (D := G.1) (cl := CL) (ci := 7) (v := .int (1 : Int32)) (ty := .boolean) (C := RX7) (T := TX7) (N := 19) hx hb hts iX7_readsTies_7 tyX7 tyX7_ok nmX7 hown hK hP hD hS 0 rfl rfl 16 (by decide) (hts (.fieldLink RX7 83 "LoomCardsModel" "hasTies" "Z") (List.mem_of_getElem? (i := 1) rfl)) (fun _ h9 => h9) rfl (tyX7_ok 16 (by decide)) rfl rfl (Nat.le_of_ble_eq_true rfl) dX7_readsTies_27 (fun H locs hP hD hS => ?_)
    have hP : va_P G.1 CL [(h_this, .inr (7, [.int c_thrown, .ref h_s, .ref h_draft, .ref h_past, .int c_undos, .ref h_kept, .ref h_isKept, .ref h_facts, .int c_manyFacts, .ref h_text, .int c_typed, .int u1.1, .int u1.2.1, .int u1.2.2.1, .int u1.2.2.2, .int c_hasHooks, .int (1 : Int32), .int c_low, .int c_high])), (h_draft, .inl (G.2 0, 24, .inl c_draft)), (h_text, .inl (G.2 1, 120, .inl c_text))] H := hP
    have hD : va_D A [(h_this, .inr (7, [.int c_thrown, .ref h_s, .ref h_draft, .ref h_past, .int c_undos, .ref h_kept, .ref h_isKept, .ref h_facts, .int c_manyFacts, .ref h_text, .int c_typed, .int u1.1, .int u1.2.1, .int u1.2.2.1, .int u1.2.2.2, .int c_hasHooks, .int (1 : Int32), .int c_low, .int c_high])), (h_draft, .inl (G.2 0, 24, .inl c_draft)), (h_text, .inl (G.2 1, 120, .inl c_text))] := hD
    refine lv_aload_n hx hb dX7_readsTies_30 rfl (lv_at hl 0 rfl) ?_
    refine va_get (D := G.1) (cl := CL) (ci := 7) (C := RX7) (T := TX7) (N := 19) hx hb hts iX7_readsTies_7 hown hK hP 0 rfl rfl 14 (by decide) (hts (.fieldLink RX7 69 "LoomCardsModel" "fault" "I") (List.mem_of_getElem? (i := 3) rfl)) (fun _ h9 => h9) rfl dX7_readsTies_31 ?_
    refine lv_bipush (v := (-9 : Int32)) hx hb dX7_readsTies_34 (by decide) ?_
    refine r_jn1 hf (fun J60 eJ60 hf => ?_)
    have hJ60 : ∀ (j60_0 : Int32) (H : Heap) (locs : List Loc), J60 j60_0 = some res → va_P G.1 CL [(h_this, .inr (7, [.int c_thrown, .ref h_s, .ref h_draft, .ref h_past, .int c_undos, .ref h_kept, .ref h_isKept, .ref h_facts, .int c_manyFacts, .ref h_text, .int c_typed, .int u1.1, .int u1.2.1, .int u1.2.2.1, .int u1.2.2.2, .int c_hasHooks, .int (1 : Int32), .int c_low, .int c_high])), (h_draft, .inl (G.2 0, 24, .inl c_draft)), (h_text, .inl (G.2 1, 120, .inl c_text))] H → va_D A [(h_this, .inr (7, [.int c_thrown, .ref h_s, .ref h_draft, .ref h_past, .int c_undos, .ref h_kept, .ref h_isKept, .ref h_facts, .int c_manyFacts, .ref h_text, .int c_typed, .int u1.1, .int u1.2.1, .int u1.2.2.1, .int u1.2.2.2, .int c_hasHooks, .int (1 : Int32), .int c_low, .int c_high])), (h_draft, .inl (G.2 0, 24, .inl c_draft)), (h_text, .inl (G.2 1, 120, .inl c_text))] → va_S A s.heap H locs → ∀ (ls : Array Slot), lv_has ls 3 [(0, .ref h_this)] → W p l e rmX7_readsTies s m args below meth c H locs 0 0 Q (F0 m 60 ls [.int j60_0]) := by
      intro j60_0 H locs hf hP hD hS ls hl
      rw [eJ60] at hf
      refine lv_istore_n (lv' := [(1, .int j60_0), (0, .ref h_this)]) hx hb dX7_readsTies_60 rfl hl (by decide) rfl (fun ls hl => ?_)
      refine lv_iload_n hx hb dX7_readsTies_61 rfl (lv_at hl 0 rfl) ?_
      refine r_jn1 hf (fun J119 eJ119 hf => ?_)
      have hJ119 : ∀ (j119_c_draft : Nat → Int32) (H : Heap) (locs : List Loc), J119 j119_c_draft = some res → va_P G.1 CL [(h_this, .inr (7, [.int c_thrown, .ref h_s, .ref h_draft, .ref h_past, .int c_undos, .ref h_kept, .ref h_isKept, .ref h_facts, .int c_manyFacts, .ref h_text, .int c_typed, .int u1.1, .int u1.2.1, .int u1.2.2.1, .int u1.2.2.2, .int c_hasHooks, .int (1 : Int32), .int c_low, .int c_high])), (h_draft, .inl (G.2 0, 24, .inl j119_c_draft)), (h_text, .inl (G.2 1, 120, .inl c_text))] H → va_D A [(h_this, .inr (7, [.int c_thrown, .ref h_s, .ref h_draft, .ref h_past, .int c_undos, .ref h_kept, .ref h_isKept, .ref h_facts, .int c_manyFacts, .ref h_text, .int c_typed, .int u1.1, .int u1.2.1, .int u1.2.2.1, .int u1.2.2.2, .int c_hasHooks, .int (1 : Int32), .int c_low, .int c_high])), (h_draft, .inl (G.2 0, 24, .inl j119_c_draft)), (h_text, .inl (G.2 1, 120, .inl c_text))] → va_S A s.heap H locs → ∀ (ls : Array Slot), lv_has ls 3 [(0, .ref h_this), (1, .int j60_0)] → W p l e rmX7_readsTies s m args below meth c H locs 0 0 Q (F0 m 119 ls []) := by
        intro j119_c_draft H locs hf hP hD hS ls hl
        rw [eJ119] at hf
        refine lv_aload_n hx hb dX7_readsTies_119 rfl (lv_at hl 0 rfl) ?_
        refine lv_iload_n hx hb dX7_readsTies_120 rfl (lv_at hl 1 rfl) ?_
        refine r_bind hf (fun u2 hu2 hf => ?_)
        refine cWvV (ci := 7) (rest := []) (wr := [(h_draft, .inl (G.2 0, 24, .inl j119_c_draft))]) (wf := [(h_this, .inr (7, [.int c_thrown, .ref h_s, .ref h_draft, .ref h_past, .int c_undos, .ref h_kept, .ref h_isKept, .ref h_facts, .int c_manyFacts, .ref h_text, .int c_typed, .int u2.1, .int u2.2.1, .int u2.2.2.1, .int u2.2.2.2, .int c_hasHooks, .int (1 : Int32), .int c_low, .int c_high])), (h_draft, .inl (G.2 0, 24, .inl j119_c_draft)), (h_text, .inl (G.2 1, 120, .inl c_text))]) ⟨hx, hb, hml, hown, hts⟩ hK (tX7_takes l G h_this h_s h_draft h_past h_kept h_isKept h_facts h_text c_thrown c_undos c_manyFacts c_typed u1.1 u1.2.1 u1.2.2.1 u1.2.2.2 c_hasHooks (1 : Int32) c_low c_high c_text j60_0 u2 hu2) gX7_readsTies_X7_takes rfl hdX7_takes rfl rfl rfl ⟨Nat.le_of_ble_eq_true rfl, Nat.le_of_ble_eq_true rfl⟩ hP hD hS hA [0, 2] [1] [1, 0, 2] rfl rfl rfl (by decide) (by decide) (by decide) (by decide) 0 rfl rfl rfl hl.1 (Nat.le_of_ble_eq_true rfl) rfl dX7_readsTies_121 ⟨Nat.zero_le _, Nat.zero_le _⟩ (fun H locs hP hD hS => ?_)
        obtain rfl := Option.some.inj hf
        exact kr _ _ _ _ hP hD hS dX7_readsTies_124
      refine lv_if_eq (tgt := 119) hx hb dX7_readsTies_62 (by decide) (fun c9 => ?_) (fun c9 => ?_)
      · have hf := c_t hf c9
        exact hJ119 c_draft _ _ hf hP hD hS _ (lv_sub hl [1, 0] rfl)
      · have hf := c_f hf c9
        refine lv_aload_n hx hb dX7_readsTies_65 rfl (lv_at hl 1 rfl) ?_
        refine va_get (D := G.1) (cl := CL) (ci := 7) (C := RX7) (T := TX7) (N := 19) hx hb hts iX7_readsTies_7 hown hK hP 0 rfl rfl 2 (by decide) (hts (.fieldLink RX7 13 "LoomCardsModel" "draft" "[I") (List.mem_of_getElem? (i := 2) rfl)) (fun _ h9 => h9) rfl dX7_readsTies_66 ?_
        refine lv_iconst (v := (1 : Int32)) hx hb dX7_readsTies_69 (by decide) ?_
        refine lv_aload_n hx hb dX7_readsTies_70 rfl (lv_at hl 1 rfl) ?_
        refine va_get (D := G.1) (cl := CL) (ci := 7) (C := RX7) (T := TX7) (N := 19) hx hb hts iX7_readsTies_7 hown hK hP 0 rfl rfl 12 (by decide) (hts (.fieldLink RX7 48 "LoomCardsModel" "to" "I") (List.mem_of_getElem? (i := 4) rfl)) (fun _ h9 => h9) rfl dX7_readsTies_71 ?_
        refine lv_aload_n hx hb dX7_readsTies_74 rfl (lv_at hl 1 rfl) ?_
        refine va_get (D := G.1) (cl := CL) (ci := 7) (C := RX7) (T := TX7) (N := 19) hx hb hts iX7_readsTies_7 hown hK hP 0 rfl rfl 11 (by decide) (hts (.fieldLink RX7 51 "LoomCardsModel" "from" "I") (List.mem_of_getElem? (i := 5) rfl)) (fun _ h9 => h9) rfl dX7_readsTies_75 ?_
        refine lv_isub hx hb dX7_readsTies_78 ?_
        refine r_iast (j := 1) hx hb hK hP hD hS 1 rfl (ix_in (n := 24) (by decide)) (by decide) dX7_readsTies_79 (fun H locs hP hD hS => ?_)
        have hP : va_P G.1 CL [(h_this, .inr (7, [.int c_thrown, .ref h_s, .ref h_draft, .ref h_past, .int c_undos, .ref h_kept, .ref h_isKept, .ref h_facts, .int c_manyFacts, .ref h_text, .int c_typed, .int u1.1, .int u1.2.1, .int u1.2.2.1, .int u1.2.2.2, .int c_hasHooks, .int (1 : Int32), .int c_low, .int c_high])), (h_draft, .inl (G.2 0, 24, .inl (upd c_draft 1 (u1.2.1 - u1.1)))), (h_text, .inl (G.2 1, 120, .inl c_text))] H := hP
        have hD : va_D A [(h_this, .inr (7, [.int c_thrown, .ref h_s, .ref h_draft, .ref h_past, .int c_undos, .ref h_kept, .ref h_isKept, .ref h_facts, .int c_manyFacts, .ref h_text, .int c_typed, .int u1.1, .int u1.2.1, .int u1.2.2.1, .int u1.2.2.2, .int c_hasHooks, .int (1 : Int32), .int c_low, .int c_high])), (h_draft, .inl (G.2 0, 24, .inl (upd c_draft 1 (u1.2.1 - u1.1)))), (h_text, .inl (G.2 1, 120, .inl c_text))] := hD
        refine lv_iconst (v := (0 : Int32)) hx hb dX7_readsTies_80 (by decide) ?_
        refine lv_istore_n (lv' := [(2, .int (0 : Int32)), (1, .int j60_0), (0, .ref h_this)]) hx hb dX7_readsTies_81 rfl hl (by decide) rfl (fun ls hl => ?_)
        refine kX7_readsTies_L82 h_this h_s h_draft h_past h_kept h_isKept h_facts h_text c_thrown c_undos c_manyFacts c_typed u1.1 u1.2.1 u1.2.2.1 u1.2.2.2 c_hasHooks (1 : Int32) c_low c_high c_text j60_0 C hA kr ?_ FU (0 : Int32) (upd c_draft 1 (u1.2.1 - u1.1)) _ _ hf hP hD hS _ (lv_sub hl [2, 1, 0] rfl)
        intro c_draft_x4 H locs hf hP hD hS ls hl
        exact hJ119 c_draft_x4 _ _ hf hP hD hS _ (lv_sub hl [0, 1] rfl)
    refine r_jn0 hf (fun J59 eJ59 hf => ?_)
    have hJ59 : ∀ (H : Heap) (locs : List Loc), J59 = some res → va_P G.1 CL [(h_this, .inr (7, [.int c_thrown, .ref h_s, .ref h_draft, .ref h_past, .int c_undos, .ref h_kept, .ref h_isKept, .ref h_facts, .int c_manyFacts, .ref h_text, .int c_typed, .int u1.1, .int u1.2.1, .int u1.2.2.1, .int u1.2.2.2, .int c_hasHooks, .int (1 : Int32), .int c_low, .int c_high])), (h_draft, .inl (G.2 0, 24, .inl c_draft)), (h_text, .inl (G.2 1, 120, .inl c_text))] H → va_D A [(h_this, .inr (7, [.int c_thrown, .ref h_s, .ref h_draft, .ref h_past, .int c_undos, .ref h_kept, .ref h_isKept, .ref h_facts, .int c_manyFacts, .ref h_text, .int c_typed, .int u1.1, .int u1.2.1, .int u1.2.2.1, .int u1.2.2.2, .int c_hasHooks, .int (1 : Int32), .int c_low, .int c_high])), (h_draft, .inl (G.2 0, 24, .inl c_draft)), (h_text, .inl (G.2 1, 120, .inl c_text))] → va_S A s.heap H locs → ∀ (ls : Array Slot), lv_has ls 3 [(0, .ref h_this)] → W p l e rmX7_readsTies s m args below meth c H locs 0 0 Q (F0 m 59 ls []) := by
      intro H locs hf hP hD hS ls hl
      rw [eJ59] at hf
      refine lv_iconst (v := (0 : Int32)) hx hb dX7_readsTies_59 (by decide) ?_
      exact hJ60 (0 : Int32) _ _ hf hP hD hS _ (lv_sub hl [0] rfl)
    refine lv_icmp_ne (tgt := 59) hx hb dX7_readsTies_36 (by decide) (fun c9 => ?_) (fun c9 => ?_)
    · have hf := c_f hf c9
      exact hJ59 _ _ hf hP hD hS _ (lv_sub hl [0] rfl)
    · have hf := c_t hf c9
      refine lv_aload_n hx hb dX7_readsTies_39 rfl (lv_at hl 0 rfl) ?_
      refine lv_iconst (v := (1 : Int32)) hx hb dX7_readsTies_40 (by decide) ?_
      refine lv_bipush (v := (12 : Int32)) hx hb dX7_readsTies_41 (by decide) ?_
      refine lv_aload_n hx hb dX7_readsTies_43 rfl (lv_at hl 0 rfl) ?_
      refine va_get (D := G.1) (cl := CL) (ci := 7) (C := RX7) (T := TX7) (N := 19) hx hb hts iX7_readsTies_7 hown hK hP 0 rfl rfl 2 (by decide) (hts (.fieldLink RX7 13 "LoomCardsModel" "draft" "[I") (List.mem_of_getElem? (i := 2) rfl)) (fun _ h9 => h9) rfl dX7_readsTies_44 ?_
      refine lv_iconst (v := (0 : Int32)) hx hb dX7_readsTies_47 (by decide) ?_
      refine r_iald (j := 0) hx hb hK hP 1 rfl (ix_in (n := 24) (by decide)) (by decide) dX7_readsTies_48 ?_
      refine r_bind hf (fun u5 hu5 hf => ?_)
      refine cRiV (ci := 7) (rest := []) ⟨hx, hb, hml, hown, hts⟩ hK (tX7_areFigures l G h_this h_s h_draft h_past h_kept h_isKept h_facts h_text c_thrown c_undos c_manyFacts c_typed u1.1 u1.2.1 u1.2.2.1 u1.2.2.2 c_hasHooks (1 : Int32) c_low c_high c_text (1 : Int32) (12 : Int32) (c_draft 0) u5 hu5) gX7_readsTies_X7_areFigures rfl hdX7_areFigures rfl rfl rfl ⟨Nat.le_of_ble_eq_true rfl, Nat.le_of_ble_eq_true rfl⟩ hP [0, 2] rfl 0 rfl rfl rfl hl.1 (Nat.le_of_ble_eq_true rfl) rfl dX7_readsTies_49 ⟨Nat.zero_le _, Nat.zero_le _⟩ ?_
      refine lv_if_eq (tgt := 59) hx hb dX7_readsTies_52 (by decide) (fun c9 => ?_) (fun c9 => ?_)
      · have hf := c_t hf c9
        exact hJ59 _ _ hf hP hD hS _ (lv_sub hl [0] rfl)
      · have hf := c_f hf c9
        refine lv_iconst (v := (1 : Int32)) hx hb dX7_readsTies_55 (by decide) ?_
        refine lv_goto (tgt := 60) hx hb dX7_readsTies_56 (by decide) ?_
        exact hJ60 (1 : Int32) _ _ hf hP hD hS _ (lv_sub hl [0] rfl)
  refine r_jn0 hf (fun J21 eJ21 hf => ?_)
  have hJ21 : ∀ (H : Heap) (locs : List Loc), J21 = some res → va_P G.1 CL [(h_this, .inr (7, [.int c_thrown, .ref h_s, .ref h_draft, .ref h_past, .int c_undos, .ref h_kept, .ref h_isKept, .ref h_facts, .int c_manyFacts, .ref h_text, .int c_typed, .int c_from, .int c_to, .int c_token, .int c_fault, .int c_hasHooks, .int c_hasTies, .int c_low, .int c_high])), (h_draft, .inl (G.2 0, 24, .inl c_draft)), (h_text, .inl (G.2 1, 120, .inl c_text))] H → va_D A [(h_this, .inr (7, [.int c_thrown, .ref h_s, .ref h_draft, .ref h_past, .int c_undos, .ref h_kept, .ref h_isKept, .ref h_facts, .int c_manyFacts, .ref h_text, .int c_typed, .int c_from, .int c_to, .int c_token, .int c_fault, .int c_hasHooks, .int c_hasTies, .int c_low, .int c_high])), (h_draft, .inl (G.2 0, 24, .inl c_draft)), (h_text, .inl (G.2 1, 120, .inl c_text))] → va_S A s.heap H locs → ∀ (ls : Array Slot), lv_has ls 3 [(0, .ref h_this)] → W p l e rmX7_readsTies s m args below meth c H locs 0 0 Q (F0 m 21 ls [.ref h_this]) := by
    intro H locs hf hP hD hS ls hl
    rw [eJ21] at hf
    refine lv_iconst (v := (0 : Int32)) hx hb dX7_readsTies_21 (by decide) ?_
    exact hJ22 (0 : Int32) _ _ hf hP hD hS _ (lv_sub hl [0] rfl)
  refine lv_if_ne (tgt := 21) hx hb dX7_readsTies_5 (by decide) (fun c9 => ?_) (fun c9 => ?_)
  · have hf := c_f hf c9
    exact hJ21 _ _ hf hP hD hS _ (lv_sub hl [0] rfl)
  · have hf := c_t hf c9
    refine lv_aload_n hx hb dX7_readsTies_8 rfl (lv_at hl 0 rfl) ?_
    refine va_get (D := G.1) (cl := CL) (ci := 7) (C := RX7) (T := TX7) (N := 19) hx hb hts iX7_readsTies_7 hown hK hP 0 rfl rfl 2 (by decide) (hts (.fieldLink RX7 13 "LoomCardsModel" "draft" "[I") (List.mem_of_getElem? (i := 2) rfl)) (fun _ h9 => h9) rfl dX7_readsTies_9 ?_
    refine lv_iconst (v := (2 : Int32)) hx hb dX7_readsTies_12 (by decide) ?_
    refine r_iald (j := 2) hx hb hK hP 1 rfl (ix_in (n := 24) (by decide)) (by decide) dX7_readsTies_13 ?_
    refine lv_if_ne (tgt := 21) hx hb dX7_readsTies_14 (by decide) (fun c9 => ?_) (fun c9 => ?_)
    · have hf := c_f hf c9
      exact hJ21 _ _ hf hP hD hS _ (lv_sub hl [0] rfl)
    · have hf := c_t hf c9
      refine lv_iconst (v := (1 : Int32)) hx hb dX7_readsTies_17 (by decide) ?_
      refine lv_goto (tgt := 22) hx hb dX7_readsTies_18 (by decide) ?_
      exact hJ22 (1 : Int32) _ _ hf hP hD hS _ (lv_sub hl [0] rfl)
end SX7_readsTies
set_option maxHeartbeats 4000000 in
set_option maxRecDepth 100000 in
theorem tX7_readsTies (l : Launch) (G : GG) (h_this : Nat) (h_s : Nat) (h_draft : Nat) (h_past : Nat) (h_kept : Nat) (h_isKept : Nat) (h_facts : Nat) (h_text : Nat) (c_thrown : Int32) (c_undos : Int32) (c_manyFacts : Int32) (c_typed : Int32) (c_from : Int32) (c_to : Int32) (c_token : Int32) (c_fault : Int32) (c_hasHooks : Int32) (c_hasTies : Int32) (c_low : Int32) (c_high : Int32) (c_draft : Nat → Int32) (c_text : Nat → Int32) (res : Int32 × Int32 × Int32 × Int32 × Int32 × (Nat → Int32)) (hf : fX7_readsTies c_typed c_from c_to c_token c_fault c_hasTies c_draft c_text = some res) : MWv l yX7_readsTies wsX7_readsTies rmX7_readsTies G [.ref h_this] [(h_this, .inr (7, [.int c_thrown, .ref h_s, .ref h_draft, .ref h_past, .int c_undos, .ref h_kept, .ref h_isKept, .ref h_facts, .int c_manyFacts, .ref h_text, .int c_typed, .int c_from, .int c_to, .int c_token, .int c_fault, .int c_hasHooks, .int c_hasTies, .int c_low, .int c_high])), (h_draft, .inl (G.2 0, 24, .inl c_draft)), (h_text, .inl (G.2 1, 120, .inl c_text))] [(h_this, .inr (7, [.int c_thrown, .ref h_s, .ref h_draft, .ref h_past, .int c_undos, .ref h_kept, .ref h_isKept, .ref h_facts, .int c_manyFacts, .ref h_text, .int c_typed, .int (res.1), .int (res.2.1), .int (res.2.2.1), .int (res.2.2.2.1), .int c_hasHooks, .int (res.2.2.2.2.1), .int c_low, .int c_high])), (h_draft, .inl (G.2 0, 24, .inl (res.2.2.2.2.2))), (h_text, .inl (G.2 1, 120, .inl c_text))] := MWv.of (plainFor_of_name (by decide +kernel)) rfl (Nat.le_of_ble_eq_true rfl) (fun p e s m below meth c A C hA hP hD hS ls hl => kX7_readsTies h_this h_s h_draft h_past h_kept h_isKept h_facts h_text c_thrown c_undos c_manyFacts c_typed c_from c_to c_token c_fault c_hasHooks c_hasTies c_low c_high c_draft c_text C hA hP hD hS (fun pc ls H locs hP hD hS d => rWv C hP hD hS d) hf hl)

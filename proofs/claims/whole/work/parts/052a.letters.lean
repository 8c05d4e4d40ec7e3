def fX1_append (c_length : Int32) (c_letters : Nat → Int32) (v1 : Int32) : Option (Int32 × Int32 × (Nat → Int32)) := if c_length < 0 then some ((0 : Int32), c_length, c_letters) else if c_length < (120 : Int32) then gd (ix c_length 120) (some ((1 : Int32), (c_length + (1 : Int32)), (upd c_letters c_length.toNatClampNeg v1))) else some ((0 : Int32), c_length, c_letters)
theorem iX1_append_1 : ∀ w ∈ wsX10, w ∈ wsX1_append := fun w h => List.mem_cons_of_mem _ (List.mem_append_right _ (h))
theorem hdX1_append : yX1_append.cls = RX1 ∧ yX1_append.cls ≠ "java/lang/invoke/MethodHandle" ∧ yX1_append.cls ≠ "java/lang/invoke/VarHandle" ∧ (parseMethodDescriptor yX1_append.desc).map (fun d => d.parameters.length) = some 1 := by decide +kernel
abbrev rmX1_append : Room := { frames := 0, cells := 0, slots := 0, locals := 0 }
section SX1_append
variable {p : Program} {l : Launch} {e : Env} {s : State} {m : MethodId} {args : Array Value} {below : List Frame} {meth : Method} {c : Code} {Q : State → Prop} {G : GG} {A : Nat → Prop}
set_option maxHeartbeats 4000000 in
set_option maxRecDepth 100000 in
theorem kX1_append (h_this : Nat) (h_letters : Nat) (c_length : Int32) (c_letters : Nat → Int32) (v1 : Int32) (C : Cx cX1_append (some .boolean) 2 RX1 wsX1_append G p s m args meth c) (hA : ∀ q : Nat, s.heap.size ≤ q → A q) (hP : va_P G.1 CL [(h_this, .inr (1, [.int c_length, .ref h_letters])), (h_letters, .inl (G.2 0, 120, .inl c_letters))] s.heap) (hD : va_D A [(h_this, .inr (1, [.int c_length, .ref h_letters])), (h_letters, .inl (G.2 0, 120, .inl c_letters))]) (hS : va_S A s.heap s.heap []) {res : Int32 × Int32 × (Nat → Int32)} (kr : ∀ (pc : Nat) (ls : Array Slot) (H : Heap) (locs : List Loc), narrow .boolean (.int res.1) = .int res.1 → va_P G.1 CL [(h_this, .inr (1, [.int (res.2.1), .ref h_letters])), (h_letters, .inl (G.2 0, 120, .inl (res.2.2)))] H → va_D A [(h_this, .inr (1, [.int (res.2.1), .ref h_letters])), (h_letters, .inl (G.2 0, 120, .inl (res.2.2)))] → va_S A s.heap H locs → decode cX1_append pc = .ok (.ireturn, 1) → W p l e rmX1_append s m args below meth c H locs 0 0 Q (F0 m pc ls [.int res.1])) (hf : fX1_append c_length c_letters v1 = some res) {ls : Array Slot} (hl : lv_has ls 2 [(0, .ref h_this), (1, .int v1)]) : W p l e rmX1_append s m args below meth c s.heap [] 0 0 Q (F0 m 0 ls []) := by
  obtain ⟨hx, hb, hr, hlk, hml, hown, hts, hK⟩ := id C
  rw [fX1_append] at hf
  refine lv_aload_n hx hb dX1_append_0 rfl (lv_at hl 0 rfl) ?_
  refine va_get (D := G.1) (cl := CL) (ci := 1) (C := RX1) (T := TX1) (N := 2) hx hb hts iX1_append_1 hown hK hP 0 rfl rfl 0 (by decide) (hts (.fieldLink RX1 15 "LoomCards$Letters" "length" "I") (List.mem_of_getElem? (i := 1) rfl)) (fun _ h9 => h9) rfl dX1_append_1 ?_
  refine lv_if_lt (tgt := 16) hx hb dX1_append_4 (by decide) (fun c9 => ?_) (fun c9 => ?_)
  · have hf := c_t hf c9
    refine lv_iconst (v := (0 : Int32)) hx hb dX1_append_16 (by decide) ?_
    obtain rfl := Option.some.inj hf
    exact kr _ _ _ _ nb0 hP hD hS dX1_append_17
  · have hf := c_f hf c9
    refine lv_aload_n hx hb dX1_append_7 rfl (lv_at hl 0 rfl) ?_
    refine va_get (D := G.1) (cl := CL) (ci := 1) (C := RX1) (T := TX1) (N := 2) hx hb hts iX1_append_1 hown hK hP 0 rfl rfl 0 (by decide) (hts (.fieldLink RX1 15 "LoomCards$Letters" "length" "I") (List.mem_of_getElem? (i := 1) rfl)) (fun _ h9 => h9) rfl dX1_append_8 ?_
    refine lv_bipush (v := (120 : Int32)) hx hb dX1_append_11 (by decide) ?_
    refine lv_icmp_lt (tgt := 18) hx hb dX1_append_13 (by decide) (fun c9 => ?_) (fun c9 => ?_)
    · have hf := c_t hf c9
      refine lv_aload_n hx hb dX1_append_18 rfl (lv_at hl 0 rfl) ?_
      refine va_get (D := G.1) (cl := CL) (ci := 1) (C := RX1) (T := TX1) (N := 2) hx hb hts iX1_append_1 hown hK hP 0 rfl rfl 1 (by decide) (hts (.fieldLink RX1 9 "LoomCards$Letters" "letters" "[I") (List.mem_of_getElem? (i := 2) rfl)) (fun _ h9 => h9) rfl dX1_append_19 ?_
      refine lv_aload_n hx hb dX1_append_22 rfl (lv_at hl 0 rfl) ?_
      refine va_get (D := G.1) (cl := CL) (ci := 1) (C := RX1) (T := TX1) (N := 2) hx hb hts iX1_append_1 hown hK hP 0 rfl rfl 0 (by decide) (hts (.fieldLink RX1 15 "LoomCards$Letters" "length" "I") (List.mem_of_getElem? (i := 1) rfl)) (fun _ h9 => h9) rfl dX1_append_23 ?_
      refine lv_iload_n hx hb dX1_append_26 rfl (lv_at hl 1 rfl) ?_
      refine r_gd hf (fun g9 hf => ?_)
      refine r_iast hx hb hK hP hD hS 1 rfl (ix_in g9) rfl dX1_append_27 (fun H locs hP hD hS => ?_)
      have hP : va_P G.1 CL [(h_this, .inr (1, [.int c_length, .ref h_letters])), (h_letters, .inl (G.2 0, 120, .inl (upd c_letters c_length.toNatClampNeg v1)))] H := hP
      have hD : va_D A [(h_this, .inr (1, [.int c_length, .ref h_letters])), (h_letters, .inl (G.2 0, 120, .inl (upd c_letters c_length.toNatClampNeg v1)))] := hD
      refine lv_aload_n hx hb dX1_append_28 rfl (lv_at hl 0 rfl) ?_
      refine lv_dup hx hb dX1_append_29 rfl ?_
      refine va_get (D := G.1) (cl := CL) (ci := 1) (C := RX1) (T := TX1) (N := 2) hx hb hts iX1_append_1 hown hK hP 0 rfl rfl 0 (by decide) (hts (.fieldLink RX1 15 "LoomCards$Letters" "length" "I") (List.mem_of_getElem? (i := 1) rfl)) (fun _ h9 => h9) rfl dX1_append_30 ?_
      refine lv_iconst (v := (1 : Int32)) hx hb dX1_append_33 (by decide) ?_
      refine lv_iadd hx hb dX1_append_34 ?_
      refine va_put (D := G.1) (cl := CL) (ci := 1) (v := .int (c_length + (1 : Int32))) (ty := .int) (C := RX1) (T := TX1) (N := 2) hx hb hts iX1_append_1 tyX1 tyX1_ok nmX1 hown hK hP hD hS 0 rfl rfl 0 (by decide) (hts (.fieldLink RX1 15 "LoomCards$Letters" "length" "I") (List.mem_of_getElem? (i := 1) rfl)) (fun _ h9 => h9) rfl (tyX1_ok 0 (by decide)) rfl rfl (Nat.le_of_ble_eq_true rfl) dX1_append_35 (fun H locs hP hD hS => ?_)
      have hP : va_P G.1 CL [(h_this, .inr (1, [.int (c_length + (1 : Int32)), .ref h_letters])), (h_letters, .inl (G.2 0, 120, .inl (upd c_letters c_length.toNatClampNeg v1)))] H := hP
      have hD : va_D A [(h_this, .inr (1, [.int (c_length + (1 : Int32)), .ref h_letters])), (h_letters, .inl (G.2 0, 120, .inl (upd c_letters c_length.toNatClampNeg v1)))] := hD
      refine lv_iconst (v := (1 : Int32)) hx hb dX1_append_38 (by decide) ?_
      obtain rfl := Option.some.inj hf
      exact kr _ _ _ _ nb1 hP hD hS dX1_append_39
    · have hf := c_f hf c9
      refine lv_iconst (v := (0 : Int32)) hx hb dX1_append_16 (by decide) ?_
      obtain rfl := Option.some.inj hf
      exact kr _ _ _ _ nb0 hP hD hS dX1_append_17
end SX1_append
set_option maxHeartbeats 4000000 in
set_option maxRecDepth 100000 in
theorem tX1_append (l : Launch) (G : GG) (h_this : Nat) (h_letters : Nat) (c_length : Int32) (c_letters : Nat → Int32) (v1 : Int32) (res : Int32 × Int32 × (Nat → Int32)) (hf : fX1_append c_length c_letters v1 = some res) : MWi l yX1_append wsX1_append rmX1_append G [.ref h_this, .int v1] [(h_this, .inr (1, [.int c_length, .ref h_letters])), (h_letters, .inl (G.2 0, 120, .inl c_letters))] (res.1) [(h_this, .inr (1, [.int (res.2.1), .ref h_letters])), (h_letters, .inl (G.2 0, 120, .inl (res.2.2)))] := MWi.of (plainFor_of_name (by decide +kernel)) rfl (Nat.le_of_ble_eq_true rfl) (fun p e s m below meth c A C hA hP hD hS ls hl => kX1_append h_this h_letters c_length c_letters v1 C hA hP hD hS (fun pc ls H locs hn hP hD hS d => rWz C hn hP hD hS d) hf hl)
def fX1_empty (c_length : Int32)  : Option (Int32 × Int32) := some (c_length, (0 : Int32))
theorem iX1_empty_1 : ∀ w ∈ wsX10, w ∈ wsX1_empty := fun w h => List.mem_cons_of_mem _ (List.mem_append_right _ (h))
theorem hdX1_empty : yX1_empty.cls = RX1 ∧ yX1_empty.cls ≠ "java/lang/invoke/MethodHandle" ∧ yX1_empty.cls ≠ "java/lang/invoke/VarHandle" ∧ (parseMethodDescriptor yX1_empty.desc).map (fun d => d.parameters.length) = some 0 := by decide +kernel
abbrev rmX1_empty : Room := { frames := 0, cells := 0, slots := 0, locals := 0 }
section SX1_empty
variable {p : Program} {l : Launch} {e : Env} {s : State} {m : MethodId} {args : Array Value} {below : List Frame} {meth : Method} {c : Code} {Q : State → Prop} {G : GG} {A : Nat → Prop}
set_option maxHeartbeats 4000000 in
set_option maxRecDepth 100000 in
theorem kX1_empty (h_this : Nat) (h_letters : Nat) (c_length : Int32) (C : Cx cX1_empty (some .int) 2 RX1 wsX1_empty G p s m args meth c) (hA : ∀ q : Nat, s.heap.size ≤ q → A q) (hP : va_P G.1 CL [(h_this, .inr (1, [.int c_length, .ref h_letters]))] s.heap) (hD : va_D A [(h_this, .inr (1, [.int c_length, .ref h_letters]))]) (hS : va_S A s.heap s.heap []) {res : Int32 × Int32} (kr : ∀ (pc : Nat) (ls : Array Slot) (H : Heap) (locs : List Loc), va_P G.1 CL [(h_this, .inr (1, [.int (res.2), .ref h_letters]))] H → va_D A [(h_this, .inr (1, [.int (res.2), .ref h_letters]))] → va_S A s.heap H locs → decode cX1_empty pc = .ok (.ireturn, 1) → W p l e rmX1_empty s m args below meth c H locs 0 0 Q (F0 m pc ls [.int res.1])) (hf : fX1_empty c_length = some res) {ls : Array Slot} (hl : lv_has ls 2 [(0, .ref h_this)]) : W p l e rmX1_empty s m args below meth c s.heap [] 0 0 Q (F0 m 0 ls []) := by
  obtain ⟨hx, hb, hr, hlk, hml, hown, hts, hK⟩ := id C
  rw [fX1_empty] at hf
  refine lv_aload_n hx hb dX1_empty_0 rfl (lv_at hl 0 rfl) ?_
  refine va_get (D := G.1) (cl := CL) (ci := 1) (C := RX1) (T := TX1) (N := 2) hx hb hts iX1_empty_1 hown hK hP 0 rfl rfl 0 (by decide) (hts (.fieldLink RX1 15 "LoomCards$Letters" "length" "I") (List.mem_of_getElem? (i := 1) rfl)) (fun _ h9 => h9) rfl dX1_empty_1 ?_
  refine lv_istore_n (lv' := [(1, .int c_length), (0, .ref h_this)]) hx hb dX1_empty_4 rfl hl (by decide) rfl (fun ls hl => ?_)
  refine lv_aload_n hx hb dX1_empty_5 rfl (lv_at hl 1 rfl) ?_
  refine lv_iconst (v := (0 : Int32)) hx hb dX1_empty_6 (by decide) ?_
  refine va_put (D := G.1) (cl := CL) (ci := 1) (v := .int (0 : Int32)) (ty := .int) (C := RX1) (T := TX1) (N := 2) hx hb hts iX1_empty_1 tyX1 tyX1_ok nmX1 hown hK hP hD hS 0 rfl rfl 0 (by decide) (hts (.fieldLink RX1 15 "LoomCards$Letters" "length" "I") (List.mem_of_getElem? (i := 1) rfl)) (fun _ h9 => h9) rfl (tyX1_ok 0 (by decide)) rfl rfl (Nat.le_of_ble_eq_true rfl) dX1_empty_7 (fun H locs hP hD hS => ?_)
  have hP : va_P G.1 CL [(h_this, .inr (1, [.int (0 : Int32), .ref h_letters]))] H := hP
  have hD : va_D A [(h_this, .inr (1, [.int (0 : Int32), .ref h_letters]))] := hD
  refine lv_iload_n hx hb dX1_empty_10 rfl (lv_at hl 0 rfl) ?_
  obtain rfl := Option.some.inj hf
  exact kr _ _ _ _ hP hD hS dX1_empty_11
end SX1_empty
set_option maxHeartbeats 4000000 in
set_option maxRecDepth 100000 in
theorem tX1_empty (l : Launch) (G : GG) (h_this : Nat) (h_letters : Nat) (c_length : Int32) (res : Int32 × Int32) (hf : fX1_empty c_length = some res) : MWi l yX1_empty wsX1_empty rmX1_empty G [.ref h_this] [(h_this, .inr (1, [.int c_length, .ref h_letters]))] (res.1) [(h_this, .inr (1, [.int (res.2), .ref h_letters]))] := MWi.of (plainFor_of_name (by decide +kernel)) rfl (Nat.le_of_ble_eq_true rfl) (fun p e s m below meth c A C hA hP hD hS ls hl => kX1_empty h_this h_letters c_length C hA hP hD hS (fun pc ls H locs hP hD hS d => rWi C hP hD hS d) hf hl)
def fX1_at (c_length : Int32) (c_letters : Nat → Int32) (v1 : Int32) : Option (Int32) := if v1 < 0 then some ((-1 : Int32)) else if c_length ≤ v1 then some ((-1 : Int32)) else if (120 : Int32) ≤ v1 then some ((-1 : Int32)) else gd (ix v1 120) (some ((c_letters v1.toNatClampNeg)))
theorem iX1_at_1 : ∀ w ∈ wsX10, w ∈ wsX1_at := fun w h => List.mem_cons_of_mem _ (List.mem_append_right _ (h))
theorem hdX1_at : yX1_at.cls = RX1 ∧ yX1_at.cls ≠ "java/lang/invoke/MethodHandle" ∧ yX1_at.cls ≠ "java/lang/invoke/VarHandle" ∧ (parseMethodDescriptor yX1_at.desc).map (fun d => d.parameters.length) = some 1 := by decide +kernel
abbrev rmX1_at : Room := { frames := 0, cells := 0, slots := 0, locals := 0 }
section SX1_at
variable {p : Program} {l : Launch} {e : Env} {s : State} {m : MethodId} {args : Array Value} {below : List Frame} {meth : Method} {c : Code} {Q : State → Prop} {G : GG}
set_option maxHeartbeats 4000000 in
set_option maxRecDepth 100000 in
theorem kX1_at (h_this : Nat) (h_letters : Nat) (c_length : Int32) (c_letters : Nat → Int32) (v1 : Int32) (C : Cx cX1_at (some .int) 2 RX1 wsX1_at G p s m args meth c) (hP : va_P G.1 CL [(h_this, .inr (1, [.int c_length, .ref h_letters])), (h_letters, .inl (G.2 0, 120, .inl c_letters))] s.heap) {res : Int32} (kr : ∀ (pc : Nat) (ls : Array Slot), decode cX1_at pc = .ok (.ireturn, 1) → W p l e rmX1_at s m args below meth c s.heap [] 0 0 Q (F0 m pc ls [.int res])) (hf : fX1_at c_length c_letters v1 = some res) {ls : Array Slot} (hl : lv_has ls 2 [(0, .ref h_this), (1, .int v1)]) : W p l e rmX1_at s m args below meth c s.heap [] 0 0 Q (F0 m 0 ls []) := by
  obtain ⟨hx, hb, hr, hlk, hml, hown, hts, hK⟩ := id C
  rw [fX1_at] at hf
  refine lv_iload_n hx hb dX1_at_0 rfl (lv_at hl 1 rfl) ?_
  refine lv_if_lt (tgt := 27) hx hb dX1_at_1 (by decide) (fun c9 => ?_) (fun c9 => ?_)
  · have hf := c_t hf c9
    refine lv_iconst (v := (-1 : Int32)) hx hb dX1_at_27 (by decide) ?_
    obtain rfl := Option.some.inj hf
    exact kr _ _ dX1_at_28
  · have hf := c_f hf c9
    refine lv_iload_n hx hb dX1_at_4 rfl (lv_at hl 1 rfl) ?_
    refine lv_aload_n hx hb dX1_at_5 rfl (lv_at hl 0 rfl) ?_
    refine va_get (D := G.1) (cl := CL) (ci := 1) (C := RX1) (T := TX1) (N := 2) hx hb hts iX1_at_1 hown hK hP 0 rfl rfl 0 (by decide) (hts (.fieldLink RX1 15 "LoomCards$Letters" "length" "I") (List.mem_of_getElem? (i := 1) rfl)) (fun _ h9 => h9) rfl dX1_at_6 ?_
    refine lv_icmp_ge (tgt := 27) hx hb dX1_at_9 (by decide) (fun c9 => ?_) (fun c9 => ?_)
    · have hf := c_t hf c9
      refine lv_iconst (v := (-1 : Int32)) hx hb dX1_at_27 (by decide) ?_
      obtain rfl := Option.some.inj hf
      exact kr _ _ dX1_at_28
    · have hf := c_f hf c9
      refine lv_iload_n hx hb dX1_at_12 rfl (lv_at hl 1 rfl) ?_
      refine lv_bipush (v := (120 : Int32)) hx hb dX1_at_13 (by decide) ?_
      refine lv_icmp_ge (tgt := 27) hx hb dX1_at_15 (by decide) (fun c9 => ?_) (fun c9 => ?_)
      · have hf := c_t hf c9
        refine lv_iconst (v := (-1 : Int32)) hx hb dX1_at_27 (by decide) ?_
        obtain rfl := Option.some.inj hf
        exact kr _ _ dX1_at_28
      · have hf := c_f hf c9
        refine lv_aload_n hx hb dX1_at_18 rfl (lv_at hl 0 rfl) ?_
        refine va_get (D := G.1) (cl := CL) (ci := 1) (C := RX1) (T := TX1) (N := 2) hx hb hts iX1_at_1 hown hK hP 0 rfl rfl 1 (by decide) (hts (.fieldLink RX1 9 "LoomCards$Letters" "letters" "[I") (List.mem_of_getElem? (i := 2) rfl)) (fun _ h9 => h9) rfl dX1_at_19 ?_
        refine lv_iload_n hx hb dX1_at_22 rfl (lv_at hl 1 rfl) ?_
        refine r_gd hf (fun g9 hf => ?_)
        refine r_iald hx hb hK hP 1 rfl (ix_in g9) rfl dX1_at_23 ?_
        refine lv_goto (tgt := 28) hx hb dX1_at_24 (by decide) ?_
        obtain rfl := Option.some.inj hf
        exact kr _ _ dX1_at_28
end SX1_at
set_option maxHeartbeats 4000000 in
set_option maxRecDepth 100000 in
theorem tX1_at (l : Launch) (G : GG) (h_this : Nat) (h_letters : Nat) (c_length : Int32) (c_letters : Nat → Int32) (v1 : Int32) (res : Int32) (hf : fX1_at c_length c_letters v1 = some res) : MRi l yX1_at wsX1_at rmX1_at G [.ref h_this, .int v1] [(h_this, .inr (1, [.int c_length, .ref h_letters])), (h_letters, .inl (G.2 0, 120, .inl c_letters))] (res) := MRi.of (plainFor_of_name (by decide +kernel)) rfl (Nat.le_of_ble_eq_true rfl) (fun p e s m below meth c C hP ls hl => kX1_at h_this h_letters c_length c_letters v1 C hP (fun pc ls d => rRi C d) hf hl)
def fX1_figureAt (c_length : Int32) (c_letters : Nat → Int32) (v1 : Int32) : Option (Int32) := if v1 < 0 then some ((0 : Int32)) else if c_length ≤ v1 then some ((0 : Int32)) else if (120 : Int32) ≤ v1 then some ((0 : Int32)) else gd (ix v1 120) (some (((c_letters v1.toNatClampNeg) - (48 : Int32))))
theorem iX1_figureAt_1 : ∀ w ∈ wsX10, w ∈ wsX1_figureAt := fun w h => List.mem_cons_of_mem _ (List.mem_append_right _ (h))
theorem hdX1_figureAt : yX1_figureAt.cls = RX1 ∧ yX1_figureAt.cls ≠ "java/lang/invoke/MethodHandle" ∧ yX1_figureAt.cls ≠ "java/lang/invoke/VarHandle" ∧ (parseMethodDescriptor yX1_figureAt.desc).map (fun d => d.parameters.length) = some 1 := by decide +kernel
abbrev rmX1_figureAt : Room := { frames := 0, cells := 0, slots := 0, locals := 0 }
section SX1_figureAt
variable {p : Program} {l : Launch} {e : Env} {s : State} {m : MethodId} {args : Array Value} {below : List Frame} {meth : Method} {c : Code} {Q : State → Prop} {G : GG}
set_option maxHeartbeats 4000000 in
set_option maxRecDepth 100000 in
theorem kX1_figureAt (h_this : Nat) (h_letters : Nat) (c_length : Int32) (c_letters : Nat → Int32) (v1 : Int32) (C : Cx cX1_figureAt (some .int) 2 RX1 wsX1_figureAt G p s m args meth c) (hP : va_P G.1 CL [(h_this, .inr (1, [.int c_length, .ref h_letters])), (h_letters, .inl (G.2 0, 120, .inl c_letters))] s.heap) {res : Int32} (kr : ∀ (pc : Nat) (ls : Array Slot), decode cX1_figureAt pc = .ok (.ireturn, 1) → W p l e rmX1_figureAt s m args below meth c s.heap [] 0 0 Q (F0 m pc ls [.int res])) (hf : fX1_figureAt c_length c_letters v1 = some res) {ls : Array Slot} (hl : lv_has ls 2 [(0, .ref h_this), (1, .int v1)]) : W p l e rmX1_figureAt s m args below meth c s.heap [] 0 0 Q (F0 m 0 ls []) := by
  obtain ⟨hx, hb, hr, hlk, hml, hown, hts, hK⟩ := id C
  rw [fX1_figureAt] at hf
  refine lv_iload_n hx hb dX1_figureAt_0 rfl (lv_at hl 1 rfl) ?_
  refine lv_if_lt (tgt := 30) hx hb dX1_figureAt_1 (by decide) (fun c9 => ?_) (fun c9 => ?_)
  · have hf := c_t hf c9
    refine lv_iconst (v := (0 : Int32)) hx hb dX1_figureAt_30 (by decide) ?_
    obtain rfl := Option.some.inj hf
    exact kr _ _ dX1_figureAt_31
  · have hf := c_f hf c9
    refine lv_iload_n hx hb dX1_figureAt_4 rfl (lv_at hl 1 rfl) ?_
    refine lv_aload_n hx hb dX1_figureAt_5 rfl (lv_at hl 0 rfl) ?_
    refine va_get (D := G.1) (cl := CL) (ci := 1) (C := RX1) (T := TX1) (N := 2) hx hb hts iX1_figureAt_1 hown hK hP 0 rfl rfl 0 (by decide) (hts (.fieldLink RX1 15 "LoomCards$Letters" "length" "I") (List.mem_of_getElem? (i := 1) rfl)) (fun _ h9 => h9) rfl dX1_figureAt_6 ?_
    refine lv_icmp_ge (tgt := 30) hx hb dX1_figureAt_9 (by decide) (fun c9 => ?_) (fun c9 => ?_)
    · have hf := c_t hf c9
      refine lv_iconst (v := (0 : Int32)) hx hb dX1_figureAt_30 (by decide) ?_
      obtain rfl := Option.some.inj hf
      exact kr _ _ dX1_figureAt_31
    · have hf := c_f hf c9
      refine lv_iload_n hx hb dX1_figureAt_12 rfl (lv_at hl 1 rfl) ?_
      refine lv_bipush (v := (120 : Int32)) hx hb dX1_figureAt_13 (by decide) ?_
      refine lv_icmp_ge (tgt := 30) hx hb dX1_figureAt_15 (by decide) (fun c9 => ?_) (fun c9 => ?_)
      · have hf := c_t hf c9
        refine lv_iconst (v := (0 : Int32)) hx hb dX1_figureAt_30 (by decide) ?_
        obtain rfl := Option.some.inj hf
        exact kr _ _ dX1_figureAt_31
      · have hf := c_f hf c9
        refine lv_aload_n hx hb dX1_figureAt_18 rfl (lv_at hl 0 rfl) ?_
        refine va_get (D := G.1) (cl := CL) (ci := 1) (C := RX1) (T := TX1) (N := 2) hx hb hts iX1_figureAt_1 hown hK hP 0 rfl rfl 1 (by decide) (hts (.fieldLink RX1 9 "LoomCards$Letters" "letters" "[I") (List.mem_of_getElem? (i := 2) rfl)) (fun _ h9 => h9) rfl dX1_figureAt_19 ?_
        refine lv_iload_n hx hb dX1_figureAt_22 rfl (lv_at hl 1 rfl) ?_
        refine r_gd hf (fun g9 hf => ?_)
        refine r_iald hx hb hK hP 1 rfl (ix_in g9) rfl dX1_figureAt_23 ?_
        refine lv_bipush (v := (48 : Int32)) hx hb dX1_figureAt_24 (by decide) ?_
        refine lv_isub hx hb dX1_figureAt_26 ?_
        refine lv_goto (tgt := 31) hx hb dX1_figureAt_27 (by decide) ?_
        obtain rfl := Option.some.inj hf
        exact kr _ _ dX1_figureAt_31
end SX1_figureAt
set_option maxHeartbeats 4000000 in
set_option maxRecDepth 100000 in
theorem tX1_figureAt (l : Launch) (G : GG) (h_this : Nat) (h_letters : Nat) (c_length : Int32) (c_letters : Nat → Int32) (v1 : Int32) (res : Int32) (hf : fX1_figureAt c_length c_letters v1 = some res) : MRi l yX1_figureAt wsX1_figureAt rmX1_figureAt G [.ref h_this, .int v1] [(h_this, .inr (1, [.int c_length, .ref h_letters])), (h_letters, .inl (G.2 0, 120, .inl c_letters))] (res) := MRi.of (plainFor_of_name (by decide +kernel)) rfl (Nat.le_of_ble_eq_true rfl) (fun p e s m below meth c C hP ls hl => kX1_figureAt h_this h_letters c_length c_letters v1 C hP (fun pc ls d => rRi C d) hf hl)

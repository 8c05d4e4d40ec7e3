def fX1_append (c_length : Int32) (c_letters : Nat → Int32) (v1 : Int32) : Option (Int32 × Int32 × (Nat → Int32)) := if c_length < 0 then some ((0 : Int32), c_length, c_letters) else if c_length < (120 : Int32) then gd (ix c_length 120) (some ((1 : Int32), (c_length + (1 : Int32)), (upd c_letters c_length.toNatClampNeg v1))) else some ((0 : Int32), c_length, c_letters)
theorem iX1_append_1 : ∀ w ∈ wsX10, w ∈ wsX1_append := fun w h => List.mem_cons_of_mem _ (List.mem_append_right _ (h))
theorem hdX1_append : yX1_append.cls = RX1 ∧ yX1_append.cls ≠ "java/lang/invoke/MethodHandle" ∧ yX1_append.cls ≠ "java/lang/invoke/VarHandle" ∧ (parseMethodDescriptor yX1_append.desc).map (fun d => d.parameters.length) = some 1 := by decide +kernel
abbrev rmX1_append : Room := { frames := 0, cells := 0, slots := 0, locals := 0 }
section SX1_append
variable {p : Program} {l : Launch} {e : Env} {s : State} {m : MethodId} {args : Array Value} {below : List Frame} {meth : Method} {c : Code} {Q : State → Prop} {G : GG} {A : Nat → Prop}
set_option maxHeartbeats 4000000 in
set_option maxRecDepth 100000 in
theorem kX1_append (h_this : Nat) (h_letters : Nat) (c_length : Int32) (c_letters : Nat → Int32) (v1 : Int32) (C : Cx cX1_append (some .boolean) 2 RX1 wsX1_append G p s m args meth c) (hA : ∀ q : Nat, s.heap.size ≤ q → A q) (hP : va_P G.1 CL [(h_this, .inr (1, [.int c_length, .ref h_letters])), (h_letters, .inl (G.2 0, 120, .inl c_letters))] s.heap) (hD : va_D A [(h_this, .inr (1, [.int c_length, .ref h_letters])), (h_letters, .inl (G.2 0, 120, .inl c_letters))]) (hS : va_S A s.heap s.heap []) {res : Int32 × Int32 × (Nat → Int32)} (kr : ∀ (pc : Nat) (ls : Array Slot) (H : Heap) (locs : List Loc), narrow .boolean (.int res.1) = .int res.1 → va_P G.1 CL [(h_this, .inr (1, [.int (res.2.1), .ref h_letters])), (h_letters, .inl (G.2 0, 120, .inl (res.2.2)))] H → va_D A [(h_this, .inr (1, [.int (res.2.1), .ref h_letters])), (h_letters, .inl (G.2 0, 120, .inl (res.2.2)))] → va_S A s.heap H locs → decode cX1_append pc = .ok (.ireturn, 1) → W p l e rmX1_append s m args below meth c H locs 0 0 Q (F0 m pc ls [.int res.1])) (hf : fX1_append c_length c_letters v1 = some res) {ls : Array Slot} (hl : lv_has ls 2 [(0, .ref h_this), (1, .int v1)]) : W p l e rmX1_append s m args below meth c s.heap [] 0 0 Q (F0 m 0 ls []) := by
  obtain ⟨hx, hb, hr, hlk, hml, hown, hts, hK⟩ := id C
  rw [fX1_append] at hf
  refine lv_aload_n hx hb dX1_append_0 rfl (lv_at hl 0 rfl) ?_
  refine va_get (D := G.1) (cl := CL) (ci := 1) (C := RX1) (T := TX1) (N := 2) hx hb hts iX1_append_1 hown hK hP 0 rfl rfl 0 (by decide) (hts (.fieldLink RX1 15 "LoomCards$Letters" "length" "I") (List.mem_of_getElem? (i := 1) rfl)) (fun _ h9 => h9) rfl dX1_append_1 ?_
  refine lv_if_lt (tgt := 16) hx hb dX1_append_4 (by decide) (fun c9 => ?_) (fun c9 => ?_)
  · have hf := c_t hf c9
    refine lv_iconst (v := (0 : Int32)) hx hb dX1_append_16 (by decide) ?_
    obtain rfl := Option.some.inj hf
    exact kr _ _ _ _ nb0 hP hD hS dX1_append_17
  · have hf := c_f hf c9
    refine lv_aload_n hx hb dX1_append_7 rfl (lv_at hl 0 rfl) ?_
    refine va_get (D := G.1) (cl := CL) (ci := 1) (C := RX1) (T := TX1) (N := 2) hx hb hts iX1_append_1 hown hK hP 0 rfl rfl 0 (by decide) (hts (.fieldLink RX1 15 "LoomCards$Letters" "length" "I") (List.mem_of_getElem? (i := 1) rfl)) (fun _ h9 => h9) rfl dX1_append_8 ?_
    refine lv_bipush (v := (120 : Int32)) hx hb dX1_append_11 (by decide) ?_
    refine lv_icmp_lt (tgt := 18) hx hb dX1_append_13 (by decide) (fun c9 => ?_) (fun c9 => ?_)
    · have hf := c_t hf c9
      refine lv_aload_n hx hb dX1_append_18 rfl (lv_at hl 0 rfl) ?_
      refine va_get (D := G.1) (cl := CL) (ci := 1) (C := RX1) (T := TX1) (N := 2) hx hb hts iX1_append_1 hown hK hP 0 rfl rfl 1 (by decide) (hts (.fieldLink RX1 9 "LoomCards$Letters" "letters" "[I") (List.mem_of_getElem? (i := 2) rfl)) (fun _ h9 => h9) rfl dX1_append_19 ?_
      refine lv_aload_n hx hb dX1_append_22 rfl (lv_at hl 0 rfl) ?_
      refine va_get (D := G.1) (cl := CL) (ci := 1) (C := RX1) (T := TX1) (N := 2) hx hb hts iX1_append_1 hown hK hP 0 rfl rfl 0 (by decide) (hts (.fieldLink RX1 15 "LoomCards$Letters" "length" "I") (List.mem_of_getElem? (i := 1) rfl)) (fun _ h9 => h9) rfl dX1_append_23 ?_
      refine lv_iload_n hx hb dX1_append_26 rfl (lv_at hl 1 rfl) ?_
      refine r_gd hf (fun g9 hf => ?_)
      refine r_iast hx hb hK hP hD hS 1 rfl (ix_in g9) rfl dX1_append_27 (fun H locs hP hD hS => ?_)
      have hP : va_P G.1 CL [(h_this, .inr (1, [.int c_length, .ref h_letters])), (h_letters, .inl (G.2 0, 120, .inl (upd c_letters c_length.toNatClampNeg v1)))] H := hP
      have hD : va_D A [(h_this, .inr (1, [.int c_length, .ref h_letters])), (h_letters, .inl (G.2 0, 120, .inl (upd c_letters c_length.toNatClampNeg v1)))] := hD
      refine lv_aload_n hx hb dX1_append_28 rfl (lv_at hl 0 rfl) ?_
      refine lv_dup hx hb dX1_append_29 rfl ?_
      refine va_get (D := G.1) (cl := CL) (ci := 1) (C := RX1) (T := TX1) (N := 2) hx hb hts iX1_append_1 hown hK hP 0 rfl rfl 0 (by decide) (hts (.fieldLink RX1 15 "LoomCards$Letters" "length" "I") (List.mem_of_getElem? (i := 1) rfl)) (fun _ h9 => h9) rfl dX1_append_30 ?_
      refine lv_iconst (v := (1 : Int32)) hx hb dX1_append_33 (by decide) ?_
      refine lv_iadd hx hb dX1_append_34 ?_
      refine va_put (D := G.1) (cl := CL) (ci := 1) (v := .int (c_length + (1 : Int32))) (ty := .int) (C := RX1) (T := TX1) (N := 2) hx hb hts iX1_append_1 tyX1 tyX1_ok nmX1 hown hK hP hD hS 0 rfl rfl 0 (by decide) (hts (.fieldLink RX1 15 "LoomCards$Letters" "length" "I") (List.mem_of_getElem? (i := 1) rfl)) (fun _ h9 => h9) rfl (tyX1_ok 0 (by decide)) rfl rfl (Nat.le_of_ble_eq_true rfl) dX1_append_35 (fun H locs hP hD hS => ?_)
      have hP : va_P G.1 CL [(h_this, .inr (1, [.int (c_length + (1 : Int32)), .ref h_letters])), (h_letters, .inl (G.2 0, 120, .inl (upd c_letters c_length.toNatClampNeg v1)))] H := hP
      have hD : va_D A [(h_this, .inr (1, [.int (c_length + (1 : Int32)), .ref h_letters])), (h_letters, .inl (G.2 0, 120, .inl (upd c_letters c_length.toNatClampNeg v1)))] := hD
      refine lv_iconst (v := (1 : Int32)) hx hb dX1_append_38 (by decide) ?_
      obtain rfl := Option.some.inj hf
      exact kr _ _ _ _ nb1 hP hD hS dX1_append_39
    · have hf := c_f hf c9
      refine lv_iconst (v := (0 : Int32)) hx hb dX1_append_16 (by decide) ?_
      obtain rfl := Option.some.inj hf
      exact kr _ _ _ _ nb0 hP hD hS dX1_append_17
end SX1_append
set_option maxHeartbeats 4000000 in
set_option maxRecDepth 100000 in
theorem tX1_append (l : Launch) (G : GG) (h_this : Nat) (h_letters : Nat) (c_length : Int32) (c_letters : Nat → Int32) (v1 : Int32) (res : Int32 × Int32 × (Nat → Int32)) (hf : fX1_append c_length c_letters v1 = some res) : MWi l yX1_append wsX1_append rmX1_append G [.ref h_this, .int v1] [(h_this, .inr (1, [.int c_length, .ref h_letters])), (h_letters, .inl (G.2 0, 120, .inl c_letters))] (res.1) [(h_this, .inr (1, [.int (res.2.1), .ref h_letters])), (h_letters, .inl (G.2 0, 120, .inl (res.2.2)))] := MWi.of (plainFor_of_name (by decide +kernel)) rfl (Nat.le_of_ble_eq_true rfl) (fun p e s m below meth c A C hA hP hD hS ls hl => kX1_append h_this h_letters c_length c_letters v1 C hA hP hD hS (fun pc ls H locs hn hP hD hS d => rWz C hn hP hD hS d) hf hl)
def fX1_empty (c_length : Int32)  : Option (Int32 × Int32) := some (c_length, (0 : Int32))
theorem iX1_empty_1 : ∀ w ∈ wsX10, w ∈ wsX1_empty := fun w h => List.mem_cons_of_mem _ (List.mem_append_right _ (h))
theorem hdX1_empty : yX1_empty.cls = RX1 ∧ yX1_empty.cls ≠ "java/lang/invoke/MethodHandle" ∧ yX1_empty.cls ≠ "java/lang/invoke/VarHandle" ∧ (parseMethodDescriptor yX1_empty.desc).map (fun d => d.parameters.length) = some 0 := by decide +kernel
abbrev rmX1_empty : Room := { frames := 0, cells := 0, slots := 0, locals := 0 }
section SX1_empty
variable {p : Program} {l : Launch} {e : Env} {s : State} {m : MethodId} {args : Array Value} {below : List Frame} {meth : Method} {c : Code} {Q : State → Prop} {G : GG} {A : Nat → Prop}
set_option maxHeartbeats 4000000 in
set_option maxRecDepth 100000 in
theorem kX1_empty (h_this : Nat) (h_letters : Nat) (c_length : Int32) (C : Cx cX1_empty (some .int) 2 RX1 wsX1_empty G p s m args meth c) (hA : ∀ q : Nat, s.heap.size ≤ q → A q) (hP : va_P G.1 CL [(h_this, .inr (1, [.int c_length, .ref h_letters]))] s.heap) (hD : va_D A [(h_this, .inr (1, [.int c_length, .ref h_letters]))]) (hS : va_S A s.heap s.heap []) {res : Int32 × Int32} (kr : ∀ (pc : Nat) (ls : Array Slot) (H : Heap) (locs : List Loc), va_P G.1 CL [(h_this, .inr (1, [.int (res.2), .ref h_letters]))] H → va_D A [(h_this, .inr (1, [.int (res.2), .ref h_letters]))] → va_S A s.heap H locs → decode cX1_empty pc = .ok (.ireturn, 1) → W p l e rmX1_empty s m args below meth c H locs 0 0 Q (F0 m pc ls [.int res.1])) (hf : fX1_empty c_length = some res) {ls : Array Slot} (hl : lv_has ls 2 [(0, .ref h_this)]) : W p l e rmX1_empty s m args below meth c s.heap [] 0 0 Q (F0 m 0 ls []) := by
  obtain ⟨hx, hb, hr, hlk, hml, hown, hts, hK⟩ := id C
  rw [fX1_empty] at hf
  refine lv_aload_n hx hb dX1_empty_0 rfl (lv_at hl 0 rfl) ?_
  refine va_get (D := G.1) (cl := CL) (ci := 1) (C := RX1) (T := TX1) (N := 2) hx hb hts iX1_empty_1 hown hK hP 0 rfl rfl 0 (by decide) (hts (.fieldLink RX1 15 "LoomCards$Letters" "length" "I") (List.mem_of_getElem? (i := 1) rfl)) (fun _ h9 => h9) rfl dX1_empty_1 ?_
  refine lv_istore_n (lv' := [(1, .int c_length), (0, .ref h_this)]) hx hb dX1_empty_4 rfl hl (by decide) rfl (fun ls hl => ?_)
  refine lv_aload_n hx hb dX1_empty_5 rfl (lv_at hl 1 rfl) ?_
  refine lv_iconst (v := (0 : Int32)) hx hb dX1_empty_6 (by decide) ?_
  refine va_put (D := G.1) (cl := CL) (ci := 1) (v := .int (0 : Int32)) (ty := .int) (C := RX1) (T := TX1) (N := 2) hx hb hts iX1_empty_1 tyX1 tyX1_ok nmX1 hown hK hP hD hS 0 rfl rfl 0 (by decide) (hts (.fieldLink RX1 15 "LoomCards$Letters" "length" "I") (List.mem_of_getElem? (i := 1) rfl)) (fun _ h9 => h9) rfl (tyX1_ok 0 (by decide)) rfl rfl (Nat.le_of_ble_eq_true rfl) dX1_empty_7 (fun H locs hP hD hS => ?_)
  have hP : va_P G.1 CL [(h_this, .inr (1, [.int (0 : Int32), .ref h_letters]))] H := hP
  have hD : va_D A [(h_this, .inr (1, [.int (0 : Int32), .ref h_letters]))] := hD
  refine lv_iload_n hx hb dX1_empty_10 rfl (lv_at hl 0 rfl) ?_
  obtain rfl := Option.some.inj hf
  exact kr _ _ _ _ hP hD hS dX1_empty_11
end SX1_empty
set_option maxHeartbeats 4000000 in
set_option maxRecDepth 100000 in
theorem tX1_empty (l : Launch) (G : GG) (h_this : Nat) (h_letters : Nat) (c_length : Int32) (res : Int32 × Int32) (hf : fX1_empty c_length = some res) : MWi l yX1_empty wsX1_empty rmX1_empty G [.ref h_this] [(h_this, .inr (1, [.int c_length, .ref h_letters]))] (res.1) [(h_this, .inr (1, [.int (res.2), .ref h_letters]))] := MWi.of (plainFor_of_name (by decide +kernel)) rfl (Nat.le_of_ble_eq_true rfl) (fun p e s m below meth c A C hA hP hD hS ls hl => kX1_empty h_this h_letters c_length C hA hP hD hS (fun pc ls H locs hP hD hS d => rWi C hP hD hS d) hf hl)
def fX1_at (c_length : Int32) (c_letters : Nat → Int32) (v1 : Int32) : Option (Int32) := if v1 < 0 then some ((-1 : Int32)) else if c_length ≤ v1 then some ((-1 : Int32)) else if (120 : Int32) ≤ v1 then some ((-1 : Int32)) else gd (ix v1 120) (some ((c_letters v1.toNatClampNeg)))
theorem iX1_at_1 : ∀ w ∈ wsX10, w ∈ wsX1_at := fun w h => List.mem_cons_of_mem _ (List.mem_append_right _ (h))
theorem hdX1_at : yX1_at.cls = RX1 ∧ yX1_at.cls ≠ "java/lang/invoke/MethodHandle" ∧ yX1_at.cls ≠ "java/lang/invoke/VarHandle" ∧ (parseMethodDescriptor yX1_at.desc).map (fun d => d.parameters.length) = some 1 := by decide +kernel
abbrev rmX1_at : Room := { frames := 0, cells := 0, slots := 0, locals := 0 }
section SX1_at
variable {p : Program} {l : Launch} {e : Env} {s : State} {m : MethodId} {args : Array Value} {below : List Frame} {meth : Method} {c : Code} {Q : State → Prop} {G : GG}
set_option maxHeartbeats 4000000 in
set_option maxRecDepth 100000 in
theorem kX1_at (h_this : Nat) (h_letters : Nat) (c_length : Int32) (c_letters : Nat → Int32) (v1 : Int32) (C : Cx cX1_at (some .int) 2 RX1 wsX1_at G p s m args meth c) (hP : va_P G.1 CL [(h_this, .inr (1, [.int c_length, .ref h_letters])), (h_letters, .inl (G.2 0, 120, .inl c_letters))] s.heap) {res : Int32} (kr : ∀ (pc : Nat) (ls : Array Slot), decode cX1_at pc = .ok (.ireturn, 1) → W p l e rmX1_at s m args below meth c s.heap [] 0 0 Q (F0 m pc ls [.int res])) (hf : fX1_at c_length c_letters v1 = some res) {ls : Array Slot} (hl : lv_has ls 2 [(0, .ref h_this), (1, .int v1)]) : W p l e rmX1_at s m args below meth c s.heap [] 0 0 Q (F0 m 0 ls []) := by
  obtain ⟨hx, hb, hr, hlk, hml, hown, hts, hK⟩ := id C
  rw [fX1_at] at hf
  refine lv_iload_n hx hb dX1_at_0 rfl (lv_at hl 1 rfl) ?_
  refine lv_if_lt (tgt := 27) hx hb dX1_at_1 (by decide) (fun c9 => ?_) (fun c9 => ?_)
  · have hf := c_t hf c9
    refine lv_iconst (v := (-1 : Int32)) hx hb dX1_at_27 (by decide) ?_
    obtain rfl := Option.some.inj hf
    exact kr _ _ dX1_at_28
  · have hf := c_f hf c9
    refine lv_iload_n hx hb dX1_at_4 rfl (lv_at hl 1 rfl) ?_
    refine lv_aload_n hx hb dX1_at_5 rfl (lv_at hl 0 rfl) ?_
    refine va_get (D := G.1) (cl := CL) (ci := 1) (C := RX1) (T := TX1) (N := 2) hx hb hts iX1_at_1 hown hK hP 0 rfl rfl 0 (by decide) (hts (.fieldLink RX1 15 "LoomCards$Letters" "length" "I") (List.mem_of_getElem? (i := 1) rfl)) (fun _ h9 => h9) rfl dX1_at_6 ?_
    refine lv_icmp_ge (tgt := 27) hx hb dX1_at_9 (by decide) (fun c9 => ?_) (fun c9 => ?_)
    · have hf := c_t hf c9
      refine lv_iconst (v := (-1 : Int32)) hx hb dX1_at_27 (by decide) ?_
      obtain rfl := Option.some.inj hf
      exact kr _ _ dX1_at_28
    · have hf := c_f hf c9
      refine lv_iload_n hx hb dX1_at_12 rfl (lv_at hl 1 rfl) ?_
      refine lv_bipush (v := (120 : Int32)) hx hb dX1_at_13 (by decide) ?_
      refine lv_icmp_ge (tgt := 27) hx hb dX1_at_15 (by decide) (fun c9 => ?_) (fun c9 => ?_)
      · have hf := c_t hf c9
        refine lv_iconst (v := (-1 : Int32)) hx hb dX1_at_27 (by decide) ?_
        obtain rfl := Option.some.inj hf
        exact kr _ _ dX1_at_28
      · have hf := c_f hf c9
        refine lv_aload_n hx hb dX1_at_18 rfl (lv_at hl 0 rfl) ?_
        refine va_get (D := G.1) (cl := CL) (ci := 1) (C := RX1) (T := TX1) (N := 2) hx hb hts iX1_at_1 hown hK hP 0 rfl rfl 1 (by decide) (hts (.fieldLink RX1 9 "LoomCards$Letters" "letters" "[I") (List.mem_of_getElem? (i := 2) rfl)) (fun _ h9 => h9) rfl dX1_at_19 ?_
        refine lv_iload_n hx hb dX1_at_22 rfl (lv_at hl 1 rfl) ?_
        refine r_gd hf (fun g9 hf => ?_)
        refine r_iald hx hb hK hP 1 rfl (ix_in g9) rfl dX1_at_23 ?_
        refine lv_goto (tgt := 28) hx hb dX1_at_24 (by decide) ?_
        obtain rfl := Option.some.inj hf
        exact kr _ _ dX1_at_28
end SX1_at
set_option maxHeartbeats 4000000 in
set_option maxRecDepth 100000 in
theorem tX1_at (l : Launch) (G : GG) (h_this : Nat) (h_letters : Nat) (c_length : Int32) (c_letters : Nat → Int32) (v1 : Int32) (res : Int32) (hf : fX1_at c_length c_letters v1 = some res) : MRi l yX1_at wsX1_at rmX1_at G [.ref h_this, .int v1] [(h_this, .inr (1, [.int c_length, .ref h_letters])), (h_letters, .inl (G.2 0, 120, .inl c_letters))] (res) := MRi.of (plainFor_of_name (by decide +kernel)) rfl (Nat.le_of_ble_eq_true rfl) (fun p e s m below meth c C hP ls hl => kX1_at h_this h_letters c_length c_letters v1 C hP (fun pc ls d => rRi C d) hf hl)
def fX1_figureAt (c_length : Int32) (c_letters : Nat → Int32) (v1 : Int32) : Option (Int32) := if v1 < 0 then some ((0 : Int32)) else if c_length ≤ v1 then some ((0 : Int32)) else if (120 : Int32) ≤ v1 then some ((0 : Int32)) else gd (ix v1 120) (some (((c_letters v1.toNatClampNeg) - (48 : Int32))))
theorem iX1_figureAt_1 : ∀ w ∈ wsX10, w ∈ wsX1_figureAt := fun w h => List.mem_cons_of_mem _ (List.mem_append_right _ (h))
theorem hdX1_figureAt : yX1_figureAt.cls = RX1 ∧ yX1_figureAt.cls ≠ "java/lang/invoke/MethodHandle" ∧ yX1_figureAt.cls ≠ "java/lang/invoke/VarHandle" ∧ (parseMethodDescriptor yX1_figureAt.desc).map (fun d => d.parameters.length) = some 1 := by decide +kernel
abbrev rmX1_figureAt : Room := { frames := 0, cells := 0, slots := 0, locals := 0 }
section SX1_figureAt
variable {p : Program} {l : Launch} {e : Env} {s : State} {m : MethodId} {args : Array Value} {below : List Frame} {meth : Method} {c : Code} {Q : State → Prop} {G : GG}
set_option maxHeartbeats 4000000 in
set_option maxRecDepth 100000 in
theorem kX1_figureAt (h_this : Nat) (h_letters : Nat) (c_length : Int32) (c_letters : Nat → Int32) (v1 : Int32) (C : Cx cX1_figureAt (some .int) 2 RX1 wsX1_figureAt G p s m args meth c) (hP : va_P G.1 CL [(h_this, .inr (1, [.int c_length, .ref h_letters])), (h_letters, .inl (G.2 0, 120, .inl c_letters))] s.heap) {res : Int32} (kr : ∀ (pc : Nat) (ls : Array Slot), decode cX1_figureAt pc = .ok (.ireturn, 1) → W p l e rmX1_figureAt s m args below meth c s.heap [] 0 0 Q (F0 m pc ls [.int res])) (hf : fX1_figureAt c_length c_letters v1 = some res) {ls : Array Slot} (hl : lv_has ls 2 [(0, .ref h_this), (1, .int v1)]) : W p l e rmX1_figureAt s m args below meth c s.heap [] 0 0 Q (F0 m 0 ls []) := by
  obtain ⟨hx, hb, hr, hlk, hml, hown, hts, hK⟩ := id C
  rw [fX1_figureAt] at hf
  refine lv_iload_n hx hb dX1_figureAt_0 rfl (lv_at hl 1 rfl) ?_
  refine lv_if_lt (tgt := 30) hx hb dX1_figureAt_1 (by decide) (fun c9 => ?_) (fun c9 => ?_)
  · have hf := c_t hf c9
    refine lv_iconst (v := (0 : Int32)) hx hb dX1_figureAt_30 (by decide) ?_
    obtain rfl := Option.some.inj hf
    exact kr _ _ dX1_figureAt_31
  · have hf := c_f hf c9
    refine lv_iload_n hx hb dX1_figureAt_4 rfl (lv_at hl 1 rfl) ?_
    refine lv_aload_n hx hb dX1_figureAt_5 rfl (lv_at hl 0 rfl) ?_
    refine va_get (D := G.1) (cl := CL) (ci := 1) (C := RX1) (T := TX1) (N := 2) hx hb hts iX1_figureAt_1 hown hK hP 0 rfl rfl 0 (by decide) (hts (.fieldLink RX1 15 "LoomCards$Letters" "length" "I") (List.mem_of_getElem? (i := 1) rfl)) (fun _ h9 => h9) rfl dX1_figureAt_6 ?_
    refine lv_icmp_ge (tgt := 30) hx hb dX1_figureAt_9 (by decide) (fun c9 => ?_) (fun c9 => ?_)
    · have hf := c_t hf c9
      refine lv_iconst (v := (0 : Int32)) hx hb dX1_figureAt_30 (by decide) ?_
      obtain rfl := Option.some.inj hf
      exact kr _ _ dX1_figureAt_31
    · have hf := c_f hf c9
      refine lv_iload_n hx hb dX1_figureAt_12 rfl (lv_at hl 1 rfl) ?_
      refine lv_bipush (v := (120 : Int32)) hx hb dX1_figureAt_13 (by decide) ?_
      refine lv_icmp_ge (tgt := 30) hx hb dX1_figureAt_15 (by decide) (fun c9 => ?_) (fun c9 => ?_)
      · have hf := c_t hf c9
        refine lv_iconst (v := (0 : Int32)) hx hb dX1_figureAt_30 (by decide) ?_
        obtain rfl := Option.some.inj hf
        exact kr _ _ dX1_figureAt_31
      · have hf := c_f hf c9
        refine lv_aload_n hx hb dX1_figureAt_18 rfl (lv_at hl 0 rfl) ?_
        refine va_get (D := G.1) (cl := CL) (ci := 1) (C := RX1) (T := TX1) (N := 2) hx hb hts iX1_figureAt_1 hown hK hP 0 rfl rfl 1 (by decide) (hts (.fieldLink RX1 9 "LoomCards$Letters" "letters" "[I") (List.mem_of_getElem? (i := 2) rfl)) (fun _ h9 => h9) rfl dX1_figureAt_19 ?_
        refine lv_iload_n hx hb dX1_figureAt_22 rfl (lv_at hl 1 rfl) ?_
        refine r_gd hf (fun g9 hf => ?_)
        refine r_iald hx hb hK hP 1 rfl (ix_in g9) rfl dX1_figureAt_23 ?_
        refine lv_bipush (v := (48 : Int32)) hx hb dX1_figureAt_24 (by decide) ?_
        refine lv_isub hx hb dX1_figureAt_26 ?_
        refine lv_goto (tgt := 31) hx hb dX1_figureAt_27 (by decide) ?_
        obtain rfl := Option.some.inj hf
        exact kr _ _ dX1_figureAt_31
end SX1_figureAt
set_option maxHeartbeats 4000000 in
set_option maxRecDepth 100000 in
theorem tX1_figureAt (l : Launch) (G : GG) (h_this : Nat) (h_letters : Nat) (c_length : Int32) (c_letters : Nat → Int32) (v1 : Int32) (res : Int32) (hf : fX1_figureAt c_length c_letters v1 = some res) : MRi l yX1_figureAt wsX1_figureAt rmX1_figureAt G [.ref h_this, .int v1] [(h_this, .inr (1, [.int c_length, .ref h_letters])), (h_letters, .inl (G.2 0, 120, .inl c_letters))] (res) := MRi.of (plainFor_of_name (by decide +kernel)) rfl (Nat.le_of_ble_eq_true rfl) (fun p e s m below meth c C hP ls hl => kX1_figureAt h_this h_letters c_length c_letters v1 C hP (fun pc ls d => rRi C d) hf hl)
def fX1_isFrom_L15 (k49 : Option (Int32)) (k41 : Option (Int32)) (c_length : Int32) (c_letters : Nat → Int32) (v1 : Int32) (v3 : Nat) : Nat → Int32 → Option (Int32)
  | 0, _ => none
  | n + 1, v4 => if (wLenI v3) ≤ v4 then k49 else (fX1_at c_length c_letters (v1 + v4)).bind (fun u1 => gd (ix v4 (wLen v3)) (if u1 = (wCh v3 v4.toNatClampNeg) then fX1_isFrom_L15 k49 k41 c_length c_letters v1 v3 n (v4 + (1 : Int32)) else k41))
def fX1_isFrom (c_length : Int32) (c_letters : Nat → Int32) (v1 : Int32) (v2 : Int32) (v3 : Nat) : Option (Int32) := if (v2 - v1) = (wLenI v3) then (fX1_isFrom_L15 (some ((1 : Int32))) (some ((0 : Int32))) c_length c_letters v1 v3 FU (0 : Int32)) else some ((0 : Int32))
theorem iX1_isFrom_1 : ∀ w ∈ wsX10, w ∈ wsX1_isFrom := fun w h => List.mem_cons_of_mem _ (List.mem_append_right _ (h))
theorem hdX1_isFrom : yX1_isFrom.cls = RX1 ∧ yX1_isFrom.cls ≠ "java/lang/invoke/MethodHandle" ∧ yX1_isFrom.cls ≠ "java/lang/invoke/VarHandle" ∧ (parseMethodDescriptor yX1_isFrom.desc).map (fun d => d.parameters.length) = some 3 := by decide +kernel
abbrev rmX1_isFrom : Room := { frames := 4, cells := 0, slots := 0, locals := 85 }
section SX1_isFrom
variable {p : Program} {l : Launch} {e : Env} {s : State} {m : MethodId} {args : Array Value} {below : List Frame} {meth : Method} {c : Code} {Q : State → Prop} {G : GG}
set_option maxHeartbeats 4000000 in
set_option maxRecDepth 100000 in
theorem kX1_isFrom_L15 (z : ZZ) (h_this : Nat) (h_letters : Nat) (c_length : Int32) (c_letters : Nat → Int32) (v1 : Int32) (v3 : Nat) (hv3 : v3 < 5) (C : Cx cX1_isFrom (some .boolean) 5 RX1 wsX1_isFrom G p s m args meth c) (hZ : SF z NoA s) (hP : va_P G.1 CL [(h_this, .inr (1, [.int c_length, .ref h_letters])), (h_letters, .inl (G.2 0, 120, .inl c_letters))] s.heap) {res : Int32} (kr : ∀ (pc : Nat) (ls : Array Slot), narrow .boolean (.int res) = .int res → decode cX1_isFrom pc = .ok (.ireturn, 1) → W p l e rmX1_isFrom s m args below meth c s.heap [] 0 0 Q (F0 m pc ls [.int res])) {k49 : Option (Int32)} (hk49 : k49 = some res → ∀ (ls : Array Slot), lv_has ls 5 [] → W p l e rmX1_isFrom s m args below meth c s.heap [] 0 0 Q (F0 m 49 ls [])) {k41 : Option (Int32)} (hk41 : k41 = some res → ∀ (ls : Array Slot), lv_has ls 5 [] → W p l e rmX1_isFrom s m args below meth c s.heap [] 0 0 Q (F0 m 41 ls [])) : ∀ (n : Nat) (v4 : Int32), fX1_isFrom_L15 k49 k41 c_length c_letters v1 v3 n v4 = some res → ∀ (ls : Array Slot), lv_has ls 5 [(0, .ref h_this), (1, .int v1), (3, .ref (z v3).1), (4, .int v4)] → W p l e rmX1_isFrom s m args below meth c s.heap [] 0 0 Q (F0 m 15 ls []) := by
  obtain ⟨hx, hb, hr, hlk, hml, hown, hts, hK⟩ := id C
  intro n
  induction n with
  | zero =>
    intro v4 hf
    cases hf
  | succ n ih =>
    intro v4 hf ls hl
    rw [fX1_isFrom_L15] at hf
    refine lv_iload hx hb dX1_isFrom_15 (lv_at hl 3 rfl) ?_
    refine lv_aload_n hx hb dX1_isFrom_17 rfl (lv_at hl 2 rfl) ?_
    refine cRiVZ (C := RJ0) (rest := [.int v4]) ⟨hx, hb, hml, hown, hts⟩ hK hZ va_S.rf (tJ0_length_8abf5 l G z v3 hv3) gX1_isFrom_J0_length_8abf5 rfl hdJ0_length_8abf5 rfl rfl rfl ⟨Nat.le_of_ble_eq_true rfl, Nat.le_of_ble_eq_true rfl⟩ hP [] rfl (vk_recv hZ.1 hv3 va_S.rf) hl.1 (Nat.le_of_ble_eq_true rfl) rfl dX1_isFrom_18 ⟨Nat.zero_le _, Nat.zero_le _⟩ ?_
    refine lv_icmp_ge (tgt := 49) hx hb dX1_isFrom_21 (by decide) (fun c9 => ?_) (fun c9 => ?_)
    · have hf := c_t hf c9
      exact hk49 hf _ (lv_sub hl [] rfl)
    · have hf := c_f hf c9
      refine lv_aload_n hx hb dX1_isFrom_24 rfl (lv_at hl 0 rfl) ?_
      refine lv_iload_n hx hb dX1_isFrom_25 rfl (lv_at hl 1 rfl) ?_
      refine lv_iload hx hb dX1_isFrom_26 (lv_at hl 3 rfl) ?_
      refine lv_iadd hx hb dX1_isFrom_28 ?_
      refine r_bind hf (fun u1 hu1 hf => ?_)
      refine cRiV (ci := 1) (rest := []) ⟨hx, hb, hml, hown, hts⟩ hK (tX1_at l G h_this h_letters c_length c_letters (v1 + v4) u1 hu1) gX1_isFrom_X1_at rfl hdX1_at rfl rfl rfl ⟨Nat.le_of_ble_eq_true rfl, Nat.le_of_ble_eq_true rfl⟩ hP [0, 1] rfl 0 rfl rfl rfl hl.1 (Nat.le_of_ble_eq_true rfl) rfl dX1_isFrom_29 ⟨Nat.zero_le _, Nat.zero_le _⟩ ?_
      refine lv_aload_n hx hb dX1_isFrom_32 rfl (lv_at hl 2 rfl) ?_
      refine lv_iload hx hb dX1_isFrom_33 (lv_at hl 3 rfl) ?_
      refine r_gd hf (fun g9 hf => ?_)
      refine cRiVZ (C := RJ0) (rest := [.int u1]) ⟨hx, hb, hml, hown, hts⟩ hK hZ va_S.rf (tJ0_charAt_5068e l G z v3 hv3 v4 g9 (wLen_lt v3)) gX1_isFrom_J0_charAt_5068e rfl hdJ0_charAt_5068e rfl rfl rfl ⟨Nat.le_of_ble_eq_true rfl, Nat.le_of_ble_eq_true rfl⟩ hP [] rfl (vk_recv hZ.1 hv3 va_S.rf) hl.1 (Nat.le_of_ble_eq_true rfl) rfl dX1_isFrom_35 ⟨Nat.zero_le _, Nat.zero_le _⟩ ?_
      refine lv_icmp_eq (tgt := 43) hx hb dX1_isFrom_38 (by decide) (fun c9 => ?_) (fun c9 => ?_)
      · have hf := c_t hf c9
        refine lv_iinc (v := (v4 + (1 : Int32))) (lv' := [(4, .int (v4 + (1 : Int32))), (0, .ref h_this), (1, .int v1), (3, .ref (z v3).1)]) hx hb dX1_isFrom_43 hl (k := 3) rfl rfl (by decide) rfl (fun ls hl => ?_)
        refine lv_goto (tgt := 15) hx hb dX1_isFrom_46 (by decide) ?_
        exact ih (v4 + (1 : Int32)) hf _ (lv_sub hl [1, 2, 3, 0] rfl)
      · have hf := c_f hf c9
        exact hk41 hf _ (lv_sub hl [] rfl)
set_option maxHeartbeats 4000000 in
set_option maxRecDepth 100000 in
theorem kX1_isFrom (z : ZZ) (h_this : Nat) (h_letters : Nat) (c_length : Int32) (c_letters : Nat → Int32) (v1 : Int32) (v2 : Int32) (v3 : Nat) (hv3 : v3 < 5) (C : Cx cX1_isFrom (some .boolean) 5 RX1 wsX1_isFrom G p s m args meth c) (hZ : SF z NoA s) (hP : va_P G.1 CL [(h_this, .inr (1, [.int c_length, .ref h_letters])), (h_letters, .inl (G.2 0, 120, .inl c_letters))] s.heap) {res : Int32} (kr : ∀ (pc : Nat) (ls : Array Slot), narrow .boolean (.int res) = .int res → decode cX1_isFrom pc = .ok (.ireturn, 1) → W p l e rmX1_isFrom s m args below meth c s.heap [] 0 0 Q (F0 m pc ls [.int res])) (hf : fX1_isFrom c_length c_letters v1 v2 v3 = some res) {ls : Array Slot} (hl : lv_has ls 5 [(0, .ref h_this), (1, .int v1), (2, .int v2), (3, .ref (z v3).1)]) : W p l e rmX1_isFrom s m args below meth c s.heap [] 0 0 Q (F0 m 0 ls []) := by
  obtain ⟨hx, hb, hr, hlk, hml, hown, hts, hK⟩ := id C
  rw [fX1_isFrom] at hf
  refine lv_iload_n hx hb dX1_isFrom_0 rfl (lv_at hl 2 rfl) ?_
  refine lv_iload_n hx hb dX1_isFrom_1 rfl (lv_at hl 1 rfl) ?_
  refine lv_isub hx hb dX1_isFrom_2 ?_
  refine lv_aload_n hx hb dX1_isFrom_3 rfl (lv_at hl 3 rfl) ?_
  refine cRiVZ (C := RJ0) (rest := [.int (v2 - v1)]) ⟨hx, hb, hml, hown, hts⟩ hK hZ va_S.rf (tJ0_length_8abf5 l G z v3 hv3) gX1_isFrom_J0_length_8abf5 rfl hdJ0_length_8abf5 rfl rfl rfl ⟨Nat.le_of_ble_eq_true rfl, Nat.le_of_ble_eq_true rfl⟩ hP [] rfl (vk_recv hZ.1 hv3 va_S.rf) hl.1 (Nat.le_of_ble_eq_true rfl) rfl dX1_isFrom_4 ⟨Nat.zero_le _, Nat.zero_le _⟩ ?_
  refine lv_icmp_eq (tgt := 12) hx hb dX1_isFrom_7 (by decide) (fun c9 => ?_) (fun c9 => ?_)
  · have hf := c_t hf c9
    refine lv_iconst (v := (0 : Int32)) hx hb dX1_isFrom_12 (by decide) ?_
    refine lv_istore (lv' := [(4, .int (0 : Int32)), (0, .ref h_this), (1, .int v1), (2, .int v2), (3, .ref (z v3).1)]) hx hb dX1_isFrom_13 hl (by decide) rfl (fun ls hl => ?_)
    refine kX1_isFrom_L15 z h_this h_letters c_length c_letters v1 v3 hv3 C hZ hP kr ?_ ?_ FU (0 : Int32) hf _ (lv_sub hl [1, 2, 4, 0] rfl)
    · intro hf ls hl
      refine lv_iconst (v := (1 : Int32)) hx hb dX1_isFrom_49 (by decide) ?_
      obtain rfl := Option.some.inj hf
      exact kr _ _ nb1 dX1_isFrom_50
    · intro hf ls hl
      refine lv_iconst (v := (0 : Int32)) hx hb dX1_isFrom_41 (by decide) ?_
      obtain rfl := Option.some.inj hf
      exact kr _ _ nb0 dX1_isFrom_42
  · have hf := c_f hf c9
    refine lv_iconst (v := (0 : Int32)) hx hb dX1_isFrom_10 (by decide) ?_
    obtain rfl := Option.some.inj hf
    exact kr _ _ nb0 dX1_isFrom_11
end SX1_isFrom
set_option maxHeartbeats 4000000 in
set_option maxRecDepth 100000 in
theorem tX1_isFrom (l : Launch) (G : GG) (z : ZZ) (h_this : Nat) (h_letters : Nat) (c_length : Int32) (c_letters : Nat → Int32) (v1 : Int32) (v2 : Int32) (v3 : Nat) (hv3 : v3 < 5) (res : Int32) (hf : fX1_isFrom c_length c_letters v1 v2 v3 = some res) : MRiZ l yX1_isFrom wsX1_isFrom rmX1_isFrom G z [.ref h_this, .int v1, .int v2, .ref (z v3).1] [(h_this, .inr (1, [.int c_length, .ref h_letters])), (h_letters, .inl (G.2 0, 120, .inl c_letters))] (res) := MRiZ.of (plainFor_of_name (by decide +kernel)) rfl (Nat.le_of_ble_eq_true rfl) (fun p e s m below meth c C hZ hP ls hl => kX1_isFrom z h_this h_letters c_length c_letters v1 v2 v3 hv3 C hZ hP (fun pc ls hn d => rRz C hn d) hf hl)

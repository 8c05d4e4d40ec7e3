def fX4_note (c_seen : Int32) (c_rows : Nat → Int32) (c_ends : Nat → Int32) (c_wasUp : Nat → Int32) (v1 : Int32) (v2 : Int32) (v3 : Int32) : Option (Int32 × Int32 × (Nat → Int32) × (Nat → Int32) × (Nat → Int32)) := if c_seen < 0 then some ((0 : Int32), c_seen, c_rows, c_ends, c_wasUp) else if c_seen < (8 : Int32) then gd (ix c_seen 8) (gd (ix c_seen 8) (gd (ix c_seen 8) (some ((1 : Int32), (c_seen + (1 : Int32)), (upd c_rows c_seen.toNatClampNeg v1), (upd c_ends c_seen.toNatClampNeg v2), (upd c_wasUp c_seen.toNatClampNeg (vp_nar .boolean v3)))))) else some ((0 : Int32), c_seen, c_rows, c_ends, c_wasUp)
theorem iX4_note_4 : ∀ w ∈ wsX40, w ∈ wsX4_note := fun w h => List.mem_cons_of_mem _ (List.mem_append_right _ (h))
theorem hdX4_note : yX4_note.cls = RX4 ∧ yX4_note.cls ≠ "java/lang/invoke/MethodHandle" ∧ yX4_note.cls ≠ "java/lang/invoke/VarHandle" ∧ (parseMethodDescriptor yX4_note.desc).map (fun d => d.parameters.length) = some 3 := by decide +kernel
abbrev rmX4_note : Room := { frames := 0, cells := 0, slots := 0, locals := 0 }
section SX4_note
variable {p : Program} {l : Launch} {e : Env} {s : State} {m : MethodId} {args : Array Value} {below : List Frame} {meth : Method} {c : Code} {Q : State → Prop} {G : GG} {A : Nat → Prop}
set_option maxHeartbeats 4000000 in
set_option maxRecDepth 100000 in
theorem kX4_note (h_this : Nat) (h_rows : Nat) (h_ends : Nat) (h_wasUp : Nat) (c_seen : Int32) (c_rows : Nat → Int32) (c_ends : Nat → Int32) (c_wasUp : Nat → Int32) (v1 : Int32) (v2 : Int32) (v3 : Int32) (C : Cx cX4_note (some .boolean) 4 RX4 wsX4_note G p s m args meth c) (hA : ∀ q : Nat, s.heap.size ≤ q → A q) (hP : va_P G.1 CL [(h_this, .inr (4, [.int c_seen, .ref h_rows, .ref h_ends, .ref h_wasUp])), (h_rows, .inl (G.2 0, 8, .inl c_rows)), (h_ends, .inl (G.2 0, 8, .inl c_ends)), (h_wasUp, .inl (G.2 2, 8, .inl c_wasUp))] s.heap) (hD : va_D A [(h_this, .inr (4, [.int c_seen, .ref h_rows, .ref h_ends, .ref h_wasUp])), (h_rows, .inl (G.2 0, 8, .inl c_rows)), (h_ends, .inl (G.2 0, 8, .inl c_ends)), (h_wasUp, .inl (G.2 2, 8, .inl c_wasUp))]) (hS : va_S A s.heap s.heap []) {res : Int32 × Int32 × (Nat → Int32) × (Nat → Int32) × (Nat → Int32)} (kr : ∀ (pc : Nat) (ls : Array Slot) (H : Heap) (locs : List Loc), narrow .boolean (.int res.1) = .int res.1 → va_P G.1 CL [(h_this, .inr (4, [.int (res.2.1), .ref h_rows, .ref h_ends, .ref h_wasUp])), (h_rows, .inl (G.2 0, 8, .inl (res.2.2.1))), (h_ends, .inl (G.2 0, 8, .inl (res.2.2.2.1))), (h_wasUp, .inl (G.2 2, 8, .inl (res.2.2.2.2)))] H → va_D A [(h_this, .inr (4, [.int (res.2.1), .ref h_rows, .ref h_ends, .ref h_wasUp])), (h_rows, .inl (G.2 0, 8, .inl (res.2.2.1))), (h_ends, .inl (G.2 0, 8, .inl (res.2.2.2.1))), (h_wasUp, .inl (G.2 2, 8, .inl (res.2.2.2.2)))] → va_S A s.heap H locs → decode cX4_note pc = .ok (.ireturn, 1) → W p l e rmX4_note s m args below meth c H locs 0 0 Q (F0 m pc ls [.int res.1])) (hf : fX4_note c_seen c_rows c_ends c_wasUp v1 v2 v3 = some res) {ls : Array Slot} (hl : lv_has ls 4 [(0, .ref h_this), (1, .int v1), (2, .int v2), (3, .int v3)]) : W p l e rmX4_note s m args below meth c s.heap [] 0 0 Q (F0 m 0 ls []) := by
  obtain ⟨hx, hb, hr, hlk, hml, hown, hts, hK⟩ := id C
  rw [fX4_note] at hf
  refine lv_aload_n hx hb dX4_note_0 rfl (lv_at hl 0 rfl) ?_
  refine va_get (D := G.1) (cl := CL) (ci := 4) (C := RX4) (T := TX4) (N := 4) hx hb hts iX4_note_4 hown hK hP 0 rfl rfl 0 (by decide) (hts (.fieldLink RX4 22 "LoomCards$Sightings" "seen" "I") (List.mem_of_getElem? (i := 1) rfl)) (fun _ h9 => h9) rfl dX4_note_1 ?_
  refine lv_if_lt (tgt := 16) hx hb dX4_note_4 (by decide) (fun c9 => ?_) (fun c9 => ?_)
  · have hf := c_t hf c9
    refine lv_iconst (v := (0 : Int32)) hx hb dX4_note_16 (by decide) ?_
    obtain rfl := Option.some.inj hf
    exact kr _ _ _ _ nb0 hP hD hS dX4_note_17
  · have hf := c_f hf c9
    refine lv_aload_n hx hb dX4_note_7 rfl (lv_at hl 0 rfl) ?_
    refine va_get (D := G.1) (cl := CL) (ci := 4) (C := RX4) (T := TX4) (N := 4) hx hb hts iX4_note_4 hown hK hP 0 rfl rfl 0 (by decide) (hts (.fieldLink RX4 22 "LoomCards$Sightings" "seen" "I") (List.mem_of_getElem? (i := 1) rfl)) (fun _ h9 => h9) rfl dX4_note_8 ?_
    refine lv_bipush (v := (8 : Int32)) hx hb dX4_note_11 (by decide) ?_
    refine lv_icmp_lt (tgt := 18) hx hb dX4_note_13 (by decide) (fun c9 => ?_) (fun c9 => ?_)
    · have hf := c_t hf c9
      refine lv_aload_n hx hb dX4_note_18 rfl (lv_at hl 0 rfl) ?_
      refine va_get (D := G.1) (cl := CL) (ci := 4) (C := RX4) (T := TX4) (N := 4) hx hb hts iX4_note_4 hown hK hP 0 rfl rfl 1 (by decide) (hts (.fieldLink RX4 9 "LoomCards$Sightings" "rows" "[I") (List.mem_of_getElem? (i := 2) rfl)) (fun _ h9 => h9) rfl dX4_note_19 ?_
      refine lv_aload_n hx hb dX4_note_22 rfl (lv_at hl 0 rfl) ?_
      refine va_get (D := G.1) (cl := CL) (ci := 4) (C := RX4) (T := TX4) (N := 4) hx hb hts iX4_note_4 hown hK hP 0 rfl rfl 0 (by decide) (hts (.fieldLink RX4 22 "LoomCards$Sightings" "seen" "I") (List.mem_of_getElem? (i := 1) rfl)) (fun _ h9 => h9) rfl dX4_note_23 ?_
      refine lv_iload_n hx hb dX4_note_26 rfl (lv_at hl 1 rfl) ?_
      refine r_gd hf (fun g9 hf => ?_)
      refine r_iast hx hb hK hP hD hS 1 rfl (ix_in g9) rfl dX4_note_27 (fun H locs hP hD hS => ?_)
      have hP : va_P G.1 CL [(h_this, .inr (4, [.int c_seen, .ref h_rows, .ref h_ends, .ref h_wasUp])), (h_rows, .inl (G.2 0, 8, .inl (upd c_rows c_seen.toNatClampNeg v1))), (h_ends, .inl (G.2 0, 8, .inl c_ends)), (h_wasUp, .inl (G.2 2, 8, .inl c_wasUp))] H := hP
      have hD : va_D A [(h_this, .inr (4, [.int c_seen, .ref h_rows, .ref h_ends, .ref h_wasUp])), (h_rows, .inl (G.2 0, 8, .inl (upd c_rows c_seen.toNatClampNeg v1))), (h_ends, .inl (G.2 0, 8, .inl c_ends)), (h_wasUp, .inl (G.2 2, 8, .inl c_wasUp))] := hD
      refine lv_aload_n hx hb dX4_note_28 rfl (lv_at hl 0 rfl) ?_
      refine va_get (D := G.1) (cl := CL) (ci := 4) (C := RX4) (T := TX4) (N := 4) hx hb hts iX4_note_4 hown hK hP 0 rfl rfl 2 (by decide) (hts (.fieldLink RX4 15 "LoomCards$Sightings" "ends" "[I") (List.mem_of_getElem? (i := 3) rfl)) (fun _ h9 => h9) rfl dX4_note_29 ?_
      refine lv_aload_n hx hb dX4_note_32 rfl (lv_at hl 0 rfl) ?_
      refine va_get (D := G.1) (cl := CL) (ci := 4) (C := RX4) (T := TX4) (N := 4) hx hb hts iX4_note_4 hown hK hP 0 rfl rfl 0 (by decide) (hts (.fieldLink RX4 22 "LoomCards$Sightings" "seen" "I") (List.mem_of_getElem? (i := 1) rfl)) (fun _ h9 => h9) rfl dX4_note_33 ?_
      refine lv_iload_n hx hb dX4_note_36 rfl (lv_at hl 2 rfl) ?_
      refine r_gd hf (fun g9 hf => ?_)
      refine r_iast hx hb hK hP hD hS 2 rfl (ix_in g9) rfl dX4_note_37 (fun H locs hP hD hS => ?_)
      have hP : va_P G.1 CL [(h_this, .inr (4, [.int c_seen, .ref h_rows, .ref h_ends, .ref h_wasUp])), (h_rows, .inl (G.2 0, 8, .inl (upd c_rows c_seen.toNatClampNeg v1))), (h_ends, .inl (G.2 0, 8, .inl (upd c_ends c_seen.toNatClampNeg v2))), (h_wasUp, .inl (G.2 2, 8, .inl c_wasUp))] H := hP
      have hD : va_D A [(h_this, .inr (4, [.int c_seen, .ref h_rows, .ref h_ends, .ref h_wasUp])), (h_rows, .inl (G.2 0, 8, .inl (upd c_rows c_seen.toNatClampNeg v1))), (h_ends, .inl (G.2 0, 8, .inl (upd c_ends c_seen.toNatClampNeg v2))), (h_wasUp, .inl (G.2 2, 8, .inl c_wasUp))] := hD
      refine lv_aload_n hx hb dX4_note_38 rfl (lv_at hl 0 rfl) ?_
      refine va_get (D := G.1) (cl := CL) (ci := 4) (C := RX4) (T := TX4) (N := 4) hx hb hts iX4_note_4 hown hK hP 0 rfl rfl 3 (by decide) (hts (.fieldLink RX4 18 "LoomCards$Sightings" "wasUp" "[Z") (List.mem_of_getElem? (i := 4) rfl)) (fun _ h9 => h9) rfl dX4_note_39 ?_
      refine lv_aload_n hx hb dX4_note_42 rfl (lv_at hl 0 rfl) ?_
      refine va_get (D := G.1) (cl := CL) (ci := 4) (C := RX4) (T := TX4) (N := 4) hx hb hts iX4_note_4 hown hK hP 0 rfl rfl 0 (by decide) (hts (.fieldLink RX4 22 "LoomCards$Sightings" "seen" "I") (List.mem_of_getElem? (i := 1) rfl)) (fun _ h9 => h9) rfl dX4_note_43 ?_
      refine lv_iload_n hx hb dX4_note_46 rfl (lv_at hl 3 rfl) ?_
      refine r_gd hf (fun g9 hf => ?_)
      refine r_zast hx hb hK hP hD hS 3 rfl (ix_in g9) rfl dX4_note_47 (fun H locs hP hD hS => ?_)
      have hP : va_P G.1 CL [(h_this, .inr (4, [.int c_seen, .ref h_rows, .ref h_ends, .ref h_wasUp])), (h_rows, .inl (G.2 0, 8, .inl (upd c_rows c_seen.toNatClampNeg v1))), (h_ends, .inl (G.2 0, 8, .inl (upd c_ends c_seen.toNatClampNeg v2))), (h_wasUp, .inl (G.2 2, 8, .inl (upd c_wasUp c_seen.toNatClampNeg (vp_nar .boolean v3))))] H := hP
      have hD : va_D A [(h_this, .inr (4, [.int c_seen, .ref h_rows, .ref h_ends, .ref h_wasUp])), (h_rows, .inl (G.2 0, 8, .inl (upd c_rows c_seen.toNatClampNeg v1))), (h_ends, .inl (G.2 0, 8, .inl (upd c_ends c_seen.toNatClampNeg v2))), (h_wasUp, .inl (G.2 2, 8, .inl (upd c_wasUp c_seen.toNatClampNeg (vp_nar .boolean v3))))] := hD
      refine lv_aload_n hx hb dX4_note_48 rfl (lv_at hl 0 rfl) ?_
      refine lv_dup hx hb dX4_note_49 rfl ?_
      refine va_get (D := G.1) (cl := CL) (ci := 4) (C := RX4) (T := TX4) (N := 4) hx hb hts iX4_note_4 hown hK hP 0 rfl rfl 0 (by decide) (hts (.fieldLink RX4 22 "LoomCards$Sightings" "seen" "I") (List.mem_of_getElem? (i := 1) rfl)) (fun _ h9 => h9) rfl dX4_note_50 ?_
      refine lv_iconst (v := (1 : Int32)) hx hb dX4_note_53 (by decide) ?_
      refine lv_iadd hx hb dX4_note_54 ?_
      refine va_put (D := G.1) (cl := CL) (ci := 4) (v := .int (c_seen + (1 : Int32))) (ty := .int) (C := RX4) (T := TX4) (N := 4) hx hb hts iX4_note_4 tyX4 tyX4_ok nmX4 hown hK hP hD hS 0 rfl rfl 0 (by decide) (hts (.fieldLink RX4 22 "LoomCards$Sightings" "seen" "I") (List.mem_of_getElem? (i := 1) rfl)) (fun _ h9 => h9) rfl (tyX4_ok 0 (by decide)) rfl rfl (Nat.le_of_ble_eq_true rfl) dX4_note_55 (fun H locs hP hD hS => ?_)
      have hP : va_P G.1 CL [(h_this, .inr (4, [.int (c_seen + (1 : Int32)), .ref h_rows, .ref h_ends, .ref h_wasUp])), (h_rows, .inl (G.2 0, 8, .inl (upd c_rows c_seen.toNatClampNeg v1))), (h_ends, .inl (G.2 0, 8, .inl (upd c_ends c_seen.toNatClampNeg v2))), (h_wasUp, .inl (G.2 2, 8, .inl (upd c_wasUp c_seen.toNatClampNeg (vp_nar .boolean v3))))] H := hP
      have hD : va_D A [(h_this, .inr (4, [.int (c_seen + (1 : Int32)), .ref h_rows, .ref h_ends, .ref h_wasUp])), (h_rows, .inl (G.2 0, 8, .inl (upd c_rows c_seen.toNatClampNeg v1))), (h_ends, .inl (G.2 0, 8, .inl (upd c_ends c_seen.toNatClampNeg v2))), (h_wasUp, .inl (G.2 2, 8, .inl (upd c_wasUp c_seen.toNatClampNeg (vp_nar .boolean v3))))] := hD
      refine lv_iconst (v := (1 : Int32)) hx hb dX4_note_58 (by decide) ?_
      obtain rfl := Option.some.inj hf
      exact kr _ _ _ _ nb1 hP hD hS dX4_note_59
    · have hf := c_f hf c9
      refine lv_iconst (v := (0 : Int32)) hx hb dX4_note_16 (by decide) ?_
      obtain rfl := Option.some.inj hf
      exact kr _ _ _ _ nb0 hP hD hS dX4_note_17
end SX4_note
set_option maxHeartbeats 4000000 in
set_option maxRecDepth 100000 in
theorem tX4_note (l : Launch) (G : GG) (h_this : Nat) (h_rows : Nat) (h_ends : Nat) (h_wasUp : Nat) (c_seen : Int32) (c_rows : Nat → Int32) (c_ends : Nat → Int32) (c_wasUp : Nat → Int32) (v1 : Int32) (v2 : Int32) (v3 : Int32) (res : Int32 × Int32 × (Nat → Int32) × (Nat → Int32) × (Nat → Int32)) (hf : fX4_note c_seen c_rows c_ends c_wasUp v1 v2 v3 = some res) : MWi l yX4_note wsX4_note rmX4_note G [.ref h_this, .int v1, .int v2, .int v3] [(h_this, .inr (4, [.int c_seen, .ref h_rows, .ref h_ends, .ref h_wasUp])), (h_rows, .inl (G.2 0, 8, .inl c_rows)), (h_ends, .inl (G.2 0, 8, .inl c_ends)), (h_wasUp, .inl (G.2 2, 8, .inl c_wasUp))] (res.1) [(h_this, .inr (4, [.int (res.2.1), .ref h_rows, .ref h_ends, .ref h_wasUp])), (h_rows, .inl (G.2 0, 8, .inl (res.2.2.1))), (h_ends, .inl (G.2 0, 8, .inl (res.2.2.2.1))), (h_wasUp, .inl (G.2 2, 8, .inl (res.2.2.2.2)))] := MWi.of (plainFor_of_name (by decide +kernel)) rfl (Nat.le_of_ble_eq_true rfl) (fun p e s m below meth c A C hA hP hD hS ls hl => kX4_note h_this h_rows h_ends h_wasUp c_seen c_rows c_ends c_wasUp v1 v2 v3 C hA hP hD hS (fun pc ls H locs hn hP hD hS d => rWz C hn hP hD hS d) hf hl)
def fX4_empty (c_seen : Int32)  : Option (Int32 × Int32) := some (c_seen, (0 : Int32))
theorem iX4_empty_4 : ∀ w ∈ wsX40, w ∈ wsX4_empty := fun w h => List.mem_cons_of_mem _ (List.mem_append_right _ (h))
theorem hdX4_empty : yX4_empty.cls = RX4 ∧ yX4_empty.cls ≠ "java/lang/invoke/MethodHandle" ∧ yX4_empty.cls ≠ "java/lang/invoke/VarHandle" ∧ (parseMethodDescriptor yX4_empty.desc).map (fun d => d.parameters.length) = some 0 := by decide +kernel
abbrev rmX4_empty : Room := { frames := 0, cells := 0, slots := 0, locals := 0 }
section SX4_empty
variable {p : Program} {l : Launch} {e : Env} {s : State} {m : MethodId} {args : Array Value} {below : List Frame} {meth : Method} {c : Code} {Q : State → Prop} {G : GG} {A : Nat → Prop}
set_option maxHeartbeats 4000000 in
set_option maxRecDepth 100000 in
theorem kX4_empty (h_this : Nat) (h_rows : Nat) (h_ends : Nat) (h_wasUp : Nat) (c_seen : Int32) (C : Cx cX4_empty (some .int) 2 RX4 wsX4_empty G p s m args meth c) (hA : ∀ q : Nat, s.heap.size ≤ q → A q) (hP : va_P G.1 CL [(h_this, .inr (4, [.int c_seen, .ref h_rows, .ref h_ends, .ref h_wasUp]))] s.heap) (hD : va_D A [(h_this, .inr (4, [.int c_seen, .ref h_rows, .ref h_ends, .ref h_wasUp]))]) (hS : va_S A s.heap s.heap []) {res : Int32 × Int32} (kr : ∀ (pc : Nat) (ls : Array Slot) (H : Heap) (locs : List Loc), va_P G.1 CL [(h_this, .inr (4, [.int (res.2), .ref h_rows, .ref h_ends, .ref h_wasUp]))] H → va_D A [(h_this, .inr (4, [.int (res.2), .ref h_rows, .ref h_ends, .ref h_wasUp]))] → va_S A s.heap H locs → decode cX4_empty pc = .ok (.ireturn, 1) → W p l e rmX4_empty s m args below meth c H locs 0 0 Q (F0 m pc ls [.int res.1])) (hf : fX4_empty c_seen = some res) {ls : Array Slot} (hl : lv_has ls 2 [(0, .ref h_this)]) : W p l e rmX4_empty s m args below meth c s.heap [] 0 0 Q (F0 m 0 ls []) := by
  obtain ⟨hx, hb, hr, hlk, hml, hown, hts, hK⟩ := id C
  rw [fX4_empty] at hf
  refine lv_aload_n hx hb dX4_empty_0 rfl (lv_at hl 0 rfl) ?_
  refine va_get (D := G.1) (cl := CL) (ci := 4) (C := RX4) (T := TX4) (N := 4) hx hb hts iX4_empty_4 hown hK hP 0 rfl rfl 0 (by decide) (hts (.fieldLink RX4 22 "LoomCards$Sightings" "seen" "I") (List.mem_of_getElem? (i := 1) rfl)) (fun _ h9 => h9) rfl dX4_empty_1 ?_
  refine lv_istore_n (lv' := [(1, .int c_seen), (0, .ref h_this)]) hx hb dX4_empty_4 rfl hl (by decide) rfl (fun ls hl => ?_)
  refine lv_aload_n hx hb dX4_empty_5 rfl (lv_at hl 1 rfl) ?_
  refine lv_iconst (v := (0 : Int32)) hx hb dX4_empty_6 (by decide) ?_
  refine va_put (D := G.1) (cl := CL) (ci := 4) (v := .int (0 : Int32)) (ty := .int) (C := RX4) (T := TX4) (N := 4) hx hb hts iX4_empty_4 tyX4 tyX4_ok nmX4 hown hK hP hD hS 0 rfl rfl 0 (by decide) (hts (.fieldLink RX4 22 "LoomCards$Sightings" "seen" "I") (List.mem_of_getElem? (i := 1) rfl)) (fun _ h9 => h9) rfl (tyX4_ok 0 (by decide)) rfl rfl (Nat.le_of_ble_eq_true rfl) dX4_empty_7 (fun H locs hP hD hS => ?_)
  have hP : va_P G.1 CL [(h_this, .inr (4, [.int (0 : Int32), .ref h_rows, .ref h_ends, .ref h_wasUp]))] H := hP
  have hD : va_D A [(h_this, .inr (4, [.int (0 : Int32), .ref h_rows, .ref h_ends, .ref h_wasUp]))] := hD
  refine lv_iload_n hx hb dX4_empty_10 rfl (lv_at hl 0 rfl) ?_
  obtain rfl := Option.some.inj hf
  exact kr _ _ _ _ hP hD hS dX4_empty_11
end SX4_empty
set_option maxHeartbeats 4000000 in
set_option maxRecDepth 100000 in
theorem tX4_empty (l : Launch) (G : GG) (h_this : Nat) (h_rows : Nat) (h_ends : Nat) (h_wasUp : Nat) (c_seen : Int32) (res : Int32 × Int32) (hf : fX4_empty c_seen = some res) : MWi l yX4_empty wsX4_empty rmX4_empty G [.ref h_this] [(h_this, .inr (4, [.int c_seen, .ref h_rows, .ref h_ends, .ref h_wasUp]))] (res.1) [(h_this, .inr (4, [.int (res.2), .ref h_rows, .ref h_ends, .ref h_wasUp]))] := MWi.of (plainFor_of_name (by decide +kernel)) rfl (Nat.le_of_ble_eq_true rfl) (fun p e s m below meth c A C hA hP hD hS ls hl => kX4_empty h_this h_rows h_ends h_wasUp c_seen C hA hP hD hS (fun pc ls H locs hP hD hS d => rWi C hP hD hS d) hf hl)
def fX4_isUpBy (c_a0_hooks : Int32) (c_a0_ends : Int32) (c_a0_cards : Int32) (c_a0_hookOfEnd : Nat → Int32) (c_a0_holesOfCard : Nat → Int32) (v1 : Int32) (v2 : Int32) (v3 : Int32) : Option (Int32) := (fX2_cardOfRow c_a0_cards v2).bind (fun u1 => (fX2_hookOf c_a0_ends c_a0_hookOfEnd v3).bind (fun u2 => (fX2_placeOf c_a0_hooks u1 u2).bind (fun u3 => jn (fun (j27_0 : Int32) => (fX2_isUp c_a0_ends c_a0_cards c_a0_hookOfEnd c_a0_holesOfCard u1 v3).bind (fun u4 => if u4 = j27_0 then some ((0 : Int32)) else some ((1 : Int32)))) (fun J27 => if v1 = u3 then J27 (1 : Int32) else J27 (0 : Int32)))))
theorem iX4_isUpBy_2 : ∀ w ∈ wsX20, w ∈ wsX4_isUpBy := fun w h => List.mem_cons_of_mem _ (List.mem_append_right _ (h))
theorem hdX4_isUpBy : yX4_isUpBy.cls ≠ "java/lang/invoke/MethodHandle" ∧ yX4_isUpBy.cls ≠ "java/lang/invoke/VarHandle" ∧ (parseMethodDescriptor yX4_isUpBy.desc).map (fun d => d.parameters.length) = some 4 := by decide +kernel
abbrev rmX4_isUpBy : Room := { frames := 2, cells := 0, slots := 0, locals := 42 }
section SX4_isUpBy
variable {p : Program} {l : Launch} {e : Env} {s : State} {m : MethodId} {args : Array Value} {below : List Frame} {meth : Method} {c : Code} {Q : State → Prop} {G : GG}
set_option maxHeartbeats 4000000 in
set_option maxRecDepth 100000 in
theorem kX4_isUpBy (h_a0_this : Nat) (h_a0_hookOfEnd : Nat) (h_a0_holesOfCard : Nat) (c_a0_hooks : Int32) (c_a0_ends : Int32) (c_a0_cards : Int32) (c_a0_limit : Int32) (c_a0_hookOfEnd : Nat → Int32) (c_a0_holesOfCard : Nat → Int32) (v1 : Int32) (v2 : Int32) (v3 : Int32) (C : Cx cX4_isUpBy (some .boolean) 6 RX4 wsX4_isUpBy G p s m args meth c) (hP : va_P G.1 CL [(h_a0_this, .inr (2, [.int c_a0_hooks, .int c_a0_ends, .int c_a0_cards, .int c_a0_limit, .ref h_a0_hookOfEnd, .ref h_a0_holesOfCard])), (h_a0_hookOfEnd, .inl (G.2 0, 12, .inl c_a0_hookOfEnd)), (h_a0_holesOfCard, .inl (G.2 0, 8, .inl c_a0_holesOfCard))] s.heap) {res : Int32} (kr : ∀ (pc : Nat) (ls : Array Slot), narrow .boolean (.int res) = .int res → decode cX4_isUpBy pc = .ok (.ireturn, 1) → W p l e rmX4_isUpBy s m args below meth c s.heap [] 0 0 Q (F0 m pc ls [.int res])) (hf : fX4_isUpBy c_a0_hooks c_a0_ends c_a0_cards c_a0_hookOfEnd c_a0_holesOfCard v1 v2 v3 = some res) {ls : Array Slot} (hl : lv_has ls 6 [(0, .ref h_a0_this), (1, .int v1), (2, .int v2), (3, .int v3)]) : W p l e rmX4_isUpBy s m args below meth c s.heap [] 0 0 Q (F0 m 0 ls []) := by
  obtain ⟨hx, hb, hr, hlk, hml, hown, hts, hK⟩ := id C
  rw [fX4_isUpBy] at hf
  refine lv_aload_n hx hb dX4_isUpBy_0 rfl (lv_at hl 0 rfl) ?_
  refine lv_iload_n hx hb dX4_isUpBy_1 rfl (lv_at hl 2 rfl) ?_
  refine r_bind hf (fun u1 hu1 hf => ?_)
  refine cRiV (ci := 2) (rest := []) ⟨hx, hb, hml, hown, hts⟩ hK (tX2_cardOfRow l G h_a0_this h_a0_hookOfEnd h_a0_holesOfCard c_a0_hooks c_a0_ends c_a0_cards c_a0_limit v2 u1 hu1) gX4_isUpBy_X2_cardOfRow rfl hdX2_cardOfRow rfl rfl rfl ⟨Nat.le_of_ble_eq_true rfl, Nat.le_of_ble_eq_true rfl⟩ hP [0] rfl 0 rfl rfl rfl hl.1 (Nat.le_of_ble_eq_true rfl) rfl dX4_isUpBy_2 ⟨Nat.zero_le _, Nat.zero_le _⟩ ?_
  refine lv_istore (lv' := [(4, .int u1), (0, .ref h_a0_this), (1, .int v1), (2, .int v2), (3, .int v3)]) hx hb dX4_isUpBy_5 hl (by decide) rfl (fun ls hl => ?_)
  refine lv_iload_n hx hb dX4_isUpBy_7 rfl (lv_at hl 2 rfl) ?_
  refine lv_aload_n hx hb dX4_isUpBy_8 rfl (lv_at hl 1 rfl) ?_
  refine lv_iload hx hb dX4_isUpBy_9 (lv_at hl 0 rfl) ?_
  refine lv_aload_n hx hb dX4_isUpBy_11 rfl (lv_at hl 1 rfl) ?_
  refine lv_iload_n hx hb dX4_isUpBy_12 rfl (lv_at hl 4 rfl) ?_
  refine r_bind hf (fun u2 hu2 hf => ?_)
  refine cRiV (ci := 2) (rest := [.int u1, .ref h_a0_this, .int v1]) ⟨hx, hb, hml, hown, hts⟩ hK (tX2_hookOf l G h_a0_this h_a0_hookOfEnd h_a0_holesOfCard c_a0_hooks c_a0_ends c_a0_cards c_a0_limit c_a0_hookOfEnd v3 u2 hu2) gX4_isUpBy_X2_hookOf rfl hdX2_hookOf rfl rfl rfl ⟨Nat.le_of_ble_eq_true rfl, Nat.le_of_ble_eq_true rfl⟩ hP [0, 1] rfl 0 rfl rfl rfl hl.1 (Nat.le_of_ble_eq_true rfl) rfl dX4_isUpBy_13 ⟨Nat.zero_le _, Nat.zero_le _⟩ ?_
  refine r_bind hf (fun u3 hu3 hf => ?_)
  refine cRiV (ci := 2) (rest := [.int v1]) ⟨hx, hb, hml, hown, hts⟩ hK (tX2_placeOf l G h_a0_this h_a0_hookOfEnd h_a0_holesOfCard c_a0_hooks c_a0_ends c_a0_cards c_a0_limit u1 u2 u3 hu3) gX4_isUpBy_X2_placeOf rfl hdX2_placeOf rfl rfl rfl ⟨Nat.le_of_ble_eq_true rfl, Nat.le_of_ble_eq_true rfl⟩ hP [0] rfl 0 rfl rfl rfl hl.1 (Nat.le_of_ble_eq_true rfl) rfl dX4_isUpBy_16 ⟨Nat.zero_le _, Nat.zero_le _⟩ ?_
  refine r_jn1 hf (fun J27 eJ27 hf => ?_)
  have hJ27 : ∀ (j27_0 : Int32) , J27 j27_0 = some res → ∀ (ls : Array Slot), lv_has ls 6 [(0, .ref h_a0_this), (3, .int v3), (4, .int u1)] → W p l e rmX4_isUpBy s m args below meth c s.heap [] 0 0 Q (F0 m 27 ls [.int j27_0]) := by
    intro j27_0 hf ls hl
    rw [eJ27] at hf
    refine lv_istore (lv' := [(5, .int j27_0), (0, .ref h_a0_this), (3, .int v3), (4, .int u1)]) hx hb dX4_isUpBy_27 hl (by decide) rfl (fun ls hl => ?_)
    refine lv_aload_n hx hb dX4_isUpBy_29 rfl (lv_at hl 1 rfl) ?_
    refine lv_iload hx hb dX4_isUpBy_30 (lv_at hl 3 rfl) ?_
    refine lv_iload_n hx hb dX4_isUpBy_32 rfl (lv_at hl 2 rfl) ?_
    refine r_bind hf (fun u4 hu4 hf => ?_)
    refine cRiV (ci := 2) (rest := []) ⟨hx, hb, hml, hown, hts⟩ hK (tX2_isUp l G h_a0_this h_a0_hookOfEnd h_a0_holesOfCard c_a0_hooks c_a0_ends c_a0_cards c_a0_limit c_a0_hookOfEnd c_a0_holesOfCard u1 v3 u4 hu4) gX4_isUpBy_X2_isUp rfl hdX2_isUp rfl rfl rfl ⟨Nat.le_of_ble_eq_true rfl, Nat.le_of_ble_eq_true rfl⟩ hP [0, 1, 2] rfl 0 rfl rfl rfl hl.1 (Nat.le_of_ble_eq_true rfl) rfl dX4_isUpBy_33 ⟨Nat.zero_le _, Nat.zero_le _⟩ ?_
    refine lv_iload hx hb dX4_isUpBy_36 (lv_at hl 0 rfl) ?_
    refine lv_icmp_eq (tgt := 45) hx hb dX4_isUpBy_38 (by decide) (fun c9 => ?_) (fun c9 => ?_)
    · have hf := c_t hf c9
      refine lv_iconst (v := (0 : Int32)) hx hb dX4_isUpBy_45 (by decide) ?_
      obtain rfl := Option.some.inj hf
      exact kr _ _ nb0 dX4_isUpBy_46
    · have hf := c_f hf c9
      refine lv_iconst (v := (1 : Int32)) hx hb dX4_isUpBy_41 (by decide) ?_
      refine lv_goto (tgt := 46) hx hb dX4_isUpBy_42 (by decide) ?_
      obtain rfl := Option.some.inj hf
      exact kr _ _ nb1 dX4_isUpBy_46
  refine lv_icmp_ne (tgt := 26) hx hb dX4_isUpBy_19 (by decide) (fun c9 => ?_) (fun c9 => ?_)
  · have hf := c_f hf c9
    refine lv_iconst (v := (0 : Int32)) hx hb dX4_isUpBy_26 (by decide) ?_
    exact hJ27 (0 : Int32) hf _ (lv_sub hl [1, 4, 0] rfl)
  · have hf := c_t hf c9
    refine lv_iconst (v := (1 : Int32)) hx hb dX4_isUpBy_22 (by decide) ?_
    refine lv_goto (tgt := 27) hx hb dX4_isUpBy_23 (by decide) ?_
    exact hJ27 (1 : Int32) hf _ (lv_sub hl [1, 4, 0] rfl)
end SX4_isUpBy
set_option maxHeartbeats 4000000 in
set_option maxRecDepth 100000 in
theorem tX4_isUpBy (l : Launch) (G : GG) (h_a0_this : Nat) (h_a0_hookOfEnd : Nat) (h_a0_holesOfCard : Nat) (c_a0_hooks : Int32) (c_a0_ends : Int32) (c_a0_cards : Int32) (c_a0_limit : Int32) (c_a0_hookOfEnd : Nat → Int32) (c_a0_holesOfCard : Nat → Int32) (v1 : Int32) (v2 : Int32) (v3 : Int32) (res : Int32) (hf : fX4_isUpBy c_a0_hooks c_a0_ends c_a0_cards c_a0_hookOfEnd c_a0_holesOfCard v1 v2 v3 = some res) : MRi l yX4_isUpBy wsX4_isUpBy rmX4_isUpBy G [.ref h_a0_this, .int v1, .int v2, .int v3] [(h_a0_this, .inr (2, [.int c_a0_hooks, .int c_a0_ends, .int c_a0_cards, .int c_a0_limit, .ref h_a0_hookOfEnd, .ref h_a0_holesOfCard])), (h_a0_hookOfEnd, .inl (G.2 0, 12, .inl c_a0_hookOfEnd)), (h_a0_holesOfCard, .inl (G.2 0, 8, .inl c_a0_holesOfCard))] (res) := MRi.of (plainFor_of_name (by decide +kernel)) rfl (Nat.le_of_ble_eq_true rfl) (fun p e s m below meth c C hP ls hl => kX4_isUpBy h_a0_this h_a0_hookOfEnd h_a0_holesOfCard c_a0_hooks c_a0_ends c_a0_cards c_a0_limit c_a0_hookOfEnd c_a0_holesOfCard v1 v2 v3 C hP (fun pc ls hn d => rRz C hn d) hf hl)
def fX4_isSuspect_L2 (k63 : Option (Int32)) (k55 : Option (Int32)) (c_seen : Int32) (c_rows : Nat → Int32) (c_ends : Nat → Int32) (c_wasUp : Nat → Int32) (c_a1_hooks : Int32) (c_a1_ends : Int32) (c_a1_cards : Int32) (c_a1_hookOfEnd : Nat → Int32) (c_a1_holesOfCard : Nat → Int32) (v2 : Int32) : Nat → Int32 → Option (Int32)
  | 0, _ => none
  | n + 1, v3 => if c_seen ≤ v3 then k63 else if (8 : Int32) ≤ v3 then k63 else gd (ix v3 8) ((fX2_hasEnd c_a1_ends (c_ends v3.toNatClampNeg)).bind (fun u1 => if u1 = 0 then k55 else gd (ix v3 8) (gd (ix v3 8) ((fX4_isUpBy c_a1_hooks c_a1_ends c_a1_cards c_a1_hookOfEnd c_a1_holesOfCard v2 (c_rows v3.toNatClampNeg) (c_ends v3.toNatClampNeg)).bind (fun u2 => gd (ix v3 8) (if u2 = (c_wasUp v3.toNatClampNeg) then fX4_isSuspect_L2 k63 k55 c_seen c_rows c_ends c_wasUp c_a1_hooks c_a1_ends c_a1_cards c_a1_hookOfEnd c_a1_holesOfCard v2 n (v3 + (1 : Int32)) else k55))))))
def fX4_isSuspect (c_seen : Int32) (c_rows : Nat → Int32) (c_ends : Nat → Int32) (c_wasUp : Nat → Int32) (c_a1_hooks : Int32) (c_a1_ends : Int32) (c_a1_cards : Int32) (c_a1_hookOfEnd : Nat → Int32) (c_a1_holesOfCard : Nat → Int32) (v2 : Int32) : Option (Int32) := (fX4_isSuspect_L2 (some ((1 : Int32))) (some ((0 : Int32))) c_seen c_rows c_ends c_wasUp c_a1_hooks c_a1_ends c_a1_cards c_a1_hookOfEnd c_a1_holesOfCard v2 FU (0 : Int32))
theorem iX4_isSuspect_2 : ∀ w ∈ wsX20, w ∈ wsX4_isSuspect := fun w h => List.mem_cons_of_mem _ (List.mem_append_right _ (h))
theorem iX4_isSuspect_4 : ∀ w ∈ wsX40, w ∈ wsX4_isSuspect := fun w h => List.mem_cons_of_mem _ (List.mem_append_left _ (List.mem_append_right _ (h)))
theorem hdX4_isSuspect : yX4_isSuspect.cls = RX4 ∧ yX4_isSuspect.cls ≠ "java/lang/invoke/MethodHandle" ∧ yX4_isSuspect.cls ≠ "java/lang/invoke/VarHandle" ∧ (parseMethodDescriptor yX4_isSuspect.desc).map (fun d => d.parameters.length) = some 2 := by decide +kernel
abbrev rmX4_isSuspect : Room := { frames := 3, cells := 0, slots := 0, locals := 67 }
section SX4_isSuspect
variable {p : Program} {l : Launch} {e : Env} {s : State} {m : MethodId} {args : Array Value} {below : List Frame} {meth : Method} {c : Code} {Q : State → Prop} {G : GG}
set_option maxHeartbeats 4000000 in
set_option maxRecDepth 100000 in
theorem kX4_isSuspect_L2 (h_this : Nat) (h_a1_this : Nat) (h_rows : Nat) (h_ends : Nat) (h_wasUp : Nat) (h_a1_hookOfEnd : Nat) (h_a1_holesOfCard : Nat) (c_seen : Int32) (c_rows : Nat → Int32) (c_ends : Nat → Int32) (c_wasUp : Nat → Int32) (c_a1_hooks : Int32) (c_a1_ends : Int32) (c_a1_cards : Int32) (c_a1_limit : Int32) (c_a1_hookOfEnd : Nat → Int32) (c_a1_holesOfCard : Nat → Int32) (v2 : Int32) (C : Cx cX4_isSuspect (some .boolean) 4 RX4 wsX4_isSuspect G p s m args meth c) (hP : va_P G.1 CL [(h_this, .inr (4, [.int c_seen, .ref h_rows, .ref h_ends, .ref h_wasUp])), (h_rows, .inl (G.2 0, 8, .inl c_rows)), (h_ends, .inl (G.2 0, 8, .inl c_ends)), (h_wasUp, .inl (G.2 2, 8, .inl c_wasUp)), (h_a1_this, .inr (2, [.int c_a1_hooks, .int c_a1_ends, .int c_a1_cards, .int c_a1_limit, .ref h_a1_hookOfEnd, .ref h_a1_holesOfCard])), (h_a1_hookOfEnd, .inl (G.2 0, 12, .inl c_a1_hookOfEnd)), (h_a1_holesOfCard, .inl (G.2 0, 8, .inl c_a1_holesOfCard))] s.heap) {res : Int32} (kr : ∀ (pc : Nat) (ls : Array Slot), narrow .boolean (.int res) = .int res → decode cX4_isSuspect pc = .ok (.ireturn, 1) → W p l e rmX4_isSuspect s m args below meth c s.heap [] 0 0 Q (F0 m pc ls [.int res])) {k63 : Option (Int32)} (hk63 : k63 = some res → ∀ (ls : Array Slot), lv_has ls 4 [] → W p l e rmX4_isSuspect s m args below meth c s.heap [] 0 0 Q (F0 m 63 ls [])) {k55 : Option (Int32)} (hk55 : k55 = some res → ∀ (ls : Array Slot), lv_has ls 4 [] → W p l e rmX4_isSuspect s m args below meth c s.heap [] 0 0 Q (F0 m 55 ls [])) : ∀ (n : Nat) (v3 : Int32), fX4_isSuspect_L2 k63 k55 c_seen c_rows c_ends c_wasUp c_a1_hooks c_a1_ends c_a1_cards c_a1_hookOfEnd c_a1_holesOfCard v2 n v3 = some res → ∀ (ls : Array Slot), lv_has ls 4 [(0, .ref h_this), (1, .ref h_a1_this), (2, .int v2), (3, .int v3)] → W p l e rmX4_isSuspect s m args below meth c s.heap [] 0 0 Q (F0 m 2 ls []) := by
  obtain ⟨hx, hb, hr, hlk, hml, hown, hts, hK⟩ := id C
  intro n
  induction n with
  | zero =>
    intro v3 hf
    cases hf
  | succ n ih =>
    intro v3 hf ls hl
    rw [fX4_isSuspect_L2] at hf
    refine lv_iload_n hx hb dX4_isSuspect_2 rfl (lv_at hl 3 rfl) ?_
    refine lv_aload_n hx hb dX4_isSuspect_3 rfl (lv_at hl 0 rfl) ?_
    refine va_get (D := G.1) (cl := CL) (ci := 4) (C := RX4) (T := TX4) (N := 4) hx hb hts iX4_isSuspect_4 hown hK hP 0 rfl rfl 0 (by decide) (hts (.fieldLink RX4 22 "LoomCards$Sightings" "seen" "I") (List.mem_of_getElem? (i := 1) rfl)) (fun _ h9 => h9) rfl dX4_isSuspect_4 ?_
    refine lv_icmp_ge (tgt := 63) hx hb dX4_isSuspect_7 (by decide) (fun c9 => ?_) (fun c9 => ?_)
    · have hf := c_t hf c9
      exact hk63 hf _ (lv_sub hl [] rfl)
    · have hf := c_f hf c9
      refine lv_iload_n hx hb dX4_isSuspect_10 rfl (lv_at hl 3 rfl) ?_
      refine lv_bipush (v := (8 : Int32)) hx hb dX4_isSuspect_11 (by decide) ?_
      refine lv_icmp_ge (tgt := 63) hx hb dX4_isSuspect_13 (by decide) (fun c9 => ?_) (fun c9 => ?_)
      · have hf := c_t hf c9
        exact hk63 hf _ (lv_sub hl [] rfl)
      · have hf := c_f hf c9
        refine lv_aload_n hx hb dX4_isSuspect_16 rfl (lv_at hl 1 rfl) ?_
        refine lv_aload_n hx hb dX4_isSuspect_17 rfl (lv_at hl 0 rfl) ?_
        refine va_get (D := G.1) (cl := CL) (ci := 4) (C := RX4) (T := TX4) (N := 4) hx hb hts iX4_isSuspect_4 hown hK hP 0 rfl rfl 2 (by decide) (hts (.fieldLink RX4 15 "LoomCards$Sightings" "ends" "[I") (List.mem_of_getElem? (i := 2) rfl)) (fun _ h9 => h9) rfl dX4_isSuspect_18 ?_
        refine lv_iload_n hx hb dX4_isSuspect_21 rfl (lv_at hl 3 rfl) ?_
        refine r_gd hf (fun g9 hf => ?_)
        refine r_iald hx hb hK hP 2 rfl (ix_in g9) rfl dX4_isSuspect_22 ?_
        refine r_bind hf (fun u1 hu1 hf => ?_)
        refine cRiV (ci := 2) (rest := []) ⟨hx, hb, hml, hown, hts⟩ hK (tX2_hasEnd l G h_a1_this h_a1_hookOfEnd h_a1_holesOfCard c_a1_hooks c_a1_ends c_a1_cards c_a1_limit (c_ends v3.toNatClampNeg) u1 hu1) gX4_isSuspect_X2_hasEnd rfl hdX2_hasEnd rfl rfl rfl ⟨Nat.le_of_ble_eq_true rfl, Nat.le_of_ble_eq_true rfl⟩ hP [4] rfl 4 rfl rfl rfl hl.1 (Nat.le_of_ble_eq_true rfl) rfl dX4_isSuspect_23 ⟨Nat.zero_le _, Nat.zero_le _⟩ ?_
        refine lv_if_eq (tgt := 55) hx hb dX4_isSuspect_26 (by decide) (fun c9 => ?_) (fun c9 => ?_)
        · have hf := c_t hf c9
          exact hk55 hf _ (lv_sub hl [] rfl)
        · have hf := c_f hf c9
          refine lv_aload_n hx hb dX4_isSuspect_29 rfl (lv_at hl 1 rfl) ?_
          refine lv_iload_n hx hb dX4_isSuspect_30 rfl (lv_at hl 2 rfl) ?_
          refine lv_aload_n hx hb dX4_isSuspect_31 rfl (lv_at hl 0 rfl) ?_
          refine va_get (D := G.1) (cl := CL) (ci := 4) (C := RX4) (T := TX4) (N := 4) hx hb hts iX4_isSuspect_4 hown hK hP 0 rfl rfl 1 (by decide) (hts (.fieldLink RX4 9 "LoomCards$Sightings" "rows" "[I") (List.mem_of_getElem? (i := 3) rfl)) (fun _ h9 => h9) rfl dX4_isSuspect_32 ?_
          refine lv_iload_n hx hb dX4_isSuspect_35 rfl (lv_at hl 3 rfl) ?_
          refine r_gd hf (fun g9 hf => ?_)
          refine r_iald hx hb hK hP 1 rfl (ix_in g9) rfl dX4_isSuspect_36 ?_
          refine lv_aload_n hx hb dX4_isSuspect_37 rfl (lv_at hl 0 rfl) ?_
          refine va_get (D := G.1) (cl := CL) (ci := 4) (C := RX4) (T := TX4) (N := 4) hx hb hts iX4_isSuspect_4 hown hK hP 0 rfl rfl 2 (by decide) (hts (.fieldLink RX4 15 "LoomCards$Sightings" "ends" "[I") (List.mem_of_getElem? (i := 2) rfl)) (fun _ h9 => h9) rfl dX4_isSuspect_38 ?_
          refine lv_iload_n hx hb dX4_isSuspect_41 rfl (lv_at hl 3 rfl) ?_
          refine r_gd hf (fun g9 hf => ?_)
          refine r_iald hx hb hK hP 2 rfl (ix_in g9) rfl dX4_isSuspect_42 ?_
          refine r_bind hf (fun u2 hu2 hf => ?_)
          refine cRiS (rest := []) ⟨hx, hb, hml, hown, hts⟩ hK (tX4_isUpBy l G h_a1_this h_a1_hookOfEnd h_a1_holesOfCard c_a1_hooks c_a1_ends c_a1_cards c_a1_limit c_a1_hookOfEnd c_a1_holesOfCard v2 (c_rows v3.toNatClampNeg) (c_ends v3.toNatClampNeg) u2 hu2) gX4_isSuspect_X4_isUpBy rfl hdX4_isUpBy rfl rfl rfl ⟨Nat.le_of_ble_eq_true rfl, Nat.le_of_ble_eq_true rfl⟩ hP [4, 5, 6] rfl hl.1 (Nat.le_of_ble_eq_true rfl) rfl dX4_isSuspect_43 ⟨Nat.zero_le _, Nat.zero_le _⟩ ?_
          refine lv_aload_n hx hb dX4_isSuspect_46 rfl (lv_at hl 0 rfl) ?_
          refine va_get (D := G.1) (cl := CL) (ci := 4) (C := RX4) (T := TX4) (N := 4) hx hb hts iX4_isSuspect_4 hown hK hP 0 rfl rfl 3 (by decide) (hts (.fieldLink RX4 18 "LoomCards$Sightings" "wasUp" "[Z") (List.mem_of_getElem? (i := 4) rfl)) (fun _ h9 => h9) rfl dX4_isSuspect_47 ?_
          refine lv_iload_n hx hb dX4_isSuspect_50 rfl (lv_at hl 3 rfl) ?_
          refine r_gd hf (fun g9 hf => ?_)
          refine r_zald hx hb hK hP 3 rfl (ix_in g9) rfl dX4_isSuspect_51 ?_
          refine lv_icmp_eq (tgt := 57) hx hb dX4_isSuspect_52 (by decide) (fun c9 => ?_) (fun c9 => ?_)
          · have hf := c_t hf c9
            refine lv_iinc (v := (v3 + (1 : Int32))) (lv' := [(3, .int (v3 + (1 : Int32))), (0, .ref h_this), (1, .ref h_a1_this), (2, .int v2)]) hx hb dX4_isSuspect_57 hl (k := 3) rfl rfl (by decide) rfl (fun ls hl => ?_)
            refine lv_goto (tgt := 2) hx hb dX4_isSuspect_60 (by decide) ?_
            exact ih (v3 + (1 : Int32)) hf _ (lv_sub hl [1, 2, 3, 0] rfl)
          · have hf := c_f hf c9
            exact hk55 hf _ (lv_sub hl [] rfl)
set_option maxHeartbeats 4000000 in
set_option maxRecDepth 100000 in
theorem kX4_isSuspect (h_this : Nat) (h_a1_this : Nat) (h_rows : Nat) (h_ends : Nat) (h_wasUp : Nat) (h_a1_hookOfEnd : Nat) (h_a1_holesOfCard : Nat) (c_seen : Int32) (c_rows : Nat → Int32) (c_ends : Nat → Int32) (c_wasUp : Nat → Int32) (c_a1_hooks : Int32) (c_a1_ends : Int32) (c_a1_cards : Int32) (c_a1_limit : Int32) (c_a1_hookOfEnd : Nat → Int32) (c_a1_holesOfCard : Nat → Int32) (v2 : Int32) (C : Cx cX4_isSuspect (some .boolean) 4 RX4 wsX4_isSuspect G p s m args meth c) (hP : va_P G.1 CL [(h_this, .inr (4, [.int c_seen, .ref h_rows, .ref h_ends, .ref h_wasUp])), (h_rows, .inl (G.2 0, 8, .inl c_rows)), (h_ends, .inl (G.2 0, 8, .inl c_ends)), (h_wasUp, .inl (G.2 2, 8, .inl c_wasUp)), (h_a1_this, .inr (2, [.int c_a1_hooks, .int c_a1_ends, .int c_a1_cards, .int c_a1_limit, .ref h_a1_hookOfEnd, .ref h_a1_holesOfCard])), (h_a1_hookOfEnd, .inl (G.2 0, 12, .inl c_a1_hookOfEnd)), (h_a1_holesOfCard, .inl (G.2 0, 8, .inl c_a1_holesOfCard))] s.heap) {res : Int32} (kr : ∀ (pc : Nat) (ls : Array Slot), narrow .boolean (.int res) = .int res → decode cX4_isSuspect pc = .ok (.ireturn, 1) → W p l e rmX4_isSuspect s m args below meth c s.heap [] 0 0 Q (F0 m pc ls [.int res])) (hf : fX4_isSuspect c_seen c_rows c_ends c_wasUp c_a1_hooks c_a1_ends c_a1_cards c_a1_hookOfEnd c_a1_holesOfCard v2 = some res) {ls : Array Slot} (hl : lv_has ls 4 [(0, .ref h_this), (1, .ref h_a1_this), (2, .int v2)]) : W p l e rmX4_isSuspect s m args below meth c s.heap [] 0 0 Q (F0 m 0 ls []) := by
  obtain ⟨hx, hb, hr, hlk, hml, hown, hts, hK⟩ := id C
  rw [fX4_isSuspect] at hf
  refine lv_iconst (v := (0 : Int32)) hx hb dX4_isSuspect_0 (by decide) ?_
  refine lv_istore_n (lv' := [(3, .int (0 : Int32)), (0, .ref h_this), (1, .ref h_a1_this), (2, .int v2)]) hx hb dX4_isSuspect_1 rfl hl (by decide) rfl (fun ls hl => ?_)
  refine kX4_isSuspect_L2 h_this h_a1_this h_rows h_ends h_wasUp h_a1_hookOfEnd h_a1_holesOfCard c_seen c_rows c_ends c_wasUp c_a1_hooks c_a1_ends c_a1_cards c_a1_limit c_a1_hookOfEnd c_a1_holesOfCard v2 C hP kr ?_ ?_ FU (0 : Int32) hf _ (lv_sub hl [1, 2, 3, 0] rfl)
  · intro hf ls hl
    refine lv_iconst (v := (1 : Int32)) hx hb dX4_isSuspect_63 (by decide) ?_
    obtain rfl := Option.some.inj hf
    exact kr _ _ nb1 dX4_isSuspect_64
  · intro hf ls hl
    refine lv_iconst (v := (0 : Int32)) hx hb dX4_isSuspect_55 (by decide) ?_
    obtain rfl := Option.some.inj hf
    exact kr _ _ nb0 dX4_isSuspect_56
end SX4_isSuspect
set_option maxHeartbeats 4000000 in
set_option maxRecDepth 100000 in
theorem tX4_isSuspect (l : Launch) (G : GG) (h_this : Nat) (h_a1_this : Nat) (h_rows : Nat) (h_ends : Nat) (h_wasUp : Nat) (h_a1_hookOfEnd : Nat) (h_a1_holesOfCard : Nat) (c_seen : Int32) (c_rows : Nat → Int32) (c_ends : Nat → Int32) (c_wasUp : Nat → Int32) (c_a1_hooks : Int32) (c_a1_ends : Int32) (c_a1_cards : Int32) (c_a1_limit : Int32) (c_a1_hookOfEnd : Nat → Int32) (c_a1_holesOfCard : Nat → Int32) (v2 : Int32) (res : Int32) (hf : fX4_isSuspect c_seen c_rows c_ends c_wasUp c_a1_hooks c_a1_ends c_a1_cards c_a1_hookOfEnd c_a1_holesOfCard v2 = some res) : MRi l yX4_isSuspect wsX4_isSuspect rmX4_isSuspect G [.ref h_this, .ref h_a1_this, .int v2] [(h_this, .inr (4, [.int c_seen, .ref h_rows, .ref h_ends, .ref h_wasUp])), (h_rows, .inl (G.2 0, 8, .inl c_rows)), (h_ends, .inl (G.2 0, 8, .inl c_ends)), (h_wasUp, .inl (G.2 2, 8, .inl c_wasUp)), (h_a1_this, .inr (2, [.int c_a1_hooks, .int c_a1_ends, .int c_a1_cards, .int c_a1_limit, .ref h_a1_hookOfEnd, .ref h_a1_holesOfCard])), (h_a1_hookOfEnd, .inl (G.2 0, 12, .inl c_a1_hookOfEnd)), (h_a1_holesOfCard, .inl (G.2 0, 8, .inl c_a1_holesOfCard))] (res) := MRi.of (plainFor_of_name (by decide +kernel)) rfl (Nat.le_of_ble_eq_true rfl) (fun p e s m below meth c C hP ls hl => kX4_isSuspect h_this h_a1_this h_rows h_ends h_wasUp h_a1_hookOfEnd h_a1_holesOfCard c_seen c_rows c_ends c_wasUp c_a1_hooks c_a1_ends c_a1_cards c_a1_limit c_a1_hookOfEnd c_a1_holesOfCard v2 C hP (fun pc ls hn d => rRz C hn d) hf hl)
def fX4_bitOf  (v0 : Int32) : Option (Int64) := some (((1 : Int64) <<< ((v0 - (-1 : Int32)).toInt64 &&& 63)))
theorem hdX4_bitOf : yX4_bitOf.cls ≠ "java/lang/invoke/MethodHandle" ∧ yX4_bitOf.cls ≠ "java/lang/invoke/VarHandle" ∧ (parseMethodDescriptor yX4_bitOf.desc).map (fun d => d.parameters.length) = some 1 := by decide +kernel
abbrev rmX4_bitOf : Room := { frames := 0, cells := 0, slots := 0, locals := 0 }
section SX4_bitOf
variable {p : Program} {l : Launch} {e : Env} {s : State} {m : MethodId} {args : Array Value} {below : List Frame} {meth : Method} {c : Code} {Q : State → Prop} {G : GG}
set_option maxHeartbeats 4000000 in
set_option maxRecDepth 100000 in
theorem kX4_bitOf (v0 : Int32) (C : Cx cX4_bitOf (some .long) 1 RX4 wsX4_bitOf G p s m args meth c) (hP : va_P G.1 CL [] s.heap) {res : Int64} (kr : ∀ (pc : Nat) (ls : Array Slot), decode cX4_bitOf pc = .ok (.lreturn, 1) → W p l e rmX4_bitOf s m args below meth c s.heap [] 0 0 Q (F0 m pc ls [.long res])) (hf : fX4_bitOf v0 = some res) {ls : Array Slot} (hl : lv_has ls 1 [(0, .int v0)]) : W p l e rmX4_bitOf s m args below meth c s.heap [] 0 0 Q (F0 m 0 ls []) := by
  obtain ⟨hx, hb, hr, hlk, hml, hown, hts, hK⟩ := id C
  rw [fX4_bitOf] at hf
  refine lv_lconst (v := (1 : Int64)) hx hb dX4_bitOf_0 (by decide) ?_
  refine lv_iload_n hx hb dX4_bitOf_1 rfl (lv_at hl 0 rfl) ?_
  refine lv_iconst (v := (-1 : Int32)) hx hb dX4_bitOf_2 (by decide) ?_
  refine lv_isub hx hb dX4_bitOf_3 ?_
  refine lv_lshl (v := (1 : Int64) <<< ((v0 - (-1 : Int32)).toInt64 &&& 63)) hx hb dX4_bitOf_4 rfl ?_
  obtain rfl := Option.some.inj hf
  exact kr _ _ dX4_bitOf_5
end SX4_bitOf
set_option maxHeartbeats 4000000 in
set_option maxRecDepth 100000 in
theorem tX4_bitOf (l : Launch) (G : GG) (v0 : Int32) (res : Int64) (hf : fX4_bitOf v0 = some res) : MRl l yX4_bitOf wsX4_bitOf rmX4_bitOf G [.int v0] [] (res) := MRl.of (plainFor_of_name (by decide +kernel)) rfl (Nat.le_of_ble_eq_true rfl) (fun p e s m below meth c C hP ls hl => kX4_bitOf v0 C hP (fun pc ls d => rRl C d) hf hl)
def fX4_suspectBits_L5 (k42 : Int64 → Option (Int64)) (c_seen : Int32) (c_rows : Nat → Int32) (c_ends : Nat → Int32) (c_wasUp : Nat → Int32) (c_a1_hooks : Int32) (c_a1_ends : Int32) (c_a1_cards : Int32) (c_a1_hookOfEnd : Nat → Int32) (c_a1_holesOfCard : Nat → Int32) : Nat → Int64 → Int32 → Option (Int64)
  | 0, _, _ => none
  | n + 1, v2, v4 => (fX2_places c_a1_hooks c_a1_cards).bind (fun u1 => if u1 ≤ v4 then k42 v2 else (fX4_isSuspect c_seen c_rows c_ends c_wasUp c_a1_hooks c_a1_ends c_a1_cards c_a1_hookOfEnd c_a1_holesOfCard v4).bind (fun u2 => jn (fun (j34_0 : Int64) (j34_1 : Int64) => fX4_suspectBits_L5 k42 c_seen c_rows c_ends c_wasUp c_a1_hooks c_a1_ends c_a1_cards c_a1_hookOfEnd c_a1_holesOfCard n (j34_1 ||| j34_0) (v4 + (1 : Int32))) (fun J34 => if u2 = 0 then J34 (0 : Int64) v2 else (fX4_bitOf v4).bind (fun u3 => J34 u3 v2))))
def fX4_suspectBits (c_seen : Int32) (c_rows : Nat → Int32) (c_ends : Nat → Int32) (c_wasUp : Nat → Int32) (c_a1_hooks : Int32) (c_a1_ends : Int32) (c_a1_cards : Int32) (c_a1_hookOfEnd : Nat → Int32) (c_a1_holesOfCard : Nat → Int32)  : Option (Int64) := (fX4_suspectBits_L5 (fun (v2_x4 : Int64) => some (v2_x4)) c_seen c_rows c_ends c_wasUp c_a1_hooks c_a1_ends c_a1_cards c_a1_hookOfEnd c_a1_holesOfCard FU (0 : Int64) (-1 : Int32))
theorem iX4_suspectBits_2 : ∀ w ∈ wsX20, w ∈ wsX4_suspectBits := fun w h => List.mem_cons_of_mem _ (List.mem_append_left _ (List.mem_append_right _ (h)))
theorem iX4_suspectBits_4 : ∀ w ∈ wsX40, w ∈ wsX4_suspectBits := fun w h => List.mem_cons_of_mem _ (List.mem_append_right _ (h))
theorem hdX4_suspectBits : yX4_suspectBits.cls = RX4 ∧ yX4_suspectBits.cls ≠ "java/lang/invoke/MethodHandle" ∧ yX4_suspectBits.cls ≠ "java/lang/invoke/VarHandle" ∧ (parseMethodDescriptor yX4_suspectBits.desc).map (fun d => d.parameters.length) = some 1 := by decide +kernel
abbrev rmX4_suspectBits : Room := { frames := 4, cells := 0, slots := 0, locals := 90 }
section SX4_suspectBits
variable {p : Program} {l : Launch} {e : Env} {s : State} {m : MethodId} {args : Array Value} {below : List Frame} {meth : Method} {c : Code} {Q : State → Prop} {G : GG}
set_option maxHeartbeats 4000000 in
set_option maxRecDepth 100000 in
theorem kX4_suspectBits_L5 (h_this : Nat) (h_a1_this : Nat) (h_rows : Nat) (h_ends : Nat) (h_wasUp : Nat) (h_a1_hookOfEnd : Nat) (h_a1_holesOfCard : Nat) (c_seen : Int32) (c_rows : Nat → Int32) (c_ends : Nat → Int32) (c_wasUp : Nat → Int32) (c_a1_hooks : Int32) (c_a1_ends : Int32) (c_a1_cards : Int32) (c_a1_limit : Int32) (c_a1_hookOfEnd : Nat → Int32) (c_a1_holesOfCard : Nat → Int32) (C : Cx cX4_suspectBits (some .long) 5 RX4 wsX4_suspectBits G p s m args meth c) (hP : va_P G.1 CL [(h_this, .inr (4, [.int c_seen, .ref h_rows, .ref h_ends, .ref h_wasUp])), (h_rows, .inl (G.2 0, 8, .inl c_rows)), (h_ends, .inl (G.2 0, 8, .inl c_ends)), (h_wasUp, .inl (G.2 2, 8, .inl c_wasUp)), (h_a1_this, .inr (2, [.int c_a1_hooks, .int c_a1_ends, .int c_a1_cards, .int c_a1_limit, .ref h_a1_hookOfEnd, .ref h_a1_holesOfCard])), (h_a1_hookOfEnd, .inl (G.2 0, 12, .inl c_a1_hookOfEnd)), (h_a1_holesOfCard, .inl (G.2 0, 8, .inl c_a1_holesOfCard))] s.heap) {res : Int64} (kr : ∀ (pc : Nat) (ls : Array Slot), decode cX4_suspectBits pc = .ok (.lreturn, 1) → W p l e rmX4_suspectBits s m args below meth c s.heap [] 0 0 Q (F0 m pc ls [.long res])) {k42 : Int64 → Option (Int64)} (hk42 : ∀ (v2 : Int64) , k42 v2 = some res → ∀ (ls : Array Slot), lv_has ls 5 [(2, .long v2)] → W p l e rmX4_suspectBits s m args below meth c s.heap [] 0 0 Q (F0 m 42 ls [])) : ∀ (n : Nat) (v2 : Int64) (v4 : Int32), fX4_suspectBits_L5 k42 c_seen c_rows c_ends c_wasUp c_a1_hooks c_a1_ends c_a1_cards c_a1_hookOfEnd c_a1_holesOfCard n v2 v4 = some res → ∀ (ls : Array Slot), lv_has ls 5 [(0, .ref h_this), (1, .ref h_a1_this), (2, .long v2), (4, .int v4)] → W p l e rmX4_suspectBits s m args below meth c s.heap [] 0 0 Q (F0 m 5 ls []) := by
  obtain ⟨hx, hb, hr, hlk, hml, hown, hts, hK⟩ := id C
  intro n
  induction n with
  | zero =>
    intro v2 v4 hf
    cases hf
  | succ n ih =>
    intro v2 v4 hf ls hl
    rw [fX4_suspectBits_L5] at hf
    refine lv_iload hx hb dX4_suspectBits_5 (lv_at hl 3 rfl) ?_
    refine lv_aload_n hx hb dX4_suspectBits_7 rfl (lv_at hl 1 rfl) ?_
    refine r_bind hf (fun u1 hu1 hf => ?_)
    refine cRiV (ci := 2) (rest := [.int v4]) ⟨hx, hb, hml, hown, hts⟩ hK (tX2_places l G h_a1_this h_a1_hookOfEnd h_a1_holesOfCard c_a1_hooks c_a1_ends c_a1_cards c_a1_limit u1 hu1) gX4_suspectBits_X2_places rfl hdX2_places rfl rfl rfl ⟨Nat.le_of_ble_eq_true rfl, Nat.le_of_ble_eq_true rfl⟩ hP [4] rfl 4 rfl rfl rfl hl.1 (Nat.le_of_ble_eq_true rfl) rfl dX4_suspectBits_8 ⟨Nat.zero_le _, Nat.zero_le _⟩ ?_
    refine lv_icmp_ge (tgt := 42) hx hb dX4_suspectBits_11 (by decide) (fun c9 => ?_) (fun c9 => ?_)
    · have hf := c_t hf c9
      exact hk42 v2 hf _ (lv_sub hl [2] rfl)
    · have hf := c_f hf c9
      refine lv_lload_n hx hb dX4_suspectBits_14 rfl (lv_at hl 2 rfl) ?_
      refine lv_aload_n hx hb dX4_suspectBits_15 rfl (lv_at hl 0 rfl) ?_
      refine lv_aload_n hx hb dX4_suspectBits_16 rfl (lv_at hl 1 rfl) ?_
      refine lv_iload hx hb dX4_suspectBits_17 (lv_at hl 3 rfl) ?_
      refine r_bind hf (fun u2 hu2 hf => ?_)
      refine cRiV (ci := 4) (rest := [.long v2]) ⟨hx, hb, hml, hown, hts⟩ hK (tX4_isSuspect l G h_this h_a1_this h_rows h_ends h_wasUp h_a1_hookOfEnd h_a1_holesOfCard c_seen c_rows c_ends c_wasUp c_a1_hooks c_a1_ends c_a1_cards c_a1_limit c_a1_hookOfEnd c_a1_holesOfCard v4 u2 hu2) gX4_suspectBits_X4_isSuspect rfl hdX4_isSuspect rfl rfl rfl ⟨Nat.le_of_ble_eq_true rfl, Nat.le_of_ble_eq_true rfl⟩ hP [0, 1, 2, 3, 4, 5, 6] rfl 0 rfl rfl rfl hl.1 (Nat.le_of_ble_eq_true rfl) rfl dX4_suspectBits_19 ⟨Nat.zero_le _, Nat.zero_le _⟩ ?_
      refine r_jn2 hf (fun J34 eJ34 hf => ?_)
      have hJ34 : ∀ (j34_0 : Int64) (j34_1 : Int64) , J34 j34_0 j34_1 = some res → ∀ (ls : Array Slot), lv_has ls 5 [(0, .ref h_this), (1, .ref h_a1_this), (4, .int v4)] → W p l e rmX4_suspectBits s m args below meth c s.heap [] 0 0 Q (F0 m 34 ls [.long j34_0, .long j34_1]) := by
        intro j34_0 j34_1 hf ls hl
        rw [eJ34] at hf
        refine lv_lor hx hb dX4_suspectBits_34 ?_
        refine lv_lstore_n (lv' := [(2, .long (j34_1 ||| j34_0)), (0, .ref h_this), (1, .ref h_a1_this), (4, .int v4)]) hx hb dX4_suspectBits_35 rfl hl (by decide) rfl (fun ls hl => ?_)
        refine lv_iinc (v := (v4 + (1 : Int32))) (lv' := [(4, .int (v4 + (1 : Int32))), (2, .long (j34_1 ||| j34_0)), (0, .ref h_this), (1, .ref h_a1_this)]) hx hb dX4_suspectBits_36 hl (k := 3) rfl rfl (by decide) rfl (fun ls hl => ?_)
        refine lv_goto (tgt := 5) hx hb dX4_suspectBits_39 (by decide) ?_
        exact ih (j34_1 ||| j34_0) (v4 + (1 : Int32)) hf _ (lv_sub hl [2, 3, 1, 0] rfl)
      refine lv_if_eq (tgt := 33) hx hb dX4_suspectBits_22 (by decide) (fun c9 => ?_) (fun c9 => ?_)
      · have hf := c_t hf c9
        refine lv_lconst (v := (0 : Int64)) hx hb dX4_suspectBits_33 (by decide) ?_
        exact hJ34 (0 : Int64) v2 hf _ (lv_sub hl [0, 1, 3] rfl)
      · have hf := c_f hf c9
        refine lv_iload hx hb dX4_suspectBits_25 (lv_at hl 3 rfl) ?_
        refine r_bind hf (fun u3 hu3 hf => ?_)
        refine cRlS (rest := [.long v2]) ⟨hx, hb, hml, hown, hts⟩ hK (tX4_bitOf l G v4 u3 hu3) gX4_suspectBits_X4_bitOf rfl hdX4_bitOf rfl rfl rfl ⟨Nat.le_of_ble_eq_true rfl, Nat.le_of_ble_eq_true rfl⟩ hP [] rfl hl.1 (Nat.le_of_ble_eq_true rfl) rfl dX4_suspectBits_27 ⟨Nat.zero_le _, Nat.zero_le _⟩ ?_
        refine lv_goto (tgt := 34) hx hb dX4_suspectBits_30 (by decide) ?_
        exact hJ34 u3 v2 hf _ (lv_sub hl [0, 1, 3] rfl)
set_option maxHeartbeats 4000000 in
set_option maxRecDepth 100000 in
theorem kX4_suspectBits (h_this : Nat) (h_a1_this : Nat) (h_rows : Nat) (h_ends : Nat) (h_wasUp : Nat) (h_a1_hookOfEnd : Nat) (h_a1_holesOfCard : Nat) (c_seen : Int32) (c_rows : Nat → Int32) (c_ends : Nat → Int32) (c_wasUp : Nat → Int32) (c_a1_hooks : Int32) (c_a1_ends : Int32) (c_a1_cards : Int32) (c_a1_limit : Int32) (c_a1_hookOfEnd : Nat → Int32) (c_a1_holesOfCard : Nat → Int32) (C : Cx cX4_suspectBits (some .long) 5 RX4 wsX4_suspectBits G p s m args meth c) (hP : va_P G.1 CL [(h_this, .inr (4, [.int c_seen, .ref h_rows, .ref h_ends, .ref h_wasUp])), (h_rows, .inl (G.2 0, 8, .inl c_rows)), (h_ends, .inl (G.2 0, 8, .inl c_ends)), (h_wasUp, .inl (G.2 2, 8, .inl c_wasUp)), (h_a1_this, .inr (2, [.int c_a1_hooks, .int c_a1_ends, .int c_a1_cards, .int c_a1_limit, .ref h_a1_hookOfEnd, .ref h_a1_holesOfCard])), (h_a1_hookOfEnd, .inl (G.2 0, 12, .inl c_a1_hookOfEnd)), (h_a1_holesOfCard, .inl (G.2 0, 8, .inl c_a1_holesOfCard))] s.heap) {res : Int64} (kr : ∀ (pc : Nat) (ls : Array Slot), decode cX4_suspectBits pc = .ok (.lreturn, 1) → W p l e rmX4_suspectBits s m args below meth c s.heap [] 0 0 Q (F0 m pc ls [.long res])) (hf : fX4_suspectBits c_seen c_rows c_ends c_wasUp c_a1_hooks c_a1_ends c_a1_cards c_a1_hookOfEnd c_a1_holesOfCard = some res) {ls : Array Slot} (hl : lv_has ls 5 [(0, .ref h_this), (1, .ref h_a1_this)]) : W p l e rmX4_suspectBits s m args below meth c s.heap [] 0 0 Q (F0 m 0 ls []) := by
  obtain ⟨hx, hb, hr, hlk, hml, hown, hts, hK⟩ := id C
  rw [fX4_suspectBits] at hf
  refine lv_lconst (v := (0 : Int64)) hx hb dX4_suspectBits_0 (by decide) ?_
  refine lv_lstore_n (lv' := [(2, .long (0 : Int64)), (0, .ref h_this), (1, .ref h_a1_this)]) hx hb dX4_suspectBits_1 rfl hl (by decide) rfl (fun ls hl => ?_)
  refine lv_iconst (v := (-1 : Int32)) hx hb dX4_suspectBits_2 (by decide) ?_
  refine lv_istore (lv' := [(4, .int (-1 : Int32)), (2, .long (0 : Int64)), (0, .ref h_this), (1, .ref h_a1_this)]) hx hb dX4_suspectBits_3 hl (by decide) rfl (fun ls hl => ?_)
  refine kX4_suspectBits_L5 h_this h_a1_this h_rows h_ends h_wasUp h_a1_hookOfEnd h_a1_holesOfCard c_seen c_rows c_ends c_wasUp c_a1_hooks c_a1_ends c_a1_cards c_a1_limit c_a1_hookOfEnd c_a1_holesOfCard C hP kr ?_ FU (0 : Int64) (-1 : Int32) hf _ (lv_sub hl [2, 3, 1, 0] rfl)
  intro v2_x4 hf ls hl
  refine lv_lload_n hx hb dX4_suspectBits_42 rfl (lv_at hl 0 rfl) ?_
  obtain rfl := Option.some.inj hf
  exact kr _ _ dX4_suspectBits_43
end SX4_suspectBits
set_option maxHeartbeats 4000000 in
set_option maxRecDepth 100000 in
theorem tX4_suspectBits (l : Launch) (G : GG) (h_this : Nat) (h_a1_this : Nat) (h_rows : Nat) (h_ends : Nat) (h_wasUp : Nat) (h_a1_hookOfEnd : Nat) (h_a1_holesOfCard : Nat) (c_seen : Int32) (c_rows : Nat → Int32) (c_ends : Nat → Int32) (c_wasUp : Nat → Int32) (c_a1_hooks : Int32) (c_a1_ends : Int32) (c_a1_cards : Int32) (c_a1_limit : Int32) (c_a1_hookOfEnd : Nat → Int32) (c_a1_holesOfCard : Nat → Int32) (res : Int64) (hf : fX4_suspectBits c_seen c_rows c_ends c_wasUp c_a1_hooks c_a1_ends c_a1_cards c_a1_hookOfEnd c_a1_holesOfCard = some res) : MRl l yX4_suspectBits wsX4_suspectBits rmX4_suspectBits G [.ref h_this, .ref h_a1_this] [(h_this, .inr (4, [.int c_seen, .ref h_rows, .ref h_ends, .ref h_wasUp])), (h_rows, .inl (G.2 0, 8, .inl c_rows)), (h_ends, .inl (G.2 0, 8, .inl c_ends)), (h_wasUp, .inl (G.2 2, 8, .inl c_wasUp)), (h_a1_this, .inr (2, [.int c_a1_hooks, .int c_a1_ends, .int c_a1_cards, .int c_a1_limit, .ref h_a1_hookOfEnd, .ref h_a1_holesOfCard])), (h_a1_hookOfEnd, .inl (G.2 0, 12, .inl c_a1_hookOfEnd)), (h_a1_holesOfCard, .inl (G.2 0, 8, .inl c_a1_holesOfCard))] (res) := MRl.of (plainFor_of_name (by decide +kernel)) rfl (Nat.le_of_ble_eq_true rfl) (fun p e s m below meth c C hP ls hl => kX4_suspectBits h_this h_a1_this h_rows h_ends h_wasUp h_a1_hookOfEnd h_a1_holesOfCard c_seen c_rows c_ends c_wasUp c_a1_hooks c_a1_ends c_a1_cards c_a1_limit c_a1_hookOfEnd c_a1_holesOfCard C hP (fun pc ls d => rRl C d) hf hl)
def fX4_howManySuspects (c_seen : Int32) (c_rows : Nat → Int32) (c_ends : Nat → Int32) (c_wasUp : Nat → Int32) (c_a1_hooks : Int32) (c_a1_ends : Int32) (c_a1_cards : Int32) (c_a1_hookOfEnd : Nat → Int32) (c_a1_holesOfCard : Nat → Int32)  : Option (Int32) := (fX4_suspectBits c_seen c_rows c_ends c_wasUp c_a1_hooks c_a1_ends c_a1_cards c_a1_hookOfEnd c_a1_holesOfCard).bind (fun u1 => (fJ13_bitCount_95d88 u1).bind (fun u2 => some (u2)))
theorem iX4_howManySuspects_2 : ∀ w ∈ wsX20, w ∈ wsX4_howManySuspects := fun w h => List.mem_cons_of_mem _ (List.mem_append_left _ (List.mem_append_right _ (h)))
theorem iX4_howManySuspects_4 : ∀ w ∈ wsX40, w ∈ wsX4_howManySuspects := fun w h => List.mem_cons_of_mem _ (List.mem_append_right _ (h))
theorem hdX4_howManySuspects : yX4_howManySuspects.cls = RX4 ∧ yX4_howManySuspects.cls ≠ "java/lang/invoke/MethodHandle" ∧ yX4_howManySuspects.cls ≠ "java/lang/invoke/VarHandle" ∧ (parseMethodDescriptor yX4_howManySuspects.desc).map (fun d => d.parameters.length) = some 1 := by decide +kernel
abbrev rmX4_howManySuspects : Room := { frames := 5, cells := 0, slots := 0, locals := 114 }
section SX4_howManySuspects
variable {p : Program} {l : Launch} {e : Env} {s : State} {m : MethodId} {args : Array Value} {below : List Frame} {meth : Method} {c : Code} {Q : State → Prop} {G : GG}
set_option maxHeartbeats 4000000 in
set_option maxRecDepth 100000 in
theorem kX4_howManySuspects (h_this : Nat) (h_a1_this : Nat) (h_rows : Nat) (h_ends : Nat) (h_wasUp : Nat) (h_a1_hookOfEnd : Nat) (h_a1_holesOfCard : Nat) (c_seen : Int32) (c_rows : Nat → Int32) (c_ends : Nat → Int32) (c_wasUp : Nat → Int32) (c_a1_hooks : Int32) (c_a1_ends : Int32) (c_a1_cards : Int32) (c_a1_limit : Int32) (c_a1_hookOfEnd : Nat → Int32) (c_a1_holesOfCard : Nat → Int32) (C : Cx cX4_howManySuspects (some .int) 2 RX4 wsX4_howManySuspects G p s m args meth c) (hP : va_P G.1 CL [(h_this, .inr (4, [.int c_seen, .ref h_rows, .ref h_ends, .ref h_wasUp])), (h_rows, .inl (G.2 0, 8, .inl c_rows)), (h_ends, .inl (G.2 0, 8, .inl c_ends)), (h_wasUp, .inl (G.2 2, 8, .inl c_wasUp)), (h_a1_this, .inr (2, [.int c_a1_hooks, .int c_a1_ends, .int c_a1_cards, .int c_a1_limit, .ref h_a1_hookOfEnd, .ref h_a1_holesOfCard])), (h_a1_hookOfEnd, .inl (G.2 0, 12, .inl c_a1_hookOfEnd)), (h_a1_holesOfCard, .inl (G.2 0, 8, .inl c_a1_holesOfCard))] s.heap) {res : Int32} (kr : ∀ (pc : Nat) (ls : Array Slot), decode cX4_howManySuspects pc = .ok (.ireturn, 1) → W p l e rmX4_howManySuspects s m args below meth c s.heap [] 0 0 Q (F0 m pc ls [.int res])) (hf : fX4_howManySuspects c_seen c_rows c_ends c_wasUp c_a1_hooks c_a1_ends c_a1_cards c_a1_hookOfEnd c_a1_holesOfCard = some res) {ls : Array Slot} (hl : lv_has ls 2 [(0, .ref h_this), (1, .ref h_a1_this)]) : W p l e rmX4_howManySuspects s m args below meth c s.heap [] 0 0 Q (F0 m 0 ls []) := by
  obtain ⟨hx, hb, hr, hlk, hml, hown, hts, hK⟩ := id C
  rw [fX4_howManySuspects] at hf
  refine lv_aload_n hx hb dX4_howManySuspects_0 rfl (lv_at hl 0 rfl) ?_
  refine lv_aload_n hx hb dX4_howManySuspects_1 rfl (lv_at hl 1 rfl) ?_
  refine r_bind hf (fun u1 hu1 hf => ?_)
  refine cRlV (ci := 4) (rest := []) ⟨hx, hb, hml, hown, hts⟩ hK (tX4_suspectBits l G h_this h_a1_this h_rows h_ends h_wasUp h_a1_hookOfEnd h_a1_holesOfCard c_seen c_rows c_ends c_wasUp c_a1_hooks c_a1_ends c_a1_cards c_a1_limit c_a1_hookOfEnd c_a1_holesOfCard u1 hu1) gX4_howManySuspects_X4_suspectBits rfl hdX4_suspectBits rfl rfl rfl ⟨Nat.le_of_ble_eq_true rfl, Nat.le_of_ble_eq_true rfl⟩ hP [0, 1, 2, 3, 4, 5, 6] rfl 0 rfl rfl rfl hl.1 (Nat.le_of_ble_eq_true rfl) rfl dX4_howManySuspects_2 ⟨Nat.zero_le _, Nat.zero_le _⟩ ?_
  refine r_bind hf (fun u2 hu2 hf => ?_)
  refine cRiS (rest := []) ⟨hx, hb, hml, hown, hts⟩ hK (tJ13_bitCount_95d88 l G u1 u2 hu2) gX4_howManySuspects_J13_bitCount_95d88 rfl hdJ13_bitCount_95d88 rfl rfl rfl ⟨Nat.le_of_ble_eq_true rfl, Nat.le_of_ble_eq_true rfl⟩ hP [] rfl hl.1 (Nat.le_of_ble_eq_true rfl) rfl dX4_howManySuspects_5 ⟨Nat.zero_le _, Nat.zero_le _⟩ ?_
  obtain rfl := Option.some.inj hf
  exact kr _ _ dX4_howManySuspects_8
end SX4_howManySuspects
set_option maxHeartbeats 4000000 in
set_option maxRecDepth 100000 in
theorem tX4_howManySuspects (l : Launch) (G : GG) (h_this : Nat) (h_a1_this : Nat) (h_rows : Nat) (h_ends : Nat) (h_wasUp : Nat) (h_a1_hookOfEnd : Nat) (h_a1_holesOfCard : Nat) (c_seen : Int32) (c_rows : Nat → Int32) (c_ends : Nat → Int32) (c_wasUp : Nat → Int32) (c_a1_hooks : Int32) (c_a1_ends : Int32) (c_a1_cards : Int32) (c_a1_limit : Int32) (c_a1_hookOfEnd : Nat → Int32) (c_a1_holesOfCard : Nat → Int32) (res : Int32) (hf : fX4_howManySuspects c_seen c_rows c_ends c_wasUp c_a1_hooks c_a1_ends c_a1_cards c_a1_hookOfEnd c_a1_holesOfCard = some res) : MRi l yX4_howManySuspects wsX4_howManySuspects rmX4_howManySuspects G [.ref h_this, .ref h_a1_this] [(h_this, .inr (4, [.int c_seen, .ref h_rows, .ref h_ends, .ref h_wasUp])), (h_rows, .inl (G.2 0, 8, .inl c_rows)), (h_ends, .inl (G.2 0, 8, .inl c_ends)), (h_wasUp, .inl (G.2 2, 8, .inl c_wasUp)), (h_a1_this, .inr (2, [.int c_a1_hooks, .int c_a1_ends, .int c_a1_cards, .int c_a1_limit, .ref h_a1_hookOfEnd, .ref h_a1_holesOfCard])), (h_a1_hookOfEnd, .inl (G.2 0, 12, .inl c_a1_hookOfEnd)), (h_a1_holesOfCard, .inl (G.2 0, 8, .inl c_a1_holesOfCard))] (res) := MRi.of (plainFor_of_name (by decide +kernel)) rfl (Nat.le_of_ble_eq_true rfl) (fun p e s m below meth c C hP ls hl => kX4_howManySuspects h_this h_a1_this h_rows h_ends h_wasUp h_a1_hookOfEnd h_a1_holesOfCard c_seen c_rows c_ends c_wasUp c_a1_hooks c_a1_ends c_a1_cards c_a1_limit c_a1_hookOfEnd c_a1_holesOfCard C hP (fun pc ls d => rRi C d) hf hl)
def fX4_firstSuspect_L2 (k27 : Option (Int32)) (k19 : Int32 → Option (Int32)) (c_seen : Int32) (c_rows : Nat → Int32) (c_ends : Nat → Int32) (c_wasUp : Nat → Int32) (c_a1_hooks : Int32) (c_a1_ends : Int32) (c_a1_cards : Int32) (c_a1_hookOfEnd : Nat → Int32) (c_a1_holesOfCard : Nat → Int32) : Nat → Int32 → Option (Int32)
  | 0, _ => none
  | n + 1, v2 => (fX2_places c_a1_hooks c_a1_cards).bind (fun u1 => if u1 ≤ v2 then k27 else (fX4_isSuspect c_seen c_rows c_ends c_wasUp c_a1_hooks c_a1_ends c_a1_cards c_a1_hookOfEnd c_a1_holesOfCard v2).bind (fun u2 => if u2 = 0 then fX4_firstSuspect_L2 k27 k19 c_seen c_rows c_ends c_wasUp c_a1_hooks c_a1_ends c_a1_cards c_a1_hookOfEnd c_a1_holesOfCard n (v2 + (1 : Int32)) else k19 v2))
def fX4_firstSuspect (c_seen : Int32) (c_rows : Nat → Int32) (c_ends : Nat → Int32) (c_wasUp : Nat → Int32) (c_a1_hooks : Int32) (c_a1_ends : Int32) (c_a1_cards : Int32) (c_a1_hookOfEnd : Nat → Int32) (c_a1_holesOfCard : Nat → Int32)  : Option (Int32) := (fX4_firstSuspect_L2 (some ((-9 : Int32))) (fun (v2_x4 : Int32) => some (v2_x4)) c_seen c_rows c_ends c_wasUp c_a1_hooks c_a1_ends c_a1_cards c_a1_hookOfEnd c_a1_holesOfCard FU (-1 : Int32))
theorem iX4_firstSuspect_2 : ∀ w ∈ wsX20, w ∈ wsX4_firstSuspect := fun w h => List.mem_cons_of_mem _ (List.mem_append_left _ (List.mem_append_right _ (h)))
theorem iX4_firstSuspect_4 : ∀ w ∈ wsX40, w ∈ wsX4_firstSuspect := fun w h => List.mem_cons_of_mem _ (List.mem_append_right _ (h))
theorem hdX4_firstSuspect : yX4_firstSuspect.cls = RX4 ∧ yX4_firstSuspect.cls ≠ "java/lang/invoke/MethodHandle" ∧ yX4_firstSuspect.cls ≠ "java/lang/invoke/VarHandle" ∧ (parseMethodDescriptor yX4_firstSuspect.desc).map (fun d => d.parameters.length) = some 1 := by decide +kernel
abbrev rmX4_firstSuspect : Room := { frames := 4, cells := 0, slots := 0, locals := 90 }
section SX4_firstSuspect
variable {p : Program} {l : Launch} {e : Env} {s : State} {m : MethodId} {args : Array Value} {below : List Frame} {meth : Method} {c : Code} {Q : State → Prop} {G : GG}
set_option maxHeartbeats 4000000 in
set_option maxRecDepth 100000 in
theorem kX4_firstSuspect_L2 (h_this : Nat) (h_a1_this : Nat) (h_rows : Nat) (h_ends : Nat) (h_wasUp : Nat) (h_a1_hookOfEnd : Nat) (h_a1_holesOfCard : Nat) (c_seen : Int32) (c_rows : Nat → Int32) (c_ends : Nat → Int32) (c_wasUp : Nat → Int32) (c_a1_hooks : Int32) (c_a1_ends : Int32) (c_a1_cards : Int32) (c_a1_limit : Int32) (c_a1_hookOfEnd : Nat → Int32) (c_a1_holesOfCard : Nat → Int32) (C : Cx cX4_firstSuspect (some .int) 3 RX4 wsX4_firstSuspect G p s m args meth c) (hP : va_P G.1 CL [(h_this, .inr (4, [.int c_seen, .ref h_rows, .ref h_ends, .ref h_wasUp])), (h_rows, .inl (G.2 0, 8, .inl c_rows)), (h_ends, .inl (G.2 0, 8, .inl c_ends)), (h_wasUp, .inl (G.2 2, 8, .inl c_wasUp)), (h_a1_this, .inr (2, [.int c_a1_hooks, .int c_a1_ends, .int c_a1_cards, .int c_a1_limit, .ref h_a1_hookOfEnd, .ref h_a1_holesOfCard])), (h_a1_hookOfEnd, .inl (G.2 0, 12, .inl c_a1_hookOfEnd)), (h_a1_holesOfCard, .inl (G.2 0, 8, .inl c_a1_holesOfCard))] s.heap) {res : Int32} (kr : ∀ (pc : Nat) (ls : Array Slot), decode cX4_firstSuspect pc = .ok (.ireturn, 1) → W p l e rmX4_firstSuspect s m args below meth c s.heap [] 0 0 Q (F0 m pc ls [.int res])) {k27 : Option (Int32)} (hk27 : k27 = some res → ∀ (ls : Array Slot), lv_has ls 3 [] → W p l e rmX4_firstSuspect s m args below meth c s.heap [] 0 0 Q (F0 m 27 ls [])) {k19 : Int32 → Option (Int32)} (hk19 : ∀ (v2 : Int32) , k19 v2 = some res → ∀ (ls : Array Slot), lv_has ls 3 [(2, .int v2)] → W p l e rmX4_firstSuspect s m args below meth c s.heap [] 0 0 Q (F0 m 19 ls [])) : ∀ (n : Nat) (v2 : Int32), fX4_firstSuspect_L2 k27 k19 c_seen c_rows c_ends c_wasUp c_a1_hooks c_a1_ends c_a1_cards c_a1_hookOfEnd c_a1_holesOfCard n v2 = some res → ∀ (ls : Array Slot), lv_has ls 3 [(0, .ref h_this), (1, .ref h_a1_this), (2, .int v2)] → W p l e rmX4_firstSuspect s m args below meth c s.heap [] 0 0 Q (F0 m 2 ls []) := by
  obtain ⟨hx, hb, hr, hlk, hml, hown, hts, hK⟩ := id C
  intro n
  induction n with
  | zero =>
    intro v2 hf
    cases hf
  | succ n ih =>
    intro v2 hf ls hl
    rw [fX4_firstSuspect_L2] at hf
    refine lv_iload_n hx hb dX4_firstSuspect_2 rfl (lv_at hl 2 rfl) ?_
    refine lv_aload_n hx hb dX4_firstSuspect_3 rfl (lv_at hl 1 rfl) ?_
    refine r_bind hf (fun u1 hu1 hf => ?_)
    refine cRiV (ci := 2) (rest := [.int v2]) ⟨hx, hb, hml, hown, hts⟩ hK (tX2_places l G h_a1_this h_a1_hookOfEnd h_a1_holesOfCard c_a1_hooks c_a1_ends c_a1_cards c_a1_limit u1 hu1) gX4_firstSuspect_X2_places rfl hdX2_places rfl rfl rfl ⟨Nat.le_of_ble_eq_true rfl, Nat.le_of_ble_eq_true rfl⟩ hP [4] rfl 4 rfl rfl rfl hl.1 (Nat.le_of_ble_eq_true rfl) rfl dX4_firstSuspect_4 ⟨Nat.zero_le _, Nat.zero_le _⟩ ?_
    refine lv_icmp_ge (tgt := 27) hx hb dX4_firstSuspect_7 (by decide) (fun c9 => ?_) (fun c9 => ?_)
    · have hf := c_t hf c9
      exact hk27 hf _ (lv_sub hl [] rfl)
    · have hf := c_f hf c9
      refine lv_aload_n hx hb dX4_firstSuspect_10 rfl (lv_at hl 0 rfl) ?_
      refine lv_aload_n hx hb dX4_firstSuspect_11 rfl (lv_at hl 1 rfl) ?_
      refine lv_iload_n hx hb dX4_firstSuspect_12 rfl (lv_at hl 2 rfl) ?_
      refine r_bind hf (fun u2 hu2 hf => ?_)
      refine cRiV (ci := 4) (rest := []) ⟨hx, hb, hml, hown, hts⟩ hK (tX4_isSuspect l G h_this h_a1_this h_rows h_ends h_wasUp h_a1_hookOfEnd h_a1_holesOfCard c_seen c_rows c_ends c_wasUp c_a1_hooks c_a1_ends c_a1_cards c_a1_limit c_a1_hookOfEnd c_a1_holesOfCard v2 u2 hu2) gX4_firstSuspect_X4_isSuspect rfl hdX4_isSuspect rfl rfl rfl ⟨Nat.le_of_ble_eq_true rfl, Nat.le_of_ble_eq_true rfl⟩ hP [0, 1, 2, 3, 4, 5, 6] rfl 0 rfl rfl rfl hl.1 (Nat.le_of_ble_eq_true rfl) rfl dX4_firstSuspect_13 ⟨Nat.zero_le _, Nat.zero_le _⟩ ?_
      refine lv_if_eq (tgt := 21) hx hb dX4_firstSuspect_16 (by decide) (fun c9 => ?_) (fun c9 => ?_)
      · have hf := c_t hf c9
        refine lv_iinc (v := (v2 + (1 : Int32))) (lv' := [(2, .int (v2 + (1 : Int32))), (0, .ref h_this), (1, .ref h_a1_this)]) hx hb dX4_firstSuspect_21 hl (k := 2) rfl rfl (by decide) rfl (fun ls hl => ?_)
        refine lv_goto (tgt := 2) hx hb dX4_firstSuspect_24 (by decide) ?_
        exact ih (v2 + (1 : Int32)) hf _ (lv_sub hl [1, 2, 0] rfl)
      · have hf := c_f hf c9
        exact hk19 v2 hf _ (lv_sub hl [2] rfl)
set_option maxHeartbeats 4000000 in
set_option maxRecDepth 100000 in
theorem kX4_firstSuspect (h_this : Nat) (h_a1_this : Nat) (h_rows : Nat) (h_ends : Nat) (h_wasUp : Nat) (h_a1_hookOfEnd : Nat) (h_a1_holesOfCard : Nat) (c_seen : Int32) (c_rows : Nat → Int32) (c_ends : Nat → Int32) (c_wasUp : Nat → Int32) (c_a1_hooks : Int32) (c_a1_ends : Int32) (c_a1_cards : Int32) (c_a1_limit : Int32) (c_a1_hookOfEnd : Nat → Int32) (c_a1_holesOfCard : Nat → Int32) (C : Cx cX4_firstSuspect (some .int) 3 RX4 wsX4_firstSuspect G p s m args meth c) (hP : va_P G.1 CL [(h_this, .inr (4, [.int c_seen, .ref h_rows, .ref h_ends, .ref h_wasUp])), (h_rows, .inl (G.2 0, 8, .inl c_rows)), (h_ends, .inl (G.2 0, 8, .inl c_ends)), (h_wasUp, .inl (G.2 2, 8, .inl c_wasUp)), (h_a1_this, .inr (2, [.int c_a1_hooks, .int c_a1_ends, .int c_a1_cards, .int c_a1_limit, .ref h_a1_hookOfEnd, .ref h_a1_holesOfCard])), (h_a1_hookOfEnd, .inl (G.2 0, 12, .inl c_a1_hookOfEnd)), (h_a1_holesOfCard, .inl (G.2 0, 8, .inl c_a1_holesOfCard))] s.heap) {res : Int32} (kr : ∀ (pc : Nat) (ls : Array Slot), decode cX4_firstSuspect pc = .ok (.ireturn, 1) → W p l e rmX4_firstSuspect s m args below meth c s.heap [] 0 0 Q (F0 m pc ls [.int res])) (hf : fX4_firstSuspect c_seen c_rows c_ends c_wasUp c_a1_hooks c_a1_ends c_a1_cards c_a1_hookOfEnd c_a1_holesOfCard = some res) {ls : Array Slot} (hl : lv_has ls 3 [(0, .ref h_this), (1, .ref h_a1_this)]) : W p l e rmX4_firstSuspect s m args below meth c s.heap [] 0 0 Q (F0 m 0 ls []) := by
  obtain ⟨hx, hb, hr, hlk, hml, hown, hts, hK⟩ := id C
  rw [fX4_firstSuspect] at hf
  refine lv_iconst (v := (-1 : Int32)) hx hb dX4_firstSuspect_0 (by decide) ?_
  refine lv_istore_n (lv' := [(2, .int (-1 : Int32)), (0, .ref h_this), (1, .ref h_a1_this)]) hx hb dX4_firstSuspect_1 rfl hl (by decide) rfl (fun ls hl => ?_)
  refine kX4_firstSuspect_L2 h_this h_a1_this h_rows h_ends h_wasUp h_a1_hookOfEnd h_a1_holesOfCard c_seen c_rows c_ends c_wasUp c_a1_hooks c_a1_ends c_a1_cards c_a1_limit c_a1_hookOfEnd c_a1_holesOfCard C hP kr ?_ ?_ FU (-1 : Int32) hf _ (lv_sub hl [1, 2, 0] rfl)
  · intro hf ls hl
    refine lv_bipush (v := (-9 : Int32)) hx hb dX4_firstSuspect_27 (by decide) ?_
    obtain rfl := Option.some.inj hf
    exact kr _ _ dX4_firstSuspect_29
  · intro v2_x4 hf ls hl
    refine lv_iload_n hx hb dX4_firstSuspect_19 rfl (lv_at hl 0 rfl) ?_
    obtain rfl := Option.some.inj hf
    exact kr _ _ dX4_firstSuspect_20
end SX4_firstSuspect
set_option maxHeartbeats 4000000 in
set_option maxRecDepth 100000 in
theorem tX4_firstSuspect (l : Launch) (G : GG) (h_this : Nat) (h_a1_this : Nat) (h_rows : Nat) (h_ends : Nat) (h_wasUp : Nat) (h_a1_hookOfEnd : Nat) (h_a1_holesOfCard : Nat) (c_seen : Int32) (c_rows : Nat → Int32) (c_ends : Nat → Int32) (c_wasUp : Nat → Int32) (c_a1_hooks : Int32) (c_a1_ends : Int32) (c_a1_cards : Int32) (c_a1_limit : Int32) (c_a1_hookOfEnd : Nat → Int32) (c_a1_holesOfCard : Nat → Int32) (res : Int32) (hf : fX4_firstSuspect c_seen c_rows c_ends c_wasUp c_a1_hooks c_a1_ends c_a1_cards c_a1_hookOfEnd c_a1_holesOfCard = some res) : MRi l yX4_firstSuspect wsX4_firstSuspect rmX4_firstSuspect G [.ref h_this, .ref h_a1_this] [(h_this, .inr (4, [.int c_seen, .ref h_rows, .ref h_ends, .ref h_wasUp])), (h_rows, .inl (G.2 0, 8, .inl c_rows)), (h_ends, .inl (G.2 0, 8, .inl c_ends)), (h_wasUp, .inl (G.2 2, 8, .inl c_wasUp)), (h_a1_this, .inr (2, [.int c_a1_hooks, .int c_a1_ends, .int c_a1_cards, .int c_a1_limit, .ref h_a1_hookOfEnd, .ref h_a1_holesOfCard])), (h_a1_hookOfEnd, .inl (G.2 0, 12, .inl c_a1_hookOfEnd)), (h_a1_holesOfCard, .inl (G.2 0, 8, .inl c_a1_holesOfCard))] (res) := MRi.of (plainFor_of_name (by decide +kernel)) rfl (Nat.le_of_ble_eq_true rfl) (fun p e s m below meth c C hP ls hl => kX4_firstSuspect h_this h_a1_this h_rows h_ends h_wasUp h_a1_hookOfEnd h_a1_holesOfCard c_seen c_rows c_ends c_wasUp c_a1_hooks c_a1_ends c_a1_cards c_a1_limit c_a1_hookOfEnd c_a1_holesOfCard C hP (fun pc ls d => rRi C d) hf hl)
def fX4_howManySayUp_L6 (k67 : Int32 → Option (Int32)) (c_a0_hooks : Int32) (c_a0_ends : Int32) (c_a0_cards : Int32) (c_a0_hookOfEnd : Nat → Int32) (c_a0_holesOfCard : Nat → Int32) (v1 : Int64) (v3 : Int32) (v4 : Int32) : Nat → Int32 → Int32 → Option (Int32)
  | 0, _, _ => none
  | n + 1, v5, v6 => (fX2_places c_a0_hooks c_a0_cards).bind (fun u1 => if u1 ≤ v6 then k67 v5 else (fX4_bitOf v6).bind (fun u2 => jn (fun (j32_0 : Int32) => jn (fun (j58_0 : Int32) (j58_1 : Int32) => fX4_howManySayUp_L6 k67 c_a0_hooks c_a0_ends c_a0_cards c_a0_hookOfEnd c_a0_holesOfCard v1 v3 v4 n (j58_1 + j58_0) (v6 + (1 : Int32))) (fun J58 => jn (fun (j57_0 : Int32) => J58 (0 : Int32) j57_0) (fun J57 => if j32_0 = 0 then J57 v5 else (fX4_isUpBy c_a0_hooks c_a0_ends c_a0_cards c_a0_hookOfEnd c_a0_holesOfCard v6 v3 v4).bind (fun u3 => if u3 = 0 then J57 v5 else J58 (1 : Int32) v5)))) (fun J32 => if (lg_cmp (v1 &&& u2) (0 : Int64)) = 0 then J32 (0 : Int32) else J32 (1 : Int32))))
def fX4_howManySayUp (c_a0_hooks : Int32) (c_a0_ends : Int32) (c_a0_cards : Int32) (c_a0_hookOfEnd : Nat → Int32) (c_a0_holesOfCard : Nat → Int32) (v1 : Int64) (v3 : Int32) (v4 : Int32) : Option (Int32) := (fX4_howManySayUp_L6 (fun (v5_x4 : Int32) => some (v5_x4)) c_a0_hooks c_a0_ends c_a0_cards c_a0_hookOfEnd c_a0_holesOfCard v1 v3 v4 FU (0 : Int32) (-1 : Int32))
theorem iX4_howManySayUp_2 : ∀ w ∈ wsX20, w ∈ wsX4_howManySayUp := fun w h => List.mem_cons_of_mem _ (List.mem_append_right _ (h))
theorem hdX4_howManySayUp : yX4_howManySayUp.cls ≠ "java/lang/invoke/MethodHandle" ∧ yX4_howManySayUp.cls ≠ "java/lang/invoke/VarHandle" ∧ (parseMethodDescriptor yX4_howManySayUp.desc).map (fun d => d.parameters.length) = some 4 := by decide +kernel
abbrev rmX4_howManySayUp : Room := { frames := 3, cells := 0, slots := 0, locals := 67 }
section SX4_howManySayUp
variable {p : Program} {l : Launch} {e : Env} {s : State} {m : MethodId} {args : Array Value} {below : List Frame} {meth : Method} {c : Code} {Q : State → Prop} {G : GG}
set_option maxHeartbeats 4000000 in
set_option maxRecDepth 100000 in
theorem kX4_howManySayUp_L6 (h_a0_this : Nat) (h_a0_hookOfEnd : Nat) (h_a0_holesOfCard : Nat) (c_a0_hooks : Int32) (c_a0_ends : Int32) (c_a0_cards : Int32) (c_a0_limit : Int32) (c_a0_hookOfEnd : Nat → Int32) (c_a0_holesOfCard : Nat → Int32) (v1 : Int64) (v3 : Int32) (v4 : Int32) (C : Cx cX4_howManySayUp (some .int) 8 RX4 wsX4_howManySayUp G p s m args meth c) (hP : va_P G.1 CL [(h_a0_this, .inr (2, [.int c_a0_hooks, .int c_a0_ends, .int c_a0_cards, .int c_a0_limit, .ref h_a0_hookOfEnd, .ref h_a0_holesOfCard])), (h_a0_hookOfEnd, .inl (G.2 0, 12, .inl c_a0_hookOfEnd)), (h_a0_holesOfCard, .inl (G.2 0, 8, .inl c_a0_holesOfCard))] s.heap) {res : Int32} (kr : ∀ (pc : Nat) (ls : Array Slot), decode cX4_howManySayUp pc = .ok (.ireturn, 1) → W p l e rmX4_howManySayUp s m args below meth c s.heap [] 0 0 Q (F0 m pc ls [.int res])) {k67 : Int32 → Option (Int32)} (hk67 : ∀ (v5 : Int32) , k67 v5 = some res → ∀ (ls : Array Slot), lv_has ls 8 [(5, .int v5)] → W p l e rmX4_howManySayUp s m args below meth c s.heap [] 0 0 Q (F0 m 67 ls [])) : ∀ (n : Nat) (v5 : Int32) (v6 : Int32), fX4_howManySayUp_L6 k67 c_a0_hooks c_a0_ends c_a0_cards c_a0_hookOfEnd c_a0_holesOfCard v1 v3 v4 n v5 v6 = some res → ∀ (ls : Array Slot), lv_has ls 8 [(0, .ref h_a0_this), (1, .long v1), (3, .int v3), (4, .int v4), (5, .int v5), (6, .int v6)] → W p l e rmX4_howManySayUp s m args below meth c s.heap [] 0 0 Q (F0 m 6 ls []) := by
  obtain ⟨hx, hb, hr, hlk, hml, hown, hts, hK⟩ := id C
  intro n
  induction n with
  | zero =>
    intro v5 v6 hf
    cases hf
  | succ n ih =>
    intro v5 v6 hf ls hl
    rw [fX4_howManySayUp_L6] at hf
    refine lv_iload hx hb dX4_howManySayUp_6 (lv_at hl 5 rfl) ?_
    refine lv_aload_n hx hb dX4_howManySayUp_8 rfl (lv_at hl 0 rfl) ?_
    refine r_bind hf (fun u1 hu1 hf => ?_)
    refine cRiV (ci := 2) (rest := [.int v6]) ⟨hx, hb, hml, hown, hts⟩ hK (tX2_places l G h_a0_this h_a0_hookOfEnd h_a0_holesOfCard c_a0_hooks c_a0_ends c_a0_cards c_a0_limit u1 hu1) gX4_howManySayUp_X2_places rfl hdX2_places rfl rfl rfl ⟨Nat.le_of_ble_eq_true rfl, Nat.le_of_ble_eq_true rfl⟩ hP [0] rfl 0 rfl rfl rfl hl.1 (Nat.le_of_ble_eq_true rfl) rfl dX4_howManySayUp_9 ⟨Nat.zero_le _, Nat.zero_le _⟩ ?_
    refine lv_icmp_ge (tgt := 67) hx hb dX4_howManySayUp_12 (by decide) (fun c9 => ?_) (fun c9 => ?_)
    · have hf := c_t hf c9
      exact hk67 v5 hf _ (lv_sub hl [4] rfl)
    · have hf := c_f hf c9
      refine lv_lload_n hx hb dX4_howManySayUp_15 rfl (lv_at hl 1 rfl) ?_
      refine lv_iload hx hb dX4_howManySayUp_16 (lv_at hl 5 rfl) ?_
      refine r_bind hf (fun u2 hu2 hf => ?_)
      refine cRlS (rest := [.long v1]) ⟨hx, hb, hml, hown, hts⟩ hK (tX4_bitOf l G v6 u2 hu2) gX4_howManySayUp_X4_bitOf rfl hdX4_bitOf rfl rfl rfl ⟨Nat.le_of_ble_eq_true rfl, Nat.le_of_ble_eq_true rfl⟩ hP [] rfl hl.1 (Nat.le_of_ble_eq_true rfl) rfl dX4_howManySayUp_18 ⟨Nat.zero_le _, Nat.zero_le _⟩ ?_
      refine lv_land hx hb dX4_howManySayUp_21 ?_
      refine lv_lconst (v := (0 : Int64)) hx hb dX4_howManySayUp_22 (by decide) ?_
      refine W.lcmp hx hb dX4_howManySayUp_23 ?_
      refine r_jn1 hf (fun J32 eJ32 hf => ?_)
      have hJ32 : ∀ (j32_0 : Int32) , J32 j32_0 = some res → ∀ (ls : Array Slot), lv_has ls 8 [(0, .ref h_a0_this), (1, .long v1), (3, .int v3), (4, .int v4), (5, .int v5), (6, .int v6)] → W p l e rmX4_howManySayUp s m args below meth c s.heap [] 0 0 Q (F0 m 32 ls [.int j32_0]) := by
        intro j32_0 hf ls hl
        rw [eJ32] at hf
        refine lv_istore (lv' := [(7, .int j32_0), (0, .ref h_a0_this), (1, .long v1), (3, .int v3), (4, .int v4), (5, .int v5), (6, .int v6)]) hx hb dX4_howManySayUp_32 hl (by decide) rfl (fun ls hl => ?_)
        refine lv_iload hx hb dX4_howManySayUp_34 (lv_at hl 5 rfl) ?_
        refine lv_iload hx hb dX4_howManySayUp_36 (lv_at hl 0 rfl) ?_
        refine r_jn2 hf (fun J58 eJ58 hf => ?_)
        have hJ58 : ∀ (j58_0 : Int32) (j58_1 : Int32) , J58 j58_0 j58_1 = some res → ∀ (ls : Array Slot), lv_has ls 8 [(0, .ref h_a0_this), (1, .long v1), (3, .int v3), (4, .int v4), (6, .int v6)] → W p l e rmX4_howManySayUp s m args below meth c s.heap [] 0 0 Q (F0 m 58 ls [.int j58_0, .int j58_1]) := by
          intro j58_0 j58_1 hf ls hl
          rw [eJ58] at hf
          refine lv_iadd hx hb dX4_howManySayUp_58 ?_
          refine lv_istore (lv' := [(5, .int (j58_1 + j58_0)), (0, .ref h_a0_this), (1, .long v1), (3, .int v3), (4, .int v4), (6, .int v6)]) hx hb dX4_howManySayUp_59 hl (by decide) rfl (fun ls hl => ?_)
          refine lv_iinc (v := (v6 + (1 : Int32))) (lv' := [(6, .int (v6 + (1 : Int32))), (5, .int (j58_1 + j58_0)), (0, .ref h_a0_this), (1, .long v1), (3, .int v3), (4, .int v4)]) hx hb dX4_howManySayUp_61 hl (k := 5) rfl rfl (by decide) rfl (fun ls hl => ?_)
          refine lv_goto (tgt := 6) hx hb dX4_howManySayUp_64 (by decide) ?_
          exact ih (j58_1 + j58_0) (v6 + (1 : Int32)) hf _ (lv_sub hl [2, 3, 4, 5, 1, 0] rfl)
        refine r_jn1 hf (fun J57 eJ57 hf => ?_)
        have hJ57 : ∀ (j57_0 : Int32) , J57 j57_0 = some res → ∀ (ls : Array Slot), lv_has ls 8 [(0, .ref h_a0_this), (1, .long v1), (3, .int v3), (4, .int v4), (6, .int v6)] → W p l e rmX4_howManySayUp s m args below meth c s.heap [] 0 0 Q (F0 m 57 ls [.int j57_0]) := by
          intro j57_0 hf ls hl
          rw [eJ57] at hf
          refine lv_iconst (v := (0 : Int32)) hx hb dX4_howManySayUp_57 (by decide) ?_
          exact hJ58 (0 : Int32) j57_0 hf _ (lv_sub hl [0, 1, 2, 3, 4] rfl)
        refine lv_if_eq (tgt := 57) hx hb dX4_howManySayUp_38 (by decide) (fun c9 => ?_) (fun c9 => ?_)
        · have hf := c_t hf c9
          exact hJ57 v5 hf _ (lv_sub hl [1, 2, 3, 4, 6] rfl)
        · have hf := c_f hf c9
          refine lv_aload_n hx hb dX4_howManySayUp_41 rfl (lv_at hl 1 rfl) ?_
          refine lv_iload hx hb dX4_howManySayUp_42 (lv_at hl 6 rfl) ?_
          refine lv_iload_n hx hb dX4_howManySayUp_44 rfl (lv_at hl 3 rfl) ?_
          refine lv_iload hx hb dX4_howManySayUp_45 (lv_at hl 4 rfl) ?_
          refine r_bind hf (fun u3 hu3 hf => ?_)
          refine cRiS (rest := [.int v5]) ⟨hx, hb, hml, hown, hts⟩ hK (tX4_isUpBy l G h_a0_this h_a0_hookOfEnd h_a0_holesOfCard c_a0_hooks c_a0_ends c_a0_cards c_a0_limit c_a0_hookOfEnd c_a0_holesOfCard v6 v3 v4 u3 hu3) gX4_howManySayUp_X4_isUpBy rfl hdX4_isUpBy rfl rfl rfl ⟨Nat.le_of_ble_eq_true rfl, Nat.le_of_ble_eq_true rfl⟩ hP [0, 1, 2] rfl hl.1 (Nat.le_of_ble_eq_true rfl) rfl dX4_howManySayUp_47 ⟨Nat.zero_le _, Nat.zero_le _⟩ ?_
          refine lv_if_eq (tgt := 57) hx hb dX4_howManySayUp_50 (by decide) (fun c9 => ?_) (fun c9 => ?_)
          · have hf := c_t hf c9
            exact hJ57 v5 hf _ (lv_sub hl [1, 2, 3, 4, 6] rfl)
          · have hf := c_f hf c9
            refine lv_iconst (v := (1 : Int32)) hx hb dX4_howManySayUp_53 (by decide) ?_
            refine lv_goto (tgt := 58) hx hb dX4_howManySayUp_54 (by decide) ?_
            exact hJ58 (1 : Int32) v5 hf _ (lv_sub hl [1, 2, 3, 4, 6] rfl)
      refine lv_if_eq (tgt := 31) hx hb dX4_howManySayUp_24 (by decide) (fun c9 => ?_) (fun c9 => ?_)
      · have hf := c_t hf c9
        refine lv_iconst (v := (0 : Int32)) hx hb dX4_howManySayUp_31 (by decide) ?_
        exact hJ32 (0 : Int32) hf _ (lv_sub hl [0, 1, 2, 3, 4, 5] rfl)
      · have hf := c_f hf c9
        refine lv_iconst (v := (1 : Int32)) hx hb dX4_howManySayUp_27 (by decide) ?_
        refine lv_goto (tgt := 32) hx hb dX4_howManySayUp_28 (by decide) ?_
        exact hJ32 (1 : Int32) hf _ (lv_sub hl [0, 1, 2, 3, 4, 5] rfl)
set_option maxHeartbeats 4000000 in
set_option maxRecDepth 100000 in
theorem kX4_howManySayUp (h_a0_this : Nat) (h_a0_hookOfEnd : Nat) (h_a0_holesOfCard : Nat) (c_a0_hooks : Int32) (c_a0_ends : Int32) (c_a0_cards : Int32) (c_a0_limit : Int32) (c_a0_hookOfEnd : Nat → Int32) (c_a0_holesOfCard : Nat → Int32) (v1 : Int64) (v3 : Int32) (v4 : Int32) (C : Cx cX4_howManySayUp (some .int) 8 RX4 wsX4_howManySayUp G p s m args meth c) (hP : va_P G.1 CL [(h_a0_this, .inr (2, [.int c_a0_hooks, .int c_a0_ends, .int c_a0_cards, .int c_a0_limit, .ref h_a0_hookOfEnd, .ref h_a0_holesOfCard])), (h_a0_hookOfEnd, .inl (G.2 0, 12, .inl c_a0_hookOfEnd)), (h_a0_holesOfCard, .inl (G.2 0, 8, .inl c_a0_holesOfCard))] s.heap) {res : Int32} (kr : ∀ (pc : Nat) (ls : Array Slot), decode cX4_howManySayUp pc = .ok (.ireturn, 1) → W p l e rmX4_howManySayUp s m args below meth c s.heap [] 0 0 Q (F0 m pc ls [.int res])) (hf : fX4_howManySayUp c_a0_hooks c_a0_ends c_a0_cards c_a0_hookOfEnd c_a0_holesOfCard v1 v3 v4 = some res) {ls : Array Slot} (hl : lv_has ls 8 [(0, .ref h_a0_this), (1, .long v1), (3, .int v3), (4, .int v4)]) : W p l e rmX4_howManySayUp s m args below meth c s.heap [] 0 0 Q (F0 m 0 ls []) := by
  obtain ⟨hx, hb, hr, hlk, hml, hown, hts, hK⟩ := id C
  rw [fX4_howManySayUp] at hf
  refine lv_iconst (v := (0 : Int32)) hx hb dX4_howManySayUp_0 (by decide) ?_
  refine lv_istore (lv' := [(5, .int (0 : Int32)), (0, .ref h_a0_this), (1, .long v1), (3, .int v3), (4, .int v4)]) hx hb dX4_howManySayUp_1 hl (by decide) rfl (fun ls hl => ?_)
  refine lv_iconst (v := (-1 : Int32)) hx hb dX4_howManySayUp_3 (by decide) ?_
  refine lv_istore (lv' := [(6, .int (-1 : Int32)), (5, .int (0 : Int32)), (0, .ref h_a0_this), (1, .long v1), (3, .int v3), (4, .int v4)]) hx hb dX4_howManySayUp_4 hl (by decide) rfl (fun ls hl => ?_)
  refine kX4_howManySayUp_L6 h_a0_this h_a0_hookOfEnd h_a0_holesOfCard c_a0_hooks c_a0_ends c_a0_cards c_a0_limit c_a0_hookOfEnd c_a0_holesOfCard v1 v3 v4 C hP kr ?_ FU (0 : Int32) (-1 : Int32) hf _ (lv_sub hl [2, 3, 4, 5, 1, 0] rfl)
  intro v5_x4 hf ls hl
  refine lv_iload hx hb dX4_howManySayUp_67 (lv_at hl 0 rfl) ?_
  obtain rfl := Option.some.inj hf
  exact kr _ _ dX4_howManySayUp_69
end SX4_howManySayUp
set_option maxHeartbeats 4000000 in
set_option maxRecDepth 100000 in
theorem tX4_howManySayUp (l : Launch) (G : GG) (h_a0_this : Nat) (h_a0_hookOfEnd : Nat) (h_a0_holesOfCard : Nat) (c_a0_hooks : Int32) (c_a0_ends : Int32) (c_a0_cards : Int32) (c_a0_limit : Int32) (c_a0_hookOfEnd : Nat → Int32) (c_a0_holesOfCard : Nat → Int32) (v1 : Int64) (v3 : Int32) (v4 : Int32) (res : Int32) (hf : fX4_howManySayUp c_a0_hooks c_a0_ends c_a0_cards c_a0_hookOfEnd c_a0_holesOfCard v1 v3 v4 = some res) : MRi l yX4_howManySayUp wsX4_howManySayUp rmX4_howManySayUp G [.ref h_a0_this, .long v1, .int v3, .int v4] [(h_a0_this, .inr (2, [.int c_a0_hooks, .int c_a0_ends, .int c_a0_cards, .int c_a0_limit, .ref h_a0_hookOfEnd, .ref h_a0_holesOfCard])), (h_a0_hookOfEnd, .inl (G.2 0, 12, .inl c_a0_hookOfEnd)), (h_a0_holesOfCard, .inl (G.2 0, 8, .inl c_a0_holesOfCard))] (res) := MRi.of (plainFor_of_name (by decide +kernel)) rfl (Nat.le_of_ble_eq_true rfl) (fun p e s m below meth c C hP ls hl => kX4_howManySayUp h_a0_this h_a0_hookOfEnd h_a0_holesOfCard c_a0_hooks c_a0_ends c_a0_cards c_a0_limit c_a0_hookOfEnd c_a0_holesOfCard v1 v3 v4 C hP (fun pc ls d => rRi C d) hf hl)
def fX4_whereToLook_L46 (k105 : Int32 → Int32 → Option (Int32)) (c_a1_hooks : Int32) (c_a1_ends : Int32) (c_a1_cards : Int32) (c_a1_hookOfEnd : Nat → Int32) (c_a1_holesOfCard : Nat → Int32) (v2 : Int64) (v4 : Int32) (v7 : Int32) : Nat → Int32 → Int32 → Int32 → Option (Int32)
  | 0, _, _, _ => none
  | n + 1, v5, v6, v8 => if c_a1_ends ≤ v8 then k105 v5 v6 else (fX4_howManySayUp c_a1_hooks c_a1_ends c_a1_cards c_a1_hookOfEnd c_a1_holesOfCard v2 v7 v8).bind (fun u3 => jn (fun (j99_v5 : Int32) (j99_v6 : Int32) => fX4_whereToLook_L46 k105 c_a1_hooks c_a1_ends c_a1_cards c_a1_hookOfEnd c_a1_holesOfCard v2 v4 v7 n j99_v5 j99_v6 (v8 + (1 : Int32))) (fun J99 => if v6 ≤ (if u3 < (v4 - u3) then (v4 - u3) else u3) then J99 v5 v6 else J99 (((12 : Int32) * v7) + v8) (if u3 < (v4 - u3) then (v4 - u3) else u3)))
def fX4_whereToLook_L34 (k111 : Int32 → Option (Int32)) (c_a1_hooks : Int32) (c_a1_ends : Int32) (c_a1_cards : Int32) (c_a1_hookOfEnd : Nat → Int32) (c_a1_holesOfCard : Nat → Int32) (v2 : Int64) (v4 : Int32) : Nat → Int32 → Int32 → Int32 → Option (Int32)
  | 0, _, _, _ => none
  | n + 1, v5, v6, v7 => if c_a1_cards ≤ v7 then k111 v5 else (fX4_whereToLook_L46 (fun (v5_x4 : Int32) (v6_x4 : Int32) => fX4_whereToLook_L34 k111 c_a1_hooks c_a1_ends c_a1_cards c_a1_hookOfEnd c_a1_holesOfCard v2 v4 n v5_x4 v6_x4 (v7 + (1 : Int32))) c_a1_hooks c_a1_ends c_a1_cards c_a1_hookOfEnd c_a1_holesOfCard v2 v4 v7 FU v5 v6 (0 : Int32))
def fX4_whereToLook (c_seen : Int32) (c_rows : Nat → Int32) (c_ends : Nat → Int32) (c_wasUp : Nat → Int32) (c_a1_hooks : Int32) (c_a1_ends : Int32) (c_a1_cards : Int32) (c_a1_hookOfEnd : Nat → Int32) (c_a1_holesOfCard : Nat → Int32)  : Option (Int32) := (fX4_suspectBits c_seen c_rows c_ends c_wasUp c_a1_hooks c_a1_ends c_a1_cards c_a1_hookOfEnd c_a1_holesOfCard).bind (fun u1 => (fJ13_bitCount_95d88 u1).bind (fun u2 => if (1 : Int32) < u2 then (fX4_whereToLook_L34 (fun (v5_x5 : Int32) => some (v5_x5)) c_a1_hooks c_a1_ends c_a1_cards c_a1_hookOfEnd c_a1_holesOfCard u1 u2 FU (-9 : Int32) (u2 + (1 : Int32)) (0 : Int32)) else some ((-9 : Int32))))
theorem iX4_whereToLook_2 : ∀ w ∈ wsX20, w ∈ wsX4_whereToLook := fun w h => List.mem_cons_of_mem _ (List.mem_append_left _ (List.mem_append_right _ (h)))
theorem iX4_whereToLook_4 : ∀ w ∈ wsX40, w ∈ wsX4_whereToLook := fun w h => List.mem_cons_of_mem _ (List.mem_append_right _ (h))
theorem hdX4_whereToLook : yX4_whereToLook.cls = RX4 ∧ yX4_whereToLook.cls ≠ "java/lang/invoke/MethodHandle" ∧ yX4_whereToLook.cls ≠ "java/lang/invoke/VarHandle" ∧ (parseMethodDescriptor yX4_whereToLook.desc).map (fun d => d.parameters.length) = some 1 := by decide +kernel
abbrev rmX4_whereToLook : Room := { frames := 5, cells := 0, slots := 0, locals := 114 }
section SX4_whereToLook
variable {p : Program} {l : Launch} {e : Env} {s : State} {m : MethodId} {args : Array Value} {below : List Frame} {meth : Method} {c : Code} {Q : State → Prop} {G : GG}
set_option maxHeartbeats 4000000 in
set_option maxRecDepth 100000 in
theorem kX4_whereToLook_L46 (h_this : Nat) (h_a1_this : Nat) (h_rows : Nat) (h_ends : Nat) (h_wasUp : Nat) (h_a1_hookOfEnd : Nat) (h_a1_holesOfCard : Nat) (c_seen : Int32) (c_rows : Nat → Int32) (c_ends : Nat → Int32) (c_wasUp : Nat → Int32) (c_a1_hooks : Int32) (c_a1_ends : Int32) (c_a1_cards : Int32) (c_a1_limit : Int32) (c_a1_hookOfEnd : Nat → Int32) (c_a1_holesOfCard : Nat → Int32) (v2 : Int64) (v4 : Int32) (v7 : Int32) (C : Cx cX4_whereToLook (some .int) 11 RX4 wsX4_whereToLook G p s m args meth c) (hP : va_P G.1 CL [(h_this, .inr (4, [.int c_seen, .ref h_rows, .ref h_ends, .ref h_wasUp])), (h_rows, .inl (G.2 0, 8, .inl c_rows)), (h_ends, .inl (G.2 0, 8, .inl c_ends)), (h_wasUp, .inl (G.2 2, 8, .inl c_wasUp)), (h_a1_this, .inr (2, [.int c_a1_hooks, .int c_a1_ends, .int c_a1_cards, .int c_a1_limit, .ref h_a1_hookOfEnd, .ref h_a1_holesOfCard])), (h_a1_hookOfEnd, .inl (G.2 0, 12, .inl c_a1_hookOfEnd)), (h_a1_holesOfCard, .inl (G.2 0, 8, .inl c_a1_holesOfCard))] s.heap) {res : Int32} (kr : ∀ (pc : Nat) (ls : Array Slot), decode cX4_whereToLook pc = .ok (.ireturn, 1) → W p l e rmX4_whereToLook s m args below meth c s.heap [] 0 0 Q (F0 m pc ls [.int res])) {k105 : Int32 → Int32 → Option (Int32)} (hk105 : ∀ (v5 : Int32) (v6 : Int32) , k105 v5 v6 = some res → ∀ (ls : Array Slot), lv_has ls 11 [(1, .ref h_a1_this), (2, .long v2), (4, .int v4), (5, .int v5), (6, .int v6), (7, .int v7)] → W p l e rmX4_whereToLook s m args below meth c s.heap [] 0 0 Q (F0 m 105 ls [])) : ∀ (n : Nat) (v5 : Int32) (v6 : Int32) (v8 : Int32), fX4_whereToLook_L46 k105 c_a1_hooks c_a1_ends c_a1_cards c_a1_hookOfEnd c_a1_holesOfCard v2 v4 v7 n v5 v6 v8 = some res → ∀ (ls : Array Slot), lv_has ls 11 [(1, .ref h_a1_this), (2, .long v2), (4, .int v4), (5, .int v5), (6, .int v6), (7, .int v7), (8, .int v8)] → W p l e rmX4_whereToLook s m args below meth c s.heap [] 0 0 Q (F0 m 46 ls []) := by
  obtain ⟨hx, hb, hr, hlk, hml, hown, hts, hK⟩ := id C
  intro n
  induction n with
  | zero =>
    intro v5 v6 v8 hf
    cases hf
  | succ n ih =>
    intro v5 v6 v8 hf ls hl
    rw [fX4_whereToLook_L46] at hf
    refine lv_iload hx hb dX4_whereToLook_46 (lv_at hl 6 rfl) ?_
    refine lv_aload_n hx hb dX4_whereToLook_48 rfl (lv_at hl 0 rfl) ?_
    refine va_get (D := G.1) (cl := CL) (ci := 2) (C := RX2) (T := TX2) (N := 6) hx hb hts iX4_whereToLook_2 hown hK hP 4 rfl rfl 1 (by decide) (hts (.fieldLink RX4 49 "LoomCards$Loom" "ends" "I") (List.mem_of_getElem? (i := 2) rfl)) (fun _ h9 => h9) rfl dX4_whereToLook_49 ?_
    refine lv_icmp_ge (tgt := 105) hx hb dX4_whereToLook_52 (by decide) (fun c9 => ?_) (fun c9 => ?_)
    · have hf := c_t hf c9
      exact hk105 v5 v6 hf _ (lv_sub hl [0, 1, 2, 3, 4, 5] rfl)
    · have hf := c_f hf c9
      refine lv_aload_n hx hb dX4_whereToLook_55 rfl (lv_at hl 0 rfl) ?_
      refine lv_lload_n hx hb dX4_whereToLook_56 rfl (lv_at hl 1 rfl) ?_
      refine lv_iload hx hb dX4_whereToLook_57 (lv_at hl 5 rfl) ?_
      refine lv_iload hx hb dX4_whereToLook_59 (lv_at hl 6 rfl) ?_
      refine r_bind hf (fun u3 hu3 hf => ?_)
      refine cRiS (rest := []) ⟨hx, hb, hml, hown, hts⟩ hK (tX4_howManySayUp l G h_a1_this h_a1_hookOfEnd h_a1_holesOfCard c_a1_hooks c_a1_ends c_a1_cards c_a1_limit c_a1_hookOfEnd c_a1_holesOfCard v2 v7 v8 u3 hu3) gX4_whereToLook_X4_howManySayUp rfl hdX4_howManySayUp rfl rfl rfl ⟨Nat.le_of_ble_eq_true rfl, Nat.le_of_ble_eq_true rfl⟩ hP [4, 5, 6] rfl hl.1 (Nat.le_of_ble_eq_true rfl) rfl dX4_whereToLook_61 ⟨Nat.zero_le _, Nat.zero_le _⟩ ?_
      refine lv_istore (lv' := [(9, .int u3), (1, .ref h_a1_this), (2, .long v2), (4, .int v4), (5, .int v5), (6, .int v6), (7, .int v7), (8, .int v8)]) hx hb dX4_whereToLook_64 hl (by decide) rfl (fun ls hl => ?_)
      refine lv_iload hx hb dX4_whereToLook_66 (lv_at hl 0 rfl) ?_
      refine lv_iload hx hb dX4_whereToLook_68 (lv_at hl 3 rfl) ?_
      refine lv_iload hx hb dX4_whereToLook_70 (lv_at hl 0 rfl) ?_
      refine lv_isub hx hb dX4_whereToLook_72 ?_
      refine va_mmax hx hb (hml.trans hl.1.symm) hown (hts (.methodLink RX4 55 Lib.Math.max.name) (List.mem_of_getElem? (i := 3) rfl)) (hts (.static Lib.Math.max.name) (List.mem_of_getElem? (i := 4) rfl)) (hts (.initialized "java/lang/Math") (List.mem_of_getElem? (i := 5) rfl)) (hts (.code Lib.Math.max.name Lib.Math.max.code 2 (some .int)) (List.mem_of_getElem? (i := 6) rfl)) (Nat.le_of_ble_eq_true rfl) (Nat.le_of_ble_eq_true rfl) (Nat.zero_le _) (Nat.zero_le _) dX4_whereToLook_73 ?_
      refine lv_istore (lv' := [(10, .int (if u3 < (v4 - u3) then (v4 - u3) else u3)), (9, .int u3), (1, .ref h_a1_this), (2, .long v2), (4, .int v4), (5, .int v5), (6, .int v6), (7, .int v7), (8, .int v8)]) hx hb dX4_whereToLook_76 hl (by decide) rfl (fun ls hl => ?_)
      refine lv_iload hx hb dX4_whereToLook_78 (lv_at hl 0 rfl) ?_
      refine lv_iload hx hb dX4_whereToLook_80 (lv_at hl 6 rfl) ?_
      refine r_jn2 hf (fun J99 eJ99 hf => ?_)
      have hJ99 : ∀ (j99_v5 : Int32) (j99_v6 : Int32) , J99 j99_v5 j99_v6 = some res → ∀ (ls : Array Slot), lv_has ls 11 [(1, .ref h_a1_this), (2, .long v2), (4, .int v4), (5, .int j99_v5), (6, .int j99_v6), (7, .int v7), (8, .int v8)] → W p l e rmX4_whereToLook s m args below meth c s.heap [] 0 0 Q (F0 m 99 ls []) := by
        intro j99_v5 j99_v6 hf ls hl
        rw [eJ99] at hf
        refine lv_iinc (v := (v8 + (1 : Int32))) (lv' := [(8, .int (v8 + (1 : Int32))), (1, .ref h_a1_this), (2, .long v2), (4, .int v4), (5, .int j99_v5), (6, .int j99_v6), (7, .int v7)]) hx hb dX4_whereToLook_99 hl (k := 6) rfl rfl (by decide) rfl (fun ls hl => ?_)
        refine lv_goto (tgt := 46) hx hb dX4_whereToLook_102 (by decide) ?_
        exact ih j99_v5 j99_v6 (v8 + (1 : Int32)) hf _ (lv_sub hl [1, 2, 3, 4, 5, 6, 0] rfl)
      refine lv_icmp_ge (tgt := 99) hx hb dX4_whereToLook_82 (by decide) (fun c9 => ?_) (fun c9 => ?_)
      · have hf := c_t hf c9
        exact hJ99 v5 v6 hf _ (lv_sub hl [2, 3, 4, 5, 6, 7, 8] rfl)
      · have hf := c_f hf c9
        refine lv_iload hx hb dX4_whereToLook_85 (lv_at hl 0 rfl) ?_
        refine lv_istore (lv' := [(6, .int (if u3 < (v4 - u3) then (v4 - u3) else u3)), (10, .int (if u3 < (v4 - u3) then (v4 - u3) else u3)), (9, .int u3), (1, .ref h_a1_this), (2, .long v2), (4, .int v4), (5, .int v5), (7, .int v7), (8, .int v8)]) hx hb dX4_whereToLook_87 hl (by decide) rfl (fun ls hl => ?_)
        refine lv_bipush (v := (12 : Int32)) hx hb dX4_whereToLook_89 (by decide) ?_
        refine lv_iload hx hb dX4_whereToLook_91 (lv_at hl 7 rfl) ?_
        refine lv_imul hx hb dX4_whereToLook_93 ?_
        refine lv_iload hx hb dX4_whereToLook_94 (lv_at hl 8 rfl) ?_
        refine lv_iadd hx hb dX4_whereToLook_96 ?_
        refine lv_istore (lv' := [(5, .int (((12 : Int32) * v7) + v8)), (6, .int (if u3 < (v4 - u3) then (v4 - u3) else u3)), (10, .int (if u3 < (v4 - u3) then (v4 - u3) else u3)), (9, .int u3), (1, .ref h_a1_this), (2, .long v2), (4, .int v4), (7, .int v7), (8, .int v8)]) hx hb dX4_whereToLook_97 hl (by decide) rfl (fun ls hl => ?_)
        exact hJ99 (((12 : Int32) * v7) + v8) (if u3 < (v4 - u3) then (v4 - u3) else u3) hf _ (lv_sub hl [4, 5, 6, 0, 1, 7, 8] rfl)
set_option maxHeartbeats 4000000 in
set_option maxRecDepth 100000 in
theorem kX4_whereToLook_L34 (h_this : Nat) (h_a1_this : Nat) (h_rows : Nat) (h_ends : Nat) (h_wasUp : Nat) (h_a1_hookOfEnd : Nat) (h_a1_holesOfCard : Nat) (c_seen : Int32) (c_rows : Nat → Int32) (c_ends : Nat → Int32) (c_wasUp : Nat → Int32) (c_a1_hooks : Int32) (c_a1_ends : Int32) (c_a1_cards : Int32) (c_a1_limit : Int32) (c_a1_hookOfEnd : Nat → Int32) (c_a1_holesOfCard : Nat → Int32) (v2 : Int64) (v4 : Int32) (C : Cx cX4_whereToLook (some .int) 11 RX4 wsX4_whereToLook G p s m args meth c) (hP : va_P G.1 CL [(h_this, .inr (4, [.int c_seen, .ref h_rows, .ref h_ends, .ref h_wasUp])), (h_rows, .inl (G.2 0, 8, .inl c_rows)), (h_ends, .inl (G.2 0, 8, .inl c_ends)), (h_wasUp, .inl (G.2 2, 8, .inl c_wasUp)), (h_a1_this, .inr (2, [.int c_a1_hooks, .int c_a1_ends, .int c_a1_cards, .int c_a1_limit, .ref h_a1_hookOfEnd, .ref h_a1_holesOfCard])), (h_a1_hookOfEnd, .inl (G.2 0, 12, .inl c_a1_hookOfEnd)), (h_a1_holesOfCard, .inl (G.2 0, 8, .inl c_a1_holesOfCard))] s.heap) {res : Int32} (kr : ∀ (pc : Nat) (ls : Array Slot), decode cX4_whereToLook pc = .ok (.ireturn, 1) → W p l e rmX4_whereToLook s m args below meth c s.heap [] 0 0 Q (F0 m pc ls [.int res])) {k111 : Int32 → Option (Int32)} (hk111 : ∀ (v5 : Int32) , k111 v5 = some res → ∀ (ls : Array Slot), lv_has ls 11 [(5, .int v5)] → W p l e rmX4_whereToLook s m args below meth c s.heap [] 0 0 Q (F0 m 111 ls [])) : ∀ (n : Nat) (v5 : Int32) (v6 : Int32) (v7 : Int32), fX4_whereToLook_L34 k111 c_a1_hooks c_a1_ends c_a1_cards c_a1_hookOfEnd c_a1_holesOfCard v2 v4 n v5 v6 v7 = some res → ∀ (ls : Array Slot), lv_has ls 11 [(1, .ref h_a1_this), (2, .long v2), (4, .int v4), (5, .int v5), (6, .int v6), (7, .int v7)] → W p l e rmX4_whereToLook s m args below meth c s.heap [] 0 0 Q (F0 m 34 ls []) := by
  obtain ⟨hx, hb, hr, hlk, hml, hown, hts, hK⟩ := id C
  intro n
  induction n with
  | zero =>
    intro v5 v6 v7 hf
    cases hf
  | succ n ih =>
    intro v5 v6 v7 hf ls hl
    rw [fX4_whereToLook_L34] at hf
    refine lv_iload hx hb dX4_whereToLook_34 (lv_at hl 5 rfl) ?_
    refine lv_aload_n hx hb dX4_whereToLook_36 rfl (lv_at hl 0 rfl) ?_
    refine va_get (D := G.1) (cl := CL) (ci := 2) (C := RX2) (T := TX2) (N := 6) hx hb hts iX4_whereToLook_2 hown hK hP 4 rfl rfl 2 (by decide) (hts (.fieldLink RX4 46 "LoomCards$Loom" "cards" "I") (List.mem_of_getElem? (i := 1) rfl)) (fun _ h9 => h9) rfl dX4_whereToLook_37 ?_
    refine lv_icmp_ge (tgt := 111) hx hb dX4_whereToLook_40 (by decide) (fun c9 => ?_) (fun c9 => ?_)
    · have hf := c_t hf c9
      exact hk111 v5 hf _ (lv_sub hl [3] rfl)
    · have hf := c_f hf c9
      refine lv_iconst (v := (0 : Int32)) hx hb dX4_whereToLook_43 (by decide) ?_
      refine lv_istore (lv' := [(8, .int (0 : Int32)), (1, .ref h_a1_this), (2, .long v2), (4, .int v4), (5, .int v5), (6, .int v6), (7, .int v7)]) hx hb dX4_whereToLook_44 hl (by decide) rfl (fun ls hl => ?_)
      refine kX4_whereToLook_L46 h_this h_a1_this h_rows h_ends h_wasUp h_a1_hookOfEnd h_a1_holesOfCard c_seen c_rows c_ends c_wasUp c_a1_hooks c_a1_ends c_a1_cards c_a1_limit c_a1_hookOfEnd c_a1_holesOfCard v2 v4 v7 C hP kr ?_ FU v5 v6 (0 : Int32) hf _ (lv_sub hl [1, 2, 3, 4, 5, 6, 0] rfl)
      intro v5_x4 v6_x4 hf ls hl
      refine lv_iinc (v := (v7 + (1 : Int32))) (lv' := [(7, .int (v7 + (1 : Int32))), (1, .ref h_a1_this), (2, .long v2), (4, .int v4), (5, .int v5_x4), (6, .int v6_x4)]) hx hb dX4_whereToLook_105 hl (k := 5) rfl rfl (by decide) rfl (fun ls hl => ?_)
      refine lv_goto (tgt := 34) hx hb dX4_whereToLook_108 (by decide) ?_
      exact ih v5_x4 v6_x4 (v7 + (1 : Int32)) hf _ (lv_sub hl [1, 2, 3, 4, 5, 0] rfl)
set_option maxHeartbeats 4000000 in
set_option maxRecDepth 100000 in
theorem kX4_whereToLook (h_this : Nat) (h_a1_this : Nat) (h_rows : Nat) (h_ends : Nat) (h_wasUp : Nat) (h_a1_hookOfEnd : Nat) (h_a1_holesOfCard : Nat) (c_seen : Int32) (c_rows : Nat → Int32) (c_ends : Nat → Int32) (c_wasUp : Nat → Int32) (c_a1_hooks : Int32) (c_a1_ends : Int32) (c_a1_cards : Int32) (c_a1_limit : Int32) (c_a1_hookOfEnd : Nat → Int32) (c_a1_holesOfCard : Nat → Int32) (C : Cx cX4_whereToLook (some .int) 11 RX4 wsX4_whereToLook G p s m args meth c) (hP : va_P G.1 CL [(h_this, .inr (4, [.int c_seen, .ref h_rows, .ref h_ends, .ref h_wasUp])), (h_rows, .inl (G.2 0, 8, .inl c_rows)), (h_ends, .inl (G.2 0, 8, .inl c_ends)), (h_wasUp, .inl (G.2 2, 8, .inl c_wasUp)), (h_a1_this, .inr (2, [.int c_a1_hooks, .int c_a1_ends, .int c_a1_cards, .int c_a1_limit, .ref h_a1_hookOfEnd, .ref h_a1_holesOfCard])), (h_a1_hookOfEnd, .inl (G.2 0, 12, .inl c_a1_hookOfEnd)), (h_a1_holesOfCard, .inl (G.2 0, 8, .inl c_a1_holesOfCard))] s.heap) {res : Int32} (kr : ∀ (pc : Nat) (ls : Array Slot), decode cX4_whereToLook pc = .ok (.ireturn, 1) → W p l e rmX4_whereToLook s m args below meth c s.heap [] 0 0 Q (F0 m pc ls [.int res])) (hf : fX4_whereToLook c_seen c_rows c_ends c_wasUp c_a1_hooks c_a1_ends c_a1_cards c_a1_hookOfEnd c_a1_holesOfCard = some res) {ls : Array Slot} (hl : lv_has ls 11 [(0, .ref h_this), (1, .ref h_a1_this)]) : W p l e rmX4_whereToLook s m args below meth c s.heap [] 0 0 Q (F0 m 0 ls []) := by
  obtain ⟨hx, hb, hr, hlk, hml, hown, hts, hK⟩ := id C
  rw [fX4_whereToLook] at hf
  refine lv_aload_n hx hb dX4_whereToLook_0 rfl (lv_at hl 0 rfl) ?_
  refine lv_aload_n hx hb dX4_whereToLook_1 rfl (lv_at hl 1 rfl) ?_
  refine r_bind hf (fun u1 hu1 hf => ?_)
  refine cRlV (ci := 4) (rest := []) ⟨hx, hb, hml, hown, hts⟩ hK (tX4_suspectBits l G h_this h_a1_this h_rows h_ends h_wasUp h_a1_hookOfEnd h_a1_holesOfCard c_seen c_rows c_ends c_wasUp c_a1_hooks c_a1_ends c_a1_cards c_a1_limit c_a1_hookOfEnd c_a1_holesOfCard u1 hu1) gX4_whereToLook_X4_suspectBits rfl hdX4_suspectBits rfl rfl rfl ⟨Nat.le_of_ble_eq_true rfl, Nat.le_of_ble_eq_true rfl⟩ hP [0, 1, 2, 3, 4, 5, 6] rfl 0 rfl rfl rfl hl.1 (Nat.le_of_ble_eq_true rfl) rfl dX4_whereToLook_2 ⟨Nat.zero_le _, Nat.zero_le _⟩ ?_
  refine lv_lstore_n (lv' := [(2, .long u1), (0, .ref h_this), (1, .ref h_a1_this)]) hx hb dX4_whereToLook_5 rfl hl (by decide) rfl (fun ls hl => ?_)
  refine lv_lload_n hx hb dX4_whereToLook_6 rfl (lv_at hl 0 rfl) ?_
  refine r_bind hf (fun u2 hu2 hf => ?_)
  refine cRiS (rest := []) ⟨hx, hb, hml, hown, hts⟩ hK (tJ13_bitCount_95d88 l G u1 u2 hu2) gX4_whereToLook_J13_bitCount_95d88 rfl hdJ13_bitCount_95d88 rfl rfl rfl ⟨Nat.le_of_ble_eq_true rfl, Nat.le_of_ble_eq_true rfl⟩ hP [] rfl hl.1 (Nat.le_of_ble_eq_true rfl) rfl dX4_whereToLook_7 ⟨Nat.zero_le _, Nat.zero_le _⟩ ?_
  refine lv_istore (lv' := [(4, .int u2), (2, .long u1), (0, .ref h_this), (1, .ref h_a1_this)]) hx hb dX4_whereToLook_10 hl (by decide) rfl (fun ls hl => ?_)
  refine lv_iload hx hb dX4_whereToLook_12 (lv_at hl 0 rfl) ?_
  refine lv_iconst (v := (1 : Int32)) hx hb dX4_whereToLook_14 (by decide) ?_
  refine lv_icmp_gt (tgt := 21) hx hb dX4_whereToLook_15 (by decide) (fun c9 => ?_) (fun c9 => ?_)
  · have hf := c_t hf c9
    refine lv_bipush (v := (-9 : Int32)) hx hb dX4_whereToLook_21 (by decide) ?_
    refine lv_istore (lv' := [(5, .int (-9 : Int32)), (4, .int u2), (2, .long u1), (0, .ref h_this), (1, .ref h_a1_this)]) hx hb dX4_whereToLook_23 hl (by decide) rfl (fun ls hl => ?_)
    refine lv_iload hx hb dX4_whereToLook_25 (lv_at hl 1 rfl) ?_
    refine lv_iconst (v := (1 : Int32)) hx hb dX4_whereToLook_27 (by decide) ?_
    refine lv_iadd hx hb dX4_whereToLook_28 ?_
    refine lv_istore (lv' := [(6, .int (u2 + (1 : Int32))), (5, .int (-9 : Int32)), (4, .int u2), (2, .long u1), (0, .ref h_this), (1, .ref h_a1_this)]) hx hb dX4_whereToLook_29 hl (by decide) rfl (fun ls hl => ?_)
    refine lv_iconst (v := (0 : Int32)) hx hb dX4_whereToLook_31 (by decide) ?_
    refine lv_istore (lv' := [(7, .int (0 : Int32)), (6, .int (u2 + (1 : Int32))), (5, .int (-9 : Int32)), (4, .int u2), (2, .long u1), (0, .ref h_this), (1, .ref h_a1_this)]) hx hb dX4_whereToLook_32 hl (by decide) rfl (fun ls hl => ?_)
    refine kX4_whereToLook_L34 h_this h_a1_this h_rows h_ends h_wasUp h_a1_hookOfEnd h_a1_holesOfCard c_seen c_rows c_ends c_wasUp c_a1_hooks c_a1_ends c_a1_cards c_a1_limit c_a1_hookOfEnd c_a1_holesOfCard u1 u2 C hP kr ?_ FU (-9 : Int32) (u2 + (1 : Int32)) (0 : Int32) hf _ (lv_sub hl [6, 4, 3, 2, 1, 0] rfl)
    intro v5_x5 hf ls hl
    refine lv_iload hx hb dX4_whereToLook_111 (lv_at hl 0 rfl) ?_
    obtain rfl := Option.some.inj hf
    exact kr _ _ dX4_whereToLook_113
  · have hf := c_f hf c9
    refine lv_bipush (v := (-9 : Int32)) hx hb dX4_whereToLook_18 (by decide) ?_
    obtain rfl := Option.some.inj hf
    exact kr _ _ dX4_whereToLook_20
end SX4_whereToLook
set_option maxHeartbeats 4000000 in
set_option maxRecDepth 100000 in
theorem tX4_whereToLook (l : Launch) (G : GG) (h_this : Nat) (h_a1_this : Nat) (h_rows : Nat) (h_ends : Nat) (h_wasUp : Nat) (h_a1_hookOfEnd : Nat) (h_a1_holesOfCard : Nat) (c_seen : Int32) (c_rows : Nat → Int32) (c_ends : Nat → Int32) (c_wasUp : Nat → Int32) (c_a1_hooks : Int32) (c_a1_ends : Int32) (c_a1_cards : Int32) (c_a1_limit : Int32) (c_a1_hookOfEnd : Nat → Int32) (c_a1_holesOfCard : Nat → Int32) (res : Int32) (hf : fX4_whereToLook c_seen c_rows c_ends c_wasUp c_a1_hooks c_a1_ends c_a1_cards c_a1_hookOfEnd c_a1_holesOfCard = some res) : MRi l yX4_whereToLook wsX4_whereToLook rmX4_whereToLook G [.ref h_this, .ref h_a1_this] [(h_this, .inr (4, [.int c_seen, .ref h_rows, .ref h_ends, .ref h_wasUp])), (h_rows, .inl (G.2 0, 8, .inl c_rows)), (h_ends, .inl (G.2 0, 8, .inl c_ends)), (h_wasUp, .inl (G.2 2, 8, .inl c_wasUp)), (h_a1_this, .inr (2, [.int c_a1_hooks, .int c_a1_ends, .int c_a1_cards, .int c_a1_limit, .ref h_a1_hookOfEnd, .ref h_a1_holesOfCard])), (h_a1_hookOfEnd, .inl (G.2 0, 12, .inl c_a1_hookOfEnd)), (h_a1_holesOfCard, .inl (G.2 0, 8, .inl c_a1_holesOfCard))] (res) := MRi.of (plainFor_of_name (by decide +kernel)) rfl (Nat.le_of_ble_eq_true rfl) (fun p e s m below meth c C hP ls hl => kX4_whereToLook h_this h_a1_this h_rows h_ends h_wasUp h_a1_hookOfEnd h_a1_holesOfCard c_seen c_rows c_ends c_wasUp c_a1_hooks c_a1_ends c_a1_cards c_a1_limit c_a1_hookOfEnd c_a1_holesOfCard C hP (fun pc ls d => rRi C d) hf hl)

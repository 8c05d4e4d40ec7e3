def fX2_become (c_hooks : Int32) (c_ends : Int32) (c_cards : Int32) (c_limit : Int32) (c_hookOfEnd : Nat → Int32) (c_holesOfCard : Nat → Int32) (c_a1_hooks : Int32) (c_a1_ends : Int32) (c_a1_cards : Int32) (c_a1_limit : Int32) (c_a1_hookOfEnd : Nat → Int32) (c_a1_holesOfCard : Nat → Int32)  : Option (Int32 × Int32 × Int32 × Int32 × (Nat → Int32) × (Nat → Int32)) := gd (cpo (0 : Int32) (0 : Int32) (12 : Int32) 12 12) (gd (cpo (0 : Int32) (0 : Int32) (8 : Int32) 8 8) (some (c_a1_hooks, c_a1_ends, c_a1_cards, c_a1_limit, (va_cpy c_a1_hookOfEnd c_hookOfEnd (0 : Int32).toNatClampNeg (0 : Int32).toNatClampNeg (12 : Int32).toNatClampNeg), (va_cpy c_a1_holesOfCard c_holesOfCard (0 : Int32).toNatClampNeg (0 : Int32).toNatClampNeg (8 : Int32).toNatClampNeg))))
theorem iX2_become_2 : ∀ w ∈ wsX20, w ∈ wsX2_become := fun w h => List.mem_cons_of_mem _ (List.mem_append_right _ (h))
theorem hdX2_become : yX2_become.cls = RX2 ∧ yX2_become.cls ≠ "java/lang/invoke/MethodHandle" ∧ yX2_become.cls ≠ "java/lang/invoke/VarHandle" ∧ (parseMethodDescriptor yX2_become.desc).map (fun d => d.parameters.length) = some 1 := by decide +kernel
abbrev rmX2_become : Room := { frames := 1, cells := 0, slots := 0, locals := 26 }
section SX2_become
variable {p : Program} {l : Launch} {e : Env} {s : State} {m : MethodId} {args : Array Value} {below : List Frame} {meth : Method} {c : Code} {Q : State → Prop} {G : GG} {A : Nat → Prop}
set_option maxHeartbeats 4000000 in
set_option maxRecDepth 100000 in
theorem kX2_become (h_this : Nat) (h_a1_this : Nat) (h_hookOfEnd : Nat) (h_holesOfCard : Nat) (h_a1_hookOfEnd : Nat) (h_a1_holesOfCard : Nat) (c_hooks : Int32) (c_ends : Int32) (c_cards : Int32) (c_limit : Int32) (c_hookOfEnd : Nat → Int32) (c_holesOfCard : Nat → Int32) (c_a1_hooks : Int32) (c_a1_ends : Int32) (c_a1_cards : Int32) (c_a1_limit : Int32) (c_a1_hookOfEnd : Nat → Int32) (c_a1_holesOfCard : Nat → Int32) (C : Cx cX2_become none 2 RX2 wsX2_become G p s m args meth c) (hA : ∀ q : Nat, s.heap.size ≤ q → A q) (hP : va_P G.1 CL [(h_this, .inr (2, [.int c_hooks, .int c_ends, .int c_cards, .int c_limit, .ref h_hookOfEnd, .ref h_holesOfCard])), (h_hookOfEnd, .inl (G.2 0, 12, .inl c_hookOfEnd)), (h_holesOfCard, .inl (G.2 0, 8, .inl c_holesOfCard)), (h_a1_this, .inr (2, [.int c_a1_hooks, .int c_a1_ends, .int c_a1_cards, .int c_a1_limit, .ref h_a1_hookOfEnd, .ref h_a1_holesOfCard])), (h_a1_hookOfEnd, .inl (G.2 0, 12, .inl c_a1_hookOfEnd)), (h_a1_holesOfCard, .inl (G.2 0, 8, .inl c_a1_holesOfCard))] s.heap) (hD : va_D A [(h_this, .inr (2, [.int c_hooks, .int c_ends, .int c_cards, .int c_limit, .ref h_hookOfEnd, .ref h_holesOfCard])), (h_hookOfEnd, .inl (G.2 0, 12, .inl c_hookOfEnd)), (h_holesOfCard, .inl (G.2 0, 8, .inl c_holesOfCard)), (h_a1_this, .inr (2, [.int c_a1_hooks, .int c_a1_ends, .int c_a1_cards, .int c_a1_limit, .ref h_a1_hookOfEnd, .ref h_a1_holesOfCard])), (h_a1_hookOfEnd, .inl (G.2 0, 12, .inl c_a1_hookOfEnd)), (h_a1_holesOfCard, .inl (G.2 0, 8, .inl c_a1_holesOfCard))]) (hS : va_S A s.heap s.heap []) {res : Int32 × Int32 × Int32 × Int32 × (Nat → Int32) × (Nat → Int32)} (kr : ∀ (pc : Nat) (ls : Array Slot) (H : Heap) (locs : List Loc), va_P G.1 CL [(h_this, .inr (2, [.int (res.1), .int (res.2.1), .int (res.2.2.1), .int (res.2.2.2.1), .ref h_hookOfEnd, .ref h_holesOfCard])), (h_hookOfEnd, .inl (G.2 0, 12, .inl (res.2.2.2.2.1))), (h_holesOfCard, .inl (G.2 0, 8, .inl (res.2.2.2.2.2))), (h_a1_this, .inr (2, [.int c_a1_hooks, .int c_a1_ends, .int c_a1_cards, .int c_a1_limit, .ref h_a1_hookOfEnd, .ref h_a1_holesOfCard])), (h_a1_hookOfEnd, .inl (G.2 0, 12, .inl c_a1_hookOfEnd)), (h_a1_holesOfCard, .inl (G.2 0, 8, .inl c_a1_holesOfCard))] H → va_D A [(h_this, .inr (2, [.int (res.1), .int (res.2.1), .int (res.2.2.1), .int (res.2.2.2.1), .ref h_hookOfEnd, .ref h_holesOfCard])), (h_hookOfEnd, .inl (G.2 0, 12, .inl (res.2.2.2.2.1))), (h_holesOfCard, .inl (G.2 0, 8, .inl (res.2.2.2.2.2))), (h_a1_this, .inr (2, [.int c_a1_hooks, .int c_a1_ends, .int c_a1_cards, .int c_a1_limit, .ref h_a1_hookOfEnd, .ref h_a1_holesOfCard])), (h_a1_hookOfEnd, .inl (G.2 0, 12, .inl c_a1_hookOfEnd)), (h_a1_holesOfCard, .inl (G.2 0, 8, .inl c_a1_holesOfCard))] → va_S A s.heap H locs → decode cX2_become pc = .ok (.return_, 1) → W p l e rmX2_become s m args below meth c H locs 0 0 Q (F0 m pc ls [])) (hf : fX2_become c_hooks c_ends c_cards c_limit c_hookOfEnd c_holesOfCard c_a1_hooks c_a1_ends c_a1_cards c_a1_limit c_a1_hookOfEnd c_a1_holesOfCard = some res) {ls : Array Slot} (hl : lv_has ls 2 [(0, .ref h_this), (1, .ref h_a1_this)]) : W p l e rmX2_become s m args below meth c s.heap [] 0 0 Q (F0 m 0 ls []) := by
  obtain ⟨hx, hb, hr, hlk, hml, hown, hts, hK⟩ := id C
  rw [fX2_become] at hf
  refine lv_aload_n hx hb dX2_become_0 rfl (lv_at hl 0 rfl) ?_
  refine lv_aload_n hx hb dX2_become_1 rfl (lv_at hl 1 rfl) ?_
  refine va_get (D := G.1) (cl := CL) (ci := 2) (C := RX2) (T := TX2) (N := 6) hx hb hts iX2_become_2 hown hK hP 3 rfl rfl 0 (by decide) (hts (.fieldLink RX2 36 "LoomCards$Loom" "hooks" "I") (List.mem_of_getElem? (i := 1) rfl)) (fun _ h9 => h9) rfl dX2_become_2 ?_
  refine va_put (D := G.1) (cl := CL) (ci := 2) (v := .int c_a1_hooks) (ty := .int) (C := RX2) (T := TX2) (N := 6) hx hb hts iX2_become_2 tyX2 tyX2_ok nmX2 hown hK hP hD hS 0 rfl rfl 0 (by decide) (hts (.fieldLink RX2 36 "LoomCards$Loom" "hooks" "I") (List.mem_of_getElem? (i := 1) rfl)) (fun _ h9 => h9) rfl (tyX2_ok 0 (by decide)) rfl rfl (Nat.le_of_ble_eq_true rfl) dX2_become_5 (fun H locs hP hD hS => ?_)
  have hP : va_P G.1 CL [(h_this, .inr (2, [.int c_a1_hooks, .int c_ends, .int c_cards, .int c_limit, .ref h_hookOfEnd, .ref h_holesOfCard])), (h_hookOfEnd, .inl (G.2 0, 12, .inl c_hookOfEnd)), (h_holesOfCard, .inl (G.2 0, 8, .inl c_holesOfCard)), (h_a1_this, .inr (2, [.int c_a1_hooks, .int c_a1_ends, .int c_a1_cards, .int c_a1_limit, .ref h_a1_hookOfEnd, .ref h_a1_holesOfCard])), (h_a1_hookOfEnd, .inl (G.2 0, 12, .inl c_a1_hookOfEnd)), (h_a1_holesOfCard, .inl (G.2 0, 8, .inl c_a1_holesOfCard))] H := hP
  have hD : va_D A [(h_this, .inr (2, [.int c_a1_hooks, .int c_ends, .int c_cards, .int c_limit, .ref h_hookOfEnd, .ref h_holesOfCard])), (h_hookOfEnd, .inl (G.2 0, 12, .inl c_hookOfEnd)), (h_holesOfCard, .inl (G.2 0, 8, .inl c_holesOfCard)), (h_a1_this, .inr (2, [.int c_a1_hooks, .int c_a1_ends, .int c_a1_cards, .int c_a1_limit, .ref h_a1_hookOfEnd, .ref h_a1_holesOfCard])), (h_a1_hookOfEnd, .inl (G.2 0, 12, .inl c_a1_hookOfEnd)), (h_a1_holesOfCard, .inl (G.2 0, 8, .inl c_a1_holesOfCard))] := hD
  refine lv_aload_n hx hb dX2_become_8 rfl (lv_at hl 0 rfl) ?_
  refine lv_aload_n hx hb dX2_become_9 rfl (lv_at hl 1 rfl) ?_
  refine va_get (D := G.1) (cl := CL) (ci := 2) (C := RX2) (T := TX2) (N := 6) hx hb hts iX2_become_2 hown hK hP 3 rfl rfl 1 (by decide) (hts (.fieldLink RX2 21 "LoomCards$Loom" "ends" "I") (List.mem_of_getElem? (i := 2) rfl)) (fun _ h9 => h9) rfl dX2_become_10 ?_
  refine va_put (D := G.1) (cl := CL) (ci := 2) (v := .int c_a1_ends) (ty := .int) (C := RX2) (T := TX2) (N := 6) hx hb hts iX2_become_2 tyX2 tyX2_ok nmX2 hown hK hP hD hS 0 rfl rfl 1 (by decide) (hts (.fieldLink RX2 21 "LoomCards$Loom" "ends" "I") (List.mem_of_getElem? (i := 2) rfl)) (fun _ h9 => h9) rfl (tyX2_ok 1 (by decide)) rfl rfl (Nat.le_of_ble_eq_true rfl) dX2_become_13 (fun H locs hP hD hS => ?_)
  have hP : va_P G.1 CL [(h_this, .inr (2, [.int c_a1_hooks, .int c_a1_ends, .int c_cards, .int c_limit, .ref h_hookOfEnd, .ref h_holesOfCard])), (h_hookOfEnd, .inl (G.2 0, 12, .inl c_hookOfEnd)), (h_holesOfCard, .inl (G.2 0, 8, .inl c_holesOfCard)), (h_a1_this, .inr (2, [.int c_a1_hooks, .int c_a1_ends, .int c_a1_cards, .int c_a1_limit, .ref h_a1_hookOfEnd, .ref h_a1_holesOfCard])), (h_a1_hookOfEnd, .inl (G.2 0, 12, .inl c_a1_hookOfEnd)), (h_a1_holesOfCard, .inl (G.2 0, 8, .inl c_a1_holesOfCard))] H := hP
  have hD : va_D A [(h_this, .inr (2, [.int c_a1_hooks, .int c_a1_ends, .int c_cards, .int c_limit, .ref h_hookOfEnd, .ref h_holesOfCard])), (h_hookOfEnd, .inl (G.2 0, 12, .inl c_hookOfEnd)), (h_holesOfCard, .inl (G.2 0, 8, .inl c_holesOfCard)), (h_a1_this, .inr (2, [.int c_a1_hooks, .int c_a1_ends, .int c_a1_cards, .int c_a1_limit, .ref h_a1_hookOfEnd, .ref h_a1_holesOfCard])), (h_a1_hookOfEnd, .inl (G.2 0, 12, .inl c_a1_hookOfEnd)), (h_a1_holesOfCard, .inl (G.2 0, 8, .inl c_a1_holesOfCard))] := hD
  refine lv_aload_n hx hb dX2_become_16 rfl (lv_at hl 0 rfl) ?_
  refine lv_aload_n hx hb dX2_become_17 rfl (lv_at hl 1 rfl) ?_
  refine va_get (D := G.1) (cl := CL) (ci := 2) (C := RX2) (T := TX2) (N := 6) hx hb hts iX2_become_2 hown hK hP 3 rfl rfl 2 (by decide) (hts (.fieldLink RX2 39 "LoomCards$Loom" "cards" "I") (List.mem_of_getElem? (i := 3) rfl)) (fun _ h9 => h9) rfl dX2_become_18 ?_
  refine va_put (D := G.1) (cl := CL) (ci := 2) (v := .int c_a1_cards) (ty := .int) (C := RX2) (T := TX2) (N := 6) hx hb hts iX2_become_2 tyX2 tyX2_ok nmX2 hown hK hP hD hS 0 rfl rfl 2 (by decide) (hts (.fieldLink RX2 39 "LoomCards$Loom" "cards" "I") (List.mem_of_getElem? (i := 3) rfl)) (fun _ h9 => h9) rfl (tyX2_ok 2 (by decide)) rfl rfl (Nat.le_of_ble_eq_true rfl) dX2_become_21 (fun H locs hP hD hS => ?_)
  have hP : va_P G.1 CL [(h_this, .inr (2, [.int c_a1_hooks, .int c_a1_ends, .int c_a1_cards, .int c_limit, .ref h_hookOfEnd, .ref h_holesOfCard])), (h_hookOfEnd, .inl (G.2 0, 12, .inl c_hookOfEnd)), (h_holesOfCard, .inl (G.2 0, 8, .inl c_holesOfCard)), (h_a1_this, .inr (2, [.int c_a1_hooks, .int c_a1_ends, .int c_a1_cards, .int c_a1_limit, .ref h_a1_hookOfEnd, .ref h_a1_holesOfCard])), (h_a1_hookOfEnd, .inl (G.2 0, 12, .inl c_a1_hookOfEnd)), (h_a1_holesOfCard, .inl (G.2 0, 8, .inl c_a1_holesOfCard))] H := hP
  have hD : va_D A [(h_this, .inr (2, [.int c_a1_hooks, .int c_a1_ends, .int c_a1_cards, .int c_limit, .ref h_hookOfEnd, .ref h_holesOfCard])), (h_hookOfEnd, .inl (G.2 0, 12, .inl c_hookOfEnd)), (h_holesOfCard, .inl (G.2 0, 8, .inl c_holesOfCard)), (h_a1_this, .inr (2, [.int c_a1_hooks, .int c_a1_ends, .int c_a1_cards, .int c_a1_limit, .ref h_a1_hookOfEnd, .ref h_a1_holesOfCard])), (h_a1_hookOfEnd, .inl (G.2 0, 12, .inl c_a1_hookOfEnd)), (h_a1_holesOfCard, .inl (G.2 0, 8, .inl c_a1_holesOfCard))] := hD
  refine lv_aload_n hx hb dX2_become_24 rfl (lv_at hl 0 rfl) ?_
  refine lv_aload_n hx hb dX2_become_25 rfl (lv_at hl 1 rfl) ?_
  refine va_get (D := G.1) (cl := CL) (ci := 2) (C := RX2) (T := TX2) (N := 6) hx hb hts iX2_become_2 hown hK hP 3 rfl rfl 3 (by decide) (hts (.fieldLink RX2 33 "LoomCards$Loom" "limit" "I") (List.mem_of_getElem? (i := 4) rfl)) (fun _ h9 => h9) rfl dX2_become_26 ?_
  refine va_put (D := G.1) (cl := CL) (ci := 2) (v := .int c_a1_limit) (ty := .int) (C := RX2) (T := TX2) (N := 6) hx hb hts iX2_become_2 tyX2 tyX2_ok nmX2 hown hK hP hD hS 0 rfl rfl 3 (by decide) (hts (.fieldLink RX2 33 "LoomCards$Loom" "limit" "I") (List.mem_of_getElem? (i := 4) rfl)) (fun _ h9 => h9) rfl (tyX2_ok 3 (by decide)) rfl rfl (Nat.le_of_ble_eq_true rfl) dX2_become_29 (fun H locs hP hD hS => ?_)
  have hP : va_P G.1 CL [(h_this, .inr (2, [.int c_a1_hooks, .int c_a1_ends, .int c_a1_cards, .int c_a1_limit, .ref h_hookOfEnd, .ref h_holesOfCard])), (h_hookOfEnd, .inl (G.2 0, 12, .inl c_hookOfEnd)), (h_holesOfCard, .inl (G.2 0, 8, .inl c_holesOfCard)), (h_a1_this, .inr (2, [.int c_a1_hooks, .int c_a1_ends, .int c_a1_cards, .int c_a1_limit, .ref h_a1_hookOfEnd, .ref h_a1_holesOfCard])), (h_a1_hookOfEnd, .inl (G.2 0, 12, .inl c_a1_hookOfEnd)), (h_a1_holesOfCard, .inl (G.2 0, 8, .inl c_a1_holesOfCard))] H := hP
  have hD : va_D A [(h_this, .inr (2, [.int c_a1_hooks, .int c_a1_ends, .int c_a1_cards, .int c_a1_limit, .ref h_hookOfEnd, .ref h_holesOfCard])), (h_hookOfEnd, .inl (G.2 0, 12, .inl c_hookOfEnd)), (h_holesOfCard, .inl (G.2 0, 8, .inl c_holesOfCard)), (h_a1_this, .inr (2, [.int c_a1_hooks, .int c_a1_ends, .int c_a1_cards, .int c_a1_limit, .ref h_a1_hookOfEnd, .ref h_a1_holesOfCard])), (h_a1_hookOfEnd, .inl (G.2 0, 12, .inl c_a1_hookOfEnd)), (h_a1_holesOfCard, .inl (G.2 0, 8, .inl c_a1_holesOfCard))] := hD
  refine lv_aload_n hx hb dX2_become_32 rfl (lv_at hl 1 rfl) ?_
  refine va_get (D := G.1) (cl := CL) (ci := 2) (C := RX2) (T := TX2) (N := 6) hx hb hts iX2_become_2 hown hK hP 3 rfl rfl 4 (by decide) (hts (.fieldLink RX2 9 "LoomCards$Loom" "hookOfEnd" "[I") (List.mem_of_getElem? (i := 5) rfl)) (fun _ h9 => h9) rfl dX2_become_33 ?_
  refine lv_iconst (v := (0 : Int32)) hx hb dX2_become_36 (by decide) ?_
  refine lv_aload_n hx hb dX2_become_37 rfl (lv_at hl 0 rfl) ?_
  refine va_get (D := G.1) (cl := CL) (ci := 2) (C := RX2) (T := TX2) (N := 6) hx hb hts iX2_become_2 hown hK hP 0 rfl rfl 4 (by decide) (hts (.fieldLink RX2 9 "LoomCards$Loom" "hookOfEnd" "[I") (List.mem_of_getElem? (i := 5) rfl)) (fun _ h9 => h9) rfl dX2_become_38 ?_
  refine lv_iconst (v := (0 : Int32)) hx hb dX2_become_41 (by decide) ?_
  refine lv_bipush (v := (12 : Int32)) hx hb dX2_become_42 (by decide) ?_
  refine r_gd hf (fun g9 hf => ?_)
  refine va_copyi (D := G.1) (cl := CL) (tys := tyG G) hx hb (hml.trans hl.1.symm) hown (hts (.methodLink RX2 42 arraycopyName) (List.mem_of_getElem? (i := 6) rfl)) (hts (.native arraycopyName) (List.mem_of_getElem? (i := 7) rfl)) (hts (.static arraycopyName) (List.mem_of_getElem? (i := 8) rfl)) (hts (.initialized "java/lang/System") (List.mem_of_getElem? (i := 9) rfl)) hK hP hD hS 4 1 0 0 rfl rfl rfl rfl rfl (cpo_ok g9).1 (cpo_ok g9).2.1 (cpo_ok g9).2.2.1 (cpo_ok g9).2.2.2.1 (cpo_ok g9).2.2.2.2 (fun _ _ => rfl) (Nat.le_of_ble_eq_true rfl) (Nat.le_of_ble_eq_true rfl) dX2_become_44 (fun H locs hP hD hS => ?_)
  have hP : va_P G.1 CL [(h_this, .inr (2, [.int c_a1_hooks, .int c_a1_ends, .int c_a1_cards, .int c_a1_limit, .ref h_hookOfEnd, .ref h_holesOfCard])), (h_hookOfEnd, .inl (G.2 0, 12, .inl (va_cpy c_a1_hookOfEnd c_hookOfEnd (0 : Int32).toNatClampNeg (0 : Int32).toNatClampNeg (12 : Int32).toNatClampNeg))), (h_holesOfCard, .inl (G.2 0, 8, .inl c_holesOfCard)), (h_a1_this, .inr (2, [.int c_a1_hooks, .int c_a1_ends, .int c_a1_cards, .int c_a1_limit, .ref h_a1_hookOfEnd, .ref h_a1_holesOfCard])), (h_a1_hookOfEnd, .inl (G.2 0, 12, .inl c_a1_hookOfEnd)), (h_a1_holesOfCard, .inl (G.2 0, 8, .inl c_a1_holesOfCard))] H := hP
  have hD : va_D A [(h_this, .inr (2, [.int c_a1_hooks, .int c_a1_ends, .int c_a1_cards, .int c_a1_limit, .ref h_hookOfEnd, .ref h_holesOfCard])), (h_hookOfEnd, .inl (G.2 0, 12, .inl (va_cpy c_a1_hookOfEnd c_hookOfEnd (0 : Int32).toNatClampNeg (0 : Int32).toNatClampNeg (12 : Int32).toNatClampNeg))), (h_holesOfCard, .inl (G.2 0, 8, .inl c_holesOfCard)), (h_a1_this, .inr (2, [.int c_a1_hooks, .int c_a1_ends, .int c_a1_cards, .int c_a1_limit, .ref h_a1_hookOfEnd, .ref h_a1_holesOfCard])), (h_a1_hookOfEnd, .inl (G.2 0, 12, .inl c_a1_hookOfEnd)), (h_a1_holesOfCard, .inl (G.2 0, 8, .inl c_a1_holesOfCard))] := hD
  refine lv_aload_n hx hb dX2_become_47 rfl (lv_at hl 1 rfl) ?_
  refine va_get (D := G.1) (cl := CL) (ci := 2) (C := RX2) (T := TX2) (N := 6) hx hb hts iX2_become_2 hown hK hP 3 rfl rfl 5 (by decide) (hts (.fieldLink RX2 15 "LoomCards$Loom" "holesOfCard" "[I") (List.mem_of_getElem? (i := 10) rfl)) (fun _ h9 => h9) rfl dX2_become_48 ?_
  refine lv_iconst (v := (0 : Int32)) hx hb dX2_become_51 (by decide) ?_
  refine lv_aload_n hx hb dX2_become_52 rfl (lv_at hl 0 rfl) ?_
  refine va_get (D := G.1) (cl := CL) (ci := 2) (C := RX2) (T := TX2) (N := 6) hx hb hts iX2_become_2 hown hK hP 0 rfl rfl 5 (by decide) (hts (.fieldLink RX2 15 "LoomCards$Loom" "holesOfCard" "[I") (List.mem_of_getElem? (i := 10) rfl)) (fun _ h9 => h9) rfl dX2_become_53 ?_
  refine lv_iconst (v := (0 : Int32)) hx hb dX2_become_56 (by decide) ?_
  refine lv_bipush (v := (8 : Int32)) hx hb dX2_become_57 (by decide) ?_
  refine r_gd hf (fun g9 hf => ?_)
  refine va_copyi (D := G.1) (cl := CL) (tys := tyG G) hx hb (hml.trans hl.1.symm) hown (hts (.methodLink RX2 42 arraycopyName) (List.mem_of_getElem? (i := 6) rfl)) (hts (.native arraycopyName) (List.mem_of_getElem? (i := 7) rfl)) (hts (.static arraycopyName) (List.mem_of_getElem? (i := 8) rfl)) (hts (.initialized "java/lang/System") (List.mem_of_getElem? (i := 9) rfl)) hK hP hD hS 5 2 0 0 rfl rfl rfl rfl rfl (cpo_ok g9).1 (cpo_ok g9).2.1 (cpo_ok g9).2.2.1 (cpo_ok g9).2.2.2.1 (cpo_ok g9).2.2.2.2 (fun _ _ => rfl) (Nat.le_of_ble_eq_true rfl) (Nat.le_of_ble_eq_true rfl) dX2_become_59 (fun H locs hP hD hS => ?_)
  have hP : va_P G.1 CL [(h_this, .inr (2, [.int c_a1_hooks, .int c_a1_ends, .int c_a1_cards, .int c_a1_limit, .ref h_hookOfEnd, .ref h_holesOfCard])), (h_hookOfEnd, .inl (G.2 0, 12, .inl (va_cpy c_a1_hookOfEnd c_hookOfEnd (0 : Int32).toNatClampNeg (0 : Int32).toNatClampNeg (12 : Int32).toNatClampNeg))), (h_holesOfCard, .inl (G.2 0, 8, .inl (va_cpy c_a1_holesOfCard c_holesOfCard (0 : Int32).toNatClampNeg (0 : Int32).toNatClampNeg (8 : Int32).toNatClampNeg))), (h_a1_this, .inr (2, [.int c_a1_hooks, .int c_a1_ends, .int c_a1_cards, .int c_a1_limit, .ref h_a1_hookOfEnd, .ref h_a1_holesOfCard])), (h_a1_hookOfEnd, .inl (G.2 0, 12, .inl c_a1_hookOfEnd)), (h_a1_holesOfCard, .inl (G.2 0, 8, .inl c_a1_holesOfCard))] H := hP
  have hD : va_D A [(h_this, .inr (2, [.int c_a1_hooks, .int c_a1_ends, .int c_a1_cards, .int c_a1_limit, .ref h_hookOfEnd, .ref h_holesOfCard])), (h_hookOfEnd, .inl (G.2 0, 12, .inl (va_cpy c_a1_hookOfEnd c_hookOfEnd (0 : Int32).toNatClampNeg (0 : Int32).toNatClampNeg (12 : Int32).toNatClampNeg))), (h_holesOfCard, .inl (G.2 0, 8, .inl (va_cpy c_a1_holesOfCard c_holesOfCard (0 : Int32).toNatClampNeg (0 : Int32).toNatClampNeg (8 : Int32).toNatClampNeg))), (h_a1_this, .inr (2, [.int c_a1_hooks, .int c_a1_ends, .int c_a1_cards, .int c_a1_limit, .ref h_a1_hookOfEnd, .ref h_a1_holesOfCard])), (h_a1_hookOfEnd, .inl (G.2 0, 12, .inl c_a1_hookOfEnd)), (h_a1_holesOfCard, .inl (G.2 0, 8, .inl c_a1_holesOfCard))] := hD
  obtain rfl := Option.some.inj hf
  exact kr _ _ _ _ hP hD hS dX2_become_62
end SX2_become
set_option maxHeartbeats 4000000 in
set_option maxRecDepth 100000 in
theorem tX2_become (l : Launch) (G : GG) (h_this : Nat) (h_a1_this : Nat) (h_hookOfEnd : Nat) (h_holesOfCard : Nat) (h_a1_hookOfEnd : Nat) (h_a1_holesOfCard : Nat) (c_hooks : Int32) (c_ends : Int32) (c_cards : Int32) (c_limit : Int32) (c_hookOfEnd : Nat → Int32) (c_holesOfCard : Nat → Int32) (c_a1_hooks : Int32) (c_a1_ends : Int32) (c_a1_cards : Int32) (c_a1_limit : Int32) (c_a1_hookOfEnd : Nat → Int32) (c_a1_holesOfCard : Nat → Int32) (res : Int32 × Int32 × Int32 × Int32 × (Nat → Int32) × (Nat → Int32)) (hf : fX2_become c_hooks c_ends c_cards c_limit c_hookOfEnd c_holesOfCard c_a1_hooks c_a1_ends c_a1_cards c_a1_limit c_a1_hookOfEnd c_a1_holesOfCard = some res) : MWv l yX2_become wsX2_become rmX2_become G [.ref h_this, .ref h_a1_this] [(h_this, .inr (2, [.int c_hooks, .int c_ends, .int c_cards, .int c_limit, .ref h_hookOfEnd, .ref h_holesOfCard])), (h_hookOfEnd, .inl (G.2 0, 12, .inl c_hookOfEnd)), (h_holesOfCard, .inl (G.2 0, 8, .inl c_holesOfCard)), (h_a1_this, .inr (2, [.int c_a1_hooks, .int c_a1_ends, .int c_a1_cards, .int c_a1_limit, .ref h_a1_hookOfEnd, .ref h_a1_holesOfCard])), (h_a1_hookOfEnd, .inl (G.2 0, 12, .inl c_a1_hookOfEnd)), (h_a1_holesOfCard, .inl (G.2 0, 8, .inl c_a1_holesOfCard))] [(h_this, .inr (2, [.int (res.1), .int (res.2.1), .int (res.2.2.1), .int (res.2.2.2.1), .ref h_hookOfEnd, .ref h_holesOfCard])), (h_hookOfEnd, .inl (G.2 0, 12, .inl (res.2.2.2.2.1))), (h_holesOfCard, .inl (G.2 0, 8, .inl (res.2.2.2.2.2))), (h_a1_this, .inr (2, [.int c_a1_hooks, .int c_a1_ends, .int c_a1_cards, .int c_a1_limit, .ref h_a1_hookOfEnd, .ref h_a1_holesOfCard])), (h_a1_hookOfEnd, .inl (G.2 0, 12, .inl c_a1_hookOfEnd)), (h_a1_holesOfCard, .inl (G.2 0, 8, .inl c_a1_holesOfCard))] := MWv.of (plainFor_of_name (by decide +kernel)) rfl (Nat.le_of_ble_eq_true rfl) (fun p e s m below meth c A C hA hP hD hS ls hl => kX2_become h_this h_a1_this h_hookOfEnd h_holesOfCard h_a1_hookOfEnd h_a1_holesOfCard c_hooks c_ends c_cards c_limit c_hookOfEnd c_holesOfCard c_a1_hooks c_a1_ends c_a1_cards c_a1_limit c_a1_hookOfEnd c_a1_holesOfCard C hA hP hD hS (fun pc ls H locs hP hD hS d => rWv C hP hD hS d) hf hl)
def fX2_takeHooks (c_hooks : Int32) (c_hookOfEnd : Nat → Int32) (v1 : Int32) : Option (Int32 × (Nat → Int32)) := jn (fun (j27_0 : Int32) (j27_1 : Int32) => gd (ix j27_1 12) (some (v1, (upd (upd c_hookOfEnd 0 (0 : Int32)) j27_1.toNatClampNeg j27_0)))) (fun J27 => if v1 ≤ (1 : Int32) then J27 (0 : Int32) (1 : Int32) else J27 (1 : Int32) (1 : Int32))
theorem iX2_takeHooks_2 : ∀ w ∈ wsX20, w ∈ wsX2_takeHooks := fun w h => List.mem_cons_of_mem _ (List.mem_append_right _ (h))
theorem hdX2_takeHooks : yX2_takeHooks.cls = RX2 ∧ yX2_takeHooks.cls ≠ "java/lang/invoke/MethodHandle" ∧ yX2_takeHooks.cls ≠ "java/lang/invoke/VarHandle" ∧ (parseMethodDescriptor yX2_takeHooks.desc).map (fun d => d.parameters.length) = some 1 := by decide +kernel
abbrev rmX2_takeHooks : Room := { frames := 0, cells := 0, slots := 0, locals := 0 }
section SX2_takeHooks
variable {p : Program} {l : Launch} {e : Env} {s : State} {m : MethodId} {args : Array Value} {below : List Frame} {meth : Method} {c : Code} {Q : State → Prop} {G : GG} {A : Nat → Prop}
set_option maxHeartbeats 4000000 in
set_option maxRecDepth 100000 in
theorem kX2_takeHooks (h_this : Nat) (h_hookOfEnd : Nat) (h_holesOfCard : Nat) (c_hooks : Int32) (c_ends : Int32) (c_cards : Int32) (c_limit : Int32) (c_hookOfEnd : Nat → Int32) (v1 : Int32) (C : Cx cX2_takeHooks none 2 RX2 wsX2_takeHooks G p s m args meth c) (hA : ∀ q : Nat, s.heap.size ≤ q → A q) (hP : va_P G.1 CL [(h_this, .inr (2, [.int c_hooks, .int c_ends, .int c_cards, .int c_limit, .ref h_hookOfEnd, .ref h_holesOfCard])), (h_hookOfEnd, .inl (G.2 0, 12, .inl c_hookOfEnd))] s.heap) (hD : va_D A [(h_this, .inr (2, [.int c_hooks, .int c_ends, .int c_cards, .int c_limit, .ref h_hookOfEnd, .ref h_holesOfCard])), (h_hookOfEnd, .inl (G.2 0, 12, .inl c_hookOfEnd))]) (hS : va_S A s.heap s.heap []) {res : Int32 × (Nat → Int32)} (kr : ∀ (pc : Nat) (ls : Array Slot) (H : Heap) (locs : List Loc), va_P G.1 CL [(h_this, .inr (2, [.int (res.1), .int c_ends, .int c_cards, .int c_limit, .ref h_hookOfEnd, .ref h_holesOfCard])), (h_hookOfEnd, .inl (G.2 0, 12, .inl (res.2)))] H → va_D A [(h_this, .inr (2, [.int (res.1), .int c_ends, .int c_cards, .int c_limit, .ref h_hookOfEnd, .ref h_holesOfCard])), (h_hookOfEnd, .inl (G.2 0, 12, .inl (res.2)))] → va_S A s.heap H locs → decode cX2_takeHooks pc = .ok (.return_, 1) → W p l e rmX2_takeHooks s m args below meth c H locs 0 0 Q (F0 m pc ls [])) (hf : fX2_takeHooks c_hooks c_hookOfEnd v1 = some res) {ls : Array Slot} (hl : lv_has ls 2 [(0, .ref h_this), (1, .int v1)]) : W p l e rmX2_takeHooks s m args below meth c s.heap [] 0 0 Q (F0 m 0 ls []) := by
  obtain ⟨hx, hb, hr, hlk, hml, hown, hts, hK⟩ := id C
  rw [fX2_takeHooks] at hf
  refine lv_aload_n hx hb dX2_takeHooks_0 rfl (lv_at hl 0 rfl) ?_
  refine lv_iload_n hx hb dX2_takeHooks_1 rfl (lv_at hl 1 rfl) ?_
  refine va_put (D := G.1) (cl := CL) (ci := 2) (v := .int v1) (ty := .int) (C := RX2) (T := TX2) (N := 6) hx hb hts iX2_takeHooks_2 tyX2 tyX2_ok nmX2 hown hK hP hD hS 0 rfl rfl 0 (by decide) (hts (.fieldLink RX2 36 "LoomCards$Loom" "hooks" "I") (List.mem_of_getElem? (i := 1) rfl)) (fun _ h9 => h9) rfl (tyX2_ok 0 (by decide)) rfl rfl (Nat.le_of_ble_eq_true rfl) dX2_takeHooks_2 (fun H locs hP hD hS => ?_)
  have hP : va_P G.1 CL [(h_this, .inr (2, [.int v1, .int c_ends, .int c_cards, .int c_limit, .ref h_hookOfEnd, .ref h_holesOfCard])), (h_hookOfEnd, .inl (G.2 0, 12, .inl c_hookOfEnd))] H := hP
  have hD : va_D A [(h_this, .inr (2, [.int v1, .int c_ends, .int c_cards, .int c_limit, .ref h_hookOfEnd, .ref h_holesOfCard])), (h_hookOfEnd, .inl (G.2 0, 12, .inl c_hookOfEnd))] := hD
  refine lv_aload_n hx hb dX2_takeHooks_5 rfl (lv_at hl 0 rfl) ?_
  refine va_get (D := G.1) (cl := CL) (ci := 2) (C := RX2) (T := TX2) (N := 6) hx hb hts iX2_takeHooks_2 hown hK hP 0 rfl rfl 4 (by decide) (hts (.fieldLink RX2 9 "LoomCards$Loom" "hookOfEnd" "[I") (List.mem_of_getElem? (i := 2) rfl)) (fun _ h9 => h9) rfl dX2_takeHooks_6 ?_
  refine lv_iconst (v := (0 : Int32)) hx hb dX2_takeHooks_9 (by decide) ?_
  refine lv_iconst (v := (0 : Int32)) hx hb dX2_takeHooks_10 (by decide) ?_
  refine r_iast (j := 0) hx hb hK hP hD hS 1 rfl (ix_in (n := 12) (by decide)) (by decide) dX2_takeHooks_11 (fun H locs hP hD hS => ?_)
  have hP : va_P G.1 CL [(h_this, .inr (2, [.int v1, .int c_ends, .int c_cards, .int c_limit, .ref h_hookOfEnd, .ref h_holesOfCard])), (h_hookOfEnd, .inl (G.2 0, 12, .inl (upd c_hookOfEnd 0 (0 : Int32))))] H := hP
  have hD : va_D A [(h_this, .inr (2, [.int v1, .int c_ends, .int c_cards, .int c_limit, .ref h_hookOfEnd, .ref h_holesOfCard])), (h_hookOfEnd, .inl (G.2 0, 12, .inl (upd c_hookOfEnd 0 (0 : Int32))))] := hD
  refine lv_aload_n hx hb dX2_takeHooks_12 rfl (lv_at hl 0 rfl) ?_
  refine va_get (D := G.1) (cl := CL) (ci := 2) (C := RX2) (T := TX2) (N := 6) hx hb hts iX2_takeHooks_2 hown hK hP 0 rfl rfl 4 (by decide) (hts (.fieldLink RX2 9 "LoomCards$Loom" "hookOfEnd" "[I") (List.mem_of_getElem? (i := 2) rfl)) (fun _ h9 => h9) rfl dX2_takeHooks_13 ?_
  refine lv_iconst (v := (1 : Int32)) hx hb dX2_takeHooks_16 (by decide) ?_
  refine lv_iload_n hx hb dX2_takeHooks_17 rfl (lv_at hl 1 rfl) ?_
  refine lv_iconst (v := (1 : Int32)) hx hb dX2_takeHooks_18 (by decide) ?_
  refine r_jn2 hf (fun J27 eJ27 hf => ?_)
  have hJ27 : ∀ (j27_0 : Int32) (j27_1 : Int32) (H : Heap) (locs : List Loc), J27 j27_0 j27_1 = some res → va_P G.1 CL [(h_this, .inr (2, [.int v1, .int c_ends, .int c_cards, .int c_limit, .ref h_hookOfEnd, .ref h_holesOfCard])), (h_hookOfEnd, .inl (G.2 0, 12, .inl (upd c_hookOfEnd 0 (0 : Int32))))] H → va_D A [(h_this, .inr (2, [.int v1, .int c_ends, .int c_cards, .int c_limit, .ref h_hookOfEnd, .ref h_holesOfCard])), (h_hookOfEnd, .inl (G.2 0, 12, .inl (upd c_hookOfEnd 0 (0 : Int32))))] → va_S A s.heap H locs → ∀ (ls : Array Slot), lv_has ls 2 [] → W p l e rmX2_takeHooks s m args below meth c H locs 0 0 Q (F0 m 27 ls [.int j27_0, .int j27_1, .ref h_hookOfEnd]) := by
    intro j27_0 j27_1 H locs hf hP hD hS ls hl
    rw [eJ27] at hf
    refine r_gd hf (fun g9 hf => ?_)
    refine r_iast hx hb hK hP hD hS 1 rfl (ix_in g9) rfl dX2_takeHooks_27 (fun H locs hP hD hS => ?_)
    have hP : va_P G.1 CL [(h_this, .inr (2, [.int v1, .int c_ends, .int c_cards, .int c_limit, .ref h_hookOfEnd, .ref h_holesOfCard])), (h_hookOfEnd, .inl (G.2 0, 12, .inl (upd (upd c_hookOfEnd 0 (0 : Int32)) j27_1.toNatClampNeg j27_0)))] H := hP
    have hD : va_D A [(h_this, .inr (2, [.int v1, .int c_ends, .int c_cards, .int c_limit, .ref h_hookOfEnd, .ref h_holesOfCard])), (h_hookOfEnd, .inl (G.2 0, 12, .inl (upd (upd c_hookOfEnd 0 (0 : Int32)) j27_1.toNatClampNeg j27_0)))] := hD
    obtain rfl := Option.some.inj hf
    exact kr _ _ _ _ hP hD hS dX2_takeHooks_28
  refine lv_icmp_le (tgt := 26) hx hb dX2_takeHooks_19 (by decide) (fun c9 => ?_) (fun c9 => ?_)
  · have hf := c_t hf c9
    refine lv_iconst (v := (0 : Int32)) hx hb dX2_takeHooks_26 (by decide) ?_
    exact hJ27 (0 : Int32) (1 : Int32) _ _ hf hP hD hS _ (lv_sub hl [] rfl)
  · have hf := c_f hf c9
    refine lv_iconst (v := (1 : Int32)) hx hb dX2_takeHooks_22 (by decide) ?_
    refine lv_goto (tgt := 27) hx hb dX2_takeHooks_23 (by decide) ?_
    exact hJ27 (1 : Int32) (1 : Int32) _ _ hf hP hD hS _ (lv_sub hl [] rfl)
end SX2_takeHooks
set_option maxHeartbeats 4000000 in
set_option maxRecDepth 100000 in
theorem tX2_takeHooks (l : Launch) (G : GG) (h_this : Nat) (h_hookOfEnd : Nat) (h_holesOfCard : Nat) (c_hooks : Int32) (c_ends : Int32) (c_cards : Int32) (c_limit : Int32) (c_hookOfEnd : Nat → Int32) (v1 : Int32) (res : Int32 × (Nat → Int32)) (hf : fX2_takeHooks c_hooks c_hookOfEnd v1 = some res) : MWv l yX2_takeHooks wsX2_takeHooks rmX2_takeHooks G [.ref h_this, .int v1] [(h_this, .inr (2, [.int c_hooks, .int c_ends, .int c_cards, .int c_limit, .ref h_hookOfEnd, .ref h_holesOfCard])), (h_hookOfEnd, .inl (G.2 0, 12, .inl c_hookOfEnd))] [(h_this, .inr (2, [.int (res.1), .int c_ends, .int c_cards, .int c_limit, .ref h_hookOfEnd, .ref h_holesOfCard])), (h_hookOfEnd, .inl (G.2 0, 12, .inl (res.2)))] := MWv.of (plainFor_of_name (by decide +kernel)) rfl (Nat.le_of_ble_eq_true rfl) (fun p e s m below meth c A C hA hP hD hS ls hl => kX2_takeHooks h_this h_hookOfEnd h_holesOfCard c_hooks c_ends c_cards c_limit c_hookOfEnd v1 C hA hP hD hS (fun pc ls H locs hP hD hS d => rWv C hP hD hS d) hf hl)
def fX2_putBehind (c_cards : Int32) (c_holesOfCard : Nat → Int32) (v1 : Int32) (v2 : Int32) : Option (Int32 × (Nat → Int32)) := if v1 < 0 then some (c_cards, c_holesOfCard) else if (8 : Int32) ≤ v1 then some (c_cards, c_holesOfCard) else gd (ix v1 8) (some ((v1 + (1 : Int32)), (upd c_holesOfCard v1.toNatClampNeg v2)))
theorem iX2_putBehind_2 : ∀ w ∈ wsX20, w ∈ wsX2_putBehind := fun w h => List.mem_cons_of_mem _ (List.mem_append_right _ (h))
theorem hdX2_putBehind : yX2_putBehind.cls = RX2 ∧ yX2_putBehind.cls ≠ "java/lang/invoke/MethodHandle" ∧ yX2_putBehind.cls ≠ "java/lang/invoke/VarHandle" ∧ (parseMethodDescriptor yX2_putBehind.desc).map (fun d => d.parameters.length) = some 2 := by decide +kernel
abbrev rmX2_putBehind : Room := { frames := 0, cells := 0, slots := 0, locals := 0 }
section SX2_putBehind
variable {p : Program} {l : Launch} {e : Env} {s : State} {m : MethodId} {args : Array Value} {below : List Frame} {meth : Method} {c : Code} {Q : State → Prop} {G : GG} {A : Nat → Prop}
set_option maxHeartbeats 4000000 in
set_option maxRecDepth 100000 in
theorem kX2_putBehind (h_this : Nat) (h_hookOfEnd : Nat) (h_holesOfCard : Nat) (c_hooks : Int32) (c_ends : Int32) (c_cards : Int32) (c_limit : Int32) (c_holesOfCard : Nat → Int32) (v1 : Int32) (v2 : Int32) (C : Cx cX2_putBehind none 3 RX2 wsX2_putBehind G p s m args meth c) (hA : ∀ q : Nat, s.heap.size ≤ q → A q) (hP : va_P G.1 CL [(h_this, .inr (2, [.int c_hooks, .int c_ends, .int c_cards, .int c_limit, .ref h_hookOfEnd, .ref h_holesOfCard])), (h_holesOfCard, .inl (G.2 0, 8, .inl c_holesOfCard))] s.heap) (hD : va_D A [(h_this, .inr (2, [.int c_hooks, .int c_ends, .int c_cards, .int c_limit, .ref h_hookOfEnd, .ref h_holesOfCard])), (h_holesOfCard, .inl (G.2 0, 8, .inl c_holesOfCard))]) (hS : va_S A s.heap s.heap []) {res : Int32 × (Nat → Int32)} (kr : ∀ (pc : Nat) (ls : Array Slot) (H : Heap) (locs : List Loc), va_P G.1 CL [(h_this, .inr (2, [.int c_hooks, .int c_ends, .int (res.1), .int c_limit, .ref h_hookOfEnd, .ref h_holesOfCard])), (h_holesOfCard, .inl (G.2 0, 8, .inl (res.2)))] H → va_D A [(h_this, .inr (2, [.int c_hooks, .int c_ends, .int (res.1), .int c_limit, .ref h_hookOfEnd, .ref h_holesOfCard])), (h_holesOfCard, .inl (G.2 0, 8, .inl (res.2)))] → va_S A s.heap H locs → decode cX2_putBehind pc = .ok (.return_, 1) → W p l e rmX2_putBehind s m args below meth c H locs 0 0 Q (F0 m pc ls [])) (hf : fX2_putBehind c_cards c_holesOfCard v1 v2 = some res) {ls : Array Slot} (hl : lv_has ls 3 [(0, .ref h_this), (1, .int v1), (2, .int v2)]) : W p l e rmX2_putBehind s m args below meth c s.heap [] 0 0 Q (F0 m 0 ls []) := by
  obtain ⟨hx, hb, hr, hlk, hml, hown, hts, hK⟩ := id C
  rw [fX2_putBehind] at hf
  refine lv_iload_n hx hb dX2_putBehind_0 rfl (lv_at hl 1 rfl) ?_
  refine lv_if_lt (tgt := 24) hx hb dX2_putBehind_1 (by decide) (fun c9 => ?_) (fun c9 => ?_)
  · have hf := c_t hf c9
    obtain rfl := Option.some.inj hf
    exact kr _ _ _ _ hP hD hS dX2_putBehind_24
  · have hf := c_f hf c9
    refine lv_iload_n hx hb dX2_putBehind_4 rfl (lv_at hl 1 rfl) ?_
    refine lv_bipush (v := (8 : Int32)) hx hb dX2_putBehind_5 (by decide) ?_
    refine lv_icmp_ge (tgt := 24) hx hb dX2_putBehind_7 (by decide) (fun c9 => ?_) (fun c9 => ?_)
    · have hf := c_t hf c9
      obtain rfl := Option.some.inj hf
      exact kr _ _ _ _ hP hD hS dX2_putBehind_24
    · have hf := c_f hf c9
      refine lv_aload_n hx hb dX2_putBehind_10 rfl (lv_at hl 0 rfl) ?_
      refine va_get (D := G.1) (cl := CL) (ci := 2) (C := RX2) (T := TX2) (N := 6) hx hb hts iX2_putBehind_2 hown hK hP 0 rfl rfl 5 (by decide) (hts (.fieldLink RX2 15 "LoomCards$Loom" "holesOfCard" "[I") (List.mem_of_getElem? (i := 1) rfl)) (fun _ h9 => h9) rfl dX2_putBehind_11 ?_
      refine lv_iload_n hx hb dX2_putBehind_14 rfl (lv_at hl 1 rfl) ?_
      refine lv_iload_n hx hb dX2_putBehind_15 rfl (lv_at hl 2 rfl) ?_
      refine r_gd hf (fun g9 hf => ?_)
      refine r_iast hx hb hK hP hD hS 1 rfl (ix_in g9) rfl dX2_putBehind_16 (fun H locs hP hD hS => ?_)
      have hP : va_P G.1 CL [(h_this, .inr (2, [.int c_hooks, .int c_ends, .int c_cards, .int c_limit, .ref h_hookOfEnd, .ref h_holesOfCard])), (h_holesOfCard, .inl (G.2 0, 8, .inl (upd c_holesOfCard v1.toNatClampNeg v2)))] H := hP
      have hD : va_D A [(h_this, .inr (2, [.int c_hooks, .int c_ends, .int c_cards, .int c_limit, .ref h_hookOfEnd, .ref h_holesOfCard])), (h_holesOfCard, .inl (G.2 0, 8, .inl (upd c_holesOfCard v1.toNatClampNeg v2)))] := hD
      refine lv_aload_n hx hb dX2_putBehind_17 rfl (lv_at hl 0 rfl) ?_
      refine lv_iload_n hx hb dX2_putBehind_18 rfl (lv_at hl 1 rfl) ?_
      refine lv_iconst (v := (1 : Int32)) hx hb dX2_putBehind_19 (by decide) ?_
      refine lv_iadd hx hb dX2_putBehind_20 ?_
      refine va_put (D := G.1) (cl := CL) (ci := 2) (v := .int (v1 + (1 : Int32))) (ty := .int) (C := RX2) (T := TX2) (N := 6) hx hb hts iX2_putBehind_2 tyX2 tyX2_ok nmX2 hown hK hP hD hS 0 rfl rfl 2 (by decide) (hts (.fieldLink RX2 39 "LoomCards$Loom" "cards" "I") (List.mem_of_getElem? (i := 2) rfl)) (fun _ h9 => h9) rfl (tyX2_ok 2 (by decide)) rfl rfl (Nat.le_of_ble_eq_true rfl) dX2_putBehind_21 (fun H locs hP hD hS => ?_)
      have hP : va_P G.1 CL [(h_this, .inr (2, [.int c_hooks, .int c_ends, .int (v1 + (1 : Int32)), .int c_limit, .ref h_hookOfEnd, .ref h_holesOfCard])), (h_holesOfCard, .inl (G.2 0, 8, .inl (upd c_holesOfCard v1.toNatClampNeg v2)))] H := hP
      have hD : va_D A [(h_this, .inr (2, [.int c_hooks, .int c_ends, .int (v1 + (1 : Int32)), .int c_limit, .ref h_hookOfEnd, .ref h_holesOfCard])), (h_holesOfCard, .inl (G.2 0, 8, .inl (upd c_holesOfCard v1.toNatClampNeg v2)))] := hD
      obtain rfl := Option.some.inj hf
      exact kr _ _ _ _ hP hD hS dX2_putBehind_24
end SX2_putBehind
set_option maxHeartbeats 4000000 in
set_option maxRecDepth 100000 in
theorem tX2_putBehind (l : Launch) (G : GG) (h_this : Nat) (h_hookOfEnd : Nat) (h_holesOfCard : Nat) (c_hooks : Int32) (c_ends : Int32) (c_cards : Int32) (c_limit : Int32) (c_holesOfCard : Nat → Int32) (v1 : Int32) (v2 : Int32) (res : Int32 × (Nat → Int32)) (hf : fX2_putBehind c_cards c_holesOfCard v1 v2 = some res) : MWv l yX2_putBehind wsX2_putBehind rmX2_putBehind G [.ref h_this, .int v1, .int v2] [(h_this, .inr (2, [.int c_hooks, .int c_ends, .int c_cards, .int c_limit, .ref h_hookOfEnd, .ref h_holesOfCard])), (h_holesOfCard, .inl (G.2 0, 8, .inl c_holesOfCard))] [(h_this, .inr (2, [.int c_hooks, .int c_ends, .int (res.1), .int c_limit, .ref h_hookOfEnd, .ref h_holesOfCard])), (h_holesOfCard, .inl (G.2 0, 8, .inl (res.2)))] := MWv.of (plainFor_of_name (by decide +kernel)) rfl (Nat.le_of_ble_eq_true rfl) (fun p e s m below meth c A C hA hP hD hS ls hl => kX2_putBehind h_this h_hookOfEnd h_holesOfCard c_hooks c_ends c_cards c_limit c_holesOfCard v1 v2 C hA hP hD hS (fun pc ls H locs hP hD hS d => rWv C hP hD hS d) hf hl)
def fX2_startAnew (c_hooks : Int32) (c_ends : Int32) (c_cards : Int32) (c_limit : Int32) (c_hookOfEnd : Nat → Int32) (c_holesOfCard : Nat → Int32)  : Option (Int32 × Int32 × Int32 × Int32 × (Nat → Int32) × (Nat → Int32)) := (fX2_takeHooks c_hooks c_hookOfEnd (2 : Int32)).bind (fun u1 => (fX2_putBehind c_cards c_holesOfCard (0 : Int32) (0 : Int32)).bind (fun u2 => some (u1.1, (2 : Int32), u2.1, (12 : Int32), u1.2, u2.2)))
theorem iX2_startAnew_2 : ∀ w ∈ wsX20, w ∈ wsX2_startAnew := fun w h => List.mem_cons_of_mem _ (List.mem_append_right _ (h))
theorem hdX2_startAnew : yX2_startAnew.cls = RX2 ∧ yX2_startAnew.cls ≠ "java/lang/invoke/MethodHandle" ∧ yX2_startAnew.cls ≠ "java/lang/invoke/VarHandle" ∧ (parseMethodDescriptor yX2_startAnew.desc).map (fun d => d.parameters.length) = some 0 := by decide +kernel
abbrev rmX2_startAnew : Room := { frames := 1, cells := 0, slots := 0, locals := 22 }
section SX2_startAnew
variable {p : Program} {l : Launch} {e : Env} {s : State} {m : MethodId} {args : Array Value} {below : List Frame} {meth : Method} {c : Code} {Q : State → Prop} {G : GG} {A : Nat → Prop}
set_option maxHeartbeats 4000000 in
set_option maxRecDepth 100000 in
theorem kX2_startAnew (h_this : Nat) (h_hookOfEnd : Nat) (h_holesOfCard : Nat) (c_hooks : Int32) (c_ends : Int32) (c_cards : Int32) (c_limit : Int32) (c_hookOfEnd : Nat → Int32) (c_holesOfCard : Nat → Int32) (C : Cx cX2_startAnew none 1 RX2 wsX2_startAnew G p s m args meth c) (hA : ∀ q : Nat, s.heap.size ≤ q → A q) (hP : va_P G.1 CL [(h_this, .inr (2, [.int c_hooks, .int c_ends, .int c_cards, .int c_limit, .ref h_hookOfEnd, .ref h_holesOfCard])), (h_hookOfEnd, .inl (G.2 0, 12, .inl c_hookOfEnd)), (h_holesOfCard, .inl (G.2 0, 8, .inl c_holesOfCard))] s.heap) (hD : va_D A [(h_this, .inr (2, [.int c_hooks, .int c_ends, .int c_cards, .int c_limit, .ref h_hookOfEnd, .ref h_holesOfCard])), (h_hookOfEnd, .inl (G.2 0, 12, .inl c_hookOfEnd)), (h_holesOfCard, .inl (G.2 0, 8, .inl c_holesOfCard))]) (hS : va_S A s.heap s.heap []) {res : Int32 × Int32 × Int32 × Int32 × (Nat → Int32) × (Nat → Int32)} (kr : ∀ (pc : Nat) (ls : Array Slot) (H : Heap) (locs : List Loc), va_P G.1 CL [(h_this, .inr (2, [.int (res.1), .int (res.2.1), .int (res.2.2.1), .int (res.2.2.2.1), .ref h_hookOfEnd, .ref h_holesOfCard])), (h_hookOfEnd, .inl (G.2 0, 12, .inl (res.2.2.2.2.1))), (h_holesOfCard, .inl (G.2 0, 8, .inl (res.2.2.2.2.2)))] H → va_D A [(h_this, .inr (2, [.int (res.1), .int (res.2.1), .int (res.2.2.1), .int (res.2.2.2.1), .ref h_hookOfEnd, .ref h_holesOfCard])), (h_hookOfEnd, .inl (G.2 0, 12, .inl (res.2.2.2.2.1))), (h_holesOfCard, .inl (G.2 0, 8, .inl (res.2.2.2.2.2)))] → va_S A s.heap H locs → decode cX2_startAnew pc = .ok (.return_, 1) → W p l e rmX2_startAnew s m args below meth c H locs 0 0 Q (F0 m pc ls [])) (hf : fX2_startAnew c_hooks c_ends c_cards c_limit c_hookOfEnd c_holesOfCard = some res) {ls : Array Slot} (hl : lv_has ls 1 [(0, .ref h_this)]) : W p l e rmX2_startAnew s m args below meth c s.heap [] 0 0 Q (F0 m 0 ls []) := by
  obtain ⟨hx, hb, hr, hlk, hml, hown, hts, hK⟩ := id C
  rw [fX2_startAnew] at hf
  refine lv_aload_n hx hb dX2_startAnew_0 rfl (lv_at hl 0 rfl) ?_
  refine lv_iconst (v := (2 : Int32)) hx hb dX2_startAnew_1 (by decide) ?_
  refine va_put (D := G.1) (cl := CL) (ci := 2) (v := .int (2 : Int32)) (ty := .int) (C := RX2) (T := TX2) (N := 6) hx hb hts iX2_startAnew_2 tyX2 tyX2_ok nmX2 hown hK hP hD hS 0 rfl rfl 1 (by decide) (hts (.fieldLink RX2 21 "LoomCards$Loom" "ends" "I") (List.mem_of_getElem? (i := 1) rfl)) (fun _ h9 => h9) rfl (tyX2_ok 1 (by decide)) rfl rfl (Nat.le_of_ble_eq_true rfl) dX2_startAnew_2 (fun H locs hP hD hS => ?_)
  have hP : va_P G.1 CL [(h_this, .inr (2, [.int c_hooks, .int (2 : Int32), .int c_cards, .int c_limit, .ref h_hookOfEnd, .ref h_holesOfCard])), (h_hookOfEnd, .inl (G.2 0, 12, .inl c_hookOfEnd)), (h_holesOfCard, .inl (G.2 0, 8, .inl c_holesOfCard))] H := hP
  have hD : va_D A [(h_this, .inr (2, [.int c_hooks, .int (2 : Int32), .int c_cards, .int c_limit, .ref h_hookOfEnd, .ref h_holesOfCard])), (h_hookOfEnd, .inl (G.2 0, 12, .inl c_hookOfEnd)), (h_holesOfCard, .inl (G.2 0, 8, .inl c_holesOfCard))] := hD
  refine lv_aload_n hx hb dX2_startAnew_5 rfl (lv_at hl 0 rfl) ?_
  refine lv_iconst (v := (2 : Int32)) hx hb dX2_startAnew_6 (by decide) ?_
  refine r_bind hf (fun u1 hu1 hf => ?_)
  refine cWvV (ci := 2) (rest := []) (wr := [(h_holesOfCard, .inl (G.2 0, 8, .inl c_holesOfCard))]) (wf := [(h_this, .inr (2, [.int u1.1, .int (2 : Int32), .int c_cards, .int c_limit, .ref h_hookOfEnd, .ref h_holesOfCard])), (h_hookOfEnd, .inl (G.2 0, 12, .inl u1.2)), (h_holesOfCard, .inl (G.2 0, 8, .inl c_holesOfCard))]) ⟨hx, hb, hml, hown, hts⟩ hK (tX2_takeHooks l G h_this h_hookOfEnd h_holesOfCard c_hooks (2 : Int32) c_cards c_limit c_hookOfEnd (2 : Int32) u1 hu1) gX2_startAnew_X2_takeHooks rfl hdX2_takeHooks rfl rfl rfl ⟨Nat.le_of_ble_eq_true rfl, Nat.le_of_ble_eq_true rfl⟩ hP hD hS hA [0, 1] [2] [1, 2, 0] rfl rfl rfl (by decide) (by decide) (by decide) (by decide) 0 rfl rfl rfl hl.1 (Nat.le_of_ble_eq_true rfl) rfl dX2_startAnew_7 ⟨Nat.zero_le _, Nat.zero_le _⟩ (fun H locs hP hD hS => ?_)
  refine lv_aload_n hx hb dX2_startAnew_10 rfl (lv_at hl 0 rfl) ?_
  refine lv_iconst (v := (0 : Int32)) hx hb dX2_startAnew_11 (by decide) ?_
  refine lv_iconst (v := (0 : Int32)) hx hb dX2_startAnew_12 (by decide) ?_
  refine r_bind hf (fun u2 hu2 hf => ?_)
  refine cWvV (ci := 2) (rest := []) (wr := [(h_hookOfEnd, .inl (G.2 0, 12, .inl u1.2))]) (wf := [(h_this, .inr (2, [.int u1.1, .int (2 : Int32), .int u2.1, .int c_limit, .ref h_hookOfEnd, .ref h_holesOfCard])), (h_hookOfEnd, .inl (G.2 0, 12, .inl u1.2)), (h_holesOfCard, .inl (G.2 0, 8, .inl u2.2))]) ⟨hx, hb, hml, hown, hts⟩ hK (tX2_putBehind l G h_this h_hookOfEnd h_holesOfCard u1.1 (2 : Int32) c_cards c_limit c_holesOfCard (0 : Int32) (0 : Int32) u2 hu2) gX2_startAnew_X2_putBehind rfl hdX2_putBehind rfl rfl rfl ⟨Nat.le_of_ble_eq_true rfl, Nat.le_of_ble_eq_true rfl⟩ hP hD hS hA [0, 2] [1] [1, 0, 2] rfl rfl rfl (by decide) (by decide) (by decide) (by decide) 0 rfl rfl rfl hl.1 (Nat.le_of_ble_eq_true rfl) rfl dX2_startAnew_13 ⟨Nat.zero_le _, Nat.zero_le _⟩ (fun H locs hP hD hS => ?_)
  refine lv_aload_n hx hb dX2_startAnew_16 rfl (lv_at hl 0 rfl) ?_
  refine lv_bipush (v := (12 : Int32)) hx hb dX2_startAnew_17 (by decide) ?_
  refine va_put (D := G.1) (cl := CL) (ci := 2) (v := .int (12 : Int32)) (ty := .int) (C := RX2) (T := TX2) (N := 6) hx hb hts iX2_startAnew_2 tyX2 tyX2_ok nmX2 hown hK hP hD hS 0 rfl rfl 3 (by decide) (hts (.fieldLink RX2 33 "LoomCards$Loom" "limit" "I") (List.mem_of_getElem? (i := 2) rfl)) (fun _ h9 => h9) rfl (tyX2_ok 3 (by decide)) rfl rfl (Nat.le_of_ble_eq_true rfl) dX2_startAnew_19 (fun H locs hP hD hS => ?_)
  have hP : va_P G.1 CL [(h_this, .inr (2, [.int u1.1, .int (2 : Int32), .int u2.1, .int (12 : Int32), .ref h_hookOfEnd, .ref h_holesOfCard])), (h_hookOfEnd, .inl (G.2 0, 12, .inl u1.2)), (h_holesOfCard, .inl (G.2 0, 8, .inl u2.2))] H := hP
  have hD : va_D A [(h_this, .inr (2, [.int u1.1, .int (2 : Int32), .int u2.1, .int (12 : Int32), .ref h_hookOfEnd, .ref h_holesOfCard])), (h_hookOfEnd, .inl (G.2 0, 12, .inl u1.2)), (h_holesOfCard, .inl (G.2 0, 8, .inl u2.2))] := hD
  obtain rfl := Option.some.inj hf
  exact kr _ _ _ _ hP hD hS dX2_startAnew_22
end SX2_startAnew
set_option maxHeartbeats 4000000 in
set_option maxRecDepth 100000 in
theorem tX2_startAnew (l : Launch) (G : GG) (h_this : Nat) (h_hookOfEnd : Nat) (h_holesOfCard : Nat) (c_hooks : Int32) (c_ends : Int32) (c_cards : Int32) (c_limit : Int32) (c_hookOfEnd : Nat → Int32) (c_holesOfCard : Nat → Int32) (res : Int32 × Int32 × Int32 × Int32 × (Nat → Int32) × (Nat → Int32)) (hf : fX2_startAnew c_hooks c_ends c_cards c_limit c_hookOfEnd c_holesOfCard = some res) : MWv l yX2_startAnew wsX2_startAnew rmX2_startAnew G [.ref h_this] [(h_this, .inr (2, [.int c_hooks, .int c_ends, .int c_cards, .int c_limit, .ref h_hookOfEnd, .ref h_holesOfCard])), (h_hookOfEnd, .inl (G.2 0, 12, .inl c_hookOfEnd)), (h_holesOfCard, .inl (G.2 0, 8, .inl c_holesOfCard))] [(h_this, .inr (2, [.int (res.1), .int (res.2.1), .int (res.2.2.1), .int (res.2.2.2.1), .ref h_hookOfEnd, .ref h_holesOfCard])), (h_hookOfEnd, .inl (G.2 0, 12, .inl (res.2.2.2.2.1))), (h_holesOfCard, .inl (G.2 0, 8, .inl (res.2.2.2.2.2)))] := MWv.of (plainFor_of_name (by decide +kernel)) rfl (Nat.le_of_ble_eq_true rfl) (fun p e s m below meth c A C hA hP hD hS ls hl => kX2_startAnew h_this h_hookOfEnd h_holesOfCard c_hooks c_ends c_cards c_limit c_hookOfEnd c_holesOfCard C hA hP hD hS (fun pc ls H locs hP hD hS d => rWv C hP hD hS d) hf hl)
def fX2_hasHook (c_hooks : Int32) (v1 : Int32) : Option (Int32) := if v1 < 0 then some ((0 : Int32)) else if c_hooks ≤ v1 then some ((0 : Int32)) else some ((1 : Int32))
theorem iX2_hasHook_2 : ∀ w ∈ wsX20, w ∈ wsX2_hasHook := fun w h => List.mem_cons_of_mem _ (List.mem_append_right _ (h))
theorem hdX2_hasHook : yX2_hasHook.cls = RX2 ∧ yX2_hasHook.cls ≠ "java/lang/invoke/MethodHandle" ∧ yX2_hasHook.cls ≠ "java/lang/invoke/VarHandle" ∧ (parseMethodDescriptor yX2_hasHook.desc).map (fun d => d.parameters.length) = some 1 := by decide +kernel
abbrev rmX2_hasHook : Room := { frames := 0, cells := 0, slots := 0, locals := 0 }
section SX2_hasHook
variable {p : Program} {l : Launch} {e : Env} {s : State} {m : MethodId} {args : Array Value} {below : List Frame} {meth : Method} {c : Code} {Q : State → Prop} {G : GG}
set_option maxHeartbeats 4000000 in
set_option maxRecDepth 100000 in
theorem kX2_hasHook (h_this : Nat) (h_hookOfEnd : Nat) (h_holesOfCard : Nat) (c_hooks : Int32) (c_ends : Int32) (c_cards : Int32) (c_limit : Int32) (v1 : Int32) (C : Cx cX2_hasHook (some .boolean) 2 RX2 wsX2_hasHook G p s m args meth c) (hP : va_P G.1 CL [(h_this, .inr (2, [.int c_hooks, .int c_ends, .int c_cards, .int c_limit, .ref h_hookOfEnd, .ref h_holesOfCard]))] s.heap) {res : Int32} (kr : ∀ (pc : Nat) (ls : Array Slot), narrow .boolean (.int res) = .int res → decode cX2_hasHook pc = .ok (.ireturn, 1) → W p l e rmX2_hasHook s m args below meth c s.heap [] 0 0 Q (F0 m pc ls [.int res])) (hf : fX2_hasHook c_hooks v1 = some res) {ls : Array Slot} (hl : lv_has ls 2 [(0, .ref h_this), (1, .int v1)]) : W p l e rmX2_hasHook s m args below meth c s.heap [] 0 0 Q (F0 m 0 ls []) := by
  obtain ⟨hx, hb, hr, hlk, hml, hown, hts, hK⟩ := id C
  rw [fX2_hasHook] at hf
  refine lv_iload_n hx hb dX2_hasHook_0 rfl (lv_at hl 1 rfl) ?_
  refine lv_if_lt (tgt := 16) hx hb dX2_hasHook_1 (by decide) (fun c9 => ?_) (fun c9 => ?_)
  · have hf := c_t hf c9
    refine lv_iconst (v := (0 : Int32)) hx hb dX2_hasHook_16 (by decide) ?_
    obtain rfl := Option.some.inj hf
    exact kr _ _ nb0 dX2_hasHook_17
  · have hf := c_f hf c9
    refine lv_iload_n hx hb dX2_hasHook_4 rfl (lv_at hl 1 rfl) ?_
    refine lv_aload_n hx hb dX2_hasHook_5 rfl (lv_at hl 0 rfl) ?_
    refine va_get (D := G.1) (cl := CL) (ci := 2) (C := RX2) (T := TX2) (N := 6) hx hb hts iX2_hasHook_2 hown hK hP 0 rfl rfl 0 (by decide) (hts (.fieldLink RX2 36 "LoomCards$Loom" "hooks" "I") (List.mem_of_getElem? (i := 1) rfl)) (fun _ h9 => h9) rfl dX2_hasHook_6 ?_
    refine lv_icmp_ge (tgt := 16) hx hb dX2_hasHook_9 (by decide) (fun c9 => ?_) (fun c9 => ?_)
    · have hf := c_t hf c9
      refine lv_iconst (v := (0 : Int32)) hx hb dX2_hasHook_16 (by decide) ?_
      obtain rfl := Option.some.inj hf
      exact kr _ _ nb0 dX2_hasHook_17
    · have hf := c_f hf c9
      refine lv_iconst (v := (1 : Int32)) hx hb dX2_hasHook_12 (by decide) ?_
      refine lv_goto (tgt := 17) hx hb dX2_hasHook_13 (by decide) ?_
      obtain rfl := Option.some.inj hf
      exact kr _ _ nb1 dX2_hasHook_17
end SX2_hasHook
set_option maxHeartbeats 4000000 in
set_option maxRecDepth 100000 in
theorem tX2_hasHook (l : Launch) (G : GG) (h_this : Nat) (h_hookOfEnd : Nat) (h_holesOfCard : Nat) (c_hooks : Int32) (c_ends : Int32) (c_cards : Int32) (c_limit : Int32) (v1 : Int32) (res : Int32) (hf : fX2_hasHook c_hooks v1 = some res) : MRi l yX2_hasHook wsX2_hasHook rmX2_hasHook G [.ref h_this, .int v1] [(h_this, .inr (2, [.int c_hooks, .int c_ends, .int c_cards, .int c_limit, .ref h_hookOfEnd, .ref h_holesOfCard]))] (res) := MRi.of (plainFor_of_name (by decide +kernel)) rfl (Nat.le_of_ble_eq_true rfl) (fun p e s m below meth c C hP ls hl => kX2_hasHook h_this h_hookOfEnd h_holesOfCard c_hooks c_ends c_cards c_limit v1 C hP (fun pc ls hn d => rRz C hn d) hf hl)
def fX2_hasEnd (c_ends : Int32) (v1 : Int32) : Option (Int32) := if v1 < 0 then some ((0 : Int32)) else if c_ends ≤ v1 then some ((0 : Int32)) else some ((1 : Int32))
theorem iX2_hasEnd_2 : ∀ w ∈ wsX20, w ∈ wsX2_hasEnd := fun w h => List.mem_cons_of_mem _ (List.mem_append_right _ (h))
theorem hdX2_hasEnd : yX2_hasEnd.cls = RX2 ∧ yX2_hasEnd.cls ≠ "java/lang/invoke/MethodHandle" ∧ yX2_hasEnd.cls ≠ "java/lang/invoke/VarHandle" ∧ (parseMethodDescriptor yX2_hasEnd.desc).map (fun d => d.parameters.length) = some 1 := by decide +kernel
abbrev rmX2_hasEnd : Room := { frames := 0, cells := 0, slots := 0, locals := 0 }
section SX2_hasEnd
variable {p : Program} {l : Launch} {e : Env} {s : State} {m : MethodId} {args : Array Value} {below : List Frame} {meth : Method} {c : Code} {Q : State → Prop} {G : GG}
set_option maxHeartbeats 4000000 in
set_option maxRecDepth 100000 in
theorem kX2_hasEnd (h_this : Nat) (h_hookOfEnd : Nat) (h_holesOfCard : Nat) (c_hooks : Int32) (c_ends : Int32) (c_cards : Int32) (c_limit : Int32) (v1 : Int32) (C : Cx cX2_hasEnd (some .boolean) 2 RX2 wsX2_hasEnd G p s m args meth c) (hP : va_P G.1 CL [(h_this, .inr (2, [.int c_hooks, .int c_ends, .int c_cards, .int c_limit, .ref h_hookOfEnd, .ref h_holesOfCard]))] s.heap) {res : Int32} (kr : ∀ (pc : Nat) (ls : Array Slot), narrow .boolean (.int res) = .int res → decode cX2_hasEnd pc = .ok (.ireturn, 1) → W p l e rmX2_hasEnd s m args below meth c s.heap [] 0 0 Q (F0 m pc ls [.int res])) (hf : fX2_hasEnd c_ends v1 = some res) {ls : Array Slot} (hl : lv_has ls 2 [(0, .ref h_this), (1, .int v1)]) : W p l e rmX2_hasEnd s m args below meth c s.heap [] 0 0 Q (F0 m 0 ls []) := by
  obtain ⟨hx, hb, hr, hlk, hml, hown, hts, hK⟩ := id C
  rw [fX2_hasEnd] at hf
  refine lv_iload_n hx hb dX2_hasEnd_0 rfl (lv_at hl 1 rfl) ?_
  refine lv_if_lt (tgt := 16) hx hb dX2_hasEnd_1 (by decide) (fun c9 => ?_) (fun c9 => ?_)
  · have hf := c_t hf c9
    refine lv_iconst (v := (0 : Int32)) hx hb dX2_hasEnd_16 (by decide) ?_
    obtain rfl := Option.some.inj hf
    exact kr _ _ nb0 dX2_hasEnd_17
  · have hf := c_f hf c9
    refine lv_iload_n hx hb dX2_hasEnd_4 rfl (lv_at hl 1 rfl) ?_
    refine lv_aload_n hx hb dX2_hasEnd_5 rfl (lv_at hl 0 rfl) ?_
    refine va_get (D := G.1) (cl := CL) (ci := 2) (C := RX2) (T := TX2) (N := 6) hx hb hts iX2_hasEnd_2 hown hK hP 0 rfl rfl 1 (by decide) (hts (.fieldLink RX2 21 "LoomCards$Loom" "ends" "I") (List.mem_of_getElem? (i := 1) rfl)) (fun _ h9 => h9) rfl dX2_hasEnd_6 ?_
    refine lv_icmp_ge (tgt := 16) hx hb dX2_hasEnd_9 (by decide) (fun c9 => ?_) (fun c9 => ?_)
    · have hf := c_t hf c9
      refine lv_iconst (v := (0 : Int32)) hx hb dX2_hasEnd_16 (by decide) ?_
      obtain rfl := Option.some.inj hf
      exact kr _ _ nb0 dX2_hasEnd_17
    · have hf := c_f hf c9
      refine lv_iconst (v := (1 : Int32)) hx hb dX2_hasEnd_12 (by decide) ?_
      refine lv_goto (tgt := 17) hx hb dX2_hasEnd_13 (by decide) ?_
      obtain rfl := Option.some.inj hf
      exact kr _ _ nb1 dX2_hasEnd_17
end SX2_hasEnd
set_option maxHeartbeats 4000000 in
set_option maxRecDepth 100000 in
theorem tX2_hasEnd (l : Launch) (G : GG) (h_this : Nat) (h_hookOfEnd : Nat) (h_holesOfCard : Nat) (c_hooks : Int32) (c_ends : Int32) (c_cards : Int32) (c_limit : Int32) (v1 : Int32) (res : Int32) (hf : fX2_hasEnd c_ends v1 = some res) : MRi l yX2_hasEnd wsX2_hasEnd rmX2_hasEnd G [.ref h_this, .int v1] [(h_this, .inr (2, [.int c_hooks, .int c_ends, .int c_cards, .int c_limit, .ref h_hookOfEnd, .ref h_holesOfCard]))] (res) := MRi.of (plainFor_of_name (by decide +kernel)) rfl (Nat.le_of_ble_eq_true rfl) (fun p e s m below meth c C hP ls hl => kX2_hasEnd h_this h_hookOfEnd h_holesOfCard c_hooks c_ends c_cards c_limit v1 C hP (fun pc ls hn d => rRz C hn d) hf hl)
def fX2_hasCard (c_cards : Int32) (v1 : Int32) : Option (Int32) := if v1 < 0 then some ((0 : Int32)) else if c_cards ≤ v1 then some ((0 : Int32)) else some ((1 : Int32))
theorem iX2_hasCard_2 : ∀ w ∈ wsX20, w ∈ wsX2_hasCard := fun w h => List.mem_cons_of_mem _ (List.mem_append_right _ (h))
theorem hdX2_hasCard : yX2_hasCard.cls = RX2 ∧ yX2_hasCard.cls ≠ "java/lang/invoke/MethodHandle" ∧ yX2_hasCard.cls ≠ "java/lang/invoke/VarHandle" ∧ (parseMethodDescriptor yX2_hasCard.desc).map (fun d => d.parameters.length) = some 1 := by decide +kernel
abbrev rmX2_hasCard : Room := { frames := 0, cells := 0, slots := 0, locals := 0 }
section SX2_hasCard
variable {p : Program} {l : Launch} {e : Env} {s : State} {m : MethodId} {args : Array Value} {below : List Frame} {meth : Method} {c : Code} {Q : State → Prop} {G : GG}
set_option maxHeartbeats 4000000 in
set_option maxRecDepth 100000 in
theorem kX2_hasCard (h_this : Nat) (h_hookOfEnd : Nat) (h_holesOfCard : Nat) (c_hooks : Int32) (c_ends : Int32) (c_cards : Int32) (c_limit : Int32) (v1 : Int32) (C : Cx cX2_hasCard (some .boolean) 2 RX2 wsX2_hasCard G p s m args meth c) (hP : va_P G.1 CL [(h_this, .inr (2, [.int c_hooks, .int c_ends, .int c_cards, .int c_limit, .ref h_hookOfEnd, .ref h_holesOfCard]))] s.heap) {res : Int32} (kr : ∀ (pc : Nat) (ls : Array Slot), narrow .boolean (.int res) = .int res → decode cX2_hasCard pc = .ok (.ireturn, 1) → W p l e rmX2_hasCard s m args below meth c s.heap [] 0 0 Q (F0 m pc ls [.int res])) (hf : fX2_hasCard c_cards v1 = some res) {ls : Array Slot} (hl : lv_has ls 2 [(0, .ref h_this), (1, .int v1)]) : W p l e rmX2_hasCard s m args below meth c s.heap [] 0 0 Q (F0 m 0 ls []) := by
  obtain ⟨hx, hb, hr, hlk, hml, hown, hts, hK⟩ := id C
  rw [fX2_hasCard] at hf
  refine lv_iload_n hx hb dX2_hasCard_0 rfl (lv_at hl 1 rfl) ?_
  refine lv_if_lt (tgt := 16) hx hb dX2_hasCard_1 (by decide) (fun c9 => ?_) (fun c9 => ?_)
  · have hf := c_t hf c9
    refine lv_iconst (v := (0 : Int32)) hx hb dX2_hasCard_16 (by decide) ?_
    obtain rfl := Option.some.inj hf
    exact kr _ _ nb0 dX2_hasCard_17
  · have hf := c_f hf c9
    refine lv_iload_n hx hb dX2_hasCard_4 rfl (lv_at hl 1 rfl) ?_
    refine lv_aload_n hx hb dX2_hasCard_5 rfl (lv_at hl 0 rfl) ?_
    refine va_get (D := G.1) (cl := CL) (ci := 2) (C := RX2) (T := TX2) (N := 6) hx hb hts iX2_hasCard_2 hown hK hP 0 rfl rfl 2 (by decide) (hts (.fieldLink RX2 39 "LoomCards$Loom" "cards" "I") (List.mem_of_getElem? (i := 1) rfl)) (fun _ h9 => h9) rfl dX2_hasCard_6 ?_
    refine lv_icmp_ge (tgt := 16) hx hb dX2_hasCard_9 (by decide) (fun c9 => ?_) (fun c9 => ?_)
    · have hf := c_t hf c9
      refine lv_iconst (v := (0 : Int32)) hx hb dX2_hasCard_16 (by decide) ?_
      obtain rfl := Option.some.inj hf
      exact kr _ _ nb0 dX2_hasCard_17
    · have hf := c_f hf c9
      refine lv_iconst (v := (1 : Int32)) hx hb dX2_hasCard_12 (by decide) ?_
      refine lv_goto (tgt := 17) hx hb dX2_hasCard_13 (by decide) ?_
      obtain rfl := Option.some.inj hf
      exact kr _ _ nb1 dX2_hasCard_17
end SX2_hasCard
set_option maxHeartbeats 4000000 in
set_option maxRecDepth 100000 in
theorem tX2_hasCard (l : Launch) (G : GG) (h_this : Nat) (h_hookOfEnd : Nat) (h_holesOfCard : Nat) (c_hooks : Int32) (c_ends : Int32) (c_cards : Int32) (c_limit : Int32) (v1 : Int32) (res : Int32) (hf : fX2_hasCard c_cards v1 = some res) : MRi l yX2_hasCard wsX2_hasCard rmX2_hasCard G [.ref h_this, .int v1] [(h_this, .inr (2, [.int c_hooks, .int c_ends, .int c_cards, .int c_limit, .ref h_hookOfEnd, .ref h_holesOfCard]))] (res) := MRi.of (plainFor_of_name (by decide +kernel)) rfl (Nat.le_of_ble_eq_true rfl) (fun p e s m below meth c C hP ls hl => kX2_hasCard h_this h_hookOfEnd h_holesOfCard c_hooks c_ends c_cards c_limit v1 C hP (fun pc ls hn d => rRz C hn d) hf hl)
def fX2_hasHoles (c_hooks : Int32) (v1 : Int32) : Option (Int32) := if v1 < 0 then some ((0 : Int32)) else if ((1 : Int32) <<< (c_hooks &&& 31)) ≤ v1 then some ((0 : Int32)) else some ((1 : Int32))
theorem iX2_hasHoles_2 : ∀ w ∈ wsX20, w ∈ wsX2_hasHoles := fun w h => List.mem_cons_of_mem _ (List.mem_append_right _ (h))
theorem hdX2_hasHoles : yX2_hasHoles.cls = RX2 ∧ yX2_hasHoles.cls ≠ "java/lang/invoke/MethodHandle" ∧ yX2_hasHoles.cls ≠ "java/lang/invoke/VarHandle" ∧ (parseMethodDescriptor yX2_hasHoles.desc).map (fun d => d.parameters.length) = some 1 := by decide +kernel
abbrev rmX2_hasHoles : Room := { frames := 0, cells := 0, slots := 0, locals := 0 }
section SX2_hasHoles
variable {p : Program} {l : Launch} {e : Env} {s : State} {m : MethodId} {args : Array Value} {below : List Frame} {meth : Method} {c : Code} {Q : State → Prop} {G : GG}
set_option maxHeartbeats 4000000 in
set_option maxRecDepth 100000 in
theorem kX2_hasHoles (h_this : Nat) (h_hookOfEnd : Nat) (h_holesOfCard : Nat) (c_hooks : Int32) (c_ends : Int32) (c_cards : Int32) (c_limit : Int32) (v1 : Int32) (C : Cx cX2_hasHoles (some .boolean) 2 RX2 wsX2_hasHoles G p s m args meth c) (hP : va_P G.1 CL [(h_this, .inr (2, [.int c_hooks, .int c_ends, .int c_cards, .int c_limit, .ref h_hookOfEnd, .ref h_holesOfCard]))] s.heap) {res : Int32} (kr : ∀ (pc : Nat) (ls : Array Slot), narrow .boolean (.int res) = .int res → decode cX2_hasHoles pc = .ok (.ireturn, 1) → W p l e rmX2_hasHoles s m args below meth c s.heap [] 0 0 Q (F0 m pc ls [.int res])) (hf : fX2_hasHoles c_hooks v1 = some res) {ls : Array Slot} (hl : lv_has ls 2 [(0, .ref h_this), (1, .int v1)]) : W p l e rmX2_hasHoles s m args below meth c s.heap [] 0 0 Q (F0 m 0 ls []) := by
  obtain ⟨hx, hb, hr, hlk, hml, hown, hts, hK⟩ := id C
  rw [fX2_hasHoles] at hf
  refine lv_iload_n hx hb dX2_hasHoles_0 rfl (lv_at hl 1 rfl) ?_
  refine lv_if_lt (tgt := 18) hx hb dX2_hasHoles_1 (by decide) (fun c9 => ?_) (fun c9 => ?_)
  · have hf := c_t hf c9
    refine lv_iconst (v := (0 : Int32)) hx hb dX2_hasHoles_18 (by decide) ?_
    obtain rfl := Option.some.inj hf
    exact kr _ _ nb0 dX2_hasHoles_19
  · have hf := c_f hf c9
    refine lv_iload_n hx hb dX2_hasHoles_4 rfl (lv_at hl 1 rfl) ?_
    refine lv_iconst (v := (1 : Int32)) hx hb dX2_hasHoles_5 (by decide) ?_
    refine lv_aload_n hx hb dX2_hasHoles_6 rfl (lv_at hl 0 rfl) ?_
    refine va_get (D := G.1) (cl := CL) (ci := 2) (C := RX2) (T := TX2) (N := 6) hx hb hts iX2_hasHoles_2 hown hK hP 0 rfl rfl 0 (by decide) (hts (.fieldLink RX2 36 "LoomCards$Loom" "hooks" "I") (List.mem_of_getElem? (i := 1) rfl)) (fun _ h9 => h9) rfl dX2_hasHoles_7 ?_
    refine lv_ishl hx hb dX2_hasHoles_10 ?_
    refine lv_icmp_ge (tgt := 18) hx hb dX2_hasHoles_11 (by decide) (fun c9 => ?_) (fun c9 => ?_)
    · have hf := c_t hf c9
      refine lv_iconst (v := (0 : Int32)) hx hb dX2_hasHoles_18 (by decide) ?_
      obtain rfl := Option.some.inj hf
      exact kr _ _ nb0 dX2_hasHoles_19
    · have hf := c_f hf c9
      refine lv_iconst (v := (1 : Int32)) hx hb dX2_hasHoles_14 (by decide) ?_
      refine lv_goto (tgt := 19) hx hb dX2_hasHoles_15 (by decide) ?_
      obtain rfl := Option.some.inj hf
      exact kr _ _ nb1 dX2_hasHoles_19
end SX2_hasHoles
set_option maxHeartbeats 4000000 in
set_option maxRecDepth 100000 in
theorem tX2_hasHoles (l : Launch) (G : GG) (h_this : Nat) (h_hookOfEnd : Nat) (h_holesOfCard : Nat) (c_hooks : Int32) (c_ends : Int32) (c_cards : Int32) (c_limit : Int32) (v1 : Int32) (res : Int32) (hf : fX2_hasHoles c_hooks v1 = some res) : MRi l yX2_hasHoles wsX2_hasHoles rmX2_hasHoles G [.ref h_this, .int v1] [(h_this, .inr (2, [.int c_hooks, .int c_ends, .int c_cards, .int c_limit, .ref h_hookOfEnd, .ref h_holesOfCard]))] (res) := MRi.of (plainFor_of_name (by decide +kernel)) rfl (Nat.le_of_ble_eq_true rfl) (fun p e s m below meth c C hP ls hl => kX2_hasHoles h_this h_hookOfEnd h_holesOfCard c_hooks c_ends c_cards c_limit v1 C hP (fun pc ls hn d => rRz C hn d) hf hl)
def fX2_hookOf (c_ends : Int32) (c_hookOfEnd : Nat → Int32) (v1 : Int32) : Option (Int32) := (fX2_hasEnd c_ends v1).bind (fun u1 => if u1 = 0 then some ((0 : Int32)) else gd (ix v1 12) (some ((c_hookOfEnd v1.toNatClampNeg))))
theorem iX2_hookOf_2 : ∀ w ∈ wsX20, w ∈ wsX2_hookOf := fun w h => List.mem_cons_of_mem _ (List.mem_append_right _ (h))
theorem hdX2_hookOf : yX2_hookOf.cls = RX2 ∧ yX2_hookOf.cls ≠ "java/lang/invoke/MethodHandle" ∧ yX2_hookOf.cls ≠ "java/lang/invoke/VarHandle" ∧ (parseMethodDescriptor yX2_hookOf.desc).map (fun d => d.parameters.length) = some 1 := by decide +kernel
abbrev rmX2_hookOf : Room := { frames := 1, cells := 0, slots := 0, locals := 21 }
section SX2_hookOf
variable {p : Program} {l : Launch} {e : Env} {s : State} {m : MethodId} {args : Array Value} {below : List Frame} {meth : Method} {c : Code} {Q : State → Prop} {G : GG}
set_option maxHeartbeats 4000000 in
set_option maxRecDepth 100000 in
theorem kX2_hookOf (h_this : Nat) (h_hookOfEnd : Nat) (h_holesOfCard : Nat) (c_hooks : Int32) (c_ends : Int32) (c_cards : Int32) (c_limit : Int32) (c_hookOfEnd : Nat → Int32) (v1 : Int32) (C : Cx cX2_hookOf (some .int) 2 RX2 wsX2_hookOf G p s m args meth c) (hP : va_P G.1 CL [(h_this, .inr (2, [.int c_hooks, .int c_ends, .int c_cards, .int c_limit, .ref h_hookOfEnd, .ref h_holesOfCard])), (h_hookOfEnd, .inl (G.2 0, 12, .inl c_hookOfEnd))] s.heap) {res : Int32} (kr : ∀ (pc : Nat) (ls : Array Slot), decode cX2_hookOf pc = .ok (.ireturn, 1) → W p l e rmX2_hookOf s m args below meth c s.heap [] 0 0 Q (F0 m pc ls [.int res])) (hf : fX2_hookOf c_ends c_hookOfEnd v1 = some res) {ls : Array Slot} (hl : lv_has ls 2 [(0, .ref h_this), (1, .int v1)]) : W p l e rmX2_hookOf s m args below meth c s.heap [] 0 0 Q (F0 m 0 ls []) := by
  obtain ⟨hx, hb, hr, hlk, hml, hown, hts, hK⟩ := id C
  rw [fX2_hookOf] at hf
  refine lv_aload_n hx hb dX2_hookOf_0 rfl (lv_at hl 0 rfl) ?_
  refine lv_iload_n hx hb dX2_hookOf_1 rfl (lv_at hl 1 rfl) ?_
  refine r_bind hf (fun u1 hu1 hf => ?_)
  refine cRiV (ci := 2) (rest := []) ⟨hx, hb, hml, hown, hts⟩ hK (tX2_hasEnd l G h_this h_hookOfEnd h_holesOfCard c_hooks c_ends c_cards c_limit v1 u1 hu1) gX2_hookOf_X2_hasEnd rfl hdX2_hasEnd rfl rfl rfl ⟨Nat.le_of_ble_eq_true rfl, Nat.le_of_ble_eq_true rfl⟩ hP [0] rfl 0 rfl rfl rfl hl.1 (Nat.le_of_ble_eq_true rfl) rfl dX2_hookOf_2 ⟨Nat.zero_le _, Nat.zero_le _⟩ ?_
  refine lv_if_eq (tgt := 17) hx hb dX2_hookOf_5 (by decide) (fun c9 => ?_) (fun c9 => ?_)
  · have hf := c_t hf c9
    refine lv_iconst (v := (0 : Int32)) hx hb dX2_hookOf_17 (by decide) ?_
    obtain rfl := Option.some.inj hf
    exact kr _ _ dX2_hookOf_18
  · have hf := c_f hf c9
    refine lv_aload_n hx hb dX2_hookOf_8 rfl (lv_at hl 0 rfl) ?_
    refine va_get (D := G.1) (cl := CL) (ci := 2) (C := RX2) (T := TX2) (N := 6) hx hb hts iX2_hookOf_2 hown hK hP 0 rfl rfl 4 (by decide) (hts (.fieldLink RX2 9 "LoomCards$Loom" "hookOfEnd" "[I") (List.mem_of_getElem? (i := 1) rfl)) (fun _ h9 => h9) rfl dX2_hookOf_9 ?_
    refine lv_iload_n hx hb dX2_hookOf_12 rfl (lv_at hl 1 rfl) ?_
    refine r_gd hf (fun g9 hf => ?_)
    refine r_iald hx hb hK hP 1 rfl (ix_in g9) rfl dX2_hookOf_13 ?_
    refine lv_goto (tgt := 18) hx hb dX2_hookOf_14 (by decide) ?_
    obtain rfl := Option.some.inj hf
    exact kr _ _ dX2_hookOf_18
end SX2_hookOf
set_option maxHeartbeats 4000000 in
set_option maxRecDepth 100000 in
theorem tX2_hookOf (l : Launch) (G : GG) (h_this : Nat) (h_hookOfEnd : Nat) (h_holesOfCard : Nat) (c_hooks : Int32) (c_ends : Int32) (c_cards : Int32) (c_limit : Int32) (c_hookOfEnd : Nat → Int32) (v1 : Int32) (res : Int32) (hf : fX2_hookOf c_ends c_hookOfEnd v1 = some res) : MRi l yX2_hookOf wsX2_hookOf rmX2_hookOf G [.ref h_this, .int v1] [(h_this, .inr (2, [.int c_hooks, .int c_ends, .int c_cards, .int c_limit, .ref h_hookOfEnd, .ref h_holesOfCard])), (h_hookOfEnd, .inl (G.2 0, 12, .inl c_hookOfEnd))] (res) := MRi.of (plainFor_of_name (by decide +kernel)) rfl (Nat.le_of_ble_eq_true rfl) (fun p e s m below meth c C hP ls hl => kX2_hookOf h_this h_hookOfEnd h_holesOfCard c_hooks c_ends c_cards c_limit c_hookOfEnd v1 C hP (fun pc ls d => rRi C d) hf hl)
def fX2_holesOf (c_cards : Int32) (c_holesOfCard : Nat → Int32) (v1 : Int32) : Option (Int32) := (fX2_hasCard c_cards v1).bind (fun u1 => if u1 = 0 then some ((0 : Int32)) else gd (ix v1 8) (some ((c_holesOfCard v1.toNatClampNeg))))
theorem iX2_holesOf_2 : ∀ w ∈ wsX20, w ∈ wsX2_holesOf := fun w h => List.mem_cons_of_mem _ (List.mem_append_right _ (h))
theorem hdX2_holesOf : yX2_holesOf.cls = RX2 ∧ yX2_holesOf.cls ≠ "java/lang/invoke/MethodHandle" ∧ yX2_holesOf.cls ≠ "java/lang/invoke/VarHandle" ∧ (parseMethodDescriptor yX2_holesOf.desc).map (fun d => d.parameters.length) = some 1 := by decide +kernel
abbrev rmX2_holesOf : Room := { frames := 1, cells := 0, slots := 0, locals := 21 }
section SX2_holesOf
variable {p : Program} {l : Launch} {e : Env} {s : State} {m : MethodId} {args : Array Value} {below : List Frame} {meth : Method} {c : Code} {Q : State → Prop} {G : GG}
set_option maxHeartbeats 4000000 in
set_option maxRecDepth 100000 in
theorem kX2_holesOf (h_this : Nat) (h_hookOfEnd : Nat) (h_holesOfCard : Nat) (c_hooks : Int32) (c_ends : Int32) (c_cards : Int32) (c_limit : Int32) (c_holesOfCard : Nat → Int32) (v1 : Int32) (C : Cx cX2_holesOf (some .int) 2 RX2 wsX2_holesOf G p s m args meth c) (hP : va_P G.1 CL [(h_this, .inr (2, [.int c_hooks, .int c_ends, .int c_cards, .int c_limit, .ref h_hookOfEnd, .ref h_holesOfCard])), (h_holesOfCard, .inl (G.2 0, 8, .inl c_holesOfCard))] s.heap) {res : Int32} (kr : ∀ (pc : Nat) (ls : Array Slot), decode cX2_holesOf pc = .ok (.ireturn, 1) → W p l e rmX2_holesOf s m args below meth c s.heap [] 0 0 Q (F0 m pc ls [.int res])) (hf : fX2_holesOf c_cards c_holesOfCard v1 = some res) {ls : Array Slot} (hl : lv_has ls 2 [(0, .ref h_this), (1, .int v1)]) : W p l e rmX2_holesOf s m args below meth c s.heap [] 0 0 Q (F0 m 0 ls []) := by
  obtain ⟨hx, hb, hr, hlk, hml, hown, hts, hK⟩ := id C
  rw [fX2_holesOf] at hf
  refine lv_aload_n hx hb dX2_holesOf_0 rfl (lv_at hl 0 rfl) ?_
  refine lv_iload_n hx hb dX2_holesOf_1 rfl (lv_at hl 1 rfl) ?_
  refine r_bind hf (fun u1 hu1 hf => ?_)
  refine cRiV (ci := 2) (rest := []) ⟨hx, hb, hml, hown, hts⟩ hK (tX2_hasCard l G h_this h_hookOfEnd h_holesOfCard c_hooks c_ends c_cards c_limit v1 u1 hu1) gX2_holesOf_X2_hasCard rfl hdX2_hasCard rfl rfl rfl ⟨Nat.le_of_ble_eq_true rfl, Nat.le_of_ble_eq_true rfl⟩ hP [0] rfl 0 rfl rfl rfl hl.1 (Nat.le_of_ble_eq_true rfl) rfl dX2_holesOf_2 ⟨Nat.zero_le _, Nat.zero_le _⟩ ?_
  refine lv_if_eq (tgt := 17) hx hb dX2_holesOf_5 (by decide) (fun c9 => ?_) (fun c9 => ?_)
  · have hf := c_t hf c9
    refine lv_iconst (v := (0 : Int32)) hx hb dX2_holesOf_17 (by decide) ?_
    obtain rfl := Option.some.inj hf
    exact kr _ _ dX2_holesOf_18
  · have hf := c_f hf c9
    refine lv_aload_n hx hb dX2_holesOf_8 rfl (lv_at hl 0 rfl) ?_
    refine va_get (D := G.1) (cl := CL) (ci := 2) (C := RX2) (T := TX2) (N := 6) hx hb hts iX2_holesOf_2 hown hK hP 0 rfl rfl 5 (by decide) (hts (.fieldLink RX2 15 "LoomCards$Loom" "holesOfCard" "[I") (List.mem_of_getElem? (i := 1) rfl)) (fun _ h9 => h9) rfl dX2_holesOf_9 ?_
    refine lv_iload_n hx hb dX2_holesOf_12 rfl (lv_at hl 1 rfl) ?_
    refine r_gd hf (fun g9 hf => ?_)
    refine r_iald hx hb hK hP 1 rfl (ix_in g9) rfl dX2_holesOf_13 ?_
    refine lv_goto (tgt := 18) hx hb dX2_holesOf_14 (by decide) ?_
    obtain rfl := Option.some.inj hf
    exact kr _ _ dX2_holesOf_18
end SX2_holesOf
set_option maxHeartbeats 4000000 in
set_option maxRecDepth 100000 in
theorem tX2_holesOf (l : Launch) (G : GG) (h_this : Nat) (h_hookOfEnd : Nat) (h_holesOfCard : Nat) (c_hooks : Int32) (c_ends : Int32) (c_cards : Int32) (c_limit : Int32) (c_holesOfCard : Nat → Int32) (v1 : Int32) (res : Int32) (hf : fX2_holesOf c_cards c_holesOfCard v1 = some res) : MRi l yX2_holesOf wsX2_holesOf rmX2_holesOf G [.ref h_this, .int v1] [(h_this, .inr (2, [.int c_hooks, .int c_ends, .int c_cards, .int c_limit, .ref h_hookOfEnd, .ref h_holesOfCard])), (h_holesOfCard, .inl (G.2 0, 8, .inl c_holesOfCard))] (res) := MRi.of (plainFor_of_name (by decide +kernel)) rfl (Nat.le_of_ble_eq_true rfl) (fun p e s m below meth c C hP ls hl => kX2_holesOf h_this h_hookOfEnd h_holesOfCard c_hooks c_ends c_cards c_limit c_holesOfCard v1 C hP (fun pc ls d => rRi C d) hf hl)
def fX2_cardOfRow (c_cards : Int32) (v1 : Int32) : Option (Int32) := if v1 < 0 then some ((0 : Int32)) else if c_cards ≤ 0 then some ((0 : Int32)) else gd (!decide (c_cards = 0)) (some ((v1 - v1 / c_cards * c_cards)))
theorem iX2_cardOfRow_2 : ∀ w ∈ wsX20, w ∈ wsX2_cardOfRow := fun w h => List.mem_cons_of_mem _ (List.mem_append_right _ (h))
theorem hdX2_cardOfRow : yX2_cardOfRow.cls = RX2 ∧ yX2_cardOfRow.cls ≠ "java/lang/invoke/MethodHandle" ∧ yX2_cardOfRow.cls ≠ "java/lang/invoke/VarHandle" ∧ (parseMethodDescriptor yX2_cardOfRow.desc).map (fun d => d.parameters.length) = some 1 := by decide +kernel
abbrev rmX2_cardOfRow : Room := { frames := 0, cells := 0, slots := 0, locals := 0 }
section SX2_cardOfRow
variable {p : Program} {l : Launch} {e : Env} {s : State} {m : MethodId} {args : Array Value} {below : List Frame} {meth : Method} {c : Code} {Q : State → Prop} {G : GG}
set_option maxHeartbeats 4000000 in
set_option maxRecDepth 100000 in
theorem kX2_cardOfRow (h_this : Nat) (h_hookOfEnd : Nat) (h_holesOfCard : Nat) (c_hooks : Int32) (c_ends : Int32) (c_cards : Int32) (c_limit : Int32) (v1 : Int32) (C : Cx cX2_cardOfRow (some .int) 2 RX2 wsX2_cardOfRow G p s m args meth c) (hP : va_P G.1 CL [(h_this, .inr (2, [.int c_hooks, .int c_ends, .int c_cards, .int c_limit, .ref h_hookOfEnd, .ref h_holesOfCard]))] s.heap) {res : Int32} (kr : ∀ (pc : Nat) (ls : Array Slot), decode cX2_cardOfRow pc = .ok (.ireturn, 1) → W p l e rmX2_cardOfRow s m args below meth c s.heap [] 0 0 Q (F0 m pc ls [.int res])) (hf : fX2_cardOfRow c_cards v1 = some res) {ls : Array Slot} (hl : lv_has ls 2 [(0, .ref h_this), (1, .int v1)]) : W p l e rmX2_cardOfRow s m args below meth c s.heap [] 0 0 Q (F0 m 0 ls []) := by
  obtain ⟨hx, hb, hr, hlk, hml, hown, hts, hK⟩ := id C
  rw [fX2_cardOfRow] at hf
  refine lv_iload_n hx hb dX2_cardOfRow_0 rfl (lv_at hl 1 rfl) ?_
  refine lv_if_lt (tgt := 20) hx hb dX2_cardOfRow_1 (by decide) (fun c9 => ?_) (fun c9 => ?_)
  · have hf := c_t hf c9
    refine lv_iconst (v := (0 : Int32)) hx hb dX2_cardOfRow_20 (by decide) ?_
    obtain rfl := Option.some.inj hf
    exact kr _ _ dX2_cardOfRow_21
  · have hf := c_f hf c9
    refine lv_aload_n hx hb dX2_cardOfRow_4 rfl (lv_at hl 0 rfl) ?_
    refine va_get (D := G.1) (cl := CL) (ci := 2) (C := RX2) (T := TX2) (N := 6) hx hb hts iX2_cardOfRow_2 hown hK hP 0 rfl rfl 2 (by decide) (hts (.fieldLink RX2 39 "LoomCards$Loom" "cards" "I") (List.mem_of_getElem? (i := 1) rfl)) (fun _ h9 => h9) rfl dX2_cardOfRow_5 ?_
    refine lv_if_le (tgt := 20) hx hb dX2_cardOfRow_8 (by decide) (fun c9 => ?_) (fun c9 => ?_)
    · have hf := c_t hf c9
      refine lv_iconst (v := (0 : Int32)) hx hb dX2_cardOfRow_20 (by decide) ?_
      obtain rfl := Option.some.inj hf
      exact kr _ _ dX2_cardOfRow_21
    · have hf := c_f hf c9
      refine lv_iload_n hx hb dX2_cardOfRow_11 rfl (lv_at hl 1 rfl) ?_
      refine lv_aload_n hx hb dX2_cardOfRow_12 rfl (lv_at hl 0 rfl) ?_
      refine va_get (D := G.1) (cl := CL) (ci := 2) (C := RX2) (T := TX2) (N := 6) hx hb hts iX2_cardOfRow_2 hown hK hP 0 rfl rfl 2 (by decide) (hts (.fieldLink RX2 39 "LoomCards$Loom" "cards" "I") (List.mem_of_getElem? (i := 1) rfl)) (fun _ h9 => h9) rfl dX2_cardOfRow_13 ?_
      refine r_gd hf (fun g9 hf => ?_)
      refine lv_irem hx hb dX2_cardOfRow_16 (nz g9) ?_
      refine lv_goto (tgt := 21) hx hb dX2_cardOfRow_17 (by decide) ?_
      obtain rfl := Option.some.inj hf
      exact kr _ _ dX2_cardOfRow_21
end SX2_cardOfRow
set_option maxHeartbeats 4000000 in
set_option maxRecDepth 100000 in
theorem tX2_cardOfRow (l : Launch) (G : GG) (h_this : Nat) (h_hookOfEnd : Nat) (h_holesOfCard : Nat) (c_hooks : Int32) (c_ends : Int32) (c_cards : Int32) (c_limit : Int32) (v1 : Int32) (res : Int32) (hf : fX2_cardOfRow c_cards v1 = some res) : MRi l yX2_cardOfRow wsX2_cardOfRow rmX2_cardOfRow G [.ref h_this, .int v1] [(h_this, .inr (2, [.int c_hooks, .int c_ends, .int c_cards, .int c_limit, .ref h_hookOfEnd, .ref h_holesOfCard]))] (res) := MRi.of (plainFor_of_name (by decide +kernel)) rfl (Nat.le_of_ble_eq_true rfl) (fun p e s m below meth c C hP ls hl => kX2_cardOfRow h_this h_hookOfEnd h_holesOfCard c_hooks c_ends c_cards c_limit v1 C hP (fun pc ls d => rRi C d) hf hl)
def fX2_places (c_hooks : Int32) (c_cards : Int32)  : Option (Int32) := some ((c_hooks * c_cards))
theorem iX2_places_2 : ∀ w ∈ wsX20, w ∈ wsX2_places := fun w h => List.mem_cons_of_mem _ (List.mem_append_right _ (h))
theorem hdX2_places : yX2_places.cls = RX2 ∧ yX2_places.cls ≠ "java/lang/invoke/MethodHandle" ∧ yX2_places.cls ≠ "java/lang/invoke/VarHandle" ∧ (parseMethodDescriptor yX2_places.desc).map (fun d => d.parameters.length) = some 0 := by decide +kernel
abbrev rmX2_places : Room := { frames := 0, cells := 0, slots := 0, locals := 0 }
section SX2_places
variable {p : Program} {l : Launch} {e : Env} {s : State} {m : MethodId} {args : Array Value} {below : List Frame} {meth : Method} {c : Code} {Q : State → Prop} {G : GG}
set_option maxHeartbeats 4000000 in
set_option maxRecDepth 100000 in
theorem kX2_places (h_this : Nat) (h_hookOfEnd : Nat) (h_holesOfCard : Nat) (c_hooks : Int32) (c_ends : Int32) (c_cards : Int32) (c_limit : Int32) (C : Cx cX2_places (some .int) 1 RX2 wsX2_places G p s m args meth c) (hP : va_P G.1 CL [(h_this, .inr (2, [.int c_hooks, .int c_ends, .int c_cards, .int c_limit, .ref h_hookOfEnd, .ref h_holesOfCard]))] s.heap) {res : Int32} (kr : ∀ (pc : Nat) (ls : Array Slot), decode cX2_places pc = .ok (.ireturn, 1) → W p l e rmX2_places s m args below meth c s.heap [] 0 0 Q (F0 m pc ls [.int res])) (hf : fX2_places c_hooks c_cards = some res) {ls : Array Slot} (hl : lv_has ls 1 [(0, .ref h_this)]) : W p l e rmX2_places s m args below meth c s.heap [] 0 0 Q (F0 m 0 ls []) := by
  obtain ⟨hx, hb, hr, hlk, hml, hown, hts, hK⟩ := id C
  rw [fX2_places] at hf
  refine lv_aload_n hx hb dX2_places_0 rfl (lv_at hl 0 rfl) ?_
  refine va_get (D := G.1) (cl := CL) (ci := 2) (C := RX2) (T := TX2) (N := 6) hx hb hts iX2_places_2 hown hK hP 0 rfl rfl 0 (by decide) (hts (.fieldLink RX2 36 "LoomCards$Loom" "hooks" "I") (List.mem_of_getElem? (i := 1) rfl)) (fun _ h9 => h9) rfl dX2_places_1 ?_
  refine lv_aload_n hx hb dX2_places_4 rfl (lv_at hl 0 rfl) ?_
  refine va_get (D := G.1) (cl := CL) (ci := 2) (C := RX2) (T := TX2) (N := 6) hx hb hts iX2_places_2 hown hK hP 0 rfl rfl 2 (by decide) (hts (.fieldLink RX2 39 "LoomCards$Loom" "cards" "I") (List.mem_of_getElem? (i := 2) rfl)) (fun _ h9 => h9) rfl dX2_places_5 ?_
  refine lv_imul hx hb dX2_places_8 ?_
  obtain rfl := Option.some.inj hf
  exact kr _ _ dX2_places_9
end SX2_places
set_option maxHeartbeats 4000000 in
set_option maxRecDepth 100000 in
theorem tX2_places (l : Launch) (G : GG) (h_this : Nat) (h_hookOfEnd : Nat) (h_holesOfCard : Nat) (c_hooks : Int32) (c_ends : Int32) (c_cards : Int32) (c_limit : Int32) (res : Int32) (hf : fX2_places c_hooks c_cards = some res) : MRi l yX2_places wsX2_places rmX2_places G [.ref h_this] [(h_this, .inr (2, [.int c_hooks, .int c_ends, .int c_cards, .int c_limit, .ref h_hookOfEnd, .ref h_holesOfCard]))] (res) := MRi.of (plainFor_of_name (by decide +kernel)) rfl (Nat.le_of_ble_eq_true rfl) (fun p e s m below meth c C hP ls hl => kX2_places h_this h_hookOfEnd h_holesOfCard c_hooks c_ends c_cards c_limit C hP (fun pc ls d => rRi C d) hf hl)
def fX2_placeOf (c_hooks : Int32) (v1 : Int32) (v2 : Int32) : Option (Int32) := some (((c_hooks * v1) + v2))
theorem iX2_placeOf_2 : ∀ w ∈ wsX20, w ∈ wsX2_placeOf := fun w h => List.mem_cons_of_mem _ (List.mem_append_right _ (h))
theorem hdX2_placeOf : yX2_placeOf.cls = RX2 ∧ yX2_placeOf.cls ≠ "java/lang/invoke/MethodHandle" ∧ yX2_placeOf.cls ≠ "java/lang/invoke/VarHandle" ∧ (parseMethodDescriptor yX2_placeOf.desc).map (fun d => d.parameters.length) = some 2 := by decide +kernel
abbrev rmX2_placeOf : Room := { frames := 0, cells := 0, slots := 0, locals := 0 }
section SX2_placeOf
variable {p : Program} {l : Launch} {e : Env} {s : State} {m : MethodId} {args : Array Value} {below : List Frame} {meth : Method} {c : Code} {Q : State → Prop} {G : GG}
set_option maxHeartbeats 4000000 in
set_option maxRecDepth 100000 in
theorem kX2_placeOf (h_this : Nat) (h_hookOfEnd : Nat) (h_holesOfCard : Nat) (c_hooks : Int32) (c_ends : Int32) (c_cards : Int32) (c_limit : Int32) (v1 : Int32) (v2 : Int32) (C : Cx cX2_placeOf (some .int) 3 RX2 wsX2_placeOf G p s m args meth c) (hP : va_P G.1 CL [(h_this, .inr (2, [.int c_hooks, .int c_ends, .int c_cards, .int c_limit, .ref h_hookOfEnd, .ref h_holesOfCard]))] s.heap) {res : Int32} (kr : ∀ (pc : Nat) (ls : Array Slot), decode cX2_placeOf pc = .ok (.ireturn, 1) → W p l e rmX2_placeOf s m args below meth c s.heap [] 0 0 Q (F0 m pc ls [.int res])) (hf : fX2_placeOf c_hooks v1 v2 = some res) {ls : Array Slot} (hl : lv_has ls 3 [(0, .ref h_this), (1, .int v1), (2, .int v2)]) : W p l e rmX2_placeOf s m args below meth c s.heap [] 0 0 Q (F0 m 0 ls []) := by
  obtain ⟨hx, hb, hr, hlk, hml, hown, hts, hK⟩ := id C
  rw [fX2_placeOf] at hf
  refine lv_aload_n hx hb dX2_placeOf_0 rfl (lv_at hl 0 rfl) ?_
  refine va_get (D := G.1) (cl := CL) (ci := 2) (C := RX2) (T := TX2) (N := 6) hx hb hts iX2_placeOf_2 hown hK hP 0 rfl rfl 0 (by decide) (hts (.fieldLink RX2 36 "LoomCards$Loom" "hooks" "I") (List.mem_of_getElem? (i := 1) rfl)) (fun _ h9 => h9) rfl dX2_placeOf_1 ?_
  refine lv_iload_n hx hb dX2_placeOf_4 rfl (lv_at hl 1 rfl) ?_
  refine lv_imul hx hb dX2_placeOf_5 ?_
  refine lv_iload_n hx hb dX2_placeOf_6 rfl (lv_at hl 2 rfl) ?_
  refine lv_iadd hx hb dX2_placeOf_7 ?_
  obtain rfl := Option.some.inj hf
  exact kr _ _ dX2_placeOf_8
end SX2_placeOf
set_option maxHeartbeats 4000000 in
set_option maxRecDepth 100000 in
theorem tX2_placeOf (l : Launch) (G : GG) (h_this : Nat) (h_hookOfEnd : Nat) (h_holesOfCard : Nat) (c_hooks : Int32) (c_ends : Int32) (c_cards : Int32) (c_limit : Int32) (v1 : Int32) (v2 : Int32) (res : Int32) (hf : fX2_placeOf c_hooks v1 v2 = some res) : MRi l yX2_placeOf wsX2_placeOf rmX2_placeOf G [.ref h_this, .int v1, .int v2] [(h_this, .inr (2, [.int c_hooks, .int c_ends, .int c_cards, .int c_limit, .ref h_hookOfEnd, .ref h_holesOfCard]))] (res) := MRi.of (plainFor_of_name (by decide +kernel)) rfl (Nat.le_of_ble_eq_true rfl) (fun p e s m below meth c C hP ls hl => kX2_placeOf h_this h_hookOfEnd h_holesOfCard c_hooks c_ends c_cards c_limit v1 v2 C hP (fun pc ls d => rRi C d) hf hl)
def fX2_punch (c_hooks : Int32) (c_cards : Int32) (c_holesOfCard : Nat → Int32) (v1 : Int32) : Option ((Nat → Int32)) := if v1 < 0 then some (c_holesOfCard) else (fX2_places c_hooks c_cards).bind (fun u1 => if u1 ≤ v1 then some (c_holesOfCard) else if c_hooks ≤ 0 then some (c_holesOfCard) else gd (!decide (c_hooks = 0)) (gd (ix (v1 / c_hooks) 8) (gd (!decide (c_hooks = 0)) (gd (ix (v1 / c_hooks) 8) (some ((upd c_holesOfCard (v1 / c_hooks).toNatClampNeg ((c_holesOfCard (v1 / c_hooks).toNatClampNeg) ^^^ ((1 : Int32) <<< ((v1 - v1 / c_hooks * c_hooks) &&& 31))))))))))
theorem iX2_punch_2 : ∀ w ∈ wsX20, w ∈ wsX2_punch := fun w h => List.mem_cons_of_mem _ (List.mem_append_right _ (h))
theorem hdX2_punch : yX2_punch.cls = RX2 ∧ yX2_punch.cls ≠ "java/lang/invoke/MethodHandle" ∧ yX2_punch.cls ≠ "java/lang/invoke/VarHandle" ∧ (parseMethodDescriptor yX2_punch.desc).map (fun d => d.parameters.length) = some 1 := by decide +kernel
abbrev rmX2_punch : Room := { frames := 1, cells := 0, slots := 0, locals := 20 }
section SX2_punch
variable {p : Program} {l : Launch} {e : Env} {s : State} {m : MethodId} {args : Array Value} {below : List Frame} {meth : Method} {c : Code} {Q : State → Prop} {G : GG} {A : Nat → Prop}
set_option maxHeartbeats 4000000 in
set_option maxRecDepth 100000 in
theorem kX2_punch (h_this : Nat) (h_hookOfEnd : Nat) (h_holesOfCard : Nat) (c_hooks : Int32) (c_ends : Int32) (c_cards : Int32) (c_limit : Int32) (c_holesOfCard : Nat → Int32) (v1 : Int32) (C : Cx cX2_punch none 2 RX2 wsX2_punch G p s m args meth c) (hA : ∀ q : Nat, s.heap.size ≤ q → A q) (hP : va_P G.1 CL [(h_this, .inr (2, [.int c_hooks, .int c_ends, .int c_cards, .int c_limit, .ref h_hookOfEnd, .ref h_holesOfCard])), (h_holesOfCard, .inl (G.2 0, 8, .inl c_holesOfCard))] s.heap) (hD : va_D A [(h_this, .inr (2, [.int c_hooks, .int c_ends, .int c_cards, .int c_limit, .ref h_hookOfEnd, .ref h_holesOfCard])), (h_holesOfCard, .inl (G.2 0, 8, .inl c_holesOfCard))]) (hS : va_S A s.heap s.heap []) {res : (Nat → Int32)} (kr : ∀ (pc : Nat) (ls : Array Slot) (H : Heap) (locs : List Loc), va_P G.1 CL [(h_this, .inr (2, [.int c_hooks, .int c_ends, .int c_cards, .int c_limit, .ref h_hookOfEnd, .ref h_holesOfCard])), (h_holesOfCard, .inl (G.2 0, 8, .inl (res)))] H → va_D A [(h_this, .inr (2, [.int c_hooks, .int c_ends, .int c_cards, .int c_limit, .ref h_hookOfEnd, .ref h_holesOfCard])), (h_holesOfCard, .inl (G.2 0, 8, .inl (res)))] → va_S A s.heap H locs → decode cX2_punch pc = .ok (.return_, 1) → W p l e rmX2_punch s m args below meth c H locs 0 0 Q (F0 m pc ls [])) (hf : fX2_punch c_hooks c_cards c_holesOfCard v1 = some res) {ls : Array Slot} (hl : lv_has ls 2 [(0, .ref h_this), (1, .int v1)]) : W p l e rmX2_punch s m args below meth c s.heap [] 0 0 Q (F0 m 0 ls []) := by
  obtain ⟨hx, hb, hr, hlk, hml, hown, hts, hK⟩ := id C
  rw [fX2_punch] at hf
  refine lv_iload_n hx hb dX2_punch_0 rfl (lv_at hl 1 rfl) ?_
  refine lv_if_lt (tgt := 41) hx hb dX2_punch_1 (by decide) (fun c9 => ?_) (fun c9 => ?_)
  · have hf := c_t hf c9
    obtain rfl := Option.some.inj hf
    exact kr _ _ _ _ hP hD hS dX2_punch_41
  · have hf := c_f hf c9
    refine lv_iload_n hx hb dX2_punch_4 rfl (lv_at hl 1 rfl) ?_
    refine lv_aload_n hx hb dX2_punch_5 rfl (lv_at hl 0 rfl) ?_
    refine r_bind hf (fun u1 hu1 hf => ?_)
    refine cRiV (ci := 2) (rest := [.int v1]) ⟨hx, hb, hml, hown, hts⟩ hK (tX2_places l G h_this h_hookOfEnd h_holesOfCard c_hooks c_ends c_cards c_limit u1 hu1) gX2_punch_X2_places rfl hdX2_places rfl rfl rfl ⟨Nat.le_of_ble_eq_true rfl, Nat.le_of_ble_eq_true rfl⟩ hP [0] rfl 0 rfl rfl rfl hl.1 (Nat.le_of_ble_eq_true rfl) rfl dX2_punch_6 ⟨Nat.zero_le _, Nat.zero_le _⟩ ?_
    refine lv_icmp_ge (tgt := 41) hx hb dX2_punch_9 (by decide) (fun c9 => ?_) (fun c9 => ?_)
    · have hf := c_t hf c9
      obtain rfl := Option.some.inj hf
      exact kr _ _ _ _ hP hD hS dX2_punch_41
    · have hf := c_f hf c9
      refine lv_aload_n hx hb dX2_punch_12 rfl (lv_at hl 0 rfl) ?_
      refine va_get (D := G.1) (cl := CL) (ci := 2) (C := RX2) (T := TX2) (N := 6) hx hb hts iX2_punch_2 hown hK hP 0 rfl rfl 0 (by decide) (hts (.fieldLink RX2 36 "LoomCards$Loom" "hooks" "I") (List.mem_of_getElem? (i := 1) rfl)) (fun _ h9 => h9) rfl dX2_punch_13 ?_
      refine lv_if_le (tgt := 41) hx hb dX2_punch_16 (by decide) (fun c9 => ?_) (fun c9 => ?_)
      · have hf := c_t hf c9
        obtain rfl := Option.some.inj hf
        exact kr _ _ _ _ hP hD hS dX2_punch_41
      · have hf := c_f hf c9
        refine lv_aload_n hx hb dX2_punch_19 rfl (lv_at hl 0 rfl) ?_
        refine va_get (D := G.1) (cl := CL) (ci := 2) (C := RX2) (T := TX2) (N := 6) hx hb hts iX2_punch_2 hown hK hP 0 rfl rfl 5 (by decide) (hts (.fieldLink RX2 15 "LoomCards$Loom" "holesOfCard" "[I") (List.mem_of_getElem? (i := 2) rfl)) (fun _ h9 => h9) rfl dX2_punch_20 ?_
        refine lv_iload_n hx hb dX2_punch_23 rfl (lv_at hl 1 rfl) ?_
        refine lv_aload_n hx hb dX2_punch_24 rfl (lv_at hl 0 rfl) ?_
        refine va_get (D := G.1) (cl := CL) (ci := 2) (C := RX2) (T := TX2) (N := 6) hx hb hts iX2_punch_2 hown hK hP 0 rfl rfl 0 (by decide) (hts (.fieldLink RX2 36 "LoomCards$Loom" "hooks" "I") (List.mem_of_getElem? (i := 1) rfl)) (fun _ h9 => h9) rfl dX2_punch_25 ?_
        refine r_gd hf (fun g9 hf => ?_)
        refine lv_idiv hx hb dX2_punch_28 (nz g9) ?_
        refine lv_dup2_11 hx hb dX2_punch_29 rfl rfl ?_
        refine r_gd hf (fun g9 hf => ?_)
        refine r_iald hx hb hK hP 1 rfl (ix_in g9) rfl dX2_punch_30 ?_
        refine lv_iconst (v := (1 : Int32)) hx hb dX2_punch_31 (by decide) ?_
        refine lv_iload_n hx hb dX2_punch_32 rfl (lv_at hl 1 rfl) ?_
        refine lv_aload_n hx hb dX2_punch_33 rfl (lv_at hl 0 rfl) ?_
        refine va_get (D := G.1) (cl := CL) (ci := 2) (C := RX2) (T := TX2) (N := 6) hx hb hts iX2_punch_2 hown hK hP 0 rfl rfl 0 (by decide) (hts (.fieldLink RX2 36 "LoomCards$Loom" "hooks" "I") (List.mem_of_getElem? (i := 1) rfl)) (fun _ h9 => h9) rfl dX2_punch_34 ?_
        refine r_gd hf (fun g9 hf => ?_)
        refine lv_irem hx hb dX2_punch_37 (nz g9) ?_
        refine lv_ishl hx hb dX2_punch_38 ?_
        refine lv_ixor hx hb dX2_punch_39 ?_
        refine r_gd hf (fun g9 hf => ?_)
        refine r_iast hx hb hK hP hD hS 1 rfl (ix_in g9) rfl dX2_punch_40 (fun H locs hP hD hS => ?_)
        have hP : va_P G.1 CL [(h_this, .inr (2, [.int c_hooks, .int c_ends, .int c_cards, .int c_limit, .ref h_hookOfEnd, .ref h_holesOfCard])), (h_holesOfCard, .inl (G.2 0, 8, .inl (upd c_holesOfCard (v1 / c_hooks).toNatClampNeg ((c_holesOfCard (v1 / c_hooks).toNatClampNeg) ^^^ ((1 : Int32) <<< ((v1 - v1 / c_hooks * c_hooks) &&& 31))))))] H := hP
        have hD : va_D A [(h_this, .inr (2, [.int c_hooks, .int c_ends, .int c_cards, .int c_limit, .ref h_hookOfEnd, .ref h_holesOfCard])), (h_holesOfCard, .inl (G.2 0, 8, .inl (upd c_holesOfCard (v1 / c_hooks).toNatClampNeg ((c_holesOfCard (v1 / c_hooks).toNatClampNeg) ^^^ ((1 : Int32) <<< ((v1 - v1 / c_hooks * c_hooks) &&& 31))))))] := hD
        obtain rfl := Option.some.inj hf
        exact kr _ _ _ _ hP hD hS dX2_punch_41
end SX2_punch
set_option maxHeartbeats 4000000 in
set_option maxRecDepth 100000 in
theorem tX2_punch (l : Launch) (G : GG) (h_this : Nat) (h_hookOfEnd : Nat) (h_holesOfCard : Nat) (c_hooks : Int32) (c_ends : Int32) (c_cards : Int32) (c_limit : Int32) (c_holesOfCard : Nat → Int32) (v1 : Int32) (res : (Nat → Int32)) (hf : fX2_punch c_hooks c_cards c_holesOfCard v1 = some res) : MWv l yX2_punch wsX2_punch rmX2_punch G [.ref h_this, .int v1] [(h_this, .inr (2, [.int c_hooks, .int c_ends, .int c_cards, .int c_limit, .ref h_hookOfEnd, .ref h_holesOfCard])), (h_holesOfCard, .inl (G.2 0, 8, .inl c_holesOfCard))] [(h_this, .inr (2, [.int c_hooks, .int c_ends, .int c_cards, .int c_limit, .ref h_hookOfEnd, .ref h_holesOfCard])), (h_holesOfCard, .inl (G.2 0, 8, .inl (res)))] := MWv.of (plainFor_of_name (by decide +kernel)) rfl (Nat.le_of_ble_eq_true rfl) (fun p e s m below meth c A C hA hP hD hS ls hl => kX2_punch h_this h_hookOfEnd h_holesOfCard c_hooks c_ends c_cards c_limit c_holesOfCard v1 C hA hP hD hS (fun pc ls H locs hP hD hS d => rWv C hP hD hS d) hf hl)
def fX2_endsOf_L4 (k38 : Int32 → Option (Int32)) (c_ends : Int32) (c_hookOfEnd : Nat → Int32) (v1 : Int32) : Nat → Int32 → Int32 → Option (Int32)
  | 0, _, _ => none
  | n + 1, v2, v3 => if c_ends ≤ v3 then k38 v2 else gd (ix v3 12) (jn (fun (j30_0 : Int32) (j30_1 : Int32) => fX2_endsOf_L4 k38 c_ends c_hookOfEnd v1 n (j30_1 ||| j30_0) (v3 + (1 : Int32))) (fun J30 => if (c_hookOfEnd v3.toNatClampNeg) = v1 then J30 ((1 : Int32) <<< (v3 &&& 31)) v2 else J30 (0 : Int32) v2))
def fX2_endsOf (c_ends : Int32) (c_hookOfEnd : Nat → Int32) (v1 : Int32) : Option (Int32) := (fX2_endsOf_L4 (fun (v2_x1 : Int32) => some (v2_x1)) c_ends c_hookOfEnd v1 FU (0 : Int32) (0 : Int32))
theorem iX2_endsOf_2 : ∀ w ∈ wsX20, w ∈ wsX2_endsOf := fun w h => List.mem_cons_of_mem _ (List.mem_append_right _ (h))
theorem hdX2_endsOf : yX2_endsOf.cls = RX2 ∧ yX2_endsOf.cls ≠ "java/lang/invoke/MethodHandle" ∧ yX2_endsOf.cls ≠ "java/lang/invoke/VarHandle" ∧ (parseMethodDescriptor yX2_endsOf.desc).map (fun d => d.parameters.length) = some 1 := by decide +kernel
abbrev rmX2_endsOf : Room := { frames := 0, cells := 0, slots := 0, locals := 0 }
section SX2_endsOf
variable {p : Program} {l : Launch} {e : Env} {s : State} {m : MethodId} {args : Array Value} {below : List Frame} {meth : Method} {c : Code} {Q : State → Prop} {G : GG}
set_option maxHeartbeats 4000000 in
set_option maxRecDepth 100000 in
theorem kX2_endsOf_L4 (h_this : Nat) (h_hookOfEnd : Nat) (h_holesOfCard : Nat) (c_hooks : Int32) (c_ends : Int32) (c_cards : Int32) (c_limit : Int32) (c_hookOfEnd : Nat → Int32) (v1 : Int32) (C : Cx cX2_endsOf (some .int) 4 RX2 wsX2_endsOf G p s m args meth c) (hP : va_P G.1 CL [(h_this, .inr (2, [.int c_hooks, .int c_ends, .int c_cards, .int c_limit, .ref h_hookOfEnd, .ref h_holesOfCard])), (h_hookOfEnd, .inl (G.2 0, 12, .inl c_hookOfEnd))] s.heap) {res : Int32} (kr : ∀ (pc : Nat) (ls : Array Slot), decode cX2_endsOf pc = .ok (.ireturn, 1) → W p l e rmX2_endsOf s m args below meth c s.heap [] 0 0 Q (F0 m pc ls [.int res])) {k38 : Int32 → Option (Int32)} (hk38 : ∀ (v2 : Int32) , k38 v2 = some res → ∀ (ls : Array Slot), lv_has ls 4 [(2, .int v2)] → W p l e rmX2_endsOf s m args below meth c s.heap [] 0 0 Q (F0 m 38 ls [])) : ∀ (n : Nat) (v2 : Int32) (v3 : Int32), fX2_endsOf_L4 k38 c_ends c_hookOfEnd v1 n v2 v3 = some res → ∀ (ls : Array Slot), lv_has ls 4 [(0, .ref h_this), (1, .int v1), (2, .int v2), (3, .int v3)] → W p l e rmX2_endsOf s m args below meth c s.heap [] 0 0 Q (F0 m 4 ls []) := by
  obtain ⟨hx, hb, hr, hlk, hml, hown, hts, hK⟩ := id C
  intro n
  induction n with
  | zero =>
    intro v2 v3 hf
    cases hf
  | succ n ih =>
    intro v2 v3 hf ls hl
    rw [fX2_endsOf_L4] at hf
    refine lv_iload_n hx hb dX2_endsOf_4 rfl (lv_at hl 3 rfl) ?_
    refine lv_aload_n hx hb dX2_endsOf_5 rfl (lv_at hl 0 rfl) ?_
    refine va_get (D := G.1) (cl := CL) (ci := 2) (C := RX2) (T := TX2) (N := 6) hx hb hts iX2_endsOf_2 hown hK hP 0 rfl rfl 1 (by decide) (hts (.fieldLink RX2 21 "LoomCards$Loom" "ends" "I") (List.mem_of_getElem? (i := 1) rfl)) (fun _ h9 => h9) rfl dX2_endsOf_6 ?_
    refine lv_icmp_ge (tgt := 38) hx hb dX2_endsOf_9 (by decide) (fun c9 => ?_) (fun c9 => ?_)
    · have hf := c_t hf c9
      exact hk38 v2 hf _ (lv_sub hl [2] rfl)
    · have hf := c_f hf c9
      refine lv_iload_n hx hb dX2_endsOf_12 rfl (lv_at hl 2 rfl) ?_
      refine lv_aload_n hx hb dX2_endsOf_13 rfl (lv_at hl 0 rfl) ?_
      refine va_get (D := G.1) (cl := CL) (ci := 2) (C := RX2) (T := TX2) (N := 6) hx hb hts iX2_endsOf_2 hown hK hP 0 rfl rfl 4 (by decide) (hts (.fieldLink RX2 9 "LoomCards$Loom" "hookOfEnd" "[I") (List.mem_of_getElem? (i := 2) rfl)) (fun _ h9 => h9) rfl dX2_endsOf_14 ?_
      refine lv_iload_n hx hb dX2_endsOf_17 rfl (lv_at hl 3 rfl) ?_
      refine r_gd hf (fun g9 hf => ?_)
      refine r_iald hx hb hK hP 1 rfl (ix_in g9) rfl dX2_endsOf_18 ?_
      refine lv_iload_n hx hb dX2_endsOf_19 rfl (lv_at hl 1 rfl) ?_
      refine r_jn2 hf (fun J30 eJ30 hf => ?_)
      have hJ30 : ∀ (j30_0 : Int32) (j30_1 : Int32) , J30 j30_0 j30_1 = some res → ∀ (ls : Array Slot), lv_has ls 4 [(0, .ref h_this), (1, .int v1), (3, .int v3)] → W p l e rmX2_endsOf s m args below meth c s.heap [] 0 0 Q (F0 m 30 ls [.int j30_0, .int j30_1]) := by
        intro j30_0 j30_1 hf ls hl
        rw [eJ30] at hf
        refine lv_ior hx hb dX2_endsOf_30 ?_
        refine lv_istore_n (lv' := [(2, .int (j30_1 ||| j30_0)), (0, .ref h_this), (1, .int v1), (3, .int v3)]) hx hb dX2_endsOf_31 rfl hl (by decide) rfl (fun ls hl => ?_)
        refine lv_iinc (v := (v3 + (1 : Int32))) (lv' := [(3, .int (v3 + (1 : Int32))), (2, .int (j30_1 ||| j30_0)), (0, .ref h_this), (1, .int v1)]) hx hb dX2_endsOf_32 hl (k := 3) rfl rfl (by decide) rfl (fun ls hl => ?_)
        refine lv_goto (tgt := 4) hx hb dX2_endsOf_35 (by decide) ?_
        exact ih (j30_1 ||| j30_0) (v3 + (1 : Int32)) hf _ (lv_sub hl [2, 3, 1, 0] rfl)
      refine lv_icmp_ne (tgt := 29) hx hb dX2_endsOf_20 (by decide) (fun c9 => ?_) (fun c9 => ?_)
      · have hf := c_f hf c9
        refine lv_iconst (v := (0 : Int32)) hx hb dX2_endsOf_29 (by decide) ?_
        exact hJ30 (0 : Int32) v2 hf _ (lv_sub hl [0, 1, 3] rfl)
      · have hf := c_t hf c9
        refine lv_iconst (v := (1 : Int32)) hx hb dX2_endsOf_23 (by decide) ?_
        refine lv_iload_n hx hb dX2_endsOf_24 rfl (lv_at hl 3 rfl) ?_
        refine lv_ishl hx hb dX2_endsOf_25 ?_
        refine lv_goto (tgt := 30) hx hb dX2_endsOf_26 (by decide) ?_
        exact hJ30 ((1 : Int32) <<< (v3 &&& 31)) v2 hf _ (lv_sub hl [0, 1, 3] rfl)
set_option maxHeartbeats 4000000 in
set_option maxRecDepth 100000 in
theorem kX2_endsOf (h_this : Nat) (h_hookOfEnd : Nat) (h_holesOfCard : Nat) (c_hooks : Int32) (c_ends : Int32) (c_cards : Int32) (c_limit : Int32) (c_hookOfEnd : Nat → Int32) (v1 : Int32) (C : Cx cX2_endsOf (some .int) 4 RX2 wsX2_endsOf G p s m args meth c) (hP : va_P G.1 CL [(h_this, .inr (2, [.int c_hooks, .int c_ends, .int c_cards, .int c_limit, .ref h_hookOfEnd, .ref h_holesOfCard])), (h_hookOfEnd, .inl (G.2 0, 12, .inl c_hookOfEnd))] s.heap) {res : Int32} (kr : ∀ (pc : Nat) (ls : Array Slot), decode cX2_endsOf pc = .ok (.ireturn, 1) → W p l e rmX2_endsOf s m args below meth c s.heap [] 0 0 Q (F0 m pc ls [.int res])) (hf : fX2_endsOf c_ends c_hookOfEnd v1 = some res) {ls : Array Slot} (hl : lv_has ls 4 [(0, .ref h_this), (1, .int v1)]) : W p l e rmX2_endsOf s m args below meth c s.heap [] 0 0 Q (F0 m 0 ls []) := by
  obtain ⟨hx, hb, hr, hlk, hml, hown, hts, hK⟩ := id C
  rw [fX2_endsOf] at hf
  refine lv_iconst (v := (0 : Int32)) hx hb dX2_endsOf_0 (by decide) ?_
  refine lv_istore_n (lv' := [(2, .int (0 : Int32)), (0, .ref h_this), (1, .int v1)]) hx hb dX2_endsOf_1 rfl hl (by decide) rfl (fun ls hl => ?_)
  refine lv_iconst (v := (0 : Int32)) hx hb dX2_endsOf_2 (by decide) ?_
  refine lv_istore_n (lv' := [(3, .int (0 : Int32)), (2, .int (0 : Int32)), (0, .ref h_this), (1, .int v1)]) hx hb dX2_endsOf_3 rfl hl (by decide) rfl (fun ls hl => ?_)
  refine kX2_endsOf_L4 h_this h_hookOfEnd h_holesOfCard c_hooks c_ends c_cards c_limit c_hookOfEnd v1 C hP kr ?_ FU (0 : Int32) (0 : Int32) hf _ (lv_sub hl [2, 3, 1, 0] rfl)
  intro v2_x1 hf ls hl
  refine lv_iload_n hx hb dX2_endsOf_38 rfl (lv_at hl 0 rfl) ?_
  obtain rfl := Option.some.inj hf
  exact kr _ _ dX2_endsOf_39
end SX2_endsOf
set_option maxHeartbeats 4000000 in
set_option maxRecDepth 100000 in
theorem tX2_endsOf (l : Launch) (G : GG) (h_this : Nat) (h_hookOfEnd : Nat) (h_holesOfCard : Nat) (c_hooks : Int32) (c_ends : Int32) (c_cards : Int32) (c_limit : Int32) (c_hookOfEnd : Nat → Int32) (v1 : Int32) (res : Int32) (hf : fX2_endsOf c_ends c_hookOfEnd v1 = some res) : MRi l yX2_endsOf wsX2_endsOf rmX2_endsOf G [.ref h_this, .int v1] [(h_this, .inr (2, [.int c_hooks, .int c_ends, .int c_cards, .int c_limit, .ref h_hookOfEnd, .ref h_holesOfCard])), (h_hookOfEnd, .inl (G.2 0, 12, .inl c_hookOfEnd))] (res) := MRi.of (plainFor_of_name (by decide +kernel)) rfl (Nat.le_of_ble_eq_true rfl) (fun p e s m below meth c C hP ls hl => kX2_endsOf h_this h_hookOfEnd h_holesOfCard c_hooks c_ends c_cards c_limit c_hookOfEnd v1 C hP (fun pc ls d => rRi C d) hf hl)
def fX2_altersAll (c_hooks : Int32) (c_ends : Int32) (c_hookOfEnd : Nat → Int32) (v1 : Int32) (v2 : Int32) (v3 : Int32) : Option (Int32) := if 0 < c_hooks then gd (!decide (c_hooks = 0)) (if (v2 &&& (((1 : Int32) <<< ((v1 / c_hooks) &&& 31)) ^^^ (-1 : Int32))) = 0 then gd (!decide (c_hooks = 0)) ((fX2_endsOf c_ends c_hookOfEnd (v1 - v1 / c_hooks * c_hooks)).bind (fun u1 => if (v3 &&& (u1 ^^^ (-1 : Int32))) = 0 then some ((1 : Int32)) else some ((0 : Int32)))) else some ((0 : Int32))) else some ((0 : Int32))
theorem iX2_altersAll_2 : ∀ w ∈ wsX20, w ∈ wsX2_altersAll := fun w h => List.mem_cons_of_mem _ (List.mem_append_right _ (h))
theorem hdX2_altersAll : yX2_altersAll.cls = RX2 ∧ yX2_altersAll.cls ≠ "java/lang/invoke/MethodHandle" ∧ yX2_altersAll.cls ≠ "java/lang/invoke/VarHandle" ∧ (parseMethodDescriptor yX2_altersAll.desc).map (fun d => d.parameters.length) = some 3 := by decide +kernel
abbrev rmX2_altersAll : Room := { frames := 1, cells := 0, slots := 0, locals := 23 }
section SX2_altersAll
variable {p : Program} {l : Launch} {e : Env} {s : State} {m : MethodId} {args : Array Value} {below : List Frame} {meth : Method} {c : Code} {Q : State → Prop} {G : GG}
set_option maxHeartbeats 4000000 in
set_option maxRecDepth 100000 in
theorem kX2_altersAll (h_this : Nat) (h_hookOfEnd : Nat) (h_holesOfCard : Nat) (c_hooks : Int32) (c_ends : Int32) (c_cards : Int32) (c_limit : Int32) (c_hookOfEnd : Nat → Int32) (v1 : Int32) (v2 : Int32) (v3 : Int32) (C : Cx cX2_altersAll (some .boolean) 4 RX2 wsX2_altersAll G p s m args meth c) (hP : va_P G.1 CL [(h_this, .inr (2, [.int c_hooks, .int c_ends, .int c_cards, .int c_limit, .ref h_hookOfEnd, .ref h_holesOfCard])), (h_hookOfEnd, .inl (G.2 0, 12, .inl c_hookOfEnd))] s.heap) {res : Int32} (kr : ∀ (pc : Nat) (ls : Array Slot), narrow .boolean (.int res) = .int res → decode cX2_altersAll pc = .ok (.ireturn, 1) → W p l e rmX2_altersAll s m args below meth c s.heap [] 0 0 Q (F0 m pc ls [.int res])) (hf : fX2_altersAll c_hooks c_ends c_hookOfEnd v1 v2 v3 = some res) {ls : Array Slot} (hl : lv_has ls 4 [(0, .ref h_this), (1, .int v1), (2, .int v2), (3, .int v3)]) : W p l e rmX2_altersAll s m args below meth c s.heap [] 0 0 Q (F0 m 0 ls []) := by
  obtain ⟨hx, hb, hr, hlk, hml, hown, hts, hK⟩ := id C
  rw [fX2_altersAll] at hf
  refine lv_aload_n hx hb dX2_altersAll_0 rfl (lv_at hl 0 rfl) ?_
  refine va_get (D := G.1) (cl := CL) (ci := 2) (C := RX2) (T := TX2) (N := 6) hx hb hts iX2_altersAll_2 hown hK hP 0 rfl rfl 0 (by decide) (hts (.fieldLink RX2 36 "LoomCards$Loom" "hooks" "I") (List.mem_of_getElem? (i := 1) rfl)) (fun _ h9 => h9) rfl dX2_altersAll_1 ?_
  refine lv_if_gt (tgt := 9) hx hb dX2_altersAll_4 (by decide) (fun c9 => ?_) (fun c9 => ?_)
  · have hf := c_t hf c9
    refine lv_iload_n hx hb dX2_altersAll_9 rfl (lv_at hl 2 rfl) ?_
    refine lv_iconst (v := (1 : Int32)) hx hb dX2_altersAll_10 (by decide) ?_
    refine lv_iload_n hx hb dX2_altersAll_11 rfl (lv_at hl 1 rfl) ?_
    refine lv_aload_n hx hb dX2_altersAll_12 rfl (lv_at hl 0 rfl) ?_
    refine va_get (D := G.1) (cl := CL) (ci := 2) (C := RX2) (T := TX2) (N := 6) hx hb hts iX2_altersAll_2 hown hK hP 0 rfl rfl 0 (by decide) (hts (.fieldLink RX2 36 "LoomCards$Loom" "hooks" "I") (List.mem_of_getElem? (i := 1) rfl)) (fun _ h9 => h9) rfl dX2_altersAll_13 ?_
    refine r_gd hf (fun g9 hf => ?_)
    refine lv_idiv hx hb dX2_altersAll_16 (nz g9) ?_
    refine lv_ishl hx hb dX2_altersAll_17 ?_
    refine lv_iconst (v := (-1 : Int32)) hx hb dX2_altersAll_18 (by decide) ?_
    refine lv_ixor hx hb dX2_altersAll_19 ?_
    refine lv_iand hx hb dX2_altersAll_20 ?_
    refine lv_if_ne (tgt := 45) hx hb dX2_altersAll_21 (by decide) (fun c9 => ?_) (fun c9 => ?_)
    · have hf := c_f hf c9
      refine lv_iconst (v := (0 : Int32)) hx hb dX2_altersAll_45 (by decide) ?_
      obtain rfl := Option.some.inj hf
      exact kr _ _ nb0 dX2_altersAll_46
    · have hf := c_t hf c9
      refine lv_iload_n hx hb dX2_altersAll_24 rfl (lv_at hl 3 rfl) ?_
      refine lv_aload_n hx hb dX2_altersAll_25 rfl (lv_at hl 0 rfl) ?_
      refine lv_iload_n hx hb dX2_altersAll_26 rfl (lv_at hl 1 rfl) ?_
      refine lv_aload_n hx hb dX2_altersAll_27 rfl (lv_at hl 0 rfl) ?_
      refine va_get (D := G.1) (cl := CL) (ci := 2) (C := RX2) (T := TX2) (N := 6) hx hb hts iX2_altersAll_2 hown hK hP 0 rfl rfl 0 (by decide) (hts (.fieldLink RX2 36 "LoomCards$Loom" "hooks" "I") (List.mem_of_getElem? (i := 1) rfl)) (fun _ h9 => h9) rfl dX2_altersAll_28 ?_
      refine r_gd hf (fun g9 hf => ?_)
      refine lv_irem hx hb dX2_altersAll_31 (nz g9) ?_
      refine r_bind hf (fun u1 hu1 hf => ?_)
      refine cRiV (ci := 2) (rest := [.int v3]) ⟨hx, hb, hml, hown, hts⟩ hK (tX2_endsOf l G h_this h_hookOfEnd h_holesOfCard c_hooks c_ends c_cards c_limit c_hookOfEnd (v1 - v1 / c_hooks * c_hooks) u1 hu1) gX2_altersAll_X2_endsOf rfl hdX2_endsOf rfl rfl rfl ⟨Nat.le_of_ble_eq_true rfl, Nat.le_of_ble_eq_true rfl⟩ hP [0, 1] rfl 0 rfl rfl rfl hl.1 (Nat.le_of_ble_eq_true rfl) rfl dX2_altersAll_32 ⟨Nat.zero_le _, Nat.zero_le _⟩ ?_
      refine lv_iconst (v := (-1 : Int32)) hx hb dX2_altersAll_35 (by decide) ?_
      refine lv_ixor hx hb dX2_altersAll_36 ?_
      refine lv_iand hx hb dX2_altersAll_37 ?_
      refine lv_if_ne (tgt := 45) hx hb dX2_altersAll_38 (by decide) (fun c9 => ?_) (fun c9 => ?_)
      · have hf := c_f hf c9
        refine lv_iconst (v := (0 : Int32)) hx hb dX2_altersAll_45 (by decide) ?_
        obtain rfl := Option.some.inj hf
        exact kr _ _ nb0 dX2_altersAll_46
      · have hf := c_t hf c9
        refine lv_iconst (v := (1 : Int32)) hx hb dX2_altersAll_41 (by decide) ?_
        refine lv_goto (tgt := 46) hx hb dX2_altersAll_42 (by decide) ?_
        obtain rfl := Option.some.inj hf
        exact kr _ _ nb1 dX2_altersAll_46
  · have hf := c_f hf c9
    refine lv_iconst (v := (0 : Int32)) hx hb dX2_altersAll_7 (by decide) ?_
    obtain rfl := Option.some.inj hf
    exact kr _ _ nb0 dX2_altersAll_8
end SX2_altersAll
set_option maxHeartbeats 4000000 in
set_option maxRecDepth 100000 in
theorem tX2_altersAll (l : Launch) (G : GG) (h_this : Nat) (h_hookOfEnd : Nat) (h_holesOfCard : Nat) (c_hooks : Int32) (c_ends : Int32) (c_cards : Int32) (c_limit : Int32) (c_hookOfEnd : Nat → Int32) (v1 : Int32) (v2 : Int32) (v3 : Int32) (res : Int32) (hf : fX2_altersAll c_hooks c_ends c_hookOfEnd v1 v2 v3 = some res) : MRi l yX2_altersAll wsX2_altersAll rmX2_altersAll G [.ref h_this, .int v1, .int v2, .int v3] [(h_this, .inr (2, [.int c_hooks, .int c_ends, .int c_cards, .int c_limit, .ref h_hookOfEnd, .ref h_holesOfCard])), (h_hookOfEnd, .inl (G.2 0, 12, .inl c_hookOfEnd))] (res) := MRi.of (plainFor_of_name (by decide +kernel)) rfl (Nat.le_of_ble_eq_true rfl) (fun p e s m below meth c C hP ls hl => kX2_altersAll h_this h_hookOfEnd h_holesOfCard c_hooks c_ends c_cards c_limit c_hookOfEnd v1 v2 v3 C hP (fun pc ls hn d => rRz C hn d) hf hl)
def fX2_tie (c_ends : Int32) (c_hookOfEnd : Nat → Int32) (v1 : Int32) (v2 : Int32) : Option ((Nat → Int32)) := (fX2_hasEnd c_ends v1).bind (fun u1 => if u1 = 0 then some (c_hookOfEnd) else gd (ix v1 12) (some ((upd c_hookOfEnd v1.toNatClampNeg v2))))
theorem iX2_tie_2 : ∀ w ∈ wsX20, w ∈ wsX2_tie := fun w h => List.mem_cons_of_mem _ (List.mem_append_right _ (h))
theorem hdX2_tie : yX2_tie.cls = RX2 ∧ yX2_tie.cls ≠ "java/lang/invoke/MethodHandle" ∧ yX2_tie.cls ≠ "java/lang/invoke/VarHandle" ∧ (parseMethodDescriptor yX2_tie.desc).map (fun d => d.parameters.length) = some 2 := by decide +kernel
abbrev rmX2_tie : Room := { frames := 1, cells := 0, slots := 0, locals := 21 }
section SX2_tie
variable {p : Program} {l : Launch} {e : Env} {s : State} {m : MethodId} {args : Array Value} {below : List Frame} {meth : Method} {c : Code} {Q : State → Prop} {G : GG} {A : Nat → Prop}
set_option maxHeartbeats 4000000 in
set_option maxRecDepth 100000 in
theorem kX2_tie (h_this : Nat) (h_hookOfEnd : Nat) (h_holesOfCard : Nat) (c_hooks : Int32) (c_ends : Int32) (c_cards : Int32) (c_limit : Int32) (c_hookOfEnd : Nat → Int32) (v1 : Int32) (v2 : Int32) (C : Cx cX2_tie none 3 RX2 wsX2_tie G p s m args meth c) (hA : ∀ q : Nat, s.heap.size ≤ q → A q) (hP : va_P G.1 CL [(h_this, .inr (2, [.int c_hooks, .int c_ends, .int c_cards, .int c_limit, .ref h_hookOfEnd, .ref h_holesOfCard])), (h_hookOfEnd, .inl (G.2 0, 12, .inl c_hookOfEnd))] s.heap) (hD : va_D A [(h_this, .inr (2, [.int c_hooks, .int c_ends, .int c_cards, .int c_limit, .ref h_hookOfEnd, .ref h_holesOfCard])), (h_hookOfEnd, .inl (G.2 0, 12, .inl c_hookOfEnd))]) (hS : va_S A s.heap s.heap []) {res : (Nat → Int32)} (kr : ∀ (pc : Nat) (ls : Array Slot) (H : Heap) (locs : List Loc), va_P G.1 CL [(h_this, .inr (2, [.int c_hooks, .int c_ends, .int c_cards, .int c_limit, .ref h_hookOfEnd, .ref h_holesOfCard])), (h_hookOfEnd, .inl (G.2 0, 12, .inl (res)))] H → va_D A [(h_this, .inr (2, [.int c_hooks, .int c_ends, .int c_cards, .int c_limit, .ref h_hookOfEnd, .ref h_holesOfCard])), (h_hookOfEnd, .inl (G.2 0, 12, .inl (res)))] → va_S A s.heap H locs → decode cX2_tie pc = .ok (.return_, 1) → W p l e rmX2_tie s m args below meth c H locs 0 0 Q (F0 m pc ls [])) (hf : fX2_tie c_ends c_hookOfEnd v1 v2 = some res) {ls : Array Slot} (hl : lv_has ls 3 [(0, .ref h_this), (1, .int v1), (2, .int v2)]) : W p l e rmX2_tie s m args below meth c s.heap [] 0 0 Q (F0 m 0 ls []) := by
  obtain ⟨hx, hb, hr, hlk, hml, hown, hts, hK⟩ := id C
  rw [fX2_tie] at hf
  refine lv_aload_n hx hb dX2_tie_0 rfl (lv_at hl 0 rfl) ?_
  refine lv_iload_n hx hb dX2_tie_1 rfl (lv_at hl 1 rfl) ?_
  refine r_bind hf (fun u1 hu1 hf => ?_)
  refine cRiV (ci := 2) (rest := []) ⟨hx, hb, hml, hown, hts⟩ hK (tX2_hasEnd l G h_this h_hookOfEnd h_holesOfCard c_hooks c_ends c_cards c_limit v1 u1 hu1) gX2_tie_X2_hasEnd rfl hdX2_hasEnd rfl rfl rfl ⟨Nat.le_of_ble_eq_true rfl, Nat.le_of_ble_eq_true rfl⟩ hP [0] rfl 0 rfl rfl rfl hl.1 (Nat.le_of_ble_eq_true rfl) rfl dX2_tie_2 ⟨Nat.zero_le _, Nat.zero_le _⟩ ?_
  refine lv_if_eq (tgt := 15) hx hb dX2_tie_5 (by decide) (fun c9 => ?_) (fun c9 => ?_)
  · have hf := c_t hf c9
    obtain rfl := Option.some.inj hf
    exact kr _ _ _ _ hP hD hS dX2_tie_15
  · have hf := c_f hf c9
    refine lv_aload_n hx hb dX2_tie_8 rfl (lv_at hl 0 rfl) ?_
    refine va_get (D := G.1) (cl := CL) (ci := 2) (C := RX2) (T := TX2) (N := 6) hx hb hts iX2_tie_2 hown hK hP 0 rfl rfl 4 (by decide) (hts (.fieldLink RX2 9 "LoomCards$Loom" "hookOfEnd" "[I") (List.mem_of_getElem? (i := 1) rfl)) (fun _ h9 => h9) rfl dX2_tie_9 ?_
    refine lv_iload_n hx hb dX2_tie_12 rfl (lv_at hl 1 rfl) ?_
    refine lv_iload_n hx hb dX2_tie_13 rfl (lv_at hl 2 rfl) ?_
    refine r_gd hf (fun g9 hf => ?_)
    refine r_iast hx hb hK hP hD hS 1 rfl (ix_in g9) rfl dX2_tie_14 (fun H locs hP hD hS => ?_)
    have hP : va_P G.1 CL [(h_this, .inr (2, [.int c_hooks, .int c_ends, .int c_cards, .int c_limit, .ref h_hookOfEnd, .ref h_holesOfCard])), (h_hookOfEnd, .inl (G.2 0, 12, .inl (upd c_hookOfEnd v1.toNatClampNeg v2)))] H := hP
    have hD : va_D A [(h_this, .inr (2, [.int c_hooks, .int c_ends, .int c_cards, .int c_limit, .ref h_hookOfEnd, .ref h_holesOfCard])), (h_hookOfEnd, .inl (G.2 0, 12, .inl (upd c_hookOfEnd v1.toNatClampNeg v2)))] := hD
    obtain rfl := Option.some.inj hf
    exact kr _ _ _ _ hP hD hS dX2_tie_15
end SX2_tie
set_option maxHeartbeats 4000000 in
set_option maxRecDepth 100000 in
theorem tX2_tie (l : Launch) (G : GG) (h_this : Nat) (h_hookOfEnd : Nat) (h_holesOfCard : Nat) (c_hooks : Int32) (c_ends : Int32) (c_cards : Int32) (c_limit : Int32) (c_hookOfEnd : Nat → Int32) (v1 : Int32) (v2 : Int32) (res : (Nat → Int32)) (hf : fX2_tie c_ends c_hookOfEnd v1 v2 = some res) : MWv l yX2_tie wsX2_tie rmX2_tie G [.ref h_this, .int v1, .int v2] [(h_this, .inr (2, [.int c_hooks, .int c_ends, .int c_cards, .int c_limit, .ref h_hookOfEnd, .ref h_holesOfCard])), (h_hookOfEnd, .inl (G.2 0, 12, .inl c_hookOfEnd))] [(h_this, .inr (2, [.int c_hooks, .int c_ends, .int c_cards, .int c_limit, .ref h_hookOfEnd, .ref h_holesOfCard])), (h_hookOfEnd, .inl (G.2 0, 12, .inl (res)))] := MWv.of (plainFor_of_name (by decide +kernel)) rfl (Nat.le_of_ble_eq_true rfl) (fun p e s m below meth c A C hA hP hD hS ls hl => kX2_tie h_this h_hookOfEnd h_holesOfCard c_hooks c_ends c_cards c_limit c_hookOfEnd v1 v2 C hA hP hD hS (fun pc ls H locs hP hD hS d => rWv C hP hD hS d) hf hl)
def fX2_takeOut (c_cards : Int32) (c_holesOfCard : Nat → Int32) (v1 : Int32) : Option (Int32 × (Nat → Int32)) := (fX2_hasCard c_cards v1).bind (fun u1 => if u1 = 0 then some (c_cards, c_holesOfCard) else if c_cards ≤ (1 : Int32) then some (c_cards, c_holesOfCard) else gd (cpo (v1 + (1 : Int32)) v1 ((c_cards - v1) - (1 : Int32)) 8 8) (some ((c_cards - (1 : Int32)), (va_cpy c_holesOfCard c_holesOfCard (v1 + (1 : Int32)).toNatClampNeg v1.toNatClampNeg ((c_cards - v1) - (1 : Int32)).toNatClampNeg))))
theorem iX2_takeOut_2 : ∀ w ∈ wsX20, w ∈ wsX2_takeOut := fun w h => List.mem_cons_of_mem _ (List.mem_append_right _ (h))
theorem hdX2_takeOut : yX2_takeOut.cls = RX2 ∧ yX2_takeOut.cls ≠ "java/lang/invoke/MethodHandle" ∧ yX2_takeOut.cls ≠ "java/lang/invoke/VarHandle" ∧ (parseMethodDescriptor yX2_takeOut.desc).map (fun d => d.parameters.length) = some 1 := by decide +kernel
abbrev rmX2_takeOut : Room := { frames := 1, cells := 0, slots := 0, locals := 26 }
section SX2_takeOut
variable {p : Program} {l : Launch} {e : Env} {s : State} {m : MethodId} {args : Array Value} {below : List Frame} {meth : Method} {c : Code} {Q : State → Prop} {G : GG} {A : Nat → Prop}
set_option maxHeartbeats 4000000 in
set_option maxRecDepth 100000 in
theorem kX2_takeOut (h_this : Nat) (h_hookOfEnd : Nat) (h_holesOfCard : Nat) (c_hooks : Int32) (c_ends : Int32) (c_cards : Int32) (c_limit : Int32) (c_holesOfCard : Nat → Int32) (v1 : Int32) (C : Cx cX2_takeOut none 2 RX2 wsX2_takeOut G p s m args meth c) (hA : ∀ q : Nat, s.heap.size ≤ q → A q) (hP : va_P G.1 CL [(h_this, .inr (2, [.int c_hooks, .int c_ends, .int c_cards, .int c_limit, .ref h_hookOfEnd, .ref h_holesOfCard])), (h_holesOfCard, .inl (G.2 0, 8, .inl c_holesOfCard))] s.heap) (hD : va_D A [(h_this, .inr (2, [.int c_hooks, .int c_ends, .int c_cards, .int c_limit, .ref h_hookOfEnd, .ref h_holesOfCard])), (h_holesOfCard, .inl (G.2 0, 8, .inl c_holesOfCard))]) (hS : va_S A s.heap s.heap []) {res : Int32 × (Nat → Int32)} (kr : ∀ (pc : Nat) (ls : Array Slot) (H : Heap) (locs : List Loc), va_P G.1 CL [(h_this, .inr (2, [.int c_hooks, .int c_ends, .int (res.1), .int c_limit, .ref h_hookOfEnd, .ref h_holesOfCard])), (h_holesOfCard, .inl (G.2 0, 8, .inl (res.2)))] H → va_D A [(h_this, .inr (2, [.int c_hooks, .int c_ends, .int (res.1), .int c_limit, .ref h_hookOfEnd, .ref h_holesOfCard])), (h_holesOfCard, .inl (G.2 0, 8, .inl (res.2)))] → va_S A s.heap H locs → decode cX2_takeOut pc = .ok (.return_, 1) → W p l e rmX2_takeOut s m args below meth c H locs 0 0 Q (F0 m pc ls [])) (hf : fX2_takeOut c_cards c_holesOfCard v1 = some res) {ls : Array Slot} (hl : lv_has ls 2 [(0, .ref h_this), (1, .int v1)]) : W p l e rmX2_takeOut s m args below meth c s.heap [] 0 0 Q (F0 m 0 ls []) := by
  obtain ⟨hx, hb, hr, hlk, hml, hown, hts, hK⟩ := id C
  rw [fX2_takeOut] at hf
  refine lv_aload_n hx hb dX2_takeOut_0 rfl (lv_at hl 0 rfl) ?_
  refine lv_iload_n hx hb dX2_takeOut_1 rfl (lv_at hl 1 rfl) ?_
  refine r_bind hf (fun u1 hu1 hf => ?_)
  refine cRiV (ci := 2) (rest := []) ⟨hx, hb, hml, hown, hts⟩ hK (tX2_hasCard l G h_this h_hookOfEnd h_holesOfCard c_hooks c_ends c_cards c_limit v1 u1 hu1) gX2_takeOut_X2_hasCard rfl hdX2_hasCard rfl rfl rfl ⟨Nat.le_of_ble_eq_true rfl, Nat.le_of_ble_eq_true rfl⟩ hP [0] rfl 0 rfl rfl rfl hl.1 (Nat.le_of_ble_eq_true rfl) rfl dX2_takeOut_2 ⟨Nat.zero_le _, Nat.zero_le _⟩ ?_
  refine lv_if_eq (tgt := 49) hx hb dX2_takeOut_5 (by decide) (fun c9 => ?_) (fun c9 => ?_)
  · have hf := c_t hf c9
    obtain rfl := Option.some.inj hf
    exact kr _ _ _ _ hP hD hS dX2_takeOut_49
  · have hf := c_f hf c9
    refine lv_aload_n hx hb dX2_takeOut_8 rfl (lv_at hl 0 rfl) ?_
    refine va_get (D := G.1) (cl := CL) (ci := 2) (C := RX2) (T := TX2) (N := 6) hx hb hts iX2_takeOut_2 hown hK hP 0 rfl rfl 2 (by decide) (hts (.fieldLink RX2 39 "LoomCards$Loom" "cards" "I") (List.mem_of_getElem? (i := 1) rfl)) (fun _ h9 => h9) rfl dX2_takeOut_9 ?_
    refine lv_iconst (v := (1 : Int32)) hx hb dX2_takeOut_12 (by decide) ?_
    refine lv_icmp_le (tgt := 49) hx hb dX2_takeOut_13 (by decide) (fun c9 => ?_) (fun c9 => ?_)
    · have hf := c_t hf c9
      obtain rfl := Option.some.inj hf
      exact kr _ _ _ _ hP hD hS dX2_takeOut_49
    · have hf := c_f hf c9
      refine lv_aload_n hx hb dX2_takeOut_16 rfl (lv_at hl 0 rfl) ?_
      refine va_get (D := G.1) (cl := CL) (ci := 2) (C := RX2) (T := TX2) (N := 6) hx hb hts iX2_takeOut_2 hown hK hP 0 rfl rfl 5 (by decide) (hts (.fieldLink RX2 15 "LoomCards$Loom" "holesOfCard" "[I") (List.mem_of_getElem? (i := 2) rfl)) (fun _ h9 => h9) rfl dX2_takeOut_17 ?_
      refine lv_iload_n hx hb dX2_takeOut_20 rfl (lv_at hl 1 rfl) ?_
      refine lv_iconst (v := (1 : Int32)) hx hb dX2_takeOut_21 (by decide) ?_
      refine lv_iadd hx hb dX2_takeOut_22 ?_
      refine lv_aload_n hx hb dX2_takeOut_23 rfl (lv_at hl 0 rfl) ?_
      refine va_get (D := G.1) (cl := CL) (ci := 2) (C := RX2) (T := TX2) (N := 6) hx hb hts iX2_takeOut_2 hown hK hP 0 rfl rfl 5 (by decide) (hts (.fieldLink RX2 15 "LoomCards$Loom" "holesOfCard" "[I") (List.mem_of_getElem? (i := 2) rfl)) (fun _ h9 => h9) rfl dX2_takeOut_24 ?_
      refine lv_iload_n hx hb dX2_takeOut_27 rfl (lv_at hl 1 rfl) ?_
      refine lv_aload_n hx hb dX2_takeOut_28 rfl (lv_at hl 0 rfl) ?_
      refine va_get (D := G.1) (cl := CL) (ci := 2) (C := RX2) (T := TX2) (N := 6) hx hb hts iX2_takeOut_2 hown hK hP 0 rfl rfl 2 (by decide) (hts (.fieldLink RX2 39 "LoomCards$Loom" "cards" "I") (List.mem_of_getElem? (i := 1) rfl)) (fun _ h9 => h9) rfl dX2_takeOut_29 ?_
      refine lv_iload_n hx hb dX2_takeOut_32 rfl (lv_at hl 1 rfl) ?_
      refine lv_isub hx hb dX2_takeOut_33 ?_
      refine lv_iconst (v := (1 : Int32)) hx hb dX2_takeOut_34 (by decide) ?_
      refine lv_isub hx hb dX2_takeOut_35 ?_
      refine r_gd hf (fun g9 hf => ?_)
      refine va_copyi (D := G.1) (cl := CL) (tys := tyG G) hx hb (hml.trans hl.1.symm) hown (hts (.methodLink RX2 42 arraycopyName) (List.mem_of_getElem? (i := 3) rfl)) (hts (.native arraycopyName) (List.mem_of_getElem? (i := 4) rfl)) (hts (.static arraycopyName) (List.mem_of_getElem? (i := 5) rfl)) (hts (.initialized "java/lang/System") (List.mem_of_getElem? (i := 6) rfl)) hK hP hD hS 1 1 0 0 rfl rfl rfl rfl rfl (cpo_ok g9).1 (cpo_ok g9).2.1 (cpo_ok g9).2.2.1 (cpo_ok g9).2.2.2.1 (cpo_ok g9).2.2.2.2 (fun _ _ => rfl) (Nat.le_of_ble_eq_true rfl) (Nat.le_of_ble_eq_true rfl) dX2_takeOut_36 (fun H locs hP hD hS => ?_)
      have hP : va_P G.1 CL [(h_this, .inr (2, [.int c_hooks, .int c_ends, .int c_cards, .int c_limit, .ref h_hookOfEnd, .ref h_holesOfCard])), (h_holesOfCard, .inl (G.2 0, 8, .inl (va_cpy c_holesOfCard c_holesOfCard (v1 + (1 : Int32)).toNatClampNeg v1.toNatClampNeg ((c_cards - v1) - (1 : Int32)).toNatClampNeg)))] H := hP
      have hD : va_D A [(h_this, .inr (2, [.int c_hooks, .int c_ends, .int c_cards, .int c_limit, .ref h_hookOfEnd, .ref h_holesOfCard])), (h_holesOfCard, .inl (G.2 0, 8, .inl (va_cpy c_holesOfCard c_holesOfCard (v1 + (1 : Int32)).toNatClampNeg v1.toNatClampNeg ((c_cards - v1) - (1 : Int32)).toNatClampNeg)))] := hD
      refine lv_aload_n hx hb dX2_takeOut_39 rfl (lv_at hl 0 rfl) ?_
      refine lv_dup hx hb dX2_takeOut_40 rfl ?_
      refine va_get (D := G.1) (cl := CL) (ci := 2) (C := RX2) (T := TX2) (N := 6) hx hb hts iX2_takeOut_2 hown hK hP 0 rfl rfl 2 (by decide) (hts (.fieldLink RX2 39 "LoomCards$Loom" "cards" "I") (List.mem_of_getElem? (i := 1) rfl)) (fun _ h9 => h9) rfl dX2_takeOut_41 ?_
      refine lv_iconst (v := (1 : Int32)) hx hb dX2_takeOut_44 (by decide) ?_
      refine lv_isub hx hb dX2_takeOut_45 ?_
      refine va_put (D := G.1) (cl := CL) (ci := 2) (v := .int (c_cards - (1 : Int32))) (ty := .int) (C := RX2) (T := TX2) (N := 6) hx hb hts iX2_takeOut_2 tyX2 tyX2_ok nmX2 hown hK hP hD hS 0 rfl rfl 2 (by decide) (hts (.fieldLink RX2 39 "LoomCards$Loom" "cards" "I") (List.mem_of_getElem? (i := 1) rfl)) (fun _ h9 => h9) rfl (tyX2_ok 2 (by decide)) rfl rfl (Nat.le_of_ble_eq_true rfl) dX2_takeOut_46 (fun H locs hP hD hS => ?_)
      have hP : va_P G.1 CL [(h_this, .inr (2, [.int c_hooks, .int c_ends, .int (c_cards - (1 : Int32)), .int c_limit, .ref h_hookOfEnd, .ref h_holesOfCard])), (h_holesOfCard, .inl (G.2 0, 8, .inl (va_cpy c_holesOfCard c_holesOfCard (v1 + (1 : Int32)).toNatClampNeg v1.toNatClampNeg ((c_cards - v1) - (1 : Int32)).toNatClampNeg)))] H := hP
      have hD : va_D A [(h_this, .inr (2, [.int c_hooks, .int c_ends, .int (c_cards - (1 : Int32)), .int c_limit, .ref h_hookOfEnd, .ref h_holesOfCard])), (h_holesOfCard, .inl (G.2 0, 8, .inl (va_cpy c_holesOfCard c_holesOfCard (v1 + (1 : Int32)).toNatClampNeg v1.toNatClampNeg ((c_cards - v1) - (1 : Int32)).toNatClampNeg)))] := hD
      obtain rfl := Option.some.inj hf
      exact kr _ _ _ _ hP hD hS dX2_takeOut_49
end SX2_takeOut
set_option maxHeartbeats 4000000 in
set_option maxRecDepth 100000 in
theorem tX2_takeOut (l : Launch) (G : GG) (h_this : Nat) (h_hookOfEnd : Nat) (h_holesOfCard : Nat) (c_hooks : Int32) (c_ends : Int32) (c_cards : Int32) (c_limit : Int32) (c_holesOfCard : Nat → Int32) (v1 : Int32) (res : Int32 × (Nat → Int32)) (hf : fX2_takeOut c_cards c_holesOfCard v1 = some res) : MWv l yX2_takeOut wsX2_takeOut rmX2_takeOut G [.ref h_this, .int v1] [(h_this, .inr (2, [.int c_hooks, .int c_ends, .int c_cards, .int c_limit, .ref h_hookOfEnd, .ref h_holesOfCard])), (h_holesOfCard, .inl (G.2 0, 8, .inl c_holesOfCard))] [(h_this, .inr (2, [.int c_hooks, .int c_ends, .int (res.1), .int c_limit, .ref h_hookOfEnd, .ref h_holesOfCard])), (h_holesOfCard, .inl (G.2 0, 8, .inl (res.2)))] := MWv.of (plainFor_of_name (by decide +kernel)) rfl (Nat.le_of_ble_eq_true rfl) (fun p e s m below meth c A C hA hP hD hS ls hl => kX2_takeOut h_this h_hookOfEnd h_holesOfCard c_hooks c_ends c_cards c_limit c_holesOfCard v1 C hA hP hD hS (fun pc ls H locs hP hD hS d => rWv C hP hD hS d) hf hl)
def fX2_swap (c_cards : Int32) (c_holesOfCard : Nat → Int32) (v1 : Int32) (v2 : Int32) : Option ((Nat → Int32)) := (fX2_hasCard c_cards v1).bind (fun u1 => if u1 = 0 then some (c_holesOfCard) else (fX2_hasCard c_cards v2).bind (fun u2 => if u2 = 0 then some (c_holesOfCard) else gd (ix v1 8) (gd (ix v2 8) (gd (ix v1 8) (gd (ix v2 8) (some ((upd (upd c_holesOfCard v1.toNatClampNeg (c_holesOfCard v2.toNatClampNeg)) v2.toNatClampNeg (c_holesOfCard v1.toNatClampNeg)))))))))
theorem iX2_swap_2 : ∀ w ∈ wsX20, w ∈ wsX2_swap := fun w h => List.mem_cons_of_mem _ (List.mem_append_right _ (h))
theorem hdX2_swap : yX2_swap.cls = RX2 ∧ yX2_swap.cls ≠ "java/lang/invoke/MethodHandle" ∧ yX2_swap.cls ≠ "java/lang/invoke/VarHandle" ∧ (parseMethodDescriptor yX2_swap.desc).map (fun d => d.parameters.length) = some 2 := by decide +kernel
abbrev rmX2_swap : Room := { frames := 1, cells := 0, slots := 0, locals := 21 }
section SX2_swap
variable {p : Program} {l : Launch} {e : Env} {s : State} {m : MethodId} {args : Array Value} {below : List Frame} {meth : Method} {c : Code} {Q : State → Prop} {G : GG} {A : Nat → Prop}
set_option maxHeartbeats 4000000 in
set_option maxRecDepth 100000 in
theorem kX2_swap (h_this : Nat) (h_hookOfEnd : Nat) (h_holesOfCard : Nat) (c_hooks : Int32) (c_ends : Int32) (c_cards : Int32) (c_limit : Int32) (c_holesOfCard : Nat → Int32) (v1 : Int32) (v2 : Int32) (C : Cx cX2_swap none 4 RX2 wsX2_swap G p s m args meth c) (hA : ∀ q : Nat, s.heap.size ≤ q → A q) (hP : va_P G.1 CL [(h_this, .inr (2, [.int c_hooks, .int c_ends, .int c_cards, .int c_limit, .ref h_hookOfEnd, .ref h_holesOfCard])), (h_holesOfCard, .inl (G.2 0, 8, .inl c_holesOfCard))] s.heap) (hD : va_D A [(h_this, .inr (2, [.int c_hooks, .int c_ends, .int c_cards, .int c_limit, .ref h_hookOfEnd, .ref h_holesOfCard])), (h_holesOfCard, .inl (G.2 0, 8, .inl c_holesOfCard))]) (hS : va_S A s.heap s.heap []) {res : (Nat → Int32)} (kr : ∀ (pc : Nat) (ls : Array Slot) (H : Heap) (locs : List Loc), va_P G.1 CL [(h_this, .inr (2, [.int c_hooks, .int c_ends, .int c_cards, .int c_limit, .ref h_hookOfEnd, .ref h_holesOfCard])), (h_holesOfCard, .inl (G.2 0, 8, .inl (res)))] H → va_D A [(h_this, .inr (2, [.int c_hooks, .int c_ends, .int c_cards, .int c_limit, .ref h_hookOfEnd, .ref h_holesOfCard])), (h_holesOfCard, .inl (G.2 0, 8, .inl (res)))] → va_S A s.heap H locs → decode cX2_swap pc = .ok (.return_, 1) → W p l e rmX2_swap s m args below meth c H locs 0 0 Q (F0 m pc ls [])) (hf : fX2_swap c_cards c_holesOfCard v1 v2 = some res) {ls : Array Slot} (hl : lv_has ls 4 [(0, .ref h_this), (1, .int v1), (2, .int v2)]) : W p l e rmX2_swap s m args below meth c s.heap [] 0 0 Q (F0 m 0 ls []) := by
  obtain ⟨hx, hb, hr, hlk, hml, hown, hts, hK⟩ := id C
  rw [fX2_swap] at hf
  refine lv_aload_n hx hb dX2_swap_0 rfl (lv_at hl 0 rfl) ?_
  refine lv_iload_n hx hb dX2_swap_1 rfl (lv_at hl 1 rfl) ?_
  refine r_bind hf (fun u1 hu1 hf => ?_)
  refine cRiV (ci := 2) (rest := []) ⟨hx, hb, hml, hown, hts⟩ hK (tX2_hasCard l G h_this h_hookOfEnd h_holesOfCard c_hooks c_ends c_cards c_limit v1 u1 hu1) gX2_swap_X2_hasCard rfl hdX2_hasCard rfl rfl rfl ⟨Nat.le_of_ble_eq_true rfl, Nat.le_of_ble_eq_true rfl⟩ hP [0] rfl 0 rfl rfl rfl hl.1 (Nat.le_of_ble_eq_true rfl) rfl dX2_swap_2 ⟨Nat.zero_le _, Nat.zero_le _⟩ ?_
  refine lv_if_eq (tgt := 42) hx hb dX2_swap_5 (by decide) (fun c9 => ?_) (fun c9 => ?_)
  · have hf := c_t hf c9
    obtain rfl := Option.some.inj hf
    exact kr _ _ _ _ hP hD hS dX2_swap_42
  · have hf := c_f hf c9
    refine lv_aload_n hx hb dX2_swap_8 rfl (lv_at hl 0 rfl) ?_
    refine lv_iload_n hx hb dX2_swap_9 rfl (lv_at hl 2 rfl) ?_
    refine r_bind hf (fun u2 hu2 hf => ?_)
    refine cRiV (ci := 2) (rest := []) ⟨hx, hb, hml, hown, hts⟩ hK (tX2_hasCard l G h_this h_hookOfEnd h_holesOfCard c_hooks c_ends c_cards c_limit v2 u2 hu2) gX2_swap_X2_hasCard rfl hdX2_hasCard rfl rfl rfl ⟨Nat.le_of_ble_eq_true rfl, Nat.le_of_ble_eq_true rfl⟩ hP [0] rfl 0 rfl rfl rfl hl.1 (Nat.le_of_ble_eq_true rfl) rfl dX2_swap_10 ⟨Nat.zero_le _, Nat.zero_le _⟩ ?_
    refine lv_if_eq (tgt := 42) hx hb dX2_swap_13 (by decide) (fun c9 => ?_) (fun c9 => ?_)
    · have hf := c_t hf c9
      obtain rfl := Option.some.inj hf
      exact kr _ _ _ _ hP hD hS dX2_swap_42
    · have hf := c_f hf c9
      refine lv_aload_n hx hb dX2_swap_16 rfl (lv_at hl 0 rfl) ?_
      refine va_get (D := G.1) (cl := CL) (ci := 2) (C := RX2) (T := TX2) (N := 6) hx hb hts iX2_swap_2 hown hK hP 0 rfl rfl 5 (by decide) (hts (.fieldLink RX2 15 "LoomCards$Loom" "holesOfCard" "[I") (List.mem_of_getElem? (i := 1) rfl)) (fun _ h9 => h9) rfl dX2_swap_17 ?_
      refine lv_iload_n hx hb dX2_swap_20 rfl (lv_at hl 1 rfl) ?_
      refine r_gd hf (fun g9 hf => ?_)
      refine r_iald hx hb hK hP 1 rfl (ix_in g9) rfl dX2_swap_21 ?_
      refine lv_istore_n (lv' := [(3, .int (c_holesOfCard v1.toNatClampNeg)), (0, .ref h_this), (1, .int v1), (2, .int v2)]) hx hb dX2_swap_22 rfl hl (by decide) rfl (fun ls hl => ?_)
      refine lv_aload_n hx hb dX2_swap_23 rfl (lv_at hl 1 rfl) ?_
      refine va_get (D := G.1) (cl := CL) (ci := 2) (C := RX2) (T := TX2) (N := 6) hx hb hts iX2_swap_2 hown hK hP 0 rfl rfl 5 (by decide) (hts (.fieldLink RX2 15 "LoomCards$Loom" "holesOfCard" "[I") (List.mem_of_getElem? (i := 1) rfl)) (fun _ h9 => h9) rfl dX2_swap_24 ?_
      refine lv_iload_n hx hb dX2_swap_27 rfl (lv_at hl 2 rfl) ?_
      refine lv_aload_n hx hb dX2_swap_28 rfl (lv_at hl 1 rfl) ?_
      refine va_get (D := G.1) (cl := CL) (ci := 2) (C := RX2) (T := TX2) (N := 6) hx hb hts iX2_swap_2 hown hK hP 0 rfl rfl 5 (by decide) (hts (.fieldLink RX2 15 "LoomCards$Loom" "holesOfCard" "[I") (List.mem_of_getElem? (i := 1) rfl)) (fun _ h9 => h9) rfl dX2_swap_29 ?_
      refine lv_iload_n hx hb dX2_swap_32 rfl (lv_at hl 3 rfl) ?_
      refine r_gd hf (fun g9 hf => ?_)
      refine r_iald hx hb hK hP 1 rfl (ix_in g9) rfl dX2_swap_33 ?_
      refine r_gd hf (fun g9 hf => ?_)
      refine r_iast hx hb hK hP hD hS 1 rfl (ix_in g9) rfl dX2_swap_34 (fun H locs hP hD hS => ?_)
      have hP : va_P G.1 CL [(h_this, .inr (2, [.int c_hooks, .int c_ends, .int c_cards, .int c_limit, .ref h_hookOfEnd, .ref h_holesOfCard])), (h_holesOfCard, .inl (G.2 0, 8, .inl (upd c_holesOfCard v1.toNatClampNeg (c_holesOfCard v2.toNatClampNeg))))] H := hP
      have hD : va_D A [(h_this, .inr (2, [.int c_hooks, .int c_ends, .int c_cards, .int c_limit, .ref h_hookOfEnd, .ref h_holesOfCard])), (h_holesOfCard, .inl (G.2 0, 8, .inl (upd c_holesOfCard v1.toNatClampNeg (c_holesOfCard v2.toNatClampNeg))))] := hD
      refine lv_aload_n hx hb dX2_swap_35 rfl (lv_at hl 1 rfl) ?_
      refine va_get (D := G.1) (cl := CL) (ci := 2) (C := RX2) (T := TX2) (N := 6) hx hb hts iX2_swap_2 hown hK hP 0 rfl rfl 5 (by decide) (hts (.fieldLink RX2 15 "LoomCards$Loom" "holesOfCard" "[I") (List.mem_of_getElem? (i := 1) rfl)) (fun _ h9 => h9) rfl dX2_swap_36 ?_
      refine lv_iload_n hx hb dX2_swap_39 rfl (lv_at hl 3 rfl) ?_
      refine lv_iload_n hx hb dX2_swap_40 rfl (lv_at hl 0 rfl) ?_
      refine r_gd hf (fun g9 hf => ?_)
      refine r_iast hx hb hK hP hD hS 1 rfl (ix_in g9) rfl dX2_swap_41 (fun H locs hP hD hS => ?_)
      have hP : va_P G.1 CL [(h_this, .inr (2, [.int c_hooks, .int c_ends, .int c_cards, .int c_limit, .ref h_hookOfEnd, .ref h_holesOfCard])), (h_holesOfCard, .inl (G.2 0, 8, .inl (upd (upd c_holesOfCard v1.toNatClampNeg (c_holesOfCard v2.toNatClampNeg)) v2.toNatClampNeg (c_holesOfCard v1.toNatClampNeg))))] H := hP
      have hD : va_D A [(h_this, .inr (2, [.int c_hooks, .int c_ends, .int c_cards, .int c_limit, .ref h_hookOfEnd, .ref h_holesOfCard])), (h_holesOfCard, .inl (G.2 0, 8, .inl (upd (upd c_holesOfCard v1.toNatClampNeg (c_holesOfCard v2.toNatClampNeg)) v2.toNatClampNeg (c_holesOfCard v1.toNatClampNeg))))] := hD
      obtain rfl := Option.some.inj hf
      exact kr _ _ _ _ hP hD hS dX2_swap_42
end SX2_swap
set_option maxHeartbeats 4000000 in
set_option maxRecDepth 100000 in
theorem tX2_swap (l : Launch) (G : GG) (h_this : Nat) (h_hookOfEnd : Nat) (h_holesOfCard : Nat) (c_hooks : Int32) (c_ends : Int32) (c_cards : Int32) (c_limit : Int32) (c_holesOfCard : Nat → Int32) (v1 : Int32) (v2 : Int32) (res : (Nat → Int32)) (hf : fX2_swap c_cards c_holesOfCard v1 v2 = some res) : MWv l yX2_swap wsX2_swap rmX2_swap G [.ref h_this, .int v1, .int v2] [(h_this, .inr (2, [.int c_hooks, .int c_ends, .int c_cards, .int c_limit, .ref h_hookOfEnd, .ref h_holesOfCard])), (h_holesOfCard, .inl (G.2 0, 8, .inl c_holesOfCard))] [(h_this, .inr (2, [.int c_hooks, .int c_ends, .int c_cards, .int c_limit, .ref h_hookOfEnd, .ref h_holesOfCard])), (h_holesOfCard, .inl (G.2 0, 8, .inl (res)))] := MWv.of (plainFor_of_name (by decide +kernel)) rfl (Nat.le_of_ble_eq_true rfl) (fun p e s m below meth c A C hA hP hD hS ls hl => kX2_swap h_this h_hookOfEnd h_holesOfCard c_hooks c_ends c_cards c_limit c_holesOfCard v1 v2 C hA hP hD hS (fun pc ls H locs hP hD hS d => rWv C hP hD hS d) hf hl)
def fX2_isUp (c_ends : Int32) (c_cards : Int32) (c_hookOfEnd : Nat → Int32) (c_holesOfCard : Nat → Int32) (v1 : Int32) (v2 : Int32) : Option (Int32) := if v1 < 0 then some ((0 : Int32)) else if c_cards ≤ v1 then some ((0 : Int32)) else if v2 < 0 then some ((0 : Int32)) else if v2 < c_ends then gd (ix v1 8) (gd (ix v2 12) (if (((c_holesOfCard v1.toNatClampNeg) >>> ((c_hookOfEnd v2.toNatClampNeg) &&& 31)) &&& (1 : Int32)) = (1 : Int32) then some ((1 : Int32)) else some ((0 : Int32)))) else some ((0 : Int32))
theorem iX2_isUp_2 : ∀ w ∈ wsX20, w ∈ wsX2_isUp := fun w h => List.mem_cons_of_mem _ (List.mem_append_right _ (h))
theorem hdX2_isUp : yX2_isUp.cls = RX2 ∧ yX2_isUp.cls ≠ "java/lang/invoke/MethodHandle" ∧ yX2_isUp.cls ≠ "java/lang/invoke/VarHandle" ∧ (parseMethodDescriptor yX2_isUp.desc).map (fun d => d.parameters.length) = some 2 := by decide +kernel
abbrev rmX2_isUp : Room := { frames := 0, cells := 0, slots := 0, locals := 0 }
section SX2_isUp
variable {p : Program} {l : Launch} {e : Env} {s : State} {m : MethodId} {args : Array Value} {below : List Frame} {meth : Method} {c : Code} {Q : State → Prop} {G : GG}
set_option maxHeartbeats 4000000 in
set_option maxRecDepth 100000 in
theorem kX2_isUp (h_this : Nat) (h_hookOfEnd : Nat) (h_holesOfCard : Nat) (c_hooks : Int32) (c_ends : Int32) (c_cards : Int32) (c_limit : Int32) (c_hookOfEnd : Nat → Int32) (c_holesOfCard : Nat → Int32) (v1 : Int32) (v2 : Int32) (C : Cx cX2_isUp (some .boolean) 3 RX2 wsX2_isUp G p s m args meth c) (hP : va_P G.1 CL [(h_this, .inr (2, [.int c_hooks, .int c_ends, .int c_cards, .int c_limit, .ref h_hookOfEnd, .ref h_holesOfCard])), (h_hookOfEnd, .inl (G.2 0, 12, .inl c_hookOfEnd)), (h_holesOfCard, .inl (G.2 0, 8, .inl c_holesOfCard))] s.heap) {res : Int32} (kr : ∀ (pc : Nat) (ls : Array Slot), narrow .boolean (.int res) = .int res → decode cX2_isUp pc = .ok (.ireturn, 1) → W p l e rmX2_isUp s m args below meth c s.heap [] 0 0 Q (F0 m pc ls [.int res])) (hf : fX2_isUp c_ends c_cards c_hookOfEnd c_holesOfCard v1 v2 = some res) {ls : Array Slot} (hl : lv_has ls 3 [(0, .ref h_this), (1, .int v1), (2, .int v2)]) : W p l e rmX2_isUp s m args below meth c s.heap [] 0 0 Q (F0 m 0 ls []) := by
  obtain ⟨hx, hb, hr, hlk, hml, hown, hts, hK⟩ := id C
  rw [fX2_isUp] at hf
  refine lv_iload_n hx hb dX2_isUp_0 rfl (lv_at hl 1 rfl) ?_
  refine lv_if_lt (tgt := 24) hx hb dX2_isUp_1 (by decide) (fun c9 => ?_) (fun c9 => ?_)
  · have hf := c_t hf c9
    refine lv_iconst (v := (0 : Int32)) hx hb dX2_isUp_24 (by decide) ?_
    obtain rfl := Option.some.inj hf
    exact kr _ _ nb0 dX2_isUp_25
  · have hf := c_f hf c9
    refine lv_iload_n hx hb dX2_isUp_4 rfl (lv_at hl 1 rfl) ?_
    refine lv_aload_n hx hb dX2_isUp_5 rfl (lv_at hl 0 rfl) ?_
    refine va_get (D := G.1) (cl := CL) (ci := 2) (C := RX2) (T := TX2) (N := 6) hx hb hts iX2_isUp_2 hown hK hP 0 rfl rfl 2 (by decide) (hts (.fieldLink RX2 39 "LoomCards$Loom" "cards" "I") (List.mem_of_getElem? (i := 1) rfl)) (fun _ h9 => h9) rfl dX2_isUp_6 ?_
    refine lv_icmp_ge (tgt := 24) hx hb dX2_isUp_9 (by decide) (fun c9 => ?_) (fun c9 => ?_)
    · have hf := c_t hf c9
      refine lv_iconst (v := (0 : Int32)) hx hb dX2_isUp_24 (by decide) ?_
      obtain rfl := Option.some.inj hf
      exact kr _ _ nb0 dX2_isUp_25
    · have hf := c_f hf c9
      refine lv_iload_n hx hb dX2_isUp_12 rfl (lv_at hl 2 rfl) ?_
      refine lv_if_lt (tgt := 24) hx hb dX2_isUp_13 (by decide) (fun c9 => ?_) (fun c9 => ?_)
      · have hf := c_t hf c9
        refine lv_iconst (v := (0 : Int32)) hx hb dX2_isUp_24 (by decide) ?_
        obtain rfl := Option.some.inj hf
        exact kr _ _ nb0 dX2_isUp_25
      · have hf := c_f hf c9
        refine lv_iload_n hx hb dX2_isUp_16 rfl (lv_at hl 2 rfl) ?_
        refine lv_aload_n hx hb dX2_isUp_17 rfl (lv_at hl 0 rfl) ?_
        refine va_get (D := G.1) (cl := CL) (ci := 2) (C := RX2) (T := TX2) (N := 6) hx hb hts iX2_isUp_2 hown hK hP 0 rfl rfl 1 (by decide) (hts (.fieldLink RX2 21 "LoomCards$Loom" "ends" "I") (List.mem_of_getElem? (i := 2) rfl)) (fun _ h9 => h9) rfl dX2_isUp_18 ?_
        refine lv_icmp_lt (tgt := 26) hx hb dX2_isUp_21 (by decide) (fun c9 => ?_) (fun c9 => ?_)
        · have hf := c_t hf c9
          refine lv_aload_n hx hb dX2_isUp_26 rfl (lv_at hl 0 rfl) ?_
          refine va_get (D := G.1) (cl := CL) (ci := 2) (C := RX2) (T := TX2) (N := 6) hx hb hts iX2_isUp_2 hown hK hP 0 rfl rfl 5 (by decide) (hts (.fieldLink RX2 15 "LoomCards$Loom" "holesOfCard" "[I") (List.mem_of_getElem? (i := 3) rfl)) (fun _ h9 => h9) rfl dX2_isUp_27 ?_
          refine lv_iload_n hx hb dX2_isUp_30 rfl (lv_at hl 1 rfl) ?_
          refine r_gd hf (fun g9 hf => ?_)
          refine r_iald hx hb hK hP 2 rfl (ix_in g9) rfl dX2_isUp_31 ?_
          refine lv_aload_n hx hb dX2_isUp_32 rfl (lv_at hl 0 rfl) ?_
          refine va_get (D := G.1) (cl := CL) (ci := 2) (C := RX2) (T := TX2) (N := 6) hx hb hts iX2_isUp_2 hown hK hP 0 rfl rfl 4 (by decide) (hts (.fieldLink RX2 9 "LoomCards$Loom" "hookOfEnd" "[I") (List.mem_of_getElem? (i := 4) rfl)) (fun _ h9 => h9) rfl dX2_isUp_33 ?_
          refine lv_iload_n hx hb dX2_isUp_36 rfl (lv_at hl 2 rfl) ?_
          refine r_gd hf (fun g9 hf => ?_)
          refine r_iald hx hb hK hP 1 rfl (ix_in g9) rfl dX2_isUp_37 ?_
          refine lv_ishr hx hb dX2_isUp_38 ?_
          refine lv_iconst (v := (1 : Int32)) hx hb dX2_isUp_39 (by decide) ?_
          refine lv_iand hx hb dX2_isUp_40 ?_
          refine lv_iconst (v := (1 : Int32)) hx hb dX2_isUp_41 (by decide) ?_
          refine lv_icmp_ne (tgt := 49) hx hb dX2_isUp_42 (by decide) (fun c9 => ?_) (fun c9 => ?_)
          · have hf := c_f hf c9
            refine lv_iconst (v := (0 : Int32)) hx hb dX2_isUp_49 (by decide) ?_
            obtain rfl := Option.some.inj hf
            exact kr _ _ nb0 dX2_isUp_50
          · have hf := c_t hf c9
            refine lv_iconst (v := (1 : Int32)) hx hb dX2_isUp_45 (by decide) ?_
            refine lv_goto (tgt := 50) hx hb dX2_isUp_46 (by decide) ?_
            obtain rfl := Option.some.inj hf
            exact kr _ _ nb1 dX2_isUp_50
        · have hf := c_f hf c9
          refine lv_iconst (v := (0 : Int32)) hx hb dX2_isUp_24 (by decide) ?_
          obtain rfl := Option.some.inj hf
          exact kr _ _ nb0 dX2_isUp_25
end SX2_isUp
set_option maxHeartbeats 4000000 in
set_option maxRecDepth 100000 in
theorem tX2_isUp (l : Launch) (G : GG) (h_this : Nat) (h_hookOfEnd : Nat) (h_holesOfCard : Nat) (c_hooks : Int32) (c_ends : Int32) (c_cards : Int32) (c_limit : Int32) (c_hookOfEnd : Nat → Int32) (c_holesOfCard : Nat → Int32) (v1 : Int32) (v2 : Int32) (res : Int32) (hf : fX2_isUp c_ends c_cards c_hookOfEnd c_holesOfCard v1 v2 = some res) : MRi l yX2_isUp wsX2_isUp rmX2_isUp G [.ref h_this, .int v1, .int v2] [(h_this, .inr (2, [.int c_hooks, .int c_ends, .int c_cards, .int c_limit, .ref h_hookOfEnd, .ref h_holesOfCard])), (h_hookOfEnd, .inl (G.2 0, 12, .inl c_hookOfEnd)), (h_holesOfCard, .inl (G.2 0, 8, .inl c_holesOfCard))] (res) := MRi.of (plainFor_of_name (by decide +kernel)) rfl (Nat.le_of_ble_eq_true rfl) (fun p e s m below meth c C hP ls hl => kX2_isUp h_this h_hookOfEnd h_holesOfCard c_hooks c_ends c_cards c_limit c_hookOfEnd c_holesOfCard v1 v2 C hP (fun pc ls hn d => rRz C hn d) hf hl)
def fX2_upEnds_L4 (k37 : Int32 → Option (Int32)) (c_ends : Int32) (c_cards : Int32) (c_hookOfEnd : Nat → Int32) (c_holesOfCard : Nat → Int32) (v1 : Int32) : Nat → Int32 → Int32 → Option (Int32)
  | 0, _, _ => none
  | n + 1, v2, v3 => if c_ends ≤ v3 then k37 v2 else (fX2_isUp c_ends c_cards c_hookOfEnd c_holesOfCard v1 v3).bind (fun u1 => jn (fun (j29_0 : Int32) (j29_1 : Int32) => fX2_upEnds_L4 k37 c_ends c_cards c_hookOfEnd c_holesOfCard v1 n (j29_1 ||| j29_0) (v3 + (1 : Int32))) (fun J29 => if u1 = 0 then J29 (0 : Int32) v2 else J29 ((1 : Int32) <<< (v3 &&& 31)) v2))
def fX2_upEnds (c_ends : Int32) (c_cards : Int32) (c_hookOfEnd : Nat → Int32) (c_holesOfCard : Nat → Int32) (v1 : Int32) : Option (Int32) := (fX2_upEnds_L4 (fun (v2_x2 : Int32) => some (v2_x2)) c_ends c_cards c_hookOfEnd c_holesOfCard v1 FU (0 : Int32) (0 : Int32))
theorem iX2_upEnds_2 : ∀ w ∈ wsX20, w ∈ wsX2_upEnds := fun w h => List.mem_cons_of_mem _ (List.mem_append_right _ (h))
theorem hdX2_upEnds : yX2_upEnds.cls = RX2 ∧ yX2_upEnds.cls ≠ "java/lang/invoke/MethodHandle" ∧ yX2_upEnds.cls ≠ "java/lang/invoke/VarHandle" ∧ (parseMethodDescriptor yX2_upEnds.desc).map (fun d => d.parameters.length) = some 1 := by decide +kernel
abbrev rmX2_upEnds : Room := { frames := 1, cells := 0, slots := 0, locals := 22 }
section SX2_upEnds
variable {p : Program} {l : Launch} {e : Env} {s : State} {m : MethodId} {args : Array Value} {below : List Frame} {meth : Method} {c : Code} {Q : State → Prop} {G : GG}
set_option maxHeartbeats 4000000 in
set_option maxRecDepth 100000 in
theorem kX2_upEnds_L4 (h_this : Nat) (h_hookOfEnd : Nat) (h_holesOfCard : Nat) (c_hooks : Int32) (c_ends : Int32) (c_cards : Int32) (c_limit : Int32) (c_hookOfEnd : Nat → Int32) (c_holesOfCard : Nat → Int32) (v1 : Int32) (C : Cx cX2_upEnds (some .int) 4 RX2 wsX2_upEnds G p s m args meth c) (hP : va_P G.1 CL [(h_this, .inr (2, [.int c_hooks, .int c_ends, .int c_cards, .int c_limit, .ref h_hookOfEnd, .ref h_holesOfCard])), (h_hookOfEnd, .inl (G.2 0, 12, .inl c_hookOfEnd)), (h_holesOfCard, .inl (G.2 0, 8, .inl c_holesOfCard))] s.heap) {res : Int32} (kr : ∀ (pc : Nat) (ls : Array Slot), decode cX2_upEnds pc = .ok (.ireturn, 1) → W p l e rmX2_upEnds s m args below meth c s.heap [] 0 0 Q (F0 m pc ls [.int res])) {k37 : Int32 → Option (Int32)} (hk37 : ∀ (v2 : Int32) , k37 v2 = some res → ∀ (ls : Array Slot), lv_has ls 4 [(2, .int v2)] → W p l e rmX2_upEnds s m args below meth c s.heap [] 0 0 Q (F0 m 37 ls [])) : ∀ (n : Nat) (v2 : Int32) (v3 : Int32), fX2_upEnds_L4 k37 c_ends c_cards c_hookOfEnd c_holesOfCard v1 n v2 v3 = some res → ∀ (ls : Array Slot), lv_has ls 4 [(0, .ref h_this), (1, .int v1), (2, .int v2), (3, .int v3)] → W p l e rmX2_upEnds s m args below meth c s.heap [] 0 0 Q (F0 m 4 ls []) := by
  obtain ⟨hx, hb, hr, hlk, hml, hown, hts, hK⟩ := id C
  intro n
  induction n with
  | zero =>
    intro v2 v3 hf
    cases hf
  | succ n ih =>
    intro v2 v3 hf ls hl
    rw [fX2_upEnds_L4] at hf
    refine lv_iload_n hx hb dX2_upEnds_4 rfl (lv_at hl 3 rfl) ?_
    refine lv_aload_n hx hb dX2_upEnds_5 rfl (lv_at hl 0 rfl) ?_
    refine va_get (D := G.1) (cl := CL) (ci := 2) (C := RX2) (T := TX2) (N := 6) hx hb hts iX2_upEnds_2 hown hK hP 0 rfl rfl 1 (by decide) (hts (.fieldLink RX2 21 "LoomCards$Loom" "ends" "I") (List.mem_of_getElem? (i := 1) rfl)) (fun _ h9 => h9) rfl dX2_upEnds_6 ?_
    refine lv_icmp_ge (tgt := 37) hx hb dX2_upEnds_9 (by decide) (fun c9 => ?_) (fun c9 => ?_)
    · have hf := c_t hf c9
      exact hk37 v2 hf _ (lv_sub hl [2] rfl)
    · have hf := c_f hf c9
      refine lv_iload_n hx hb dX2_upEnds_12 rfl (lv_at hl 2 rfl) ?_
      refine lv_aload_n hx hb dX2_upEnds_13 rfl (lv_at hl 0 rfl) ?_
      refine lv_iload_n hx hb dX2_upEnds_14 rfl (lv_at hl 1 rfl) ?_
      refine lv_iload_n hx hb dX2_upEnds_15 rfl (lv_at hl 3 rfl) ?_
      refine r_bind hf (fun u1 hu1 hf => ?_)
      refine cRiV (ci := 2) (rest := [.int v2]) ⟨hx, hb, hml, hown, hts⟩ hK (tX2_isUp l G h_this h_hookOfEnd h_holesOfCard c_hooks c_ends c_cards c_limit c_hookOfEnd c_holesOfCard v1 v3 u1 hu1) gX2_upEnds_X2_isUp rfl hdX2_isUp rfl rfl rfl ⟨Nat.le_of_ble_eq_true rfl, Nat.le_of_ble_eq_true rfl⟩ hP [0, 1, 2] rfl 0 rfl rfl rfl hl.1 (Nat.le_of_ble_eq_true rfl) rfl dX2_upEnds_16 ⟨Nat.zero_le _, Nat.zero_le _⟩ ?_
      refine r_jn2 hf (fun J29 eJ29 hf => ?_)
      have hJ29 : ∀ (j29_0 : Int32) (j29_1 : Int32) , J29 j29_0 j29_1 = some res → ∀ (ls : Array Slot), lv_has ls 4 [(0, .ref h_this), (1, .int v1), (3, .int v3)] → W p l e rmX2_upEnds s m args below meth c s.heap [] 0 0 Q (F0 m 29 ls [.int j29_0, .int j29_1]) := by
        intro j29_0 j29_1 hf ls hl
        rw [eJ29] at hf
        refine lv_ior hx hb dX2_upEnds_29 ?_
        refine lv_istore_n (lv' := [(2, .int (j29_1 ||| j29_0)), (0, .ref h_this), (1, .int v1), (3, .int v3)]) hx hb dX2_upEnds_30 rfl hl (by decide) rfl (fun ls hl => ?_)
        refine lv_iinc (v := (v3 + (1 : Int32))) (lv' := [(3, .int (v3 + (1 : Int32))), (2, .int (j29_1 ||| j29_0)), (0, .ref h_this), (1, .int v1)]) hx hb dX2_upEnds_31 hl (k := 3) rfl rfl (by decide) rfl (fun ls hl => ?_)
        refine lv_goto (tgt := 4) hx hb dX2_upEnds_34 (by decide) ?_
        exact ih (j29_1 ||| j29_0) (v3 + (1 : Int32)) hf _ (lv_sub hl [2, 3, 1, 0] rfl)
      refine lv_if_eq (tgt := 28) hx hb dX2_upEnds_19 (by decide) (fun c9 => ?_) (fun c9 => ?_)
      · have hf := c_t hf c9
        refine lv_iconst (v := (0 : Int32)) hx hb dX2_upEnds_28 (by decide) ?_
        exact hJ29 (0 : Int32) v2 hf _ (lv_sub hl [0, 1, 3] rfl)
      · have hf := c_f hf c9
        refine lv_iconst (v := (1 : Int32)) hx hb dX2_upEnds_22 (by decide) ?_
        refine lv_iload_n hx hb dX2_upEnds_23 rfl (lv_at hl 3 rfl) ?_
        refine lv_ishl hx hb dX2_upEnds_24 ?_
        refine lv_goto (tgt := 29) hx hb dX2_upEnds_25 (by decide) ?_
        exact hJ29 ((1 : Int32) <<< (v3 &&& 31)) v2 hf _ (lv_sub hl [0, 1, 3] rfl)
set_option maxHeartbeats 4000000 in
set_option maxRecDepth 100000 in
theorem kX2_upEnds (h_this : Nat) (h_hookOfEnd : Nat) (h_holesOfCard : Nat) (c_hooks : Int32) (c_ends : Int32) (c_cards : Int32) (c_limit : Int32) (c_hookOfEnd : Nat → Int32) (c_holesOfCard : Nat → Int32) (v1 : Int32) (C : Cx cX2_upEnds (some .int) 4 RX2 wsX2_upEnds G p s m args meth c) (hP : va_P G.1 CL [(h_this, .inr (2, [.int c_hooks, .int c_ends, .int c_cards, .int c_limit, .ref h_hookOfEnd, .ref h_holesOfCard])), (h_hookOfEnd, .inl (G.2 0, 12, .inl c_hookOfEnd)), (h_holesOfCard, .inl (G.2 0, 8, .inl c_holesOfCard))] s.heap) {res : Int32} (kr : ∀ (pc : Nat) (ls : Array Slot), decode cX2_upEnds pc = .ok (.ireturn, 1) → W p l e rmX2_upEnds s m args below meth c s.heap [] 0 0 Q (F0 m pc ls [.int res])) (hf : fX2_upEnds c_ends c_cards c_hookOfEnd c_holesOfCard v1 = some res) {ls : Array Slot} (hl : lv_has ls 4 [(0, .ref h_this), (1, .int v1)]) : W p l e rmX2_upEnds s m args below meth c s.heap [] 0 0 Q (F0 m 0 ls []) := by
  obtain ⟨hx, hb, hr, hlk, hml, hown, hts, hK⟩ := id C
  rw [fX2_upEnds] at hf
  refine lv_iconst (v := (0 : Int32)) hx hb dX2_upEnds_0 (by decide) ?_
  refine lv_istore_n (lv' := [(2, .int (0 : Int32)), (0, .ref h_this), (1, .int v1)]) hx hb dX2_upEnds_1 rfl hl (by decide) rfl (fun ls hl => ?_)
  refine lv_iconst (v := (0 : Int32)) hx hb dX2_upEnds_2 (by decide) ?_
  refine lv_istore_n (lv' := [(3, .int (0 : Int32)), (2, .int (0 : Int32)), (0, .ref h_this), (1, .int v1)]) hx hb dX2_upEnds_3 rfl hl (by decide) rfl (fun ls hl => ?_)
  refine kX2_upEnds_L4 h_this h_hookOfEnd h_holesOfCard c_hooks c_ends c_cards c_limit c_hookOfEnd c_holesOfCard v1 C hP kr ?_ FU (0 : Int32) (0 : Int32) hf _ (lv_sub hl [2, 3, 1, 0] rfl)
  intro v2_x2 hf ls hl
  refine lv_iload_n hx hb dX2_upEnds_37 rfl (lv_at hl 0 rfl) ?_
  obtain rfl := Option.some.inj hf
  exact kr _ _ dX2_upEnds_38
end SX2_upEnds
set_option maxHeartbeats 4000000 in
set_option maxRecDepth 100000 in
theorem tX2_upEnds (l : Launch) (G : GG) (h_this : Nat) (h_hookOfEnd : Nat) (h_holesOfCard : Nat) (c_hooks : Int32) (c_ends : Int32) (c_cards : Int32) (c_limit : Int32) (c_hookOfEnd : Nat → Int32) (c_holesOfCard : Nat → Int32) (v1 : Int32) (res : Int32) (hf : fX2_upEnds c_ends c_cards c_hookOfEnd c_holesOfCard v1 = some res) : MRi l yX2_upEnds wsX2_upEnds rmX2_upEnds G [.ref h_this, .int v1] [(h_this, .inr (2, [.int c_hooks, .int c_ends, .int c_cards, .int c_limit, .ref h_hookOfEnd, .ref h_holesOfCard])), (h_hookOfEnd, .inl (G.2 0, 12, .inl c_hookOfEnd)), (h_holesOfCard, .inl (G.2 0, 8, .inl c_holesOfCard))] (res) := MRi.of (plainFor_of_name (by decide +kernel)) rfl (Nat.le_of_ble_eq_true rfl) (fun p e s m below meth c C hP ls hl => kX2_upEnds h_this h_hookOfEnd h_holesOfCard c_hooks c_ends c_cards c_limit c_hookOfEnd c_holesOfCard v1 C hP (fun pc ls d => rRi C d) hf hl)
def fX2_upRows_L4 (k37 : Int32 → Option (Int32)) (c_ends : Int32) (c_cards : Int32) (c_hookOfEnd : Nat → Int32) (c_holesOfCard : Nat → Int32) (v1 : Int32) : Nat → Int32 → Int32 → Option (Int32)
  | 0, _, _ => none
  | n + 1, v2, v3 => if c_cards ≤ v3 then k37 v2 else (fX2_isUp c_ends c_cards c_hookOfEnd c_holesOfCard v3 v1).bind (fun u1 => jn (fun (j29_0 : Int32) (j29_1 : Int32) => fX2_upRows_L4 k37 c_ends c_cards c_hookOfEnd c_holesOfCard v1 n (j29_1 ||| j29_0) (v3 + (1 : Int32))) (fun J29 => if u1 = 0 then J29 (0 : Int32) v2 else J29 ((1 : Int32) <<< (v3 &&& 31)) v2))
def fX2_upRows (c_ends : Int32) (c_cards : Int32) (c_hookOfEnd : Nat → Int32) (c_holesOfCard : Nat → Int32) (v1 : Int32) : Option (Int32) := (fX2_upRows_L4 (fun (v2_x2 : Int32) => some (v2_x2)) c_ends c_cards c_hookOfEnd c_holesOfCard v1 FU (0 : Int32) (0 : Int32))
theorem iX2_upRows_2 : ∀ w ∈ wsX20, w ∈ wsX2_upRows := fun w h => List.mem_cons_of_mem _ (List.mem_append_right _ (h))
theorem hdX2_upRows : yX2_upRows.cls = RX2 ∧ yX2_upRows.cls ≠ "java/lang/invoke/MethodHandle" ∧ yX2_upRows.cls ≠ "java/lang/invoke/VarHandle" ∧ (parseMethodDescriptor yX2_upRows.desc).map (fun d => d.parameters.length) = some 1 := by decide +kernel
abbrev rmX2_upRows : Room := { frames := 1, cells := 0, slots := 0, locals := 22 }
section SX2_upRows
variable {p : Program} {l : Launch} {e : Env} {s : State} {m : MethodId} {args : Array Value} {below : List Frame} {meth : Method} {c : Code} {Q : State → Prop} {G : GG}
set_option maxHeartbeats 4000000 in
set_option maxRecDepth 100000 in
theorem kX2_upRows_L4 (h_this : Nat) (h_hookOfEnd : Nat) (h_holesOfCard : Nat) (c_hooks : Int32) (c_ends : Int32) (c_cards : Int32) (c_limit : Int32) (c_hookOfEnd : Nat → Int32) (c_holesOfCard : Nat → Int32) (v1 : Int32) (C : Cx cX2_upRows (some .int) 4 RX2 wsX2_upRows G p s m args meth c) (hP : va_P G.1 CL [(h_this, .inr (2, [.int c_hooks, .int c_ends, .int c_cards, .int c_limit, .ref h_hookOfEnd, .ref h_holesOfCard])), (h_hookOfEnd, .inl (G.2 0, 12, .inl c_hookOfEnd)), (h_holesOfCard, .inl (G.2 0, 8, .inl c_holesOfCard))] s.heap) {res : Int32} (kr : ∀ (pc : Nat) (ls : Array Slot), decode cX2_upRows pc = .ok (.ireturn, 1) → W p l e rmX2_upRows s m args below meth c s.heap [] 0 0 Q (F0 m pc ls [.int res])) {k37 : Int32 → Option (Int32)} (hk37 : ∀ (v2 : Int32) , k37 v2 = some res → ∀ (ls : Array Slot), lv_has ls 4 [(2, .int v2)] → W p l e rmX2_upRows s m args below meth c s.heap [] 0 0 Q (F0 m 37 ls [])) : ∀ (n : Nat) (v2 : Int32) (v3 : Int32), fX2_upRows_L4 k37 c_ends c_cards c_hookOfEnd c_holesOfCard v1 n v2 v3 = some res → ∀ (ls : Array Slot), lv_has ls 4 [(0, .ref h_this), (1, .int v1), (2, .int v2), (3, .int v3)] → W p l e rmX2_upRows s m args below meth c s.heap [] 0 0 Q (F0 m 4 ls []) := by
  obtain ⟨hx, hb, hr, hlk, hml, hown, hts, hK⟩ := id C
  intro n
  induction n with
  | zero =>
    intro v2 v3 hf
    cases hf
  | succ n ih =>
    intro v2 v3 hf ls hl
    rw [fX2_upRows_L4] at hf
    refine lv_iload_n hx hb dX2_upRows_4 rfl (lv_at hl 3 rfl) ?_
    refine lv_aload_n hx hb dX2_upRows_5 rfl (lv_at hl 0 rfl) ?_
    refine va_get (D := G.1) (cl := CL) (ci := 2) (C := RX2) (T := TX2) (N := 6) hx hb hts iX2_upRows_2 hown hK hP 0 rfl rfl 2 (by decide) (hts (.fieldLink RX2 39 "LoomCards$Loom" "cards" "I") (List.mem_of_getElem? (i := 1) rfl)) (fun _ h9 => h9) rfl dX2_upRows_6 ?_
    refine lv_icmp_ge (tgt := 37) hx hb dX2_upRows_9 (by decide) (fun c9 => ?_) (fun c9 => ?_)
    · have hf := c_t hf c9
      exact hk37 v2 hf _ (lv_sub hl [2] rfl)
    · have hf := c_f hf c9
      refine lv_iload_n hx hb dX2_upRows_12 rfl (lv_at hl 2 rfl) ?_
      refine lv_aload_n hx hb dX2_upRows_13 rfl (lv_at hl 0 rfl) ?_
      refine lv_iload_n hx hb dX2_upRows_14 rfl (lv_at hl 3 rfl) ?_
      refine lv_iload_n hx hb dX2_upRows_15 rfl (lv_at hl 1 rfl) ?_
      refine r_bind hf (fun u1 hu1 hf => ?_)
      refine cRiV (ci := 2) (rest := [.int v2]) ⟨hx, hb, hml, hown, hts⟩ hK (tX2_isUp l G h_this h_hookOfEnd h_holesOfCard c_hooks c_ends c_cards c_limit c_hookOfEnd c_holesOfCard v3 v1 u1 hu1) gX2_upRows_X2_isUp rfl hdX2_isUp rfl rfl rfl ⟨Nat.le_of_ble_eq_true rfl, Nat.le_of_ble_eq_true rfl⟩ hP [0, 1, 2] rfl 0 rfl rfl rfl hl.1 (Nat.le_of_ble_eq_true rfl) rfl dX2_upRows_16 ⟨Nat.zero_le _, Nat.zero_le _⟩ ?_
      refine r_jn2 hf (fun J29 eJ29 hf => ?_)
      have hJ29 : ∀ (j29_0 : Int32) (j29_1 : Int32) , J29 j29_0 j29_1 = some res → ∀ (ls : Array Slot), lv_has ls 4 [(0, .ref h_this), (1, .int v1), (3, .int v3)] → W p l e rmX2_upRows s m args below meth c s.heap [] 0 0 Q (F0 m 29 ls [.int j29_0, .int j29_1]) := by
        intro j29_0 j29_1 hf ls hl
        rw [eJ29] at hf
        refine lv_ior hx hb dX2_upRows_29 ?_
        refine lv_istore_n (lv' := [(2, .int (j29_1 ||| j29_0)), (0, .ref h_this), (1, .int v1), (3, .int v3)]) hx hb dX2_upRows_30 rfl hl (by decide) rfl (fun ls hl => ?_)
        refine lv_iinc (v := (v3 + (1 : Int32))) (lv' := [(3, .int (v3 + (1 : Int32))), (2, .int (j29_1 ||| j29_0)), (0, .ref h_this), (1, .int v1)]) hx hb dX2_upRows_31 hl (k := 3) rfl rfl (by decide) rfl (fun ls hl => ?_)
        refine lv_goto (tgt := 4) hx hb dX2_upRows_34 (by decide) ?_
        exact ih (j29_1 ||| j29_0) (v3 + (1 : Int32)) hf _ (lv_sub hl [2, 3, 1, 0] rfl)
      refine lv_if_eq (tgt := 28) hx hb dX2_upRows_19 (by decide) (fun c9 => ?_) (fun c9 => ?_)
      · have hf := c_t hf c9
        refine lv_iconst (v := (0 : Int32)) hx hb dX2_upRows_28 (by decide) ?_
        exact hJ29 (0 : Int32) v2 hf _ (lv_sub hl [0, 1, 3] rfl)
      · have hf := c_f hf c9
        refine lv_iconst (v := (1 : Int32)) hx hb dX2_upRows_22 (by decide) ?_
        refine lv_iload_n hx hb dX2_upRows_23 rfl (lv_at hl 3 rfl) ?_
        refine lv_ishl hx hb dX2_upRows_24 ?_
        refine lv_goto (tgt := 29) hx hb dX2_upRows_25 (by decide) ?_
        exact hJ29 ((1 : Int32) <<< (v3 &&& 31)) v2 hf _ (lv_sub hl [0, 1, 3] rfl)
set_option maxHeartbeats 4000000 in
set_option maxRecDepth 100000 in
theorem kX2_upRows (h_this : Nat) (h_hookOfEnd : Nat) (h_holesOfCard : Nat) (c_hooks : Int32) (c_ends : Int32) (c_cards : Int32) (c_limit : Int32) (c_hookOfEnd : Nat → Int32) (c_holesOfCard : Nat → Int32) (v1 : Int32) (C : Cx cX2_upRows (some .int) 4 RX2 wsX2_upRows G p s m args meth c) (hP : va_P G.1 CL [(h_this, .inr (2, [.int c_hooks, .int c_ends, .int c_cards, .int c_limit, .ref h_hookOfEnd, .ref h_holesOfCard])), (h_hookOfEnd, .inl (G.2 0, 12, .inl c_hookOfEnd)), (h_holesOfCard, .inl (G.2 0, 8, .inl c_holesOfCard))] s.heap) {res : Int32} (kr : ∀ (pc : Nat) (ls : Array Slot), decode cX2_upRows pc = .ok (.ireturn, 1) → W p l e rmX2_upRows s m args below meth c s.heap [] 0 0 Q (F0 m pc ls [.int res])) (hf : fX2_upRows c_ends c_cards c_hookOfEnd c_holesOfCard v1 = some res) {ls : Array Slot} (hl : lv_has ls 4 [(0, .ref h_this), (1, .int v1)]) : W p l e rmX2_upRows s m args below meth c s.heap [] 0 0 Q (F0 m 0 ls []) := by
  obtain ⟨hx, hb, hr, hlk, hml, hown, hts, hK⟩ := id C
  rw [fX2_upRows] at hf
  refine lv_iconst (v := (0 : Int32)) hx hb dX2_upRows_0 (by decide) ?_
  refine lv_istore_n (lv' := [(2, .int (0 : Int32)), (0, .ref h_this), (1, .int v1)]) hx hb dX2_upRows_1 rfl hl (by decide) rfl (fun ls hl => ?_)
  refine lv_iconst (v := (0 : Int32)) hx hb dX2_upRows_2 (by decide) ?_
  refine lv_istore_n (lv' := [(3, .int (0 : Int32)), (2, .int (0 : Int32)), (0, .ref h_this), (1, .int v1)]) hx hb dX2_upRows_3 rfl hl (by decide) rfl (fun ls hl => ?_)
  refine kX2_upRows_L4 h_this h_hookOfEnd h_holesOfCard c_hooks c_ends c_cards c_limit c_hookOfEnd c_holesOfCard v1 C hP kr ?_ FU (0 : Int32) (0 : Int32) hf _ (lv_sub hl [2, 3, 1, 0] rfl)
  intro v2_x2 hf ls hl
  refine lv_iload_n hx hb dX2_upRows_37 rfl (lv_at hl 0 rfl) ?_
  obtain rfl := Option.some.inj hf
  exact kr _ _ dX2_upRows_38
end SX2_upRows
set_option maxHeartbeats 4000000 in
set_option maxRecDepth 100000 in
theorem tX2_upRows (l : Launch) (G : GG) (h_this : Nat) (h_hookOfEnd : Nat) (h_holesOfCard : Nat) (c_hooks : Int32) (c_ends : Int32) (c_cards : Int32) (c_limit : Int32) (c_hookOfEnd : Nat → Int32) (c_holesOfCard : Nat → Int32) (v1 : Int32) (res : Int32) (hf : fX2_upRows c_ends c_cards c_hookOfEnd c_holesOfCard v1 = some res) : MRi l yX2_upRows wsX2_upRows rmX2_upRows G [.ref h_this, .int v1] [(h_this, .inr (2, [.int c_hooks, .int c_ends, .int c_cards, .int c_limit, .ref h_hookOfEnd, .ref h_holesOfCard])), (h_hookOfEnd, .inl (G.2 0, 12, .inl c_hookOfEnd)), (h_holesOfCard, .inl (G.2 0, 8, .inl c_holesOfCard))] (res) := MRi.of (plainFor_of_name (by decide +kernel)) rfl (Nat.le_of_ble_eq_true rfl) (fun p e s m below meth c C hP ls hl => kX2_upRows h_this h_hookOfEnd h_holesOfCard c_hooks c_ends c_cards c_limit c_hookOfEnd c_holesOfCard v1 C hP (fun pc ls d => rRi C d) hf hl)
def fX2_across_L7 (k46 : Int32 → Option (Int32)) (c_ends : Int32) (c_cards : Int32) (c_hookOfEnd : Nat → Int32) (c_holesOfCard : Nat → Int32) (v1 : Int32) : Nat → Int32 → Int32 → Int32 → Option (Int32)
  | 0, _, _, _ => none
  | n + 1, v2, v3, v4 => if c_ends ≤ v4 then k46 v2 else (fX2_isUp c_ends c_cards c_hookOfEnd c_holesOfCard v1 v4).bind (fun u1 => jn (fun (j33_0 : Int32) => fX2_across_L7 k46 c_ends c_cards c_hookOfEnd c_holesOfCard v1 n (if v2 < j33_0 then j33_0 else v2) j33_0 (v4 + (1 : Int32))) (fun J33 => if u1 = 0 then J33 (v3 + (1 : Int32)) else J33 (0 : Int32)))
def fX2_across (c_ends : Int32) (c_cards : Int32) (c_hookOfEnd : Nat → Int32) (c_holesOfCard : Nat → Int32) (v1 : Int32) : Option (Int32) := (fX2_across_L7 (fun (v2_x2 : Int32) => some (v2_x2)) c_ends c_cards c_hookOfEnd c_holesOfCard v1 FU (0 : Int32) (0 : Int32) (0 : Int32))
theorem iX2_across_2 : ∀ w ∈ wsX20, w ∈ wsX2_across := fun w h => List.mem_cons_of_mem _ (List.mem_append_right _ (h))
theorem hdX2_across : yX2_across.cls = RX2 ∧ yX2_across.cls ≠ "java/lang/invoke/MethodHandle" ∧ yX2_across.cls ≠ "java/lang/invoke/VarHandle" ∧ (parseMethodDescriptor yX2_across.desc).map (fun d => d.parameters.length) = some 1 := by decide +kernel
abbrev rmX2_across : Room := { frames := 1, cells := 0, slots := 0, locals := 22 }
section SX2_across
variable {p : Program} {l : Launch} {e : Env} {s : State} {m : MethodId} {args : Array Value} {below : List Frame} {meth : Method} {c : Code} {Q : State → Prop} {G : GG}
set_option maxHeartbeats 4000000 in
set_option maxRecDepth 100000 in
theorem kX2_across_L7 (h_this : Nat) (h_hookOfEnd : Nat) (h_holesOfCard : Nat) (c_hooks : Int32) (c_ends : Int32) (c_cards : Int32) (c_limit : Int32) (c_hookOfEnd : Nat → Int32) (c_holesOfCard : Nat → Int32) (v1 : Int32) (C : Cx cX2_across (some .int) 5 RX2 wsX2_across G p s m args meth c) (hP : va_P G.1 CL [(h_this, .inr (2, [.int c_hooks, .int c_ends, .int c_cards, .int c_limit, .ref h_hookOfEnd, .ref h_holesOfCard])), (h_hookOfEnd, .inl (G.2 0, 12, .inl c_hookOfEnd)), (h_holesOfCard, .inl (G.2 0, 8, .inl c_holesOfCard))] s.heap) {res : Int32} (kr : ∀ (pc : Nat) (ls : Array Slot), decode cX2_across pc = .ok (.ireturn, 1) → W p l e rmX2_across s m args below meth c s.heap [] 0 0 Q (F0 m pc ls [.int res])) {k46 : Int32 → Option (Int32)} (hk46 : ∀ (v2 : Int32) , k46 v2 = some res → ∀ (ls : Array Slot), lv_has ls 5 [(2, .int v2)] → W p l e rmX2_across s m args below meth c s.heap [] 0 0 Q (F0 m 46 ls [])) : ∀ (n : Nat) (v2 : Int32) (v3 : Int32) (v4 : Int32), fX2_across_L7 k46 c_ends c_cards c_hookOfEnd c_holesOfCard v1 n v2 v3 v4 = some res → ∀ (ls : Array Slot), lv_has ls 5 [(0, .ref h_this), (1, .int v1), (2, .int v2), (3, .int v3), (4, .int v4)] → W p l e rmX2_across s m args below meth c s.heap [] 0 0 Q (F0 m 7 ls []) := by
  obtain ⟨hx, hb, hr, hlk, hml, hown, hts, hK⟩ := id C
  intro n
  induction n with
  | zero =>
    intro v2 v3 v4 hf
    cases hf
  | succ n ih =>
    intro v2 v3 v4 hf ls hl
    rw [fX2_across_L7] at hf
    refine lv_iload hx hb dX2_across_7 (lv_at hl 4 rfl) ?_
    refine lv_aload_n hx hb dX2_across_9 rfl (lv_at hl 0 rfl) ?_
    refine va_get (D := G.1) (cl := CL) (ci := 2) (C := RX2) (T := TX2) (N := 6) hx hb hts iX2_across_2 hown hK hP 0 rfl rfl 1 (by decide) (hts (.fieldLink RX2 21 "LoomCards$Loom" "ends" "I") (List.mem_of_getElem? (i := 1) rfl)) (fun _ h9 => h9) rfl dX2_across_10 ?_
    refine lv_icmp_ge (tgt := 46) hx hb dX2_across_13 (by decide) (fun c9 => ?_) (fun c9 => ?_)
    · have hf := c_t hf c9
      exact hk46 v2 hf _ (lv_sub hl [2] rfl)
    · have hf := c_f hf c9
      refine lv_aload_n hx hb dX2_across_16 rfl (lv_at hl 0 rfl) ?_
      refine lv_iload_n hx hb dX2_across_17 rfl (lv_at hl 1 rfl) ?_
      refine lv_iload hx hb dX2_across_18 (lv_at hl 4 rfl) ?_
      refine r_bind hf (fun u1 hu1 hf => ?_)
      refine cRiV (ci := 2) (rest := []) ⟨hx, hb, hml, hown, hts⟩ hK (tX2_isUp l G h_this h_hookOfEnd h_holesOfCard c_hooks c_ends c_cards c_limit c_hookOfEnd c_holesOfCard v1 v4 u1 hu1) gX2_across_X2_isUp rfl hdX2_isUp rfl rfl rfl ⟨Nat.le_of_ble_eq_true rfl, Nat.le_of_ble_eq_true rfl⟩ hP [0, 1, 2] rfl 0 rfl rfl rfl hl.1 (Nat.le_of_ble_eq_true rfl) rfl dX2_across_20 ⟨Nat.zero_le _, Nat.zero_le _⟩ ?_
      refine r_jn1 hf (fun J33 eJ33 hf => ?_)
      have hJ33 : ∀ (j33_0 : Int32) , J33 j33_0 = some res → ∀ (ls : Array Slot), lv_has ls 5 [(0, .ref h_this), (1, .int v1), (2, .int v2), (4, .int v4)] → W p l e rmX2_across s m args below meth c s.heap [] 0 0 Q (F0 m 33 ls [.int j33_0]) := by
        intro j33_0 hf ls hl
        rw [eJ33] at hf
        refine lv_istore_n (lv' := [(3, .int j33_0), (0, .ref h_this), (1, .int v1), (2, .int v2), (4, .int v4)]) hx hb dX2_across_33 rfl hl (by decide) rfl (fun ls hl => ?_)
        refine lv_iload_n hx hb dX2_across_34 rfl (lv_at hl 3 rfl) ?_
        refine lv_iload_n hx hb dX2_across_35 rfl (lv_at hl 0 rfl) ?_
        refine va_mmax hx hb (hml.trans hl.1.symm) hown (hts (.methodLink RX2 67 Lib.Math.max.name) (List.mem_of_getElem? (i := 2) rfl)) (hts (.static Lib.Math.max.name) (List.mem_of_getElem? (i := 3) rfl)) (hts (.initialized "java/lang/Math") (List.mem_of_getElem? (i := 4) rfl)) (hts (.code Lib.Math.max.name Lib.Math.max.code 2 (some .int)) (List.mem_of_getElem? (i := 5) rfl)) (Nat.le_of_ble_eq_true rfl) (Nat.le_of_ble_eq_true rfl) (Nat.zero_le _) (Nat.zero_le _) dX2_across_36 ?_
        refine lv_istore_n (lv' := [(2, .int (if v2 < j33_0 then j33_0 else v2)), (3, .int j33_0), (0, .ref h_this), (1, .int v1), (4, .int v4)]) hx hb dX2_across_39 rfl hl (by decide) rfl (fun ls hl => ?_)
        refine lv_iinc (v := (v4 + (1 : Int32))) (lv' := [(4, .int (v4 + (1 : Int32))), (2, .int (if v2 < j33_0 then j33_0 else v2)), (3, .int j33_0), (0, .ref h_this), (1, .int v1)]) hx hb dX2_across_40 hl (k := 4) rfl rfl (by decide) rfl (fun ls hl => ?_)
        refine lv_goto (tgt := 7) hx hb dX2_across_43 (by decide) ?_
        exact ih (if v2 < j33_0 then j33_0 else v2) j33_0 (v4 + (1 : Int32)) hf _ (lv_sub hl [3, 4, 1, 2, 0] rfl)
      refine lv_if_eq (tgt := 30) hx hb dX2_across_23 (by decide) (fun c9 => ?_) (fun c9 => ?_)
      · have hf := c_t hf c9
        refine lv_iload_n hx hb dX2_across_30 rfl (lv_at hl 3 rfl) ?_
        refine lv_iconst (v := (1 : Int32)) hx hb dX2_across_31 (by decide) ?_
        refine lv_iadd hx hb dX2_across_32 ?_
        exact hJ33 (v3 + (1 : Int32)) hf _ (lv_sub hl [0, 1, 2, 4] rfl)
      · have hf := c_f hf c9
        refine lv_iconst (v := (0 : Int32)) hx hb dX2_across_26 (by decide) ?_
        refine lv_goto (tgt := 33) hx hb dX2_across_27 (by decide) ?_
        exact hJ33 (0 : Int32) hf _ (lv_sub hl [0, 1, 2, 4] rfl)
set_option maxHeartbeats 4000000 in
set_option maxRecDepth 100000 in
theorem kX2_across (h_this : Nat) (h_hookOfEnd : Nat) (h_holesOfCard : Nat) (c_hooks : Int32) (c_ends : Int32) (c_cards : Int32) (c_limit : Int32) (c_hookOfEnd : Nat → Int32) (c_holesOfCard : Nat → Int32) (v1 : Int32) (C : Cx cX2_across (some .int) 5 RX2 wsX2_across G p s m args meth c) (hP : va_P G.1 CL [(h_this, .inr (2, [.int c_hooks, .int c_ends, .int c_cards, .int c_limit, .ref h_hookOfEnd, .ref h_holesOfCard])), (h_hookOfEnd, .inl (G.2 0, 12, .inl c_hookOfEnd)), (h_holesOfCard, .inl (G.2 0, 8, .inl c_holesOfCard))] s.heap) {res : Int32} (kr : ∀ (pc : Nat) (ls : Array Slot), decode cX2_across pc = .ok (.ireturn, 1) → W p l e rmX2_across s m args below meth c s.heap [] 0 0 Q (F0 m pc ls [.int res])) (hf : fX2_across c_ends c_cards c_hookOfEnd c_holesOfCard v1 = some res) {ls : Array Slot} (hl : lv_has ls 5 [(0, .ref h_this), (1, .int v1)]) : W p l e rmX2_across s m args below meth c s.heap [] 0 0 Q (F0 m 0 ls []) := by
  obtain ⟨hx, hb, hr, hlk, hml, hown, hts, hK⟩ := id C
  rw [fX2_across] at hf
  refine lv_iconst (v := (0 : Int32)) hx hb dX2_across_0 (by decide) ?_
  refine lv_istore_n (lv' := [(2, .int (0 : Int32)), (0, .ref h_this), (1, .int v1)]) hx hb dX2_across_1 rfl hl (by decide) rfl (fun ls hl => ?_)
  refine lv_iconst (v := (0 : Int32)) hx hb dX2_across_2 (by decide) ?_
  refine lv_istore_n (lv' := [(3, .int (0 : Int32)), (2, .int (0 : Int32)), (0, .ref h_this), (1, .int v1)]) hx hb dX2_across_3 rfl hl (by decide) rfl (fun ls hl => ?_)
  refine lv_iconst (v := (0 : Int32)) hx hb dX2_across_4 (by decide) ?_
  refine lv_istore (lv' := [(4, .int (0 : Int32)), (3, .int (0 : Int32)), (2, .int (0 : Int32)), (0, .ref h_this), (1, .int v1)]) hx hb dX2_across_5 hl (by decide) rfl (fun ls hl => ?_)
  refine kX2_across_L7 h_this h_hookOfEnd h_holesOfCard c_hooks c_ends c_cards c_limit c_hookOfEnd c_holesOfCard v1 C hP kr ?_ FU (0 : Int32) (0 : Int32) (0 : Int32) hf _ (lv_sub hl [3, 4, 2, 1, 0] rfl)
  intro v2_x2 hf ls hl
  refine lv_iload_n hx hb dX2_across_46 rfl (lv_at hl 0 rfl) ?_
  obtain rfl := Option.some.inj hf
  exact kr _ _ dX2_across_47
end SX2_across
set_option maxHeartbeats 4000000 in
set_option maxRecDepth 100000 in
theorem tX2_across (l : Launch) (G : GG) (h_this : Nat) (h_hookOfEnd : Nat) (h_holesOfCard : Nat) (c_hooks : Int32) (c_ends : Int32) (c_cards : Int32) (c_limit : Int32) (c_hookOfEnd : Nat → Int32) (c_holesOfCard : Nat → Int32) (v1 : Int32) (res : Int32) (hf : fX2_across c_ends c_cards c_hookOfEnd c_holesOfCard v1 = some res) : MRi l yX2_across wsX2_across rmX2_across G [.ref h_this, .int v1] [(h_this, .inr (2, [.int c_hooks, .int c_ends, .int c_cards, .int c_limit, .ref h_hookOfEnd, .ref h_holesOfCard])), (h_hookOfEnd, .inl (G.2 0, 12, .inl c_hookOfEnd)), (h_holesOfCard, .inl (G.2 0, 8, .inl c_holesOfCard))] (res) := MRi.of (plainFor_of_name (by decide +kernel)) rfl (Nat.le_of_ble_eq_true rfl) (fun p e s m below meth c C hP ls hl => kX2_across h_this h_hookOfEnd h_holesOfCard c_hooks c_ends c_cards c_limit c_hookOfEnd c_holesOfCard v1 C hP (fun pc ls d => rRi C d) hf hl)
def fX2_along_L23 (k76 : Int32 → Option (Int32)) (c_ends : Int32) (c_cards : Int32) (c_hookOfEnd : Nat → Int32) (c_holesOfCard : Nat → Int32) (v1 : Int32) (v2 : Int32) : Nat → Int32 → Int32 → Int32 → Int32 → Option (Int32)
  | 0, _, _, _, _ => none
  | n + 1, v3, v4, v5, v6 => if v2 ≤ v6 then k76 v4 else (fX2_cardOfRow c_cards v6).bind (fun u2 => (fX2_isUp c_ends c_cards c_hookOfEnd c_holesOfCard u2 v1).bind (fun u3 => jn (fun (j56_0 : Int32) => fX2_along_L23 k76 c_ends c_cards c_hookOfEnd c_holesOfCard v1 v2 n u3 (if v4 < j56_0 then j56_0 else v4) j56_0 (v6 + (1 : Int32))) (fun J56 => if u3 = v3 then J56 (v5 + (1 : Int32)) else J56 (1 : Int32))))
def fX2_along (c_ends : Int32) (c_cards : Int32) (c_hookOfEnd : Nat → Int32) (c_holesOfCard : Nat → Int32) (v1 : Int32) : Option (Int32) := (fX2_isUp c_ends c_cards c_hookOfEnd c_holesOfCard (0 : Int32) v1).bind (fun u1 => (fX2_along_L23 (fun (v4_x4 : Int32) => if v4_x4 = ((2 : Int32) * c_cards) then some ((99 : Int32)) else some (v4_x4)) c_ends c_cards c_hookOfEnd c_holesOfCard v1 ((2 : Int32) * c_cards) FU u1 (1 : Int32) (1 : Int32) (1 : Int32)))
theorem iX2_along_2 : ∀ w ∈ wsX20, w ∈ wsX2_along := fun w h => List.mem_cons_of_mem _ (List.mem_append_right _ (h))
theorem hdX2_along : yX2_along.cls = RX2 ∧ yX2_along.cls ≠ "java/lang/invoke/MethodHandle" ∧ yX2_along.cls ≠ "java/lang/invoke/VarHandle" ∧ (parseMethodDescriptor yX2_along.desc).map (fun d => d.parameters.length) = some 1 := by decide +kernel
abbrev rmX2_along : Room := { frames := 1, cells := 0, slots := 0, locals := 22 }
section SX2_along
variable {p : Program} {l : Launch} {e : Env} {s : State} {m : MethodId} {args : Array Value} {below : List Frame} {meth : Method} {c : Code} {Q : State → Prop} {G : GG}
set_option maxHeartbeats 4000000 in
set_option maxRecDepth 100000 in
theorem kX2_along_L23 (h_this : Nat) (h_hookOfEnd : Nat) (h_holesOfCard : Nat) (c_hooks : Int32) (c_ends : Int32) (c_cards : Int32) (c_limit : Int32) (c_hookOfEnd : Nat → Int32) (c_holesOfCard : Nat → Int32) (v1 : Int32) (v2 : Int32) (C : Cx cX2_along (some .int) 8 RX2 wsX2_along G p s m args meth c) (hP : va_P G.1 CL [(h_this, .inr (2, [.int c_hooks, .int c_ends, .int c_cards, .int c_limit, .ref h_hookOfEnd, .ref h_holesOfCard])), (h_hookOfEnd, .inl (G.2 0, 12, .inl c_hookOfEnd)), (h_holesOfCard, .inl (G.2 0, 8, .inl c_holesOfCard))] s.heap) {res : Int32} (kr : ∀ (pc : Nat) (ls : Array Slot), decode cX2_along pc = .ok (.ireturn, 1) → W p l e rmX2_along s m args below meth c s.heap [] 0 0 Q (F0 m pc ls [.int res])) {k76 : Int32 → Option (Int32)} (hk76 : ∀ (v4 : Int32) , k76 v4 = some res → ∀ (ls : Array Slot), lv_has ls 8 [(2, .int v2), (4, .int v4)] → W p l e rmX2_along s m args below meth c s.heap [] 0 0 Q (F0 m 76 ls [])) : ∀ (n : Nat) (v3 : Int32) (v4 : Int32) (v5 : Int32) (v6 : Int32), fX2_along_L23 k76 c_ends c_cards c_hookOfEnd c_holesOfCard v1 v2 n v3 v4 v5 v6 = some res → ∀ (ls : Array Slot), lv_has ls 8 [(0, .ref h_this), (1, .int v1), (2, .int v2), (3, .int v3), (4, .int v4), (5, .int v5), (6, .int v6)] → W p l e rmX2_along s m args below meth c s.heap [] 0 0 Q (F0 m 23 ls []) := by
  obtain ⟨hx, hb, hr, hlk, hml, hown, hts, hK⟩ := id C
  intro n
  induction n with
  | zero =>
    intro v3 v4 v5 v6 hf
    cases hf
  | succ n ih =>
    intro v3 v4 v5 v6 hf ls hl
    rw [fX2_along_L23] at hf
    refine lv_iload hx hb dX2_along_23 (lv_at hl 6 rfl) ?_
    refine lv_iload_n hx hb dX2_along_25 rfl (lv_at hl 2 rfl) ?_
    refine lv_icmp_ge (tgt := 76) hx hb dX2_along_26 (by decide) (fun c9 => ?_) (fun c9 => ?_)
    · have hf := c_t hf c9
      exact hk76 v4 hf _ (lv_sub hl [2, 4] rfl)
    · have hf := c_f hf c9
      refine lv_aload_n hx hb dX2_along_29 rfl (lv_at hl 0 rfl) ?_
      refine lv_aload_n hx hb dX2_along_30 rfl (lv_at hl 0 rfl) ?_
      refine lv_iload hx hb dX2_along_31 (lv_at hl 6 rfl) ?_
      refine r_bind hf (fun u2 hu2 hf => ?_)
      refine cRiV (ci := 2) (rest := [.ref h_this]) ⟨hx, hb, hml, hown, hts⟩ hK (tX2_cardOfRow l G h_this h_hookOfEnd h_holesOfCard c_hooks c_ends c_cards c_limit v6 u2 hu2) gX2_along_X2_cardOfRow rfl hdX2_cardOfRow rfl rfl rfl ⟨Nat.le_of_ble_eq_true rfl, Nat.le_of_ble_eq_true rfl⟩ hP [0] rfl 0 rfl rfl rfl hl.1 (Nat.le_of_ble_eq_true rfl) rfl dX2_along_33 ⟨Nat.zero_le _, Nat.zero_le _⟩ ?_
      refine lv_iload_n hx hb dX2_along_36 rfl (lv_at hl 1 rfl) ?_
      refine r_bind hf (fun u3 hu3 hf => ?_)
      refine cRiV (ci := 2) (rest := []) ⟨hx, hb, hml, hown, hts⟩ hK (tX2_isUp l G h_this h_hookOfEnd h_holesOfCard c_hooks c_ends c_cards c_limit c_hookOfEnd c_holesOfCard u2 v1 u3 hu3) gX2_along_X2_isUp rfl hdX2_isUp rfl rfl rfl ⟨Nat.le_of_ble_eq_true rfl, Nat.le_of_ble_eq_true rfl⟩ hP [0, 1, 2] rfl 0 rfl rfl rfl hl.1 (Nat.le_of_ble_eq_true rfl) rfl dX2_along_37 ⟨Nat.zero_le _, Nat.zero_le _⟩ ?_
      refine lv_istore (lv' := [(7, .int u3), (0, .ref h_this), (1, .int v1), (2, .int v2), (3, .int v3), (4, .int v4), (5, .int v5), (6, .int v6)]) hx hb dX2_along_40 hl (by decide) rfl (fun ls hl => ?_)
      refine lv_iload hx hb dX2_along_42 (lv_at hl 0 rfl) ?_
      refine lv_iload_n hx hb dX2_along_44 rfl (lv_at hl 4 rfl) ?_
      refine r_jn1 hf (fun J56 eJ56 hf => ?_)
      have hJ56 : ∀ (j56_0 : Int32) , J56 j56_0 = some res → ∀ (ls : Array Slot), lv_has ls 8 [(0, .ref h_this), (1, .int v1), (2, .int v2), (4, .int v4), (6, .int v6), (7, .int u3)] → W p l e rmX2_along s m args below meth c s.heap [] 0 0 Q (F0 m 56 ls [.int j56_0]) := by
        intro j56_0 hf ls hl
        rw [eJ56] at hf
        refine lv_istore (lv' := [(5, .int j56_0), (0, .ref h_this), (1, .int v1), (2, .int v2), (4, .int v4), (6, .int v6), (7, .int u3)]) hx hb dX2_along_56 hl (by decide) rfl (fun ls hl => ?_)
        refine lv_iload hx hb dX2_along_58 (lv_at hl 4 rfl) ?_
        refine lv_iload hx hb dX2_along_60 (lv_at hl 0 rfl) ?_
        refine va_mmax hx hb (hml.trans hl.1.symm) hown (hts (.methodLink RX2 67 Lib.Math.max.name) (List.mem_of_getElem? (i := 2) rfl)) (hts (.static Lib.Math.max.name) (List.mem_of_getElem? (i := 3) rfl)) (hts (.initialized "java/lang/Math") (List.mem_of_getElem? (i := 4) rfl)) (hts (.code Lib.Math.max.name Lib.Math.max.code 2 (some .int)) (List.mem_of_getElem? (i := 5) rfl)) (Nat.le_of_ble_eq_true rfl) (Nat.le_of_ble_eq_true rfl) (Nat.zero_le _) (Nat.zero_le _) dX2_along_62 ?_
        refine lv_istore (lv' := [(4, .int (if v4 < j56_0 then j56_0 else v4)), (5, .int j56_0), (0, .ref h_this), (1, .int v1), (2, .int v2), (6, .int v6), (7, .int u3)]) hx hb dX2_along_65 hl (by decide) rfl (fun ls hl => ?_)
        refine lv_iload hx hb dX2_along_67 (lv_at hl 6 rfl) ?_
        refine lv_istore_n (lv' := [(3, .int u3), (4, .int (if v4 < j56_0 then j56_0 else v4)), (5, .int j56_0), (0, .ref h_this), (1, .int v1), (2, .int v2), (6, .int v6), (7, .int u3)]) hx hb dX2_along_69 rfl hl (by decide) rfl (fun ls hl => ?_)
        refine lv_iinc (v := (v6 + (1 : Int32))) (lv' := [(6, .int (v6 + (1 : Int32))), (3, .int u3), (4, .int (if v4 < j56_0 then j56_0 else v4)), (5, .int j56_0), (0, .ref h_this), (1, .int v1), (2, .int v2), (7, .int u3)]) hx hb dX2_along_70 hl (k := 6) rfl rfl (by decide) rfl (fun ls hl => ?_)
        refine lv_goto (tgt := 23) hx hb dX2_along_73 (by decide) ?_
        exact ih u3 (if v4 < j56_0 then j56_0 else v4) j56_0 (v6 + (1 : Int32)) hf _ (lv_sub hl [4, 5, 6, 1, 2, 3, 0] rfl)
      refine lv_icmp_ne (tgt := 55) hx hb dX2_along_45 (by decide) (fun c9 => ?_) (fun c9 => ?_)
      · have hf := c_f hf c9
        refine lv_iconst (v := (1 : Int32)) hx hb dX2_along_55 (by decide) ?_
        exact hJ56 (1 : Int32) hf _ (lv_sub hl [1, 2, 3, 5, 7, 0] rfl)
      · have hf := c_t hf c9
        refine lv_iload hx hb dX2_along_48 (lv_at hl 6 rfl) ?_
        refine lv_iconst (v := (1 : Int32)) hx hb dX2_along_50 (by decide) ?_
        refine lv_iadd hx hb dX2_along_51 ?_
        refine lv_goto (tgt := 56) hx hb dX2_along_52 (by decide) ?_
        exact hJ56 (v5 + (1 : Int32)) hf _ (lv_sub hl [1, 2, 3, 5, 7, 0] rfl)
set_option maxHeartbeats 4000000 in
set_option maxRecDepth 100000 in
theorem kX2_along (h_this : Nat) (h_hookOfEnd : Nat) (h_holesOfCard : Nat) (c_hooks : Int32) (c_ends : Int32) (c_cards : Int32) (c_limit : Int32) (c_hookOfEnd : Nat → Int32) (c_holesOfCard : Nat → Int32) (v1 : Int32) (C : Cx cX2_along (some .int) 8 RX2 wsX2_along G p s m args meth c) (hP : va_P G.1 CL [(h_this, .inr (2, [.int c_hooks, .int c_ends, .int c_cards, .int c_limit, .ref h_hookOfEnd, .ref h_holesOfCard])), (h_hookOfEnd, .inl (G.2 0, 12, .inl c_hookOfEnd)), (h_holesOfCard, .inl (G.2 0, 8, .inl c_holesOfCard))] s.heap) {res : Int32} (kr : ∀ (pc : Nat) (ls : Array Slot), decode cX2_along pc = .ok (.ireturn, 1) → W p l e rmX2_along s m args below meth c s.heap [] 0 0 Q (F0 m pc ls [.int res])) (hf : fX2_along c_ends c_cards c_hookOfEnd c_holesOfCard v1 = some res) {ls : Array Slot} (hl : lv_has ls 8 [(0, .ref h_this), (1, .int v1)]) : W p l e rmX2_along s m args below meth c s.heap [] 0 0 Q (F0 m 0 ls []) := by
  obtain ⟨hx, hb, hr, hlk, hml, hown, hts, hK⟩ := id C
  rw [fX2_along] at hf
  refine lv_iconst (v := (2 : Int32)) hx hb dX2_along_0 (by decide) ?_
  refine lv_aload_n hx hb dX2_along_1 rfl (lv_at hl 0 rfl) ?_
  refine va_get (D := G.1) (cl := CL) (ci := 2) (C := RX2) (T := TX2) (N := 6) hx hb hts iX2_along_2 hown hK hP 0 rfl rfl 2 (by decide) (hts (.fieldLink RX2 39 "LoomCards$Loom" "cards" "I") (List.mem_of_getElem? (i := 1) rfl)) (fun _ h9 => h9) rfl dX2_along_2 ?_
  refine lv_imul hx hb dX2_along_5 ?_
  refine lv_istore_n (lv' := [(2, .int ((2 : Int32) * c_cards)), (0, .ref h_this), (1, .int v1)]) hx hb dX2_along_6 rfl hl (by decide) rfl (fun ls hl => ?_)
  refine lv_aload_n hx hb dX2_along_7 rfl (lv_at hl 1 rfl) ?_
  refine lv_iconst (v := (0 : Int32)) hx hb dX2_along_8 (by decide) ?_
  refine lv_iload_n hx hb dX2_along_9 rfl (lv_at hl 2 rfl) ?_
  refine r_bind hf (fun u1 hu1 hf => ?_)
  refine cRiV (ci := 2) (rest := []) ⟨hx, hb, hml, hown, hts⟩ hK (tX2_isUp l G h_this h_hookOfEnd h_holesOfCard c_hooks c_ends c_cards c_limit c_hookOfEnd c_holesOfCard (0 : Int32) v1 u1 hu1) gX2_along_X2_isUp rfl hdX2_isUp rfl rfl rfl ⟨Nat.le_of_ble_eq_true rfl, Nat.le_of_ble_eq_true rfl⟩ hP [0, 1, 2] rfl 0 rfl rfl rfl hl.1 (Nat.le_of_ble_eq_true rfl) rfl dX2_along_10 ⟨Nat.zero_le _, Nat.zero_le _⟩ ?_
  refine lv_istore_n (lv' := [(3, .int u1), (2, .int ((2 : Int32) * c_cards)), (0, .ref h_this), (1, .int v1)]) hx hb dX2_along_13 rfl hl (by decide) rfl (fun ls hl => ?_)
  refine lv_iconst (v := (1 : Int32)) hx hb dX2_along_14 (by decide) ?_
  refine lv_istore (lv' := [(4, .int (1 : Int32)), (3, .int u1), (2, .int ((2 : Int32) * c_cards)), (0, .ref h_this), (1, .int v1)]) hx hb dX2_along_15 hl (by decide) rfl (fun ls hl => ?_)
  refine lv_iconst (v := (1 : Int32)) hx hb dX2_along_17 (by decide) ?_
  refine lv_istore (lv' := [(5, .int (1 : Int32)), (4, .int (1 : Int32)), (3, .int u1), (2, .int ((2 : Int32) * c_cards)), (0, .ref h_this), (1, .int v1)]) hx hb dX2_along_18 hl (by decide) rfl (fun ls hl => ?_)
  refine lv_iconst (v := (1 : Int32)) hx hb dX2_along_20 (by decide) ?_
  refine lv_istore (lv' := [(6, .int (1 : Int32)), (5, .int (1 : Int32)), (4, .int (1 : Int32)), (3, .int u1), (2, .int ((2 : Int32) * c_cards)), (0, .ref h_this), (1, .int v1)]) hx hb dX2_along_21 hl (by decide) rfl (fun ls hl => ?_)
  refine kX2_along_L23 h_this h_hookOfEnd h_holesOfCard c_hooks c_ends c_cards c_limit c_hookOfEnd c_holesOfCard v1 ((2 : Int32) * c_cards) C hP kr ?_ FU u1 (1 : Int32) (1 : Int32) (1 : Int32) hf _ (lv_sub hl [5, 6, 4, 3, 2, 1, 0] rfl)
  intro v4_x4 hf ls hl
  refine lv_iload hx hb dX2_along_76 (lv_at hl 1 rfl) ?_
  refine lv_iload_n hx hb dX2_along_78 rfl (lv_at hl 0 rfl) ?_
  refine lv_icmp_ne (tgt := 87) hx hb dX2_along_79 (by decide) (fun c9 => ?_) (fun c9 => ?_)
  · have hf := c_f hf c9
    refine lv_iload hx hb dX2_along_87 (lv_at hl 1 rfl) ?_
    obtain rfl := Option.some.inj hf
    exact kr _ _ dX2_along_89
  · have hf := c_t hf c9
    refine lv_bipush (v := (99 : Int32)) hx hb dX2_along_82 (by decide) ?_
    refine lv_goto (tgt := 89) hx hb dX2_along_84 (by decide) ?_
    obtain rfl := Option.some.inj hf
    exact kr _ _ dX2_along_89
end SX2_along
set_option maxHeartbeats 4000000 in
set_option maxRecDepth 100000 in
theorem tX2_along (l : Launch) (G : GG) (h_this : Nat) (h_hookOfEnd : Nat) (h_holesOfCard : Nat) (c_hooks : Int32) (c_ends : Int32) (c_cards : Int32) (c_limit : Int32) (c_hookOfEnd : Nat → Int32) (c_holesOfCard : Nat → Int32) (v1 : Int32) (res : Int32) (hf : fX2_along c_ends c_cards c_hookOfEnd c_holesOfCard v1 = some res) : MRi l yX2_along wsX2_along rmX2_along G [.ref h_this, .int v1] [(h_this, .inr (2, [.int c_hooks, .int c_ends, .int c_cards, .int c_limit, .ref h_hookOfEnd, .ref h_holesOfCard])), (h_hookOfEnd, .inl (G.2 0, 12, .inl c_hookOfEnd)), (h_holesOfCard, .inl (G.2 0, 8, .inl c_holesOfCard))] (res) := MRi.of (plainFor_of_name (by decide +kernel)) rfl (Nat.le_of_ble_eq_true rfl) (fun p e s m below meth c C hP ls hl => kX2_along h_this h_hookOfEnd h_holesOfCard c_hooks c_ends c_cards c_limit c_hookOfEnd c_holesOfCard v1 C hP (fun pc ls d => rRi C d) hf hl)
def fX2_repeatsAfter_L2 (k37 : Option (Int32)) (k29 : Option (Int32)) (c_ends : Int32) (c_cards : Int32) (c_hookOfEnd : Nat → Int32) (c_holesOfCard : Nat → Int32) (v1 : Int32) : Nat → Int32 → Option (Int32)
  | 0, _ => none
  | n + 1, v2 => if c_cards ≤ v2 then k37 else (fX2_upEnds c_ends c_cards c_hookOfEnd c_holesOfCard v2).bind (fun u1 => (fX2_cardOfRow c_cards (v2 + v1)).bind (fun u2 => (fX2_upEnds c_ends c_cards c_hookOfEnd c_holesOfCard u2).bind (fun u3 => if u1 = u3 then fX2_repeatsAfter_L2 k37 k29 c_ends c_cards c_hookOfEnd c_holesOfCard v1 n (v2 + (1 : Int32)) else k29)))
def fX2_repeatsAfter (c_ends : Int32) (c_cards : Int32) (c_hookOfEnd : Nat → Int32) (c_holesOfCard : Nat → Int32) (v1 : Int32) : Option (Int32) := (fX2_repeatsAfter_L2 (some ((1 : Int32))) (some ((0 : Int32))) c_ends c_cards c_hookOfEnd c_holesOfCard v1 FU (0 : Int32))
theorem iX2_repeatsAfter_2 : ∀ w ∈ wsX20, w ∈ wsX2_repeatsAfter := fun w h => List.mem_cons_of_mem _ (List.mem_append_right _ (h))
theorem hdX2_repeatsAfter : yX2_repeatsAfter.cls = RX2 ∧ yX2_repeatsAfter.cls ≠ "java/lang/invoke/MethodHandle" ∧ yX2_repeatsAfter.cls ≠ "java/lang/invoke/VarHandle" ∧ (parseMethodDescriptor yX2_repeatsAfter.desc).map (fun d => d.parameters.length) = some 1 := by decide +kernel
abbrev rmX2_repeatsAfter : Room := { frames := 2, cells := 0, slots := 0, locals := 45 }
section SX2_repeatsAfter
variable {p : Program} {l : Launch} {e : Env} {s : State} {m : MethodId} {args : Array Value} {below : List Frame} {meth : Method} {c : Code} {Q : State → Prop} {G : GG}
set_option maxHeartbeats 4000000 in
set_option maxRecDepth 100000 in
theorem kX2_repeatsAfter_L2 (h_this : Nat) (h_hookOfEnd : Nat) (h_holesOfCard : Nat) (c_hooks : Int32) (c_ends : Int32) (c_cards : Int32) (c_limit : Int32) (c_hookOfEnd : Nat → Int32) (c_holesOfCard : Nat → Int32) (v1 : Int32) (C : Cx cX2_repeatsAfter (some .boolean) 3 RX2 wsX2_repeatsAfter G p s m args meth c) (hP : va_P G.1 CL [(h_this, .inr (2, [.int c_hooks, .int c_ends, .int c_cards, .int c_limit, .ref h_hookOfEnd, .ref h_holesOfCard])), (h_hookOfEnd, .inl (G.2 0, 12, .inl c_hookOfEnd)), (h_holesOfCard, .inl (G.2 0, 8, .inl c_holesOfCard))] s.heap) {res : Int32} (kr : ∀ (pc : Nat) (ls : Array Slot), narrow .boolean (.int res) = .int res → decode cX2_repeatsAfter pc = .ok (.ireturn, 1) → W p l e rmX2_repeatsAfter s m args below meth c s.heap [] 0 0 Q (F0 m pc ls [.int res])) {k37 : Option (Int32)} (hk37 : k37 = some res → ∀ (ls : Array Slot), lv_has ls 3 [] → W p l e rmX2_repeatsAfter s m args below meth c s.heap [] 0 0 Q (F0 m 37 ls [])) {k29 : Option (Int32)} (hk29 : k29 = some res → ∀ (ls : Array Slot), lv_has ls 3 [] → W p l e rmX2_repeatsAfter s m args below meth c s.heap [] 0 0 Q (F0 m 29 ls [])) : ∀ (n : Nat) (v2 : Int32), fX2_repeatsAfter_L2 k37 k29 c_ends c_cards c_hookOfEnd c_holesOfCard v1 n v2 = some res → ∀ (ls : Array Slot), lv_has ls 3 [(0, .ref h_this), (1, .int v1), (2, .int v2)] → W p l e rmX2_repeatsAfter s m args below meth c s.heap [] 0 0 Q (F0 m 2 ls []) := by
  obtain ⟨hx, hb, hr, hlk, hml, hown, hts, hK⟩ := id C
  intro n
  induction n with
  | zero =>
    intro v2 hf
    cases hf
  | succ n ih =>
    intro v2 hf ls hl
    rw [fX2_repeatsAfter_L2] at hf
    refine lv_iload_n hx hb dX2_repeatsAfter_2 rfl (lv_at hl 2 rfl) ?_
    refine lv_aload_n hx hb dX2_repeatsAfter_3 rfl (lv_at hl 0 rfl) ?_
    refine va_get (D := G.1) (cl := CL) (ci := 2) (C := RX2) (T := TX2) (N := 6) hx hb hts iX2_repeatsAfter_2 hown hK hP 0 rfl rfl 2 (by decide) (hts (.fieldLink RX2 39 "LoomCards$Loom" "cards" "I") (List.mem_of_getElem? (i := 1) rfl)) (fun _ h9 => h9) rfl dX2_repeatsAfter_4 ?_
    refine lv_icmp_ge (tgt := 37) hx hb dX2_repeatsAfter_7 (by decide) (fun c9 => ?_) (fun c9 => ?_)
    · have hf := c_t hf c9
      exact hk37 hf _ (lv_sub hl [] rfl)
    · have hf := c_f hf c9
      refine lv_aload_n hx hb dX2_repeatsAfter_10 rfl (lv_at hl 0 rfl) ?_
      refine lv_iload_n hx hb dX2_repeatsAfter_11 rfl (lv_at hl 2 rfl) ?_
      refine r_bind hf (fun u1 hu1 hf => ?_)
      refine cRiV (ci := 2) (rest := []) ⟨hx, hb, hml, hown, hts⟩ hK (tX2_upEnds l G h_this h_hookOfEnd h_holesOfCard c_hooks c_ends c_cards c_limit c_hookOfEnd c_holesOfCard v2 u1 hu1) gX2_repeatsAfter_X2_upEnds rfl hdX2_upEnds rfl rfl rfl ⟨Nat.le_of_ble_eq_true rfl, Nat.le_of_ble_eq_true rfl⟩ hP [0, 1, 2] rfl 0 rfl rfl rfl hl.1 (Nat.le_of_ble_eq_true rfl) rfl dX2_repeatsAfter_12 ⟨Nat.zero_le _, Nat.zero_le _⟩ ?_
      refine lv_aload_n hx hb dX2_repeatsAfter_15 rfl (lv_at hl 0 rfl) ?_
      refine lv_aload_n hx hb dX2_repeatsAfter_16 rfl (lv_at hl 0 rfl) ?_
      refine lv_iload_n hx hb dX2_repeatsAfter_17 rfl (lv_at hl 2 rfl) ?_
      refine lv_iload_n hx hb dX2_repeatsAfter_18 rfl (lv_at hl 1 rfl) ?_
      refine lv_iadd hx hb dX2_repeatsAfter_19 ?_
      refine r_bind hf (fun u2 hu2 hf => ?_)
      refine cRiV (ci := 2) (rest := [.ref h_this, .int u1]) ⟨hx, hb, hml, hown, hts⟩ hK (tX2_cardOfRow l G h_this h_hookOfEnd h_holesOfCard c_hooks c_ends c_cards c_limit (v2 + v1) u2 hu2) gX2_repeatsAfter_X2_cardOfRow rfl hdX2_cardOfRow rfl rfl rfl ⟨Nat.le_of_ble_eq_true rfl, Nat.le_of_ble_eq_true rfl⟩ hP [0] rfl 0 rfl rfl rfl hl.1 (Nat.le_of_ble_eq_true rfl) rfl dX2_repeatsAfter_20 ⟨Nat.zero_le _, Nat.zero_le _⟩ ?_
      refine r_bind hf (fun u3 hu3 hf => ?_)
      refine cRiV (ci := 2) (rest := [.int u1]) ⟨hx, hb, hml, hown, hts⟩ hK (tX2_upEnds l G h_this h_hookOfEnd h_holesOfCard c_hooks c_ends c_cards c_limit c_hookOfEnd c_holesOfCard u2 u3 hu3) gX2_repeatsAfter_X2_upEnds rfl hdX2_upEnds rfl rfl rfl ⟨Nat.le_of_ble_eq_true rfl, Nat.le_of_ble_eq_true rfl⟩ hP [0, 1, 2] rfl 0 rfl rfl rfl hl.1 (Nat.le_of_ble_eq_true rfl) rfl dX2_repeatsAfter_23 ⟨Nat.zero_le _, Nat.zero_le _⟩ ?_
      refine lv_icmp_eq (tgt := 31) hx hb dX2_repeatsAfter_26 (by decide) (fun c9 => ?_) (fun c9 => ?_)
      · have hf := c_t hf c9
        refine lv_iinc (v := (v2 + (1 : Int32))) (lv' := [(2, .int (v2 + (1 : Int32))), (0, .ref h_this), (1, .int v1)]) hx hb dX2_repeatsAfter_31 hl (k := 2) rfl rfl (by decide) rfl (fun ls hl => ?_)
        refine lv_goto (tgt := 2) hx hb dX2_repeatsAfter_34 (by decide) ?_
        exact ih (v2 + (1 : Int32)) hf _ (lv_sub hl [1, 2, 0] rfl)
      · have hf := c_f hf c9
        exact hk29 hf _ (lv_sub hl [] rfl)
set_option maxHeartbeats 4000000 in
set_option maxRecDepth 100000 in
theorem kX2_repeatsAfter (h_this : Nat) (h_hookOfEnd : Nat) (h_holesOfCard : Nat) (c_hooks : Int32) (c_ends : Int32) (c_cards : Int32) (c_limit : Int32) (c_hookOfEnd : Nat → Int32) (c_holesOfCard : Nat → Int32) (v1 : Int32) (C : Cx cX2_repeatsAfter (some .boolean) 3 RX2 wsX2_repeatsAfter G p s m args meth c) (hP : va_P G.1 CL [(h_this, .inr (2, [.int c_hooks, .int c_ends, .int c_cards, .int c_limit, .ref h_hookOfEnd, .ref h_holesOfCard])), (h_hookOfEnd, .inl (G.2 0, 12, .inl c_hookOfEnd)), (h_holesOfCard, .inl (G.2 0, 8, .inl c_holesOfCard))] s.heap) {res : Int32} (kr : ∀ (pc : Nat) (ls : Array Slot), narrow .boolean (.int res) = .int res → decode cX2_repeatsAfter pc = .ok (.ireturn, 1) → W p l e rmX2_repeatsAfter s m args below meth c s.heap [] 0 0 Q (F0 m pc ls [.int res])) (hf : fX2_repeatsAfter c_ends c_cards c_hookOfEnd c_holesOfCard v1 = some res) {ls : Array Slot} (hl : lv_has ls 3 [(0, .ref h_this), (1, .int v1)]) : W p l e rmX2_repeatsAfter s m args below meth c s.heap [] 0 0 Q (F0 m 0 ls []) := by
  obtain ⟨hx, hb, hr, hlk, hml, hown, hts, hK⟩ := id C
  rw [fX2_repeatsAfter] at hf
  refine lv_iconst (v := (0 : Int32)) hx hb dX2_repeatsAfter_0 (by decide) ?_
  refine lv_istore_n (lv' := [(2, .int (0 : Int32)), (0, .ref h_this), (1, .int v1)]) hx hb dX2_repeatsAfter_1 rfl hl (by decide) rfl (fun ls hl => ?_)
  refine kX2_repeatsAfter_L2 h_this h_hookOfEnd h_holesOfCard c_hooks c_ends c_cards c_limit c_hookOfEnd c_holesOfCard v1 C hP kr ?_ ?_ FU (0 : Int32) hf _ (lv_sub hl [1, 2, 0] rfl)
  · intro hf ls hl
    refine lv_iconst (v := (1 : Int32)) hx hb dX2_repeatsAfter_37 (by decide) ?_
    obtain rfl := Option.some.inj hf
    exact kr _ _ nb1 dX2_repeatsAfter_38
  · intro hf ls hl
    refine lv_iconst (v := (0 : Int32)) hx hb dX2_repeatsAfter_29 (by decide) ?_
    obtain rfl := Option.some.inj hf
    exact kr _ _ nb0 dX2_repeatsAfter_30
end SX2_repeatsAfter
set_option maxHeartbeats 4000000 in
set_option maxRecDepth 100000 in
theorem tX2_repeatsAfter (l : Launch) (G : GG) (h_this : Nat) (h_hookOfEnd : Nat) (h_holesOfCard : Nat) (c_hooks : Int32) (c_ends : Int32) (c_cards : Int32) (c_limit : Int32) (c_hookOfEnd : Nat → Int32) (c_holesOfCard : Nat → Int32) (v1 : Int32) (res : Int32) (hf : fX2_repeatsAfter c_ends c_cards c_hookOfEnd c_holesOfCard v1 = some res) : MRi l yX2_repeatsAfter wsX2_repeatsAfter rmX2_repeatsAfter G [.ref h_this, .int v1] [(h_this, .inr (2, [.int c_hooks, .int c_ends, .int c_cards, .int c_limit, .ref h_hookOfEnd, .ref h_holesOfCard])), (h_hookOfEnd, .inl (G.2 0, 12, .inl c_hookOfEnd)), (h_holesOfCard, .inl (G.2 0, 8, .inl c_holesOfCard))] (res) := MRi.of (plainFor_of_name (by decide +kernel)) rfl (Nat.le_of_ble_eq_true rfl) (fun p e s m below meth c C hP ls hl => kX2_repeatsAfter h_this h_hookOfEnd h_holesOfCard c_hooks c_ends c_cards c_limit c_hookOfEnd c_holesOfCard v1 C hP (fun pc ls hn d => rRz C hn d) hf hl)
def fX2_repeat_L2 (k26 : Option (Int32)) (k18 : Int32 → Option (Int32)) (c_ends : Int32) (c_cards : Int32) (c_hookOfEnd : Nat → Int32) (c_holesOfCard : Nat → Int32) : Nat → Int32 → Option (Int32)
  | 0, _ => none
  | n + 1, v1 => if c_cards ≤ v1 then k26 else (fX2_repeatsAfter c_ends c_cards c_hookOfEnd c_holesOfCard v1).bind (fun u1 => if u1 = 0 then fX2_repeat_L2 k26 k18 c_ends c_cards c_hookOfEnd c_holesOfCard n (v1 + (1 : Int32)) else k18 v1)
def fX2_repeat (c_ends : Int32) (c_cards : Int32) (c_hookOfEnd : Nat → Int32) (c_holesOfCard : Nat → Int32)  : Option (Int32) := (fX2_repeat_L2 (some (c_cards)) (fun (v1_x3 : Int32) => some (v1_x3)) c_ends c_cards c_hookOfEnd c_holesOfCard FU (1 : Int32))
theorem iX2_repeat_2 : ∀ w ∈ wsX20, w ∈ wsX2_repeat := fun w h => List.mem_cons_of_mem _ (List.mem_append_right _ (h))
theorem hdX2_repeat : yX2_repeat.cls = RX2 ∧ yX2_repeat.cls ≠ "java/lang/invoke/MethodHandle" ∧ yX2_repeat.cls ≠ "java/lang/invoke/VarHandle" ∧ (parseMethodDescriptor yX2_repeat.desc).map (fun d => d.parameters.length) = some 0 := by decide +kernel
abbrev rmX2_repeat : Room := { frames := 3, cells := 0, slots := 0, locals := 67 }
section SX2_repeat
variable {p : Program} {l : Launch} {e : Env} {s : State} {m : MethodId} {args : Array Value} {below : List Frame} {meth : Method} {c : Code} {Q : State → Prop} {G : GG}
set_option maxHeartbeats 4000000 in
set_option maxRecDepth 100000 in
theorem kX2_repeat_L2 (h_this : Nat) (h_hookOfEnd : Nat) (h_holesOfCard : Nat) (c_hooks : Int32) (c_ends : Int32) (c_cards : Int32) (c_limit : Int32) (c_hookOfEnd : Nat → Int32) (c_holesOfCard : Nat → Int32) (C : Cx cX2_repeat (some .int) 2 RX2 wsX2_repeat G p s m args meth c) (hP : va_P G.1 CL [(h_this, .inr (2, [.int c_hooks, .int c_ends, .int c_cards, .int c_limit, .ref h_hookOfEnd, .ref h_holesOfCard])), (h_hookOfEnd, .inl (G.2 0, 12, .inl c_hookOfEnd)), (h_holesOfCard, .inl (G.2 0, 8, .inl c_holesOfCard))] s.heap) {res : Int32} (kr : ∀ (pc : Nat) (ls : Array Slot), decode cX2_repeat pc = .ok (.ireturn, 1) → W p l e rmX2_repeat s m args below meth c s.heap [] 0 0 Q (F0 m pc ls [.int res])) {k26 : Option (Int32)} (hk26 : k26 = some res → ∀ (ls : Array Slot), lv_has ls 2 [(0, .ref h_this)] → W p l e rmX2_repeat s m args below meth c s.heap [] 0 0 Q (F0 m 26 ls [])) {k18 : Int32 → Option (Int32)} (hk18 : ∀ (v1 : Int32) , k18 v1 = some res → ∀ (ls : Array Slot), lv_has ls 2 [(1, .int v1)] → W p l e rmX2_repeat s m args below meth c s.heap [] 0 0 Q (F0 m 18 ls [])) : ∀ (n : Nat) (v1 : Int32), fX2_repeat_L2 k26 k18 c_ends c_cards c_hookOfEnd c_holesOfCard n v1 = some res → ∀ (ls : Array Slot), lv_has ls 2 [(0, .ref h_this), (1, .int v1)] → W p l e rmX2_repeat s m args below meth c s.heap [] 0 0 Q (F0 m 2 ls []) := by
  obtain ⟨hx, hb, hr, hlk, hml, hown, hts, hK⟩ := id C
  intro n
  induction n with
  | zero =>
    intro v1 hf
    cases hf
  | succ n ih =>
    intro v1 hf ls hl
    rw [fX2_repeat_L2] at hf
    refine lv_iload_n hx hb dX2_repeat_2 rfl (lv_at hl 1 rfl) ?_
    refine lv_aload_n hx hb dX2_repeat_3 rfl (lv_at hl 0 rfl) ?_
    refine va_get (D := G.1) (cl := CL) (ci := 2) (C := RX2) (T := TX2) (N := 6) hx hb hts iX2_repeat_2 hown hK hP 0 rfl rfl 2 (by decide) (hts (.fieldLink RX2 39 "LoomCards$Loom" "cards" "I") (List.mem_of_getElem? (i := 1) rfl)) (fun _ h9 => h9) rfl dX2_repeat_4 ?_
    refine lv_icmp_ge (tgt := 26) hx hb dX2_repeat_7 (by decide) (fun c9 => ?_) (fun c9 => ?_)
    · have hf := c_t hf c9
      exact hk26 hf _ (lv_sub hl [0] rfl)
    · have hf := c_f hf c9
      refine lv_aload_n hx hb dX2_repeat_10 rfl (lv_at hl 0 rfl) ?_
      refine lv_iload_n hx hb dX2_repeat_11 rfl (lv_at hl 1 rfl) ?_
      refine r_bind hf (fun u1 hu1 hf => ?_)
      refine cRiV (ci := 2) (rest := []) ⟨hx, hb, hml, hown, hts⟩ hK (tX2_repeatsAfter l G h_this h_hookOfEnd h_holesOfCard c_hooks c_ends c_cards c_limit c_hookOfEnd c_holesOfCard v1 u1 hu1) gX2_repeat_X2_repeatsAfter rfl hdX2_repeatsAfter rfl rfl rfl ⟨Nat.le_of_ble_eq_true rfl, Nat.le_of_ble_eq_true rfl⟩ hP [0, 1, 2] rfl 0 rfl rfl rfl hl.1 (Nat.le_of_ble_eq_true rfl) rfl dX2_repeat_12 ⟨Nat.zero_le _, Nat.zero_le _⟩ ?_
      refine lv_if_eq (tgt := 20) hx hb dX2_repeat_15 (by decide) (fun c9 => ?_) (fun c9 => ?_)
      · have hf := c_t hf c9
        refine lv_iinc (v := (v1 + (1 : Int32))) (lv' := [(1, .int (v1 + (1 : Int32))), (0, .ref h_this)]) hx hb dX2_repeat_20 hl (k := 1) rfl rfl (by decide) rfl (fun ls hl => ?_)
        refine lv_goto (tgt := 2) hx hb dX2_repeat_23 (by decide) ?_
        exact ih (v1 + (1 : Int32)) hf _ (lv_sub hl [1, 0] rfl)
      · have hf := c_f hf c9
        exact hk18 v1 hf _ (lv_sub hl [1] rfl)
set_option maxHeartbeats 4000000 in
set_option maxRecDepth 100000 in
theorem kX2_repeat (h_this : Nat) (h_hookOfEnd : Nat) (h_holesOfCard : Nat) (c_hooks : Int32) (c_ends : Int32) (c_cards : Int32) (c_limit : Int32) (c_hookOfEnd : Nat → Int32) (c_holesOfCard : Nat → Int32) (C : Cx cX2_repeat (some .int) 2 RX2 wsX2_repeat G p s m args meth c) (hP : va_P G.1 CL [(h_this, .inr (2, [.int c_hooks, .int c_ends, .int c_cards, .int c_limit, .ref h_hookOfEnd, .ref h_holesOfCard])), (h_hookOfEnd, .inl (G.2 0, 12, .inl c_hookOfEnd)), (h_holesOfCard, .inl (G.2 0, 8, .inl c_holesOfCard))] s.heap) {res : Int32} (kr : ∀ (pc : Nat) (ls : Array Slot), decode cX2_repeat pc = .ok (.ireturn, 1) → W p l e rmX2_repeat s m args below meth c s.heap [] 0 0 Q (F0 m pc ls [.int res])) (hf : fX2_repeat c_ends c_cards c_hookOfEnd c_holesOfCard = some res) {ls : Array Slot} (hl : lv_has ls 2 [(0, .ref h_this)]) : W p l e rmX2_repeat s m args below meth c s.heap [] 0 0 Q (F0 m 0 ls []) := by
  obtain ⟨hx, hb, hr, hlk, hml, hown, hts, hK⟩ := id C
  rw [fX2_repeat] at hf
  refine lv_iconst (v := (1 : Int32)) hx hb dX2_repeat_0 (by decide) ?_
  refine lv_istore_n (lv' := [(1, .int (1 : Int32)), (0, .ref h_this)]) hx hb dX2_repeat_1 rfl hl (by decide) rfl (fun ls hl => ?_)
  refine kX2_repeat_L2 h_this h_hookOfEnd h_holesOfCard c_hooks c_ends c_cards c_limit c_hookOfEnd c_holesOfCard C hP kr ?_ ?_ FU (1 : Int32) hf _ (lv_sub hl [1, 0] rfl)
  · intro hf ls hl
    refine lv_aload_n hx hb dX2_repeat_26 rfl (lv_at hl 0 rfl) ?_
    refine va_get (D := G.1) (cl := CL) (ci := 2) (C := RX2) (T := TX2) (N := 6) hx hb hts iX2_repeat_2 hown hK hP 0 rfl rfl 2 (by decide) (hts (.fieldLink RX2 39 "LoomCards$Loom" "cards" "I") (List.mem_of_getElem? (i := 1) rfl)) (fun _ h9 => h9) rfl dX2_repeat_27 ?_
    obtain rfl := Option.some.inj hf
    exact kr _ _ dX2_repeat_30
  · intro v1_x3 hf ls hl
    refine lv_iload_n hx hb dX2_repeat_18 rfl (lv_at hl 0 rfl) ?_
    obtain rfl := Option.some.inj hf
    exact kr _ _ dX2_repeat_19
end SX2_repeat
set_option maxHeartbeats 4000000 in
set_option maxRecDepth 100000 in
theorem tX2_repeat (l : Launch) (G : GG) (h_this : Nat) (h_hookOfEnd : Nat) (h_holesOfCard : Nat) (c_hooks : Int32) (c_ends : Int32) (c_cards : Int32) (c_limit : Int32) (c_hookOfEnd : Nat → Int32) (c_holesOfCard : Nat → Int32) (res : Int32) (hf : fX2_repeat c_ends c_cards c_hookOfEnd c_holesOfCard = some res) : MRi l yX2_repeat wsX2_repeat rmX2_repeat G [.ref h_this] [(h_this, .inr (2, [.int c_hooks, .int c_ends, .int c_cards, .int c_limit, .ref h_hookOfEnd, .ref h_holesOfCard])), (h_hookOfEnd, .inl (G.2 0, 12, .inl c_hookOfEnd)), (h_holesOfCard, .inl (G.2 0, 8, .inl c_holesOfCard))] (res) := MRi.of (plainFor_of_name (by decide +kernel)) rfl (Nat.le_of_ble_eq_true rfl) (fun p e s m below meth c C hP ls hl => kX2_repeat h_this h_hookOfEnd h_holesOfCard c_hooks c_ends c_cards c_limit c_hookOfEnd c_holesOfCard C hP (fun pc ls d => rRi C d) hf hl)
def fX2_isLikeAnEarlierOne_L8 (k30 : Option (Int32)) (k22 : Option (Int32)) (c_ends : Int32) (c_cards : Int32) (c_hookOfEnd : Nat → Int32) (c_holesOfCard : Nat → Int32) (v1 : Int32) (v2 : Int32) : Nat → Int32 → Option (Int32)
  | 0, _ => none
  | n + 1, v3 => if v1 ≤ v3 then k30 else (fX2_upRows c_ends c_cards c_hookOfEnd c_holesOfCard v3).bind (fun u2 => if u2 = v2 then k22 else fX2_isLikeAnEarlierOne_L8 k30 k22 c_ends c_cards c_hookOfEnd c_holesOfCard v1 v2 n (v3 + (1 : Int32)))
def fX2_isLikeAnEarlierOne (c_ends : Int32) (c_cards : Int32) (c_hookOfEnd : Nat → Int32) (c_holesOfCard : Nat → Int32) (v1 : Int32) : Option (Int32) := (fX2_upRows c_ends c_cards c_hookOfEnd c_holesOfCard v1).bind (fun u1 => (fX2_isLikeAnEarlierOne_L8 (some ((0 : Int32))) (some ((1 : Int32))) c_ends c_cards c_hookOfEnd c_holesOfCard v1 u1 FU (0 : Int32)))
theorem iX2_isLikeAnEarlierOne_2 : ∀ w ∈ wsX20, w ∈ wsX2_isLikeAnEarlierOne := fun w h => List.mem_cons_of_mem _ (List.mem_append_right _ (h))
theorem hdX2_isLikeAnEarlierOne : yX2_isLikeAnEarlierOne.cls = RX2 ∧ yX2_isLikeAnEarlierOne.cls ≠ "java/lang/invoke/MethodHandle" ∧ yX2_isLikeAnEarlierOne.cls ≠ "java/lang/invoke/VarHandle" ∧ (parseMethodDescriptor yX2_isLikeAnEarlierOne.desc).map (fun d => d.parameters.length) = some 1 := by decide +kernel
abbrev rmX2_isLikeAnEarlierOne : Room := { frames := 2, cells := 0, slots := 0, locals := 45 }
section SX2_isLikeAnEarlierOne
variable {p : Program} {l : Launch} {e : Env} {s : State} {m : MethodId} {args : Array Value} {below : List Frame} {meth : Method} {c : Code} {Q : State → Prop} {G : GG}
set_option maxHeartbeats 4000000 in
set_option maxRecDepth 100000 in
theorem kX2_isLikeAnEarlierOne_L8 (h_this : Nat) (h_hookOfEnd : Nat) (h_holesOfCard : Nat) (c_hooks : Int32) (c_ends : Int32) (c_cards : Int32) (c_limit : Int32) (c_hookOfEnd : Nat → Int32) (c_holesOfCard : Nat → Int32) (v1 : Int32) (v2 : Int32) (C : Cx cX2_isLikeAnEarlierOne (some .boolean) 4 RX2 wsX2_isLikeAnEarlierOne G p s m args meth c) (hP : va_P G.1 CL [(h_this, .inr (2, [.int c_hooks, .int c_ends, .int c_cards, .int c_limit, .ref h_hookOfEnd, .ref h_holesOfCard])), (h_hookOfEnd, .inl (G.2 0, 12, .inl c_hookOfEnd)), (h_holesOfCard, .inl (G.2 0, 8, .inl c_holesOfCard))] s.heap) {res : Int32} (kr : ∀ (pc : Nat) (ls : Array Slot), narrow .boolean (.int res) = .int res → decode cX2_isLikeAnEarlierOne pc = .ok (.ireturn, 1) → W p l e rmX2_isLikeAnEarlierOne s m args below meth c s.heap [] 0 0 Q (F0 m pc ls [.int res])) {k30 : Option (Int32)} (hk30 : k30 = some res → ∀ (ls : Array Slot), lv_has ls 4 [] → W p l e rmX2_isLikeAnEarlierOne s m args below meth c s.heap [] 0 0 Q (F0 m 30 ls [])) {k22 : Option (Int32)} (hk22 : k22 = some res → ∀ (ls : Array Slot), lv_has ls 4 [] → W p l e rmX2_isLikeAnEarlierOne s m args below meth c s.heap [] 0 0 Q (F0 m 22 ls [])) : ∀ (n : Nat) (v3 : Int32), fX2_isLikeAnEarlierOne_L8 k30 k22 c_ends c_cards c_hookOfEnd c_holesOfCard v1 v2 n v3 = some res → ∀ (ls : Array Slot), lv_has ls 4 [(0, .ref h_this), (1, .int v1), (2, .int v2), (3, .int v3)] → W p l e rmX2_isLikeAnEarlierOne s m args below meth c s.heap [] 0 0 Q (F0 m 8 ls []) := by
  obtain ⟨hx, hb, hr, hlk, hml, hown, hts, hK⟩ := id C
  intro n
  induction n with
  | zero =>
    intro v3 hf
    cases hf
  | succ n ih =>
    intro v3 hf ls hl
    rw [fX2_isLikeAnEarlierOne_L8] at hf
    refine lv_iload_n hx hb dX2_isLikeAnEarlierOne_8 rfl (lv_at hl 3 rfl) ?_
    refine lv_iload_n hx hb dX2_isLikeAnEarlierOne_9 rfl (lv_at hl 1 rfl) ?_
    refine lv_icmp_ge (tgt := 30) hx hb dX2_isLikeAnEarlierOne_10 (by decide) (fun c9 => ?_) (fun c9 => ?_)
    · have hf := c_t hf c9
      exact hk30 hf _ (lv_sub hl [] rfl)
    · have hf := c_f hf c9
      refine lv_aload_n hx hb dX2_isLikeAnEarlierOne_13 rfl (lv_at hl 0 rfl) ?_
      refine lv_iload_n hx hb dX2_isLikeAnEarlierOne_14 rfl (lv_at hl 3 rfl) ?_
      refine r_bind hf (fun u2 hu2 hf => ?_)
      refine cRiV (ci := 2) (rest := []) ⟨hx, hb, hml, hown, hts⟩ hK (tX2_upRows l G h_this h_hookOfEnd h_holesOfCard c_hooks c_ends c_cards c_limit c_hookOfEnd c_holesOfCard v3 u2 hu2) gX2_isLikeAnEarlierOne_X2_upRows rfl hdX2_upRows rfl rfl rfl ⟨Nat.le_of_ble_eq_true rfl, Nat.le_of_ble_eq_true rfl⟩ hP [0, 1, 2] rfl 0 rfl rfl rfl hl.1 (Nat.le_of_ble_eq_true rfl) rfl dX2_isLikeAnEarlierOne_15 ⟨Nat.zero_le _, Nat.zero_le _⟩ ?_
      refine lv_iload_n hx hb dX2_isLikeAnEarlierOne_18 rfl (lv_at hl 2 rfl) ?_
      refine lv_icmp_ne (tgt := 24) hx hb dX2_isLikeAnEarlierOne_19 (by decide) (fun c9 => ?_) (fun c9 => ?_)
      · have hf := c_f hf c9
        refine lv_iinc (v := (v3 + (1 : Int32))) (lv' := [(3, .int (v3 + (1 : Int32))), (0, .ref h_this), (1, .int v1), (2, .int v2)]) hx hb dX2_isLikeAnEarlierOne_24 hl (k := 3) rfl rfl (by decide) rfl (fun ls hl => ?_)
        refine lv_goto (tgt := 8) hx hb dX2_isLikeAnEarlierOne_27 (by decide) ?_
        exact ih (v3 + (1 : Int32)) hf _ (lv_sub hl [1, 2, 3, 0] rfl)
      · have hf := c_t hf c9
        exact hk22 hf _ (lv_sub hl [] rfl)
set_option maxHeartbeats 4000000 in
set_option maxRecDepth 100000 in
theorem kX2_isLikeAnEarlierOne (h_this : Nat) (h_hookOfEnd : Nat) (h_holesOfCard : Nat) (c_hooks : Int32) (c_ends : Int32) (c_cards : Int32) (c_limit : Int32) (c_hookOfEnd : Nat → Int32) (c_holesOfCard : Nat → Int32) (v1 : Int32) (C : Cx cX2_isLikeAnEarlierOne (some .boolean) 4 RX2 wsX2_isLikeAnEarlierOne G p s m args meth c) (hP : va_P G.1 CL [(h_this, .inr (2, [.int c_hooks, .int c_ends, .int c_cards, .int c_limit, .ref h_hookOfEnd, .ref h_holesOfCard])), (h_hookOfEnd, .inl (G.2 0, 12, .inl c_hookOfEnd)), (h_holesOfCard, .inl (G.2 0, 8, .inl c_holesOfCard))] s.heap) {res : Int32} (kr : ∀ (pc : Nat) (ls : Array Slot), narrow .boolean (.int res) = .int res → decode cX2_isLikeAnEarlierOne pc = .ok (.ireturn, 1) → W p l e rmX2_isLikeAnEarlierOne s m args below meth c s.heap [] 0 0 Q (F0 m pc ls [.int res])) (hf : fX2_isLikeAnEarlierOne c_ends c_cards c_hookOfEnd c_holesOfCard v1 = some res) {ls : Array Slot} (hl : lv_has ls 4 [(0, .ref h_this), (1, .int v1)]) : W p l e rmX2_isLikeAnEarlierOne s m args below meth c s.heap [] 0 0 Q (F0 m 0 ls []) := by
  obtain ⟨hx, hb, hr, hlk, hml, hown, hts, hK⟩ := id C
  rw [fX2_isLikeAnEarlierOne] at hf
  refine lv_aload_n hx hb dX2_isLikeAnEarlierOne_0 rfl (lv_at hl 0 rfl) ?_
  refine lv_iload_n hx hb dX2_isLikeAnEarlierOne_1 rfl (lv_at hl 1 rfl) ?_
  refine r_bind hf (fun u1 hu1 hf => ?_)
  refine cRiV (ci := 2) (rest := []) ⟨hx, hb, hml, hown, hts⟩ hK (tX2_upRows l G h_this h_hookOfEnd h_holesOfCard c_hooks c_ends c_cards c_limit c_hookOfEnd c_holesOfCard v1 u1 hu1) gX2_isLikeAnEarlierOne_X2_upRows rfl hdX2_upRows rfl rfl rfl ⟨Nat.le_of_ble_eq_true rfl, Nat.le_of_ble_eq_true rfl⟩ hP [0, 1, 2] rfl 0 rfl rfl rfl hl.1 (Nat.le_of_ble_eq_true rfl) rfl dX2_isLikeAnEarlierOne_2 ⟨Nat.zero_le _, Nat.zero_le _⟩ ?_
  refine lv_istore_n (lv' := [(2, .int u1), (0, .ref h_this), (1, .int v1)]) hx hb dX2_isLikeAnEarlierOne_5 rfl hl (by decide) rfl (fun ls hl => ?_)
  refine lv_iconst (v := (0 : Int32)) hx hb dX2_isLikeAnEarlierOne_6 (by decide) ?_
  refine lv_istore_n (lv' := [(3, .int (0 : Int32)), (2, .int u1), (0, .ref h_this), (1, .int v1)]) hx hb dX2_isLikeAnEarlierOne_7 rfl hl (by decide) rfl (fun ls hl => ?_)
  refine kX2_isLikeAnEarlierOne_L8 h_this h_hookOfEnd h_holesOfCard c_hooks c_ends c_cards c_limit c_hookOfEnd c_holesOfCard v1 u1 C hP kr ?_ ?_ FU (0 : Int32) hf _ (lv_sub hl [2, 3, 1, 0] rfl)
  · intro hf ls hl
    refine lv_iconst (v := (0 : Int32)) hx hb dX2_isLikeAnEarlierOne_30 (by decide) ?_
    obtain rfl := Option.some.inj hf
    exact kr _ _ nb0 dX2_isLikeAnEarlierOne_31
  · intro hf ls hl
    refine lv_iconst (v := (1 : Int32)) hx hb dX2_isLikeAnEarlierOne_22 (by decide) ?_
    obtain rfl := Option.some.inj hf
    exact kr _ _ nb1 dX2_isLikeAnEarlierOne_23
end SX2_isLikeAnEarlierOne
set_option maxHeartbeats 4000000 in
set_option maxRecDepth 100000 in
theorem tX2_isLikeAnEarlierOne (l : Launch) (G : GG) (h_this : Nat) (h_hookOfEnd : Nat) (h_holesOfCard : Nat) (c_hooks : Int32) (c_ends : Int32) (c_cards : Int32) (c_limit : Int32) (c_hookOfEnd : Nat → Int32) (c_holesOfCard : Nat → Int32) (v1 : Int32) (res : Int32) (hf : fX2_isLikeAnEarlierOne c_ends c_cards c_hookOfEnd c_holesOfCard v1 = some res) : MRi l yX2_isLikeAnEarlierOne wsX2_isLikeAnEarlierOne rmX2_isLikeAnEarlierOne G [.ref h_this, .int v1] [(h_this, .inr (2, [.int c_hooks, .int c_ends, .int c_cards, .int c_limit, .ref h_hookOfEnd, .ref h_holesOfCard])), (h_hookOfEnd, .inl (G.2 0, 12, .inl c_hookOfEnd)), (h_holesOfCard, .inl (G.2 0, 8, .inl c_holesOfCard))] (res) := MRi.of (plainFor_of_name (by decide +kernel)) rfl (Nat.le_of_ble_eq_true rfl) (fun p e s m below meth c C hP ls hl => kX2_isLikeAnEarlierOne h_this h_hookOfEnd h_holesOfCard c_hooks c_ends c_cards c_limit c_hookOfEnd c_holesOfCard v1 C hP (fun pc ls hn d => rRz C hn d) hf hl)
def fX2_unlikeEnds_L4 (k34 : Int32 → Option (Int32)) (c_ends : Int32) (c_cards : Int32) (c_hookOfEnd : Nat → Int32) (c_holesOfCard : Nat → Int32) : Nat → Int32 → Int32 → Option (Int32)
  | 0, _, _ => none
  | n + 1, v1, v2 => if c_ends ≤ v2 then k34 v1 else (fX2_isLikeAnEarlierOne c_ends c_cards c_hookOfEnd c_holesOfCard v2).bind (fun u1 => jn (fun (j26_0 : Int32) (j26_1 : Int32) => fX2_unlikeEnds_L4 k34 c_ends c_cards c_hookOfEnd c_holesOfCard n (j26_1 + j26_0) (v2 + (1 : Int32))) (fun J26 => if u1 = 0 then J26 (1 : Int32) v1 else J26 (0 : Int32) v1))
def fX2_unlikeEnds (c_ends : Int32) (c_cards : Int32) (c_hookOfEnd : Nat → Int32) (c_holesOfCard : Nat → Int32)  : Option (Int32) := (fX2_unlikeEnds_L4 (fun (v1_x2 : Int32) => some (v1_x2)) c_ends c_cards c_hookOfEnd c_holesOfCard FU (0 : Int32) (0 : Int32))
theorem iX2_unlikeEnds_2 : ∀ w ∈ wsX20, w ∈ wsX2_unlikeEnds := fun w h => List.mem_cons_of_mem _ (List.mem_append_right _ (h))
theorem hdX2_unlikeEnds : yX2_unlikeEnds.cls = RX2 ∧ yX2_unlikeEnds.cls ≠ "java/lang/invoke/MethodHandle" ∧ yX2_unlikeEnds.cls ≠ "java/lang/invoke/VarHandle" ∧ (parseMethodDescriptor yX2_unlikeEnds.desc).map (fun d => d.parameters.length) = some 0 := by decide +kernel
abbrev rmX2_unlikeEnds : Room := { frames := 3, cells := 0, slots := 0, locals := 68 }
section SX2_unlikeEnds
variable {p : Program} {l : Launch} {e : Env} {s : State} {m : MethodId} {args : Array Value} {below : List Frame} {meth : Method} {c : Code} {Q : State → Prop} {G : GG}
set_option maxHeartbeats 4000000 in
set_option maxRecDepth 100000 in
theorem kX2_unlikeEnds_L4 (h_this : Nat) (h_hookOfEnd : Nat) (h_holesOfCard : Nat) (c_hooks : Int32) (c_ends : Int32) (c_cards : Int32) (c_limit : Int32) (c_hookOfEnd : Nat → Int32) (c_holesOfCard : Nat → Int32) (C : Cx cX2_unlikeEnds (some .int) 3 RX2 wsX2_unlikeEnds G p s m args meth c) (hP : va_P G.1 CL [(h_this, .inr (2, [.int c_hooks, .int c_ends, .int c_cards, .int c_limit, .ref h_hookOfEnd, .ref h_holesOfCard])), (h_hookOfEnd, .inl (G.2 0, 12, .inl c_hookOfEnd)), (h_holesOfCard, .inl (G.2 0, 8, .inl c_holesOfCard))] s.heap) {res : Int32} (kr : ∀ (pc : Nat) (ls : Array Slot), decode cX2_unlikeEnds pc = .ok (.ireturn, 1) → W p l e rmX2_unlikeEnds s m args below meth c s.heap [] 0 0 Q (F0 m pc ls [.int res])) {k34 : Int32 → Option (Int32)} (hk34 : ∀ (v1 : Int32) , k34 v1 = some res → ∀ (ls : Array Slot), lv_has ls 3 [(1, .int v1)] → W p l e rmX2_unlikeEnds s m args below meth c s.heap [] 0 0 Q (F0 m 34 ls [])) : ∀ (n : Nat) (v1 : Int32) (v2 : Int32), fX2_unlikeEnds_L4 k34 c_ends c_cards c_hookOfEnd c_holesOfCard n v1 v2 = some res → ∀ (ls : Array Slot), lv_has ls 3 [(0, .ref h_this), (1, .int v1), (2, .int v2)] → W p l e rmX2_unlikeEnds s m args below meth c s.heap [] 0 0 Q (F0 m 4 ls []) := by
  obtain ⟨hx, hb, hr, hlk, hml, hown, hts, hK⟩ := id C
  intro n
  induction n with
  | zero =>
    intro v1 v2 hf
    cases hf
  | succ n ih =>
    intro v1 v2 hf ls hl
    rw [fX2_unlikeEnds_L4] at hf
    refine lv_iload_n hx hb dX2_unlikeEnds_4 rfl (lv_at hl 2 rfl) ?_
    refine lv_aload_n hx hb dX2_unlikeEnds_5 rfl (lv_at hl 0 rfl) ?_
    refine va_get (D := G.1) (cl := CL) (ci := 2) (C := RX2) (T := TX2) (N := 6) hx hb hts iX2_unlikeEnds_2 hown hK hP 0 rfl rfl 1 (by decide) (hts (.fieldLink RX2 21 "LoomCards$Loom" "ends" "I") (List.mem_of_getElem? (i := 1) rfl)) (fun _ h9 => h9) rfl dX2_unlikeEnds_6 ?_
    refine lv_icmp_ge (tgt := 34) hx hb dX2_unlikeEnds_9 (by decide) (fun c9 => ?_) (fun c9 => ?_)
    · have hf := c_t hf c9
      exact hk34 v1 hf _ (lv_sub hl [1] rfl)
    · have hf := c_f hf c9
      refine lv_iload_n hx hb dX2_unlikeEnds_12 rfl (lv_at hl 1 rfl) ?_
      refine lv_aload_n hx hb dX2_unlikeEnds_13 rfl (lv_at hl 0 rfl) ?_
      refine lv_iload_n hx hb dX2_unlikeEnds_14 rfl (lv_at hl 2 rfl) ?_
      refine r_bind hf (fun u1 hu1 hf => ?_)
      refine cRiV (ci := 2) (rest := [.int v1]) ⟨hx, hb, hml, hown, hts⟩ hK (tX2_isLikeAnEarlierOne l G h_this h_hookOfEnd h_holesOfCard c_hooks c_ends c_cards c_limit c_hookOfEnd c_holesOfCard v2 u1 hu1) gX2_unlikeEnds_X2_isLikeAnEarlierOne rfl hdX2_isLikeAnEarlierOne rfl rfl rfl ⟨Nat.le_of_ble_eq_true rfl, Nat.le_of_ble_eq_true rfl⟩ hP [0, 1, 2] rfl 0 rfl rfl rfl hl.1 (Nat.le_of_ble_eq_true rfl) rfl dX2_unlikeEnds_15 ⟨Nat.zero_le _, Nat.zero_le _⟩ ?_
      refine r_jn2 hf (fun J26 eJ26 hf => ?_)
      have hJ26 : ∀ (j26_0 : Int32) (j26_1 : Int32) , J26 j26_0 j26_1 = some res → ∀ (ls : Array Slot), lv_has ls 3 [(0, .ref h_this), (2, .int v2)] → W p l e rmX2_unlikeEnds s m args below meth c s.heap [] 0 0 Q (F0 m 26 ls [.int j26_0, .int j26_1]) := by
        intro j26_0 j26_1 hf ls hl
        rw [eJ26] at hf
        refine lv_iadd hx hb dX2_unlikeEnds_26 ?_
        refine lv_istore_n (lv' := [(1, .int (j26_1 + j26_0)), (0, .ref h_this), (2, .int v2)]) hx hb dX2_unlikeEnds_27 rfl hl (by decide) rfl (fun ls hl => ?_)
        refine lv_iinc (v := (v2 + (1 : Int32))) (lv' := [(2, .int (v2 + (1 : Int32))), (1, .int (j26_1 + j26_0)), (0, .ref h_this)]) hx hb dX2_unlikeEnds_28 hl (k := 2) rfl rfl (by decide) rfl (fun ls hl => ?_)
        refine lv_goto (tgt := 4) hx hb dX2_unlikeEnds_31 (by decide) ?_
        exact ih (j26_1 + j26_0) (v2 + (1 : Int32)) hf _ (lv_sub hl [2, 1, 0] rfl)
      refine lv_if_eq (tgt := 25) hx hb dX2_unlikeEnds_18 (by decide) (fun c9 => ?_) (fun c9 => ?_)
      · have hf := c_t hf c9
        refine lv_iconst (v := (1 : Int32)) hx hb dX2_unlikeEnds_25 (by decide) ?_
        exact hJ26 (1 : Int32) v1 hf _ (lv_sub hl [0, 2] rfl)
      · have hf := c_f hf c9
        refine lv_iconst (v := (0 : Int32)) hx hb dX2_unlikeEnds_21 (by decide) ?_
        refine lv_goto (tgt := 26) hx hb dX2_unlikeEnds_22 (by decide) ?_
        exact hJ26 (0 : Int32) v1 hf _ (lv_sub hl [0, 2] rfl)
set_option maxHeartbeats 4000000 in
set_option maxRecDepth 100000 in
theorem kX2_unlikeEnds (h_this : Nat) (h_hookOfEnd : Nat) (h_holesOfCard : Nat) (c_hooks : Int32) (c_ends : Int32) (c_cards : Int32) (c_limit : Int32) (c_hookOfEnd : Nat → Int32) (c_holesOfCard : Nat → Int32) (C : Cx cX2_unlikeEnds (some .int) 3 RX2 wsX2_unlikeEnds G p s m args meth c) (hP : va_P G.1 CL [(h_this, .inr (2, [.int c_hooks, .int c_ends, .int c_cards, .int c_limit, .ref h_hookOfEnd, .ref h_holesOfCard])), (h_hookOfEnd, .inl (G.2 0, 12, .inl c_hookOfEnd)), (h_holesOfCard, .inl (G.2 0, 8, .inl c_holesOfCard))] s.heap) {res : Int32} (kr : ∀ (pc : Nat) (ls : Array Slot), decode cX2_unlikeEnds pc = .ok (.ireturn, 1) → W p l e rmX2_unlikeEnds s m args below meth c s.heap [] 0 0 Q (F0 m pc ls [.int res])) (hf : fX2_unlikeEnds c_ends c_cards c_hookOfEnd c_holesOfCard = some res) {ls : Array Slot} (hl : lv_has ls 3 [(0, .ref h_this)]) : W p l e rmX2_unlikeEnds s m args below meth c s.heap [] 0 0 Q (F0 m 0 ls []) := by
  obtain ⟨hx, hb, hr, hlk, hml, hown, hts, hK⟩ := id C
  rw [fX2_unlikeEnds] at hf
  refine lv_iconst (v := (0 : Int32)) hx hb dX2_unlikeEnds_0 (by decide) ?_
  refine lv_istore_n (lv' := [(1, .int (0 : Int32)), (0, .ref h_this)]) hx hb dX2_unlikeEnds_1 rfl hl (by decide) rfl (fun ls hl => ?_)
  refine lv_iconst (v := (0 : Int32)) hx hb dX2_unlikeEnds_2 (by decide) ?_
  refine lv_istore_n (lv' := [(2, .int (0 : Int32)), (1, .int (0 : Int32)), (0, .ref h_this)]) hx hb dX2_unlikeEnds_3 rfl hl (by decide) rfl (fun ls hl => ?_)
  refine kX2_unlikeEnds_L4 h_this h_hookOfEnd h_holesOfCard c_hooks c_ends c_cards c_limit c_hookOfEnd c_holesOfCard C hP kr ?_ FU (0 : Int32) (0 : Int32) hf _ (lv_sub hl [2, 1, 0] rfl)
  intro v1_x2 hf ls hl
  refine lv_iload_n hx hb dX2_unlikeEnds_34 rfl (lv_at hl 0 rfl) ?_
  obtain rfl := Option.some.inj hf
  exact kr _ _ dX2_unlikeEnds_35
end SX2_unlikeEnds
set_option maxHeartbeats 4000000 in
set_option maxRecDepth 100000 in
theorem tX2_unlikeEnds (l : Launch) (G : GG) (h_this : Nat) (h_hookOfEnd : Nat) (h_holesOfCard : Nat) (c_hooks : Int32) (c_ends : Int32) (c_cards : Int32) (c_limit : Int32) (c_hookOfEnd : Nat → Int32) (c_holesOfCard : Nat → Int32) (res : Int32) (hf : fX2_unlikeEnds c_ends c_cards c_hookOfEnd c_holesOfCard = some res) : MRi l yX2_unlikeEnds wsX2_unlikeEnds rmX2_unlikeEnds G [.ref h_this] [(h_this, .inr (2, [.int c_hooks, .int c_ends, .int c_cards, .int c_limit, .ref h_hookOfEnd, .ref h_holesOfCard])), (h_hookOfEnd, .inl (G.2 0, 12, .inl c_hookOfEnd)), (h_holesOfCard, .inl (G.2 0, 8, .inl c_holesOfCard))] (res) := MRi.of (plainFor_of_name (by decide +kernel)) rfl (Nat.le_of_ble_eq_true rfl) (fun p e s m below meth c C hP ls hl => kX2_unlikeEnds h_this h_hookOfEnd h_holesOfCard c_hooks c_ends c_cards c_limit c_hookOfEnd c_holesOfCard C hP (fun pc ls d => rRi C d) hf hl)

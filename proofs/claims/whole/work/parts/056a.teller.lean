def fX5_startAnew (c_to : Int32) (c_hasHooks : Int32) (c_hasTies : Int32) (c_cardsTold : Int32) (c_draft_hooks : Int32) (c_draft_ends : Int32) (c_draft_cards : Int32) (c_draft_limit : Int32) (c_draft_hookOfEnd : Nat → Int32) (c_draft_holesOfCard : Nat → Int32)  : Option (Int32 × Int32 × Int32 × Int32 × Int32 × Int32 × Int32 × Int32 × (Nat → Int32) × (Nat → Int32)) := (fX2_startAnew c_draft_hooks c_draft_ends c_draft_cards c_draft_limit c_draft_hookOfEnd c_draft_holesOfCard).bind (fun u1 => some ((0 : Int32), (0 : Int32), (0 : Int32), (0 : Int32), u1.1, u1.2.1, u1.2.2.1, u1.2.2.2.1, u1.2.2.2.2.1, u1.2.2.2.2.2))
theorem iX5_startAnew_2 : ∀ w ∈ wsX20, w ∈ wsX5_startAnew := fun w h => List.mem_cons_of_mem _ (List.mem_append_right _ (h))
theorem iX5_startAnew_5 : ∀ w ∈ wsX50, w ∈ wsX5_startAnew := fun w h => List.mem_cons_of_mem _ (List.mem_append_left _ (List.mem_append_right _ (h)))
theorem hdX5_startAnew : yX5_startAnew.cls = RX5 ∧ yX5_startAnew.cls ≠ "java/lang/invoke/MethodHandle" ∧ yX5_startAnew.cls ≠ "java/lang/invoke/VarHandle" ∧ (parseMethodDescriptor yX5_startAnew.desc).map (fun d => d.parameters.length) = some 0 := by decide +kernel
abbrev rmX5_startAnew : Room := { frames := 2, cells := 0, slots := 0, locals := 42 }
section SX5_startAnew
variable {p : Program} {l : Launch} {e : Env} {s : State} {m : MethodId} {args : Array Value} {below : List Frame} {meth : Method} {c : Code} {Q : State → Prop} {G : GG} {A : Nat → Prop}
set_option maxHeartbeats 4000000 in
set_option maxRecDepth 100000 in
theorem kX5_startAnew (h_this : Nat) (h_text : Nat) (h_draft : Nat) (h_draft_hookOfEnd : Nat) (h_draft_holesOfCard : Nat) (c_kind : Int32) (c_from : Int32) (c_to : Int32) (c_hasHooks : Int32) (c_hasTies : Int32) (c_cardsTold : Int32) (c_draft_hooks : Int32) (c_draft_ends : Int32) (c_draft_cards : Int32) (c_draft_limit : Int32) (c_draft_hookOfEnd : Nat → Int32) (c_draft_holesOfCard : Nat → Int32) (C : Cx cX5_startAnew none 1 RX5 wsX5_startAnew G p s m args meth c) (hA : ∀ q : Nat, s.heap.size ≤ q → A q) (hP : va_P G.1 CL [(h_this, .inr (5, [.ref h_text, .ref h_draft, .int c_kind, .int c_from, .int c_to, .int c_hasHooks, .int c_hasTies, .int c_cardsTold])), (h_draft, .inr (2, [.int c_draft_hooks, .int c_draft_ends, .int c_draft_cards, .int c_draft_limit, .ref h_draft_hookOfEnd, .ref h_draft_holesOfCard])), (h_draft_hookOfEnd, .inl (G.2 0, 12, .inl c_draft_hookOfEnd)), (h_draft_holesOfCard, .inl (G.2 0, 8, .inl c_draft_holesOfCard))] s.heap) (hD : va_D A [(h_this, .inr (5, [.ref h_text, .ref h_draft, .int c_kind, .int c_from, .int c_to, .int c_hasHooks, .int c_hasTies, .int c_cardsTold])), (h_draft, .inr (2, [.int c_draft_hooks, .int c_draft_ends, .int c_draft_cards, .int c_draft_limit, .ref h_draft_hookOfEnd, .ref h_draft_holesOfCard])), (h_draft_hookOfEnd, .inl (G.2 0, 12, .inl c_draft_hookOfEnd)), (h_draft_holesOfCard, .inl (G.2 0, 8, .inl c_draft_holesOfCard))]) (hS : va_S A s.heap s.heap []) {res : Int32 × Int32 × Int32 × Int32 × Int32 × Int32 × Int32 × Int32 × (Nat → Int32) × (Nat → Int32)} (kr : ∀ (pc : Nat) (ls : Array Slot) (H : Heap) (locs : List Loc), va_P G.1 CL [(h_this, .inr (5, [.ref h_text, .ref h_draft, .int c_kind, .int c_from, .int (res.1), .int (res.2.1), .int (res.2.2.1), .int (res.2.2.2.1)])), (h_draft, .inr (2, [.int (res.2.2.2.2.1), .int (res.2.2.2.2.2.1), .int (res.2.2.2.2.2.2.1), .int (res.2.2.2.2.2.2.2.1), .ref h_draft_hookOfEnd, .ref h_draft_holesOfCard])), (h_draft_hookOfEnd, .inl (G.2 0, 12, .inl (res.2.2.2.2.2.2.2.2.1))), (h_draft_holesOfCard, .inl (G.2 0, 8, .inl (res.2.2.2.2.2.2.2.2.2)))] H → va_D A [(h_this, .inr (5, [.ref h_text, .ref h_draft, .int c_kind, .int c_from, .int (res.1), .int (res.2.1), .int (res.2.2.1), .int (res.2.2.2.1)])), (h_draft, .inr (2, [.int (res.2.2.2.2.1), .int (res.2.2.2.2.2.1), .int (res.2.2.2.2.2.2.1), .int (res.2.2.2.2.2.2.2.1), .ref h_draft_hookOfEnd, .ref h_draft_holesOfCard])), (h_draft_hookOfEnd, .inl (G.2 0, 12, .inl (res.2.2.2.2.2.2.2.2.1))), (h_draft_holesOfCard, .inl (G.2 0, 8, .inl (res.2.2.2.2.2.2.2.2.2)))] → va_S A s.heap H locs → decode cX5_startAnew pc = .ok (.return_, 1) → W p l e rmX5_startAnew s m args below meth c H locs 0 0 Q (F0 m pc ls [])) (hf : fX5_startAnew c_to c_hasHooks c_hasTies c_cardsTold c_draft_hooks c_draft_ends c_draft_cards c_draft_limit c_draft_hookOfEnd c_draft_holesOfCard = some res) {ls : Array Slot} (hl : lv_has ls 1 [(0, .ref h_this)]) : W p l e rmX5_startAnew s m args below meth c s.heap [] 0 0 Q (F0 m 0 ls []) := by
  obtain ⟨hx, hb, hr, hlk, hml, hown, hts, hK⟩ := id C
  rw [fX5_startAnew] at hf
  refine lv_aload_n hx hb dX5_startAnew_0 rfl (lv_at hl 0 rfl) ?_
  refine va_get (D := G.1) (cl := CL) (ci := 5) (C := RX5) (T := TX5) (N := 8) hx hb hts iX5_startAnew_5 hown hK hP 0 rfl rfl 1 (by decide) (hts (.fieldLink RX5 21 "LoomCards$Teller" "draft" "LLoomCards$Loom;") (List.mem_of_getElem? (i := 1) rfl)) (fun _ h9 => h9) rfl dX5_startAnew_1 ?_
  refine r_bind hf (fun u1 hu1 hf => ?_)
  refine cWvV (ci := 2) (rest := []) (wr := [(h_this, .inr (5, [.ref h_text, .ref h_draft, .int c_kind, .int c_from, .int c_to, .int c_hasHooks, .int c_hasTies, .int c_cardsTold]))]) (wf := [(h_this, .inr (5, [.ref h_text, .ref h_draft, .int c_kind, .int c_from, .int c_to, .int c_hasHooks, .int c_hasTies, .int c_cardsTold])), (h_draft, .inr (2, [.int u1.1, .int u1.2.1, .int u1.2.2.1, .int u1.2.2.2.1, .ref h_draft_hookOfEnd, .ref h_draft_holesOfCard])), (h_draft_hookOfEnd, .inl (G.2 0, 12, .inl u1.2.2.2.2.1)), (h_draft_holesOfCard, .inl (G.2 0, 8, .inl u1.2.2.2.2.2))]) ⟨hx, hb, hml, hown, hts⟩ hK (tX2_startAnew l G h_draft h_draft_hookOfEnd h_draft_holesOfCard c_draft_hooks c_draft_ends c_draft_cards c_draft_limit c_draft_hookOfEnd c_draft_holesOfCard u1 hu1) gX5_startAnew_X2_startAnew rfl hdX2_startAnew rfl rfl rfl ⟨Nat.le_of_ble_eq_true rfl, Nat.le_of_ble_eq_true rfl⟩ hP hD hS hA [1, 2, 3] [0] [0, 1, 2, 3] rfl rfl rfl (by decide) (by decide) (by decide) (by decide) 1 rfl rfl rfl hl.1 (Nat.le_of_ble_eq_true rfl) rfl dX5_startAnew_4 ⟨Nat.zero_le _, Nat.zero_le _⟩ (fun H locs hP hD hS => ?_)
  refine lv_aload_n hx hb dX5_startAnew_7 rfl (lv_at hl 0 rfl) ?_
  refine lv_iconst (v := (0 : Int32)) hx hb dX5_startAnew_8 (by decide) ?_
  refine va_put (D := G.1) (cl := CL) (ci := 5) (v := .int (0 : Int32)) (ty := .int) (C := RX5) (T := TX5) (N := 8) hx hb hts iX5_startAnew_5 tyX5 tyX5_ok nmX5 hown hK hP hD hS 0 rfl rfl 4 (by decide) (hts (.fieldLink RX5 43 "LoomCards$Teller" "to" "I") (List.mem_of_getElem? (i := 2) rfl)) (fun _ h9 => h9) rfl (tyX5_ok 4 (by decide)) rfl rfl (Nat.le_of_ble_eq_true rfl) dX5_startAnew_9 (fun H locs hP hD hS => ?_)
  have hP : va_P G.1 CL [(h_this, .inr (5, [.ref h_text, .ref h_draft, .int c_kind, .int c_from, .int (0 : Int32), .int c_hasHooks, .int c_hasTies, .int c_cardsTold])), (h_draft, .inr (2, [.int u1.1, .int u1.2.1, .int u1.2.2.1, .int u1.2.2.2.1, .ref h_draft_hookOfEnd, .ref h_draft_holesOfCard])), (h_draft_hookOfEnd, .inl (G.2 0, 12, .inl u1.2.2.2.2.1)), (h_draft_holesOfCard, .inl (G.2 0, 8, .inl u1.2.2.2.2.2))] H := hP
  have hD : va_D A [(h_this, .inr (5, [.ref h_text, .ref h_draft, .int c_kind, .int c_from, .int (0 : Int32), .int c_hasHooks, .int c_hasTies, .int c_cardsTold])), (h_draft, .inr (2, [.int u1.1, .int u1.2.1, .int u1.2.2.1, .int u1.2.2.2.1, .ref h_draft_hookOfEnd, .ref h_draft_holesOfCard])), (h_draft_hookOfEnd, .inl (G.2 0, 12, .inl u1.2.2.2.2.1)), (h_draft_holesOfCard, .inl (G.2 0, 8, .inl u1.2.2.2.2.2))] := hD
  refine lv_aload_n hx hb dX5_startAnew_12 rfl (lv_at hl 0 rfl) ?_
  refine lv_iconst (v := (0 : Int32)) hx hb dX5_startAnew_13 (by decide) ?_
  refine va_put (D := G.1) (cl := CL) (ci := 5) (v := .int (0 : Int32)) (ty := .boolean) (C := RX5) (T := TX5) (N := 8) hx hb hts iX5_startAnew_5 tyX5 tyX5_ok nmX5 hown hK hP hD hS 0 rfl rfl 5 (by decide) (hts (.fieldLink RX5 46 "LoomCards$Teller" "hasHooks" "Z") (List.mem_of_getElem? (i := 3) rfl)) (fun _ h9 => h9) rfl (tyX5_ok 5 (by decide)) rfl rfl (Nat.le_of_ble_eq_true rfl) dX5_startAnew_14 (fun H locs hP hD hS => ?_)
  have hP : va_P G.1 CL [(h_this, .inr (5, [.ref h_text, .ref h_draft, .int c_kind, .int c_from, .int (0 : Int32), .int (0 : Int32), .int c_hasTies, .int c_cardsTold])), (h_draft, .inr (2, [.int u1.1, .int u1.2.1, .int u1.2.2.1, .int u1.2.2.2.1, .ref h_draft_hookOfEnd, .ref h_draft_holesOfCard])), (h_draft_hookOfEnd, .inl (G.2 0, 12, .inl u1.2.2.2.2.1)), (h_draft_holesOfCard, .inl (G.2 0, 8, .inl u1.2.2.2.2.2))] H := hP
  have hD : va_D A [(h_this, .inr (5, [.ref h_text, .ref h_draft, .int c_kind, .int c_from, .int (0 : Int32), .int (0 : Int32), .int c_hasTies, .int c_cardsTold])), (h_draft, .inr (2, [.int u1.1, .int u1.2.1, .int u1.2.2.1, .int u1.2.2.2.1, .ref h_draft_hookOfEnd, .ref h_draft_holesOfCard])), (h_draft_hookOfEnd, .inl (G.2 0, 12, .inl u1.2.2.2.2.1)), (h_draft_holesOfCard, .inl (G.2 0, 8, .inl u1.2.2.2.2.2))] := hD
  refine lv_aload_n hx hb dX5_startAnew_17 rfl (lv_at hl 0 rfl) ?_
  refine lv_iconst (v := (0 : Int32)) hx hb dX5_startAnew_18 (by decide) ?_
  refine va_put (D := G.1) (cl := CL) (ci := 5) (v := .int (0 : Int32)) (ty := .boolean) (C := RX5) (T := TX5) (N := 8) hx hb hts iX5_startAnew_5 tyX5 tyX5_ok nmX5 hown hK hP hD hS 0 rfl rfl 6 (by decide) (hts (.fieldLink RX5 50 "LoomCards$Teller" "hasTies" "Z") (List.mem_of_getElem? (i := 4) rfl)) (fun _ h9 => h9) rfl (tyX5_ok 6 (by decide)) rfl rfl (Nat.le_of_ble_eq_true rfl) dX5_startAnew_19 (fun H locs hP hD hS => ?_)
  have hP : va_P G.1 CL [(h_this, .inr (5, [.ref h_text, .ref h_draft, .int c_kind, .int c_from, .int (0 : Int32), .int (0 : Int32), .int (0 : Int32), .int c_cardsTold])), (h_draft, .inr (2, [.int u1.1, .int u1.2.1, .int u1.2.2.1, .int u1.2.2.2.1, .ref h_draft_hookOfEnd, .ref h_draft_holesOfCard])), (h_draft_hookOfEnd, .inl (G.2 0, 12, .inl u1.2.2.2.2.1)), (h_draft_holesOfCard, .inl (G.2 0, 8, .inl u1.2.2.2.2.2))] H := hP
  have hD : va_D A [(h_this, .inr (5, [.ref h_text, .ref h_draft, .int c_kind, .int c_from, .int (0 : Int32), .int (0 : Int32), .int (0 : Int32), .int c_cardsTold])), (h_draft, .inr (2, [.int u1.1, .int u1.2.1, .int u1.2.2.1, .int u1.2.2.2.1, .ref h_draft_hookOfEnd, .ref h_draft_holesOfCard])), (h_draft_hookOfEnd, .inl (G.2 0, 12, .inl u1.2.2.2.2.1)), (h_draft_holesOfCard, .inl (G.2 0, 8, .inl u1.2.2.2.2.2))] := hD
  refine lv_aload_n hx hb dX5_startAnew_22 rfl (lv_at hl 0 rfl) ?_
  refine lv_iconst (v := (0 : Int32)) hx hb dX5_startAnew_23 (by decide) ?_
  refine va_put (D := G.1) (cl := CL) (ci := 5) (v := .int (0 : Int32)) (ty := .int) (C := RX5) (T := TX5) (N := 8) hx hb hts iX5_startAnew_5 tyX5 tyX5_ok nmX5 hown hK hP hD hS 0 rfl rfl 7 (by decide) (hts (.fieldLink RX5 53 "LoomCards$Teller" "cardsTold" "I") (List.mem_of_getElem? (i := 5) rfl)) (fun _ h9 => h9) rfl (tyX5_ok 7 (by decide)) rfl rfl (Nat.le_of_ble_eq_true rfl) dX5_startAnew_24 (fun H locs hP hD hS => ?_)
  have hP : va_P G.1 CL [(h_this, .inr (5, [.ref h_text, .ref h_draft, .int c_kind, .int c_from, .int (0 : Int32), .int (0 : Int32), .int (0 : Int32), .int (0 : Int32)])), (h_draft, .inr (2, [.int u1.1, .int u1.2.1, .int u1.2.2.1, .int u1.2.2.2.1, .ref h_draft_hookOfEnd, .ref h_draft_holesOfCard])), (h_draft_hookOfEnd, .inl (G.2 0, 12, .inl u1.2.2.2.2.1)), (h_draft_holesOfCard, .inl (G.2 0, 8, .inl u1.2.2.2.2.2))] H := hP
  have hD : va_D A [(h_this, .inr (5, [.ref h_text, .ref h_draft, .int c_kind, .int c_from, .int (0 : Int32), .int (0 : Int32), .int (0 : Int32), .int (0 : Int32)])), (h_draft, .inr (2, [.int u1.1, .int u1.2.1, .int u1.2.2.1, .int u1.2.2.2.1, .ref h_draft_hookOfEnd, .ref h_draft_holesOfCard])), (h_draft_hookOfEnd, .inl (G.2 0, 12, .inl u1.2.2.2.2.1)), (h_draft_holesOfCard, .inl (G.2 0, 8, .inl u1.2.2.2.2.2))] := hD
  obtain rfl := Option.some.inj hf
  exact kr _ _ _ _ hP hD hS dX5_startAnew_27
end SX5_startAnew
set_option maxHeartbeats 4000000 in
set_option maxRecDepth 100000 in
theorem tX5_startAnew (l : Launch) (G : GG) (h_this : Nat) (h_text : Nat) (h_draft : Nat) (h_draft_hookOfEnd : Nat) (h_draft_holesOfCard : Nat) (c_kind : Int32) (c_from : Int32) (c_to : Int32) (c_hasHooks : Int32) (c_hasTies : Int32) (c_cardsTold : Int32) (c_draft_hooks : Int32) (c_draft_ends : Int32) (c_draft_cards : Int32) (c_draft_limit : Int32) (c_draft_hookOfEnd : Nat → Int32) (c_draft_holesOfCard : Nat → Int32) (res : Int32 × Int32 × Int32 × Int32 × Int32 × Int32 × Int32 × Int32 × (Nat → Int32) × (Nat → Int32)) (hf : fX5_startAnew c_to c_hasHooks c_hasTies c_cardsTold c_draft_hooks c_draft_ends c_draft_cards c_draft_limit c_draft_hookOfEnd c_draft_holesOfCard = some res) : MWv l yX5_startAnew wsX5_startAnew rmX5_startAnew G [.ref h_this] [(h_this, .inr (5, [.ref h_text, .ref h_draft, .int c_kind, .int c_from, .int c_to, .int c_hasHooks, .int c_hasTies, .int c_cardsTold])), (h_draft, .inr (2, [.int c_draft_hooks, .int c_draft_ends, .int c_draft_cards, .int c_draft_limit, .ref h_draft_hookOfEnd, .ref h_draft_holesOfCard])), (h_draft_hookOfEnd, .inl (G.2 0, 12, .inl c_draft_hookOfEnd)), (h_draft_holesOfCard, .inl (G.2 0, 8, .inl c_draft_holesOfCard))] [(h_this, .inr (5, [.ref h_text, .ref h_draft, .int c_kind, .int c_from, .int (res.1), .int (res.2.1), .int (res.2.2.1), .int (res.2.2.2.1)])), (h_draft, .inr (2, [.int (res.2.2.2.2.1), .int (res.2.2.2.2.2.1), .int (res.2.2.2.2.2.2.1), .int (res.2.2.2.2.2.2.2.1), .ref h_draft_hookOfEnd, .ref h_draft_holesOfCard])), (h_draft_hookOfEnd, .inl (G.2 0, 12, .inl (res.2.2.2.2.2.2.2.2.1))), (h_draft_holesOfCard, .inl (G.2 0, 8, .inl (res.2.2.2.2.2.2.2.2.2)))] := MWv.of (plainFor_of_name (by decide +kernel)) rfl (Nat.le_of_ble_eq_true rfl) (fun p e s m below meth c A C hA hP hD hS ls hl => kX5_startAnew h_this h_text h_draft h_draft_hookOfEnd h_draft_holesOfCard c_kind c_from c_to c_hasHooks c_hasTies c_cardsTold c_draft_hooks c_draft_ends c_draft_cards c_draft_limit c_draft_hookOfEnd c_draft_holesOfCard C hA hP hD hS (fun pc ls H locs hP hD hS d => rWv C hP hD hS d) hf hl)
def fX5_placeBehindBlanks_L2 (k32 : Int32 → Option (Int32)) (c_text_length : Int32) (c_text_letters : Nat → Int32) : Nat → Int32 → Option (Int32)
  | 0, _ => none
  | n + 1, v2 => if c_text_length ≤ v2 then k32 v2 else (fX1_at c_text_length c_text_letters v2).bind (fun u1 => if u1 = (32 : Int32) then fX5_placeBehindBlanks_L2 k32 c_text_length c_text_letters n (v2 + (1 : Int32)) else k32 v2)
def fX5_placeBehindBlanks (c_text_length : Int32) (c_text_letters : Nat → Int32) (v1 : Int32) : Option (Int32) := (fX5_placeBehindBlanks_L2 (fun (v2_x2 : Int32) => some (v2_x2)) c_text_length c_text_letters FU v1)
theorem iX5_placeBehindBlanks_1 : ∀ w ∈ wsX10, w ∈ wsX5_placeBehindBlanks := fun w h => List.mem_cons_of_mem _ (List.mem_append_right _ (h))
theorem iX5_placeBehindBlanks_5 : ∀ w ∈ wsX50, w ∈ wsX5_placeBehindBlanks := fun w h => List.mem_cons_of_mem _ (List.mem_append_left _ (List.mem_append_right _ (h)))
theorem hdX5_placeBehindBlanks : yX5_placeBehindBlanks.cls = RX5 ∧ yX5_placeBehindBlanks.cls ≠ "java/lang/invoke/MethodHandle" ∧ yX5_placeBehindBlanks.cls ≠ "java/lang/invoke/VarHandle" ∧ (parseMethodDescriptor yX5_placeBehindBlanks.desc).map (fun d => d.parameters.length) = some 1 := by decide +kernel
abbrev rmX5_placeBehindBlanks : Room := { frames := 1, cells := 0, slots := 0, locals := 21 }
section SX5_placeBehindBlanks
variable {p : Program} {l : Launch} {e : Env} {s : State} {m : MethodId} {args : Array Value} {below : List Frame} {meth : Method} {c : Code} {Q : State → Prop} {G : GG}
set_option maxHeartbeats 4000000 in
set_option maxRecDepth 100000 in
theorem kX5_placeBehindBlanks_L2 (h_this : Nat) (h_text : Nat) (h_draft : Nat) (h_text_letters : Nat) (c_kind : Int32) (c_from : Int32) (c_to : Int32) (c_hasHooks : Int32) (c_hasTies : Int32) (c_cardsTold : Int32) (c_text_length : Int32) (c_text_letters : Nat → Int32) (C : Cx cX5_placeBehindBlanks (some .int) 3 RX5 wsX5_placeBehindBlanks G p s m args meth c) (hP : va_P G.1 CL [(h_this, .inr (5, [.ref h_text, .ref h_draft, .int c_kind, .int c_from, .int c_to, .int c_hasHooks, .int c_hasTies, .int c_cardsTold])), (h_text, .inr (1, [.int c_text_length, .ref h_text_letters])), (h_text_letters, .inl (G.2 0, 120, .inl c_text_letters))] s.heap) {res : Int32} (kr : ∀ (pc : Nat) (ls : Array Slot), decode cX5_placeBehindBlanks pc = .ok (.ireturn, 1) → W p l e rmX5_placeBehindBlanks s m args below meth c s.heap [] 0 0 Q (F0 m pc ls [.int res])) {k32 : Int32 → Option (Int32)} (hk32 : ∀ (v2 : Int32) , k32 v2 = some res → ∀ (ls : Array Slot), lv_has ls 3 [(2, .int v2)] → W p l e rmX5_placeBehindBlanks s m args below meth c s.heap [] 0 0 Q (F0 m 32 ls [])) : ∀ (n : Nat) (v2 : Int32), fX5_placeBehindBlanks_L2 k32 c_text_length c_text_letters n v2 = some res → ∀ (ls : Array Slot), lv_has ls 3 [(0, .ref h_this), (2, .int v2)] → W p l e rmX5_placeBehindBlanks s m args below meth c s.heap [] 0 0 Q (F0 m 2 ls []) := by
  obtain ⟨hx, hb, hr, hlk, hml, hown, hts, hK⟩ := id C
  intro n
  induction n with
  | zero =>
    intro v2 hf
    cases hf
  | succ n ih =>
    intro v2 hf ls hl
    rw [fX5_placeBehindBlanks_L2] at hf
    refine lv_iload_n hx hb dX5_placeBehindBlanks_2 rfl (lv_at hl 1 rfl) ?_
    refine lv_aload_n hx hb dX5_placeBehindBlanks_3 rfl (lv_at hl 0 rfl) ?_
    refine va_get (D := G.1) (cl := CL) (ci := 5) (C := RX5) (T := TX5) (N := 8) hx hb hts iX5_placeBehindBlanks_5 hown hK hP 0 rfl rfl 0 (by decide) (hts (.fieldLink RX5 12 "LoomCards$Teller" "text" "LLoomCards$Letters;") (List.mem_of_getElem? (i := 1) rfl)) (fun _ h9 => h9) rfl dX5_placeBehindBlanks_4 ?_
    refine va_get (D := G.1) (cl := CL) (ci := 1) (C := RX1) (T := TX1) (N := 2) hx hb hts iX5_placeBehindBlanks_1 hown hK hP 1 rfl rfl 0 (by decide) (hts (.fieldLink RX5 136 "LoomCards$Letters" "length" "I") (List.mem_of_getElem? (i := 2) rfl)) (fun _ h9 => h9) rfl dX5_placeBehindBlanks_7 ?_
    refine lv_icmp_ge (tgt := 32) hx hb dX5_placeBehindBlanks_10 (by decide) (fun c9 => ?_) (fun c9 => ?_)
    · have hf := c_t hf c9
      exact hk32 v2 hf _ (lv_sub hl [1] rfl)
    · have hf := c_f hf c9
      refine lv_aload_n hx hb dX5_placeBehindBlanks_13 rfl (lv_at hl 0 rfl) ?_
      refine va_get (D := G.1) (cl := CL) (ci := 5) (C := RX5) (T := TX5) (N := 8) hx hb hts iX5_placeBehindBlanks_5 hown hK hP 0 rfl rfl 0 (by decide) (hts (.fieldLink RX5 12 "LoomCards$Teller" "text" "LLoomCards$Letters;") (List.mem_of_getElem? (i := 1) rfl)) (fun _ h9 => h9) rfl dX5_placeBehindBlanks_14 ?_
      refine lv_iload_n hx hb dX5_placeBehindBlanks_17 rfl (lv_at hl 1 rfl) ?_
      refine r_bind hf (fun u1 hu1 hf => ?_)
      refine cRiV (ci := 1) (rest := []) ⟨hx, hb, hml, hown, hts⟩ hK (tX1_at l G h_text h_text_letters c_text_length c_text_letters v2 u1 hu1) gX5_placeBehindBlanks_X1_at rfl hdX1_at rfl rfl rfl ⟨Nat.le_of_ble_eq_true rfl, Nat.le_of_ble_eq_true rfl⟩ hP [1, 2] rfl 1 rfl rfl rfl hl.1 (Nat.le_of_ble_eq_true rfl) rfl dX5_placeBehindBlanks_18 ⟨Nat.zero_le _, Nat.zero_le _⟩ ?_
      refine lv_bipush (v := (32 : Int32)) hx hb dX5_placeBehindBlanks_21 (by decide) ?_
      refine lv_icmp_ne (tgt := 32) hx hb dX5_placeBehindBlanks_23 (by decide) (fun c9 => ?_) (fun c9 => ?_)
      · have hf := c_f hf c9
        exact hk32 v2 hf _ (lv_sub hl [1] rfl)
      · have hf := c_t hf c9
        refine lv_iinc (v := (v2 + (1 : Int32))) (lv' := [(2, .int (v2 + (1 : Int32))), (0, .ref h_this)]) hx hb dX5_placeBehindBlanks_26 hl (k := 1) rfl rfl (by decide) rfl (fun ls hl => ?_)
        refine lv_goto (tgt := 2) hx hb dX5_placeBehindBlanks_29 (by decide) ?_
        exact ih (v2 + (1 : Int32)) hf _ (lv_sub hl [1, 0] rfl)
set_option maxHeartbeats 4000000 in
set_option maxRecDepth 100000 in
theorem kX5_placeBehindBlanks (h_this : Nat) (h_text : Nat) (h_draft : Nat) (h_text_letters : Nat) (c_kind : Int32) (c_from : Int32) (c_to : Int32) (c_hasHooks : Int32) (c_hasTies : Int32) (c_cardsTold : Int32) (c_text_length : Int32) (c_text_letters : Nat → Int32) (v1 : Int32) (C : Cx cX5_placeBehindBlanks (some .int) 3 RX5 wsX5_placeBehindBlanks G p s m args meth c) (hP : va_P G.1 CL [(h_this, .inr (5, [.ref h_text, .ref h_draft, .int c_kind, .int c_from, .int c_to, .int c_hasHooks, .int c_hasTies, .int c_cardsTold])), (h_text, .inr (1, [.int c_text_length, .ref h_text_letters])), (h_text_letters, .inl (G.2 0, 120, .inl c_text_letters))] s.heap) {res : Int32} (kr : ∀ (pc : Nat) (ls : Array Slot), decode cX5_placeBehindBlanks pc = .ok (.ireturn, 1) → W p l e rmX5_placeBehindBlanks s m args below meth c s.heap [] 0 0 Q (F0 m pc ls [.int res])) (hf : fX5_placeBehindBlanks c_text_length c_text_letters v1 = some res) {ls : Array Slot} (hl : lv_has ls 3 [(0, .ref h_this), (1, .int v1)]) : W p l e rmX5_placeBehindBlanks s m args below meth c s.heap [] 0 0 Q (F0 m 0 ls []) := by
  obtain ⟨hx, hb, hr, hlk, hml, hown, hts, hK⟩ := id C
  rw [fX5_placeBehindBlanks] at hf
  refine lv_iload_n hx hb dX5_placeBehindBlanks_0 rfl (lv_at hl 1 rfl) ?_
  refine lv_istore_n (lv' := [(2, .int v1), (0, .ref h_this), (1, .int v1)]) hx hb dX5_placeBehindBlanks_1 rfl hl (by decide) rfl (fun ls hl => ?_)
  refine kX5_placeBehindBlanks_L2 h_this h_text h_draft h_text_letters c_kind c_from c_to c_hasHooks c_hasTies c_cardsTold c_text_length c_text_letters C hP kr ?_ FU v1 hf _ (lv_sub hl [1, 0] rfl)
  intro v2_x2 hf ls hl
  refine lv_iload_n hx hb dX5_placeBehindBlanks_32 rfl (lv_at hl 0 rfl) ?_
  obtain rfl := Option.some.inj hf
  exact kr _ _ dX5_placeBehindBlanks_33
end SX5_placeBehindBlanks
set_option maxHeartbeats 4000000 in
set_option maxRecDepth 100000 in
theorem tX5_placeBehindBlanks (l : Launch) (G : GG) (h_this : Nat) (h_text : Nat) (h_draft : Nat) (h_text_letters : Nat) (c_kind : Int32) (c_from : Int32) (c_to : Int32) (c_hasHooks : Int32) (c_hasTies : Int32) (c_cardsTold : Int32) (c_text_length : Int32) (c_text_letters : Nat → Int32) (v1 : Int32) (res : Int32) (hf : fX5_placeBehindBlanks c_text_length c_text_letters v1 = some res) : MRi l yX5_placeBehindBlanks wsX5_placeBehindBlanks rmX5_placeBehindBlanks G [.ref h_this, .int v1] [(h_this, .inr (5, [.ref h_text, .ref h_draft, .int c_kind, .int c_from, .int c_to, .int c_hasHooks, .int c_hasTies, .int c_cardsTold])), (h_text, .inr (1, [.int c_text_length, .ref h_text_letters])), (h_text_letters, .inl (G.2 0, 120, .inl c_text_letters))] (res) := MRi.of (plainFor_of_name (by decide +kernel)) rfl (Nat.le_of_ble_eq_true rfl) (fun p e s m below meth c C hP ls hl => kX5_placeBehindBlanks h_this h_text h_draft h_text_letters c_kind c_from c_to c_hasHooks c_hasTies c_cardsTold c_text_length c_text_letters v1 C hP (fun pc ls d => rRi C d) hf hl)
def fX5_isFigure  (v0 : Int32) : Option (Int32) := if v0 < (48 : Int32) then some ((0 : Int32)) else if (57 : Int32) < v0 then some ((0 : Int32)) else some ((1 : Int32))
theorem hdX5_isFigure : yX5_isFigure.cls ≠ "java/lang/invoke/MethodHandle" ∧ yX5_isFigure.cls ≠ "java/lang/invoke/VarHandle" ∧ (parseMethodDescriptor yX5_isFigure.desc).map (fun d => d.parameters.length) = some 1 := by decide +kernel
abbrev rmX5_isFigure : Room := { frames := 0, cells := 0, slots := 0, locals := 0 }
section SX5_isFigure
variable {p : Program} {l : Launch} {e : Env} {s : State} {m : MethodId} {args : Array Value} {below : List Frame} {meth : Method} {c : Code} {Q : State → Prop} {G : GG}
set_option maxHeartbeats 4000000 in
set_option maxRecDepth 100000 in
theorem kX5_isFigure (v0 : Int32) (C : Cx cX5_isFigure (some .boolean) 1 RX5 wsX5_isFigure G p s m args meth c) (hP : va_P G.1 CL [] s.heap) {res : Int32} (kr : ∀ (pc : Nat) (ls : Array Slot), narrow .boolean (.int res) = .int res → decode cX5_isFigure pc = .ok (.ireturn, 1) → W p l e rmX5_isFigure s m args below meth c s.heap [] 0 0 Q (F0 m pc ls [.int res])) (hf : fX5_isFigure v0 = some res) {ls : Array Slot} (hl : lv_has ls 1 [(0, .int v0)]) : W p l e rmX5_isFigure s m args below meth c s.heap [] 0 0 Q (F0 m 0 ls []) := by
  obtain ⟨hx, hb, hr, hlk, hml, hown, hts, hK⟩ := id C
  rw [fX5_isFigure] at hf
  refine lv_iload_n hx hb dX5_isFigure_0 rfl (lv_at hl 0 rfl) ?_
  refine lv_bipush (v := (48 : Int32)) hx hb dX5_isFigure_1 (by decide) ?_
  refine lv_icmp_lt (tgt := 16) hx hb dX5_isFigure_3 (by decide) (fun c9 => ?_) (fun c9 => ?_)
  · have hf := c_t hf c9
    refine lv_iconst (v := (0 : Int32)) hx hb dX5_isFigure_16 (by decide) ?_
    obtain rfl := Option.some.inj hf
    exact kr _ _ nb0 dX5_isFigure_17
  · have hf := c_f hf c9
    refine lv_iload_n hx hb dX5_isFigure_6 rfl (lv_at hl 0 rfl) ?_
    refine lv_bipush (v := (57 : Int32)) hx hb dX5_isFigure_7 (by decide) ?_
    refine lv_icmp_gt (tgt := 16) hx hb dX5_isFigure_9 (by decide) (fun c9 => ?_) (fun c9 => ?_)
    · have hf := c_t hf c9
      refine lv_iconst (v := (0 : Int32)) hx hb dX5_isFigure_16 (by decide) ?_
      obtain rfl := Option.some.inj hf
      exact kr _ _ nb0 dX5_isFigure_17
    · have hf := c_f hf c9
      refine lv_iconst (v := (1 : Int32)) hx hb dX5_isFigure_12 (by decide) ?_
      refine lv_goto (tgt := 17) hx hb dX5_isFigure_13 (by decide) ?_
      obtain rfl := Option.some.inj hf
      exact kr _ _ nb1 dX5_isFigure_17
end SX5_isFigure
set_option maxHeartbeats 4000000 in
set_option maxRecDepth 100000 in
theorem tX5_isFigure (l : Launch) (G : GG) (v0 : Int32) (res : Int32) (hf : fX5_isFigure v0 = some res) : MRi l yX5_isFigure wsX5_isFigure rmX5_isFigure G [.int v0] [] (res) := MRi.of (plainFor_of_name (by decide +kernel)) rfl (Nat.le_of_ble_eq_true rfl) (fun p e s m below meth c C hP ls hl => kX5_isFigure v0 C hP (fun pc ls hn d => rRz C hn d) hf hl)
def fX5_placeBehindFigures_L2 (k33 : Int32 → Option (Int32)) (c_text_length : Int32) (c_text_letters : Nat → Int32) : Nat → Int32 → Option (Int32)
  | 0, _ => none
  | n + 1, v2 => if c_text_length ≤ v2 then k33 v2 else (fX1_at c_text_length c_text_letters v2).bind (fun u1 => (fX5_isFigure u1).bind (fun u2 => if u2 = 0 then k33 v2 else fX5_placeBehindFigures_L2 k33 c_text_length c_text_letters n (v2 + (1 : Int32))))
def fX5_placeBehindFigures (c_text_length : Int32) (c_text_letters : Nat → Int32) (v1 : Int32) : Option (Int32) := (fX5_placeBehindFigures_L2 (fun (v2_x3 : Int32) => some (v2_x3)) c_text_length c_text_letters FU v1)
theorem iX5_placeBehindFigures_1 : ∀ w ∈ wsX10, w ∈ wsX5_placeBehindFigures := fun w h => List.mem_cons_of_mem _ (List.mem_append_right _ (h))
theorem iX5_placeBehindFigures_5 : ∀ w ∈ wsX50, w ∈ wsX5_placeBehindFigures := fun w h => List.mem_cons_of_mem _ (List.mem_append_left _ (List.mem_append_right _ (h)))
theorem hdX5_placeBehindFigures : yX5_placeBehindFigures.cls = RX5 ∧ yX5_placeBehindFigures.cls ≠ "java/lang/invoke/MethodHandle" ∧ yX5_placeBehindFigures.cls ≠ "java/lang/invoke/VarHandle" ∧ (parseMethodDescriptor yX5_placeBehindFigures.desc).map (fun d => d.parameters.length) = some 1 := by decide +kernel
abbrev rmX5_placeBehindFigures : Room := { frames := 1, cells := 0, slots := 0, locals := 21 }
section SX5_placeBehindFigures
variable {p : Program} {l : Launch} {e : Env} {s : State} {m : MethodId} {args : Array Value} {below : List Frame} {meth : Method} {c : Code} {Q : State → Prop} {G : GG}
set_option maxHeartbeats 4000000 in
set_option maxRecDepth 100000 in
theorem kX5_placeBehindFigures_L2 (h_this : Nat) (h_text : Nat) (h_draft : Nat) (h_text_letters : Nat) (c_kind : Int32) (c_from : Int32) (c_to : Int32) (c_hasHooks : Int32) (c_hasTies : Int32) (c_cardsTold : Int32) (c_text_length : Int32) (c_text_letters : Nat → Int32) (C : Cx cX5_placeBehindFigures (some .int) 3 RX5 wsX5_placeBehindFigures G p s m args meth c) (hP : va_P G.1 CL [(h_this, .inr (5, [.ref h_text, .ref h_draft, .int c_kind, .int c_from, .int c_to, .int c_hasHooks, .int c_hasTies, .int c_cardsTold])), (h_text, .inr (1, [.int c_text_length, .ref h_text_letters])), (h_text_letters, .inl (G.2 0, 120, .inl c_text_letters))] s.heap) {res : Int32} (kr : ∀ (pc : Nat) (ls : Array Slot), decode cX5_placeBehindFigures pc = .ok (.ireturn, 1) → W p l e rmX5_placeBehindFigures s m args below meth c s.heap [] 0 0 Q (F0 m pc ls [.int res])) {k33 : Int32 → Option (Int32)} (hk33 : ∀ (v2 : Int32) , k33 v2 = some res → ∀ (ls : Array Slot), lv_has ls 3 [(2, .int v2)] → W p l e rmX5_placeBehindFigures s m args below meth c s.heap [] 0 0 Q (F0 m 33 ls [])) : ∀ (n : Nat) (v2 : Int32), fX5_placeBehindFigures_L2 k33 c_text_length c_text_letters n v2 = some res → ∀ (ls : Array Slot), lv_has ls 3 [(0, .ref h_this), (2, .int v2)] → W p l e rmX5_placeBehindFigures s m args below meth c s.heap [] 0 0 Q (F0 m 2 ls []) := by
  obtain ⟨hx, hb, hr, hlk, hml, hown, hts, hK⟩ := id C
  intro n
  induction n with
  | zero =>
    intro v2 hf
    cases hf
  | succ n ih =>
    intro v2 hf ls hl
    rw [fX5_placeBehindFigures_L2] at hf
    refine lv_iload_n hx hb dX5_placeBehindFigures_2 rfl (lv_at hl 1 rfl) ?_
    refine lv_aload_n hx hb dX5_placeBehindFigures_3 rfl (lv_at hl 0 rfl) ?_
    refine va_get (D := G.1) (cl := CL) (ci := 5) (C := RX5) (T := TX5) (N := 8) hx hb hts iX5_placeBehindFigures_5 hown hK hP 0 rfl rfl 0 (by decide) (hts (.fieldLink RX5 12 "LoomCards$Teller" "text" "LLoomCards$Letters;") (List.mem_of_getElem? (i := 1) rfl)) (fun _ h9 => h9) rfl dX5_placeBehindFigures_4 ?_
    refine va_get (D := G.1) (cl := CL) (ci := 1) (C := RX1) (T := TX1) (N := 2) hx hb hts iX5_placeBehindFigures_1 hown hK hP 1 rfl rfl 0 (by decide) (hts (.fieldLink RX5 136 "LoomCards$Letters" "length" "I") (List.mem_of_getElem? (i := 2) rfl)) (fun _ h9 => h9) rfl dX5_placeBehindFigures_7 ?_
    refine lv_icmp_ge (tgt := 33) hx hb dX5_placeBehindFigures_10 (by decide) (fun c9 => ?_) (fun c9 => ?_)
    · have hf := c_t hf c9
      exact hk33 v2 hf _ (lv_sub hl [1] rfl)
    · have hf := c_f hf c9
      refine lv_aload_n hx hb dX5_placeBehindFigures_13 rfl (lv_at hl 0 rfl) ?_
      refine va_get (D := G.1) (cl := CL) (ci := 5) (C := RX5) (T := TX5) (N := 8) hx hb hts iX5_placeBehindFigures_5 hown hK hP 0 rfl rfl 0 (by decide) (hts (.fieldLink RX5 12 "LoomCards$Teller" "text" "LLoomCards$Letters;") (List.mem_of_getElem? (i := 1) rfl)) (fun _ h9 => h9) rfl dX5_placeBehindFigures_14 ?_
      refine lv_iload_n hx hb dX5_placeBehindFigures_17 rfl (lv_at hl 1 rfl) ?_
      refine r_bind hf (fun u1 hu1 hf => ?_)
      refine cRiV (ci := 1) (rest := []) ⟨hx, hb, hml, hown, hts⟩ hK (tX1_at l G h_text h_text_letters c_text_length c_text_letters v2 u1 hu1) gX5_placeBehindFigures_X1_at rfl hdX1_at rfl rfl rfl ⟨Nat.le_of_ble_eq_true rfl, Nat.le_of_ble_eq_true rfl⟩ hP [1, 2] rfl 1 rfl rfl rfl hl.1 (Nat.le_of_ble_eq_true rfl) rfl dX5_placeBehindFigures_18 ⟨Nat.zero_le _, Nat.zero_le _⟩ ?_
      refine r_bind hf (fun u2 hu2 hf => ?_)
      refine cRiS (rest := []) ⟨hx, hb, hml, hown, hts⟩ hK (tX5_isFigure l G u1 u2 hu2) gX5_placeBehindFigures_X5_isFigure rfl hdX5_isFigure rfl rfl rfl ⟨Nat.le_of_ble_eq_true rfl, Nat.le_of_ble_eq_true rfl⟩ hP [] rfl hl.1 (Nat.le_of_ble_eq_true rfl) rfl dX5_placeBehindFigures_21 ⟨Nat.zero_le _, Nat.zero_le _⟩ ?_
      refine lv_if_eq (tgt := 33) hx hb dX5_placeBehindFigures_24 (by decide) (fun c9 => ?_) (fun c9 => ?_)
      · have hf := c_t hf c9
        exact hk33 v2 hf _ (lv_sub hl [1] rfl)
      · have hf := c_f hf c9
        refine lv_iinc (v := (v2 + (1 : Int32))) (lv' := [(2, .int (v2 + (1 : Int32))), (0, .ref h_this)]) hx hb dX5_placeBehindFigures_27 hl (k := 1) rfl rfl (by decide) rfl (fun ls hl => ?_)
        refine lv_goto (tgt := 2) hx hb dX5_placeBehindFigures_30 (by decide) ?_
        exact ih (v2 + (1 : Int32)) hf _ (lv_sub hl [1, 0] rfl)
set_option maxHeartbeats 4000000 in
set_option maxRecDepth 100000 in
theorem kX5_placeBehindFigures (h_this : Nat) (h_text : Nat) (h_draft : Nat) (h_text_letters : Nat) (c_kind : Int32) (c_from : Int32) (c_to : Int32) (c_hasHooks : Int32) (c_hasTies : Int32) (c_cardsTold : Int32) (c_text_length : Int32) (c_text_letters : Nat → Int32) (v1 : Int32) (C : Cx cX5_placeBehindFigures (some .int) 3 RX5 wsX5_placeBehindFigures G p s m args meth c) (hP : va_P G.1 CL [(h_this, .inr (5, [.ref h_text, .ref h_draft, .int c_kind, .int c_from, .int c_to, .int c_hasHooks, .int c_hasTies, .int c_cardsTold])), (h_text, .inr (1, [.int c_text_length, .ref h_text_letters])), (h_text_letters, .inl (G.2 0, 120, .inl c_text_letters))] s.heap) {res : Int32} (kr : ∀ (pc : Nat) (ls : Array Slot), decode cX5_placeBehindFigures pc = .ok (.ireturn, 1) → W p l e rmX5_placeBehindFigures s m args below meth c s.heap [] 0 0 Q (F0 m pc ls [.int res])) (hf : fX5_placeBehindFigures c_text_length c_text_letters v1 = some res) {ls : Array Slot} (hl : lv_has ls 3 [(0, .ref h_this), (1, .int v1)]) : W p l e rmX5_placeBehindFigures s m args below meth c s.heap [] 0 0 Q (F0 m 0 ls []) := by
  obtain ⟨hx, hb, hr, hlk, hml, hown, hts, hK⟩ := id C
  rw [fX5_placeBehindFigures] at hf
  refine lv_iload_n hx hb dX5_placeBehindFigures_0 rfl (lv_at hl 1 rfl) ?_
  refine lv_istore_n (lv' := [(2, .int v1), (0, .ref h_this), (1, .int v1)]) hx hb dX5_placeBehindFigures_1 rfl hl (by decide) rfl (fun ls hl => ?_)
  refine kX5_placeBehindFigures_L2 h_this h_text h_draft h_text_letters c_kind c_from c_to c_hasHooks c_hasTies c_cardsTold c_text_length c_text_letters C hP kr ?_ FU v1 hf _ (lv_sub hl [1, 0] rfl)
  intro v2_x3 hf ls hl
  refine lv_iload_n hx hb dX5_placeBehindFigures_33 rfl (lv_at hl 0 rfl) ?_
  obtain rfl := Option.some.inj hf
  exact kr _ _ dX5_placeBehindFigures_34
end SX5_placeBehindFigures
set_option maxHeartbeats 4000000 in
set_option maxRecDepth 100000 in
theorem tX5_placeBehindFigures (l : Launch) (G : GG) (h_this : Nat) (h_text : Nat) (h_draft : Nat) (h_text_letters : Nat) (c_kind : Int32) (c_from : Int32) (c_to : Int32) (c_hasHooks : Int32) (c_hasTies : Int32) (c_cardsTold : Int32) (c_text_length : Int32) (c_text_letters : Nat → Int32) (v1 : Int32) (res : Int32) (hf : fX5_placeBehindFigures c_text_length c_text_letters v1 = some res) : MRi l yX5_placeBehindFigures wsX5_placeBehindFigures rmX5_placeBehindFigures G [.ref h_this, .int v1] [(h_this, .inr (5, [.ref h_text, .ref h_draft, .int c_kind, .int c_from, .int c_to, .int c_hasHooks, .int c_hasTies, .int c_cardsTold])), (h_text, .inr (1, [.int c_text_length, .ref h_text_letters])), (h_text_letters, .inl (G.2 0, 120, .inl c_text_letters))] (res) := MRi.of (plainFor_of_name (by decide +kernel)) rfl (Nat.le_of_ble_eq_true rfl) (fun p e s m below meth c C hP ls hl => kX5_placeBehindFigures h_this h_text h_draft h_text_letters c_kind c_from c_to c_hasHooks c_hasTies c_cardsTold c_text_length c_text_letters v1 C hP (fun pc ls d => rRi C d) hf hl)
def fX5_isWordLetter  (v0 : Int32) : Option (Int32) := if v0 < (97 : Int32) then some ((0 : Int32)) else if (122 : Int32) < v0 then some ((0 : Int32)) else some ((1 : Int32))
theorem hdX5_isWordLetter : yX5_isWordLetter.cls ≠ "java/lang/invoke/MethodHandle" ∧ yX5_isWordLetter.cls ≠ "java/lang/invoke/VarHandle" ∧ (parseMethodDescriptor yX5_isWordLetter.desc).map (fun d => d.parameters.length) = some 1 := by decide +kernel
abbrev rmX5_isWordLetter : Room := { frames := 0, cells := 0, slots := 0, locals := 0 }
section SX5_isWordLetter
variable {p : Program} {l : Launch} {e : Env} {s : State} {m : MethodId} {args : Array Value} {below : List Frame} {meth : Method} {c : Code} {Q : State → Prop} {G : GG}
set_option maxHeartbeats 4000000 in
set_option maxRecDepth 100000 in
theorem kX5_isWordLetter (v0 : Int32) (C : Cx cX5_isWordLetter (some .boolean) 1 RX5 wsX5_isWordLetter G p s m args meth c) (hP : va_P G.1 CL [] s.heap) {res : Int32} (kr : ∀ (pc : Nat) (ls : Array Slot), narrow .boolean (.int res) = .int res → decode cX5_isWordLetter pc = .ok (.ireturn, 1) → W p l e rmX5_isWordLetter s m args below meth c s.heap [] 0 0 Q (F0 m pc ls [.int res])) (hf : fX5_isWordLetter v0 = some res) {ls : Array Slot} (hl : lv_has ls 1 [(0, .int v0)]) : W p l e rmX5_isWordLetter s m args below meth c s.heap [] 0 0 Q (F0 m 0 ls []) := by
  obtain ⟨hx, hb, hr, hlk, hml, hown, hts, hK⟩ := id C
  rw [fX5_isWordLetter] at hf
  refine lv_iload_n hx hb dX5_isWordLetter_0 rfl (lv_at hl 0 rfl) ?_
  refine lv_bipush (v := (97 : Int32)) hx hb dX5_isWordLetter_1 (by decide) ?_
  refine lv_icmp_lt (tgt := 16) hx hb dX5_isWordLetter_3 (by decide) (fun c9 => ?_) (fun c9 => ?_)
  · have hf := c_t hf c9
    refine lv_iconst (v := (0 : Int32)) hx hb dX5_isWordLetter_16 (by decide) ?_
    obtain rfl := Option.some.inj hf
    exact kr _ _ nb0 dX5_isWordLetter_17
  · have hf := c_f hf c9
    refine lv_iload_n hx hb dX5_isWordLetter_6 rfl (lv_at hl 0 rfl) ?_
    refine lv_bipush (v := (122 : Int32)) hx hb dX5_isWordLetter_7 (by decide) ?_
    refine lv_icmp_gt (tgt := 16) hx hb dX5_isWordLetter_9 (by decide) (fun c9 => ?_) (fun c9 => ?_)
    · have hf := c_t hf c9
      refine lv_iconst (v := (0 : Int32)) hx hb dX5_isWordLetter_16 (by decide) ?_
      obtain rfl := Option.some.inj hf
      exact kr _ _ nb0 dX5_isWordLetter_17
    · have hf := c_f hf c9
      refine lv_iconst (v := (1 : Int32)) hx hb dX5_isWordLetter_12 (by decide) ?_
      refine lv_goto (tgt := 17) hx hb dX5_isWordLetter_13 (by decide) ?_
      obtain rfl := Option.some.inj hf
      exact kr _ _ nb1 dX5_isWordLetter_17
end SX5_isWordLetter
set_option maxHeartbeats 4000000 in
set_option maxRecDepth 100000 in
theorem tX5_isWordLetter (l : Launch) (G : GG) (v0 : Int32) (res : Int32) (hf : fX5_isWordLetter v0 = some res) : MRi l yX5_isWordLetter wsX5_isWordLetter rmX5_isWordLetter G [.int v0] [] (res) := MRi.of (plainFor_of_name (by decide +kernel)) rfl (Nat.le_of_ble_eq_true rfl) (fun p e s m below meth c C hP ls hl => kX5_isWordLetter v0 C hP (fun pc ls hn d => rRz C hn d) hf hl)
def fX5_placeBehindWord_L2 (k33 : Int32 → Option (Int32)) (c_text_length : Int32) (c_text_letters : Nat → Int32) : Nat → Int32 → Option (Int32)
  | 0, _ => none
  | n + 1, v2 => if c_text_length ≤ v2 then k33 v2 else (fX1_at c_text_length c_text_letters v2).bind (fun u1 => (fX5_isWordLetter u1).bind (fun u2 => if u2 = 0 then k33 v2 else fX5_placeBehindWord_L2 k33 c_text_length c_text_letters n (v2 + (1 : Int32))))
def fX5_placeBehindWord (c_text_length : Int32) (c_text_letters : Nat → Int32) (v1 : Int32) : Option (Int32) := (fX5_placeBehindWord_L2 (fun (v2_x3 : Int32) => some (v2_x3)) c_text_length c_text_letters FU v1)
theorem iX5_placeBehindWord_1 : ∀ w ∈ wsX10, w ∈ wsX5_placeBehindWord := fun w h => List.mem_cons_of_mem _ (List.mem_append_right _ (h))
theorem iX5_placeBehindWord_5 : ∀ w ∈ wsX50, w ∈ wsX5_placeBehindWord := fun w h => List.mem_cons_of_mem _ (List.mem_append_left _ (List.mem_append_right _ (h)))
theorem hdX5_placeBehindWord : yX5_placeBehindWord.cls = RX5 ∧ yX5_placeBehindWord.cls ≠ "java/lang/invoke/MethodHandle" ∧ yX5_placeBehindWord.cls ≠ "java/lang/invoke/VarHandle" ∧ (parseMethodDescriptor yX5_placeBehindWord.desc).map (fun d => d.parameters.length) = some 1 := by decide +kernel
abbrev rmX5_placeBehindWord : Room := { frames := 1, cells := 0, slots := 0, locals := 21 }
section SX5_placeBehindWord
variable {p : Program} {l : Launch} {e : Env} {s : State} {m : MethodId} {args : Array Value} {below : List Frame} {meth : Method} {c : Code} {Q : State → Prop} {G : GG}
set_option maxHeartbeats 4000000 in
set_option maxRecDepth 100000 in
theorem kX5_placeBehindWord_L2 (h_this : Nat) (h_text : Nat) (h_draft : Nat) (h_text_letters : Nat) (c_kind : Int32) (c_from : Int32) (c_to : Int32) (c_hasHooks : Int32) (c_hasTies : Int32) (c_cardsTold : Int32) (c_text_length : Int32) (c_text_letters : Nat → Int32) (C : Cx cX5_placeBehindWord (some .int) 3 RX5 wsX5_placeBehindWord G p s m args meth c) (hP : va_P G.1 CL [(h_this, .inr (5, [.ref h_text, .ref h_draft, .int c_kind, .int c_from, .int c_to, .int c_hasHooks, .int c_hasTies, .int c_cardsTold])), (h_text, .inr (1, [.int c_text_length, .ref h_text_letters])), (h_text_letters, .inl (G.2 0, 120, .inl c_text_letters))] s.heap) {res : Int32} (kr : ∀ (pc : Nat) (ls : Array Slot), decode cX5_placeBehindWord pc = .ok (.ireturn, 1) → W p l e rmX5_placeBehindWord s m args below meth c s.heap [] 0 0 Q (F0 m pc ls [.int res])) {k33 : Int32 → Option (Int32)} (hk33 : ∀ (v2 : Int32) , k33 v2 = some res → ∀ (ls : Array Slot), lv_has ls 3 [(2, .int v2)] → W p l e rmX5_placeBehindWord s m args below meth c s.heap [] 0 0 Q (F0 m 33 ls [])) : ∀ (n : Nat) (v2 : Int32), fX5_placeBehindWord_L2 k33 c_text_length c_text_letters n v2 = some res → ∀ (ls : Array Slot), lv_has ls 3 [(0, .ref h_this), (2, .int v2)] → W p l e rmX5_placeBehindWord s m args below meth c s.heap [] 0 0 Q (F0 m 2 ls []) := by
  obtain ⟨hx, hb, hr, hlk, hml, hown, hts, hK⟩ := id C
  intro n
  induction n with
  | zero =>
    intro v2 hf
    cases hf
  | succ n ih =>
    intro v2 hf ls hl
    rw [fX5_placeBehindWord_L2] at hf
    refine lv_iload_n hx hb dX5_placeBehindWord_2 rfl (lv_at hl 1 rfl) ?_
    refine lv_aload_n hx hb dX5_placeBehindWord_3 rfl (lv_at hl 0 rfl) ?_
    refine va_get (D := G.1) (cl := CL) (ci := 5) (C := RX5) (T := TX5) (N := 8) hx hb hts iX5_placeBehindWord_5 hown hK hP 0 rfl rfl 0 (by decide) (hts (.fieldLink RX5 12 "LoomCards$Teller" "text" "LLoomCards$Letters;") (List.mem_of_getElem? (i := 1) rfl)) (fun _ h9 => h9) rfl dX5_placeBehindWord_4 ?_
    refine va_get (D := G.1) (cl := CL) (ci := 1) (C := RX1) (T := TX1) (N := 2) hx hb hts iX5_placeBehindWord_1 hown hK hP 1 rfl rfl 0 (by decide) (hts (.fieldLink RX5 136 "LoomCards$Letters" "length" "I") (List.mem_of_getElem? (i := 2) rfl)) (fun _ h9 => h9) rfl dX5_placeBehindWord_7 ?_
    refine lv_icmp_ge (tgt := 33) hx hb dX5_placeBehindWord_10 (by decide) (fun c9 => ?_) (fun c9 => ?_)
    · have hf := c_t hf c9
      exact hk33 v2 hf _ (lv_sub hl [1] rfl)
    · have hf := c_f hf c9
      refine lv_aload_n hx hb dX5_placeBehindWord_13 rfl (lv_at hl 0 rfl) ?_
      refine va_get (D := G.1) (cl := CL) (ci := 5) (C := RX5) (T := TX5) (N := 8) hx hb hts iX5_placeBehindWord_5 hown hK hP 0 rfl rfl 0 (by decide) (hts (.fieldLink RX5 12 "LoomCards$Teller" "text" "LLoomCards$Letters;") (List.mem_of_getElem? (i := 1) rfl)) (fun _ h9 => h9) rfl dX5_placeBehindWord_14 ?_
      refine lv_iload_n hx hb dX5_placeBehindWord_17 rfl (lv_at hl 1 rfl) ?_
      refine r_bind hf (fun u1 hu1 hf => ?_)
      refine cRiV (ci := 1) (rest := []) ⟨hx, hb, hml, hown, hts⟩ hK (tX1_at l G h_text h_text_letters c_text_length c_text_letters v2 u1 hu1) gX5_placeBehindWord_X1_at rfl hdX1_at rfl rfl rfl ⟨Nat.le_of_ble_eq_true rfl, Nat.le_of_ble_eq_true rfl⟩ hP [1, 2] rfl 1 rfl rfl rfl hl.1 (Nat.le_of_ble_eq_true rfl) rfl dX5_placeBehindWord_18 ⟨Nat.zero_le _, Nat.zero_le _⟩ ?_
      refine r_bind hf (fun u2 hu2 hf => ?_)
      refine cRiS (rest := []) ⟨hx, hb, hml, hown, hts⟩ hK (tX5_isWordLetter l G u1 u2 hu2) gX5_placeBehindWord_X5_isWordLetter rfl hdX5_isWordLetter rfl rfl rfl ⟨Nat.le_of_ble_eq_true rfl, Nat.le_of_ble_eq_true rfl⟩ hP [] rfl hl.1 (Nat.le_of_ble_eq_true rfl) rfl dX5_placeBehindWord_21 ⟨Nat.zero_le _, Nat.zero_le _⟩ ?_
      refine lv_if_eq (tgt := 33) hx hb dX5_placeBehindWord_24 (by decide) (fun c9 => ?_) (fun c9 => ?_)
      · have hf := c_t hf c9
        exact hk33 v2 hf _ (lv_sub hl [1] rfl)
      · have hf := c_f hf c9
        refine lv_iinc (v := (v2 + (1 : Int32))) (lv' := [(2, .int (v2 + (1 : Int32))), (0, .ref h_this)]) hx hb dX5_placeBehindWord_27 hl (k := 1) rfl rfl (by decide) rfl (fun ls hl => ?_)
        refine lv_goto (tgt := 2) hx hb dX5_placeBehindWord_30 (by decide) ?_
        exact ih (v2 + (1 : Int32)) hf _ (lv_sub hl [1, 0] rfl)
set_option maxHeartbeats 4000000 in
set_option maxRecDepth 100000 in
theorem kX5_placeBehindWord (h_this : Nat) (h_text : Nat) (h_draft : Nat) (h_text_letters : Nat) (c_kind : Int32) (c_from : Int32) (c_to : Int32) (c_hasHooks : Int32) (c_hasTies : Int32) (c_cardsTold : Int32) (c_text_length : Int32) (c_text_letters : Nat → Int32) (v1 : Int32) (C : Cx cX5_placeBehindWord (some .int) 3 RX5 wsX5_placeBehindWord G p s m args meth c) (hP : va_P G.1 CL [(h_this, .inr (5, [.ref h_text, .ref h_draft, .int c_kind, .int c_from, .int c_to, .int c_hasHooks, .int c_hasTies, .int c_cardsTold])), (h_text, .inr (1, [.int c_text_length, .ref h_text_letters])), (h_text_letters, .inl (G.2 0, 120, .inl c_text_letters))] s.heap) {res : Int32} (kr : ∀ (pc : Nat) (ls : Array Slot), decode cX5_placeBehindWord pc = .ok (.ireturn, 1) → W p l e rmX5_placeBehindWord s m args below meth c s.heap [] 0 0 Q (F0 m pc ls [.int res])) (hf : fX5_placeBehindWord c_text_length c_text_letters v1 = some res) {ls : Array Slot} (hl : lv_has ls 3 [(0, .ref h_this), (1, .int v1)]) : W p l e rmX5_placeBehindWord s m args below meth c s.heap [] 0 0 Q (F0 m 0 ls []) := by
  obtain ⟨hx, hb, hr, hlk, hml, hown, hts, hK⟩ := id C
  rw [fX5_placeBehindWord] at hf
  refine lv_iload_n hx hb dX5_placeBehindWord_0 rfl (lv_at hl 1 rfl) ?_
  refine lv_istore_n (lv' := [(2, .int v1), (0, .ref h_this), (1, .int v1)]) hx hb dX5_placeBehindWord_1 rfl hl (by decide) rfl (fun ls hl => ?_)
  refine kX5_placeBehindWord_L2 h_this h_text h_draft h_text_letters c_kind c_from c_to c_hasHooks c_hasTies c_cardsTold c_text_length c_text_letters C hP kr ?_ FU v1 hf _ (lv_sub hl [1, 0] rfl)
  intro v2_x3 hf ls hl
  refine lv_iload_n hx hb dX5_placeBehindWord_33 rfl (lv_at hl 0 rfl) ?_
  obtain rfl := Option.some.inj hf
  exact kr _ _ dX5_placeBehindWord_34
end SX5_placeBehindWord
set_option maxHeartbeats 4000000 in
set_option maxRecDepth 100000 in
theorem tX5_placeBehindWord (l : Launch) (G : GG) (h_this : Nat) (h_text : Nat) (h_draft : Nat) (h_text_letters : Nat) (c_kind : Int32) (c_from : Int32) (c_to : Int32) (c_hasHooks : Int32) (c_hasTies : Int32) (c_cardsTold : Int32) (c_text_length : Int32) (c_text_letters : Nat → Int32) (v1 : Int32) (res : Int32) (hf : fX5_placeBehindWord c_text_length c_text_letters v1 = some res) : MRi l yX5_placeBehindWord wsX5_placeBehindWord rmX5_placeBehindWord G [.ref h_this, .int v1] [(h_this, .inr (5, [.ref h_text, .ref h_draft, .int c_kind, .int c_from, .int c_to, .int c_hasHooks, .int c_hasTies, .int c_cardsTold])), (h_text, .inr (1, [.int c_text_length, .ref h_text_letters])), (h_text_letters, .inl (G.2 0, 120, .inl c_text_letters))] (res) := MRi.of (plainFor_of_name (by decide +kernel)) rfl (Nat.le_of_ble_eq_true rfl) (fun p e s m below meth c C hP ls hl => kX5_placeBehindWord h_this h_text h_draft h_text_letters c_kind c_from c_to c_hasHooks c_hasTies c_cardsTold c_text_length c_text_letters v1 C hP (fun pc ls d => rRi C d) hf hl)
def fX5_kindOfWord (c_from : Int32) (c_to : Int32) (c_text_length : Int32) (c_text_letters : Nat → Int32)  : Option (Int32) := (fX1_isFrom c_text_length c_text_letters c_from c_to 0).bind (fun u1 => if u1 = 0 then (fX1_isFrom c_text_length c_text_letters c_from c_to 1).bind (fun u2 => if u2 = 0 then (fX1_isFrom c_text_length c_text_letters c_from c_to 2).bind (fun u3 => if u3 = 0 then (fX1_isFrom c_text_length c_text_letters c_from c_to 3).bind (fun u4 => if u4 = 0 then (fX1_isFrom c_text_length c_text_letters c_from c_to 4).bind (fun u5 => if u5 = 0 then some ((3 : Int32)) else some ((8 : Int32))) else some ((7 : Int32))) else some ((6 : Int32))) else some ((5 : Int32))) else some ((4 : Int32)))
theorem iX5_kindOfWord_1 : ∀ w ∈ wsX10, w ∈ wsX5_kindOfWord := fun w h => List.mem_cons_of_mem _ (List.mem_append_right _ (h))
theorem iX5_kindOfWord_5 : ∀ w ∈ wsX50, w ∈ wsX5_kindOfWord := fun w h => List.mem_cons_of_mem _ (List.mem_append_left _ (List.mem_append_right _ (h)))
theorem hdX5_kindOfWord : yX5_kindOfWord.cls = RX5 ∧ yX5_kindOfWord.cls ≠ "java/lang/invoke/MethodHandle" ∧ yX5_kindOfWord.cls ≠ "java/lang/invoke/VarHandle" ∧ (parseMethodDescriptor yX5_kindOfWord.desc).map (fun d => d.parameters.length) = some 0 := by decide +kernel
abbrev rmX5_kindOfWord : Room := { frames := 5, cells := 0, slots := 0, locals := 109 }
section SX5_kindOfWord
variable {p : Program} {l : Launch} {e : Env} {s : State} {m : MethodId} {args : Array Value} {below : List Frame} {meth : Method} {c : Code} {Q : State → Prop} {G : GG}
set_option maxHeartbeats 4000000 in
set_option maxRecDepth 100000 in
theorem kX5_kindOfWord (z : ZZ) (h_this : Nat) (h_text : Nat) (h_draft : Nat) (h_text_letters : Nat) (c_kind : Int32) (c_from : Int32) (c_to : Int32) (c_hasHooks : Int32) (c_hasTies : Int32) (c_cardsTold : Int32) (c_text_length : Int32) (c_text_letters : Nat → Int32) (C : Cx cX5_kindOfWord (some .int) 1 RX5 wsX5_kindOfWord G p s m args meth c) (hZ : SF z NoA s) (hP : va_P G.1 CL [(h_this, .inr (5, [.ref h_text, .ref h_draft, .int c_kind, .int c_from, .int c_to, .int c_hasHooks, .int c_hasTies, .int c_cardsTold])), (h_text, .inr (1, [.int c_text_length, .ref h_text_letters])), (h_text_letters, .inl (G.2 0, 120, .inl c_text_letters))] s.heap) {res : Int32} (kr : ∀ (pc : Nat) (ls : Array Slot), decode cX5_kindOfWord pc = .ok (.ireturn, 1) → W p l e rmX5_kindOfWord s m args below meth c s.heap [] 0 0 Q (F0 m pc ls [.int res])) (hf : fX5_kindOfWord c_from c_to c_text_length c_text_letters = some res) {ls : Array Slot} (hl : lv_has ls 1 [(0, .ref h_this)]) : W p l e rmX5_kindOfWord s m args below meth c s.heap [] 0 0 Q (F0 m 0 ls []) := by
  obtain ⟨hx, hb, hr, hlk, hml, hown, hts, hK⟩ := id C
  rw [fX5_kindOfWord] at hf
  refine lv_aload_n hx hb dX5_kindOfWord_0 rfl (lv_at hl 0 rfl) ?_
  refine va_get (D := G.1) (cl := CL) (ci := 5) (C := RX5) (T := TX5) (N := 8) hx hb hts iX5_kindOfWord_5 hown hK hP 0 rfl rfl 0 (by decide) (hts (.fieldLink RX5 12 "LoomCards$Teller" "text" "LLoomCards$Letters;") (List.mem_of_getElem? (i := 1) rfl)) (fun _ h9 => h9) rfl dX5_kindOfWord_1 ?_
  refine lv_aload_n hx hb dX5_kindOfWord_4 rfl (lv_at hl 0 rfl) ?_
  refine va_get (D := G.1) (cl := CL) (ci := 5) (C := RX5) (T := TX5) (N := 8) hx hb hts iX5_kindOfWord_5 hown hK hP 0 rfl rfl 3 (by decide) (hts (.fieldLink RX5 39 "LoomCards$Teller" "from" "I") (List.mem_of_getElem? (i := 2) rfl)) (fun _ h9 => h9) rfl dX5_kindOfWord_5 ?_
  refine lv_aload_n hx hb dX5_kindOfWord_8 rfl (lv_at hl 0 rfl) ?_
  refine va_get (D := G.1) (cl := CL) (ci := 5) (C := RX5) (T := TX5) (N := 8) hx hb hts iX5_kindOfWord_5 hown hK hP 0 rfl rfl 4 (by decide) (hts (.fieldLink RX5 43 "LoomCards$Teller" "to" "I") (List.mem_of_getElem? (i := 3) rfl)) (fun _ h9 => h9) rfl dX5_kindOfWord_9 ?_
  refine va_ldcS hx hb hown hZ.2.2.2.1 dX5_kindOfWord_12 ?_
  refine r_bind hf (fun u1 hu1 hf => ?_)
  refine cRiVZ (C := RX1) (rest := []) ⟨hx, hb, hml, hown, hts⟩ hK hZ va_S.rf (tX1_isFrom l G z h_text h_text_letters c_text_length c_text_letters c_from c_to 0 (by decide) u1 hu1) gX5_kindOfWord_X1_isFrom rfl hdX1_isFrom rfl rfl rfl ⟨Nat.le_of_ble_eq_true rfl, Nat.le_of_ble_eq_true rfl⟩ hP [1, 2] rfl (va_recv (ci := 1) (q0 := 1) hK hP rfl rfl) hl.1 (Nat.le_of_ble_eq_true rfl) rfl dX5_kindOfWord_14 ⟨Nat.zero_le _, Nat.zero_le _⟩ ?_
  refine lv_if_eq (tgt := 24) hx hb dX5_kindOfWord_17 (by decide) (fun c9 => ?_) (fun c9 => ?_)
  · have hf := c_t hf c9
    refine lv_aload_n hx hb dX5_kindOfWord_24 rfl (lv_at hl 0 rfl) ?_
    refine va_get (D := G.1) (cl := CL) (ci := 5) (C := RX5) (T := TX5) (N := 8) hx hb hts iX5_kindOfWord_5 hown hK hP 0 rfl rfl 0 (by decide) (hts (.fieldLink RX5 12 "LoomCards$Teller" "text" "LLoomCards$Letters;") (List.mem_of_getElem? (i := 1) rfl)) (fun _ h9 => h9) rfl dX5_kindOfWord_25 ?_
    refine lv_aload_n hx hb dX5_kindOfWord_28 rfl (lv_at hl 0 rfl) ?_
    refine va_get (D := G.1) (cl := CL) (ci := 5) (C := RX5) (T := TX5) (N := 8) hx hb hts iX5_kindOfWord_5 hown hK hP 0 rfl rfl 3 (by decide) (hts (.fieldLink RX5 39 "LoomCards$Teller" "from" "I") (List.mem_of_getElem? (i := 2) rfl)) (fun _ h9 => h9) rfl dX5_kindOfWord_29 ?_
    refine lv_aload_n hx hb dX5_kindOfWord_32 rfl (lv_at hl 0 rfl) ?_
    refine va_get (D := G.1) (cl := CL) (ci := 5) (C := RX5) (T := TX5) (N := 8) hx hb hts iX5_kindOfWord_5 hown hK hP 0 rfl rfl 4 (by decide) (hts (.fieldLink RX5 43 "LoomCards$Teller" "to" "I") (List.mem_of_getElem? (i := 3) rfl)) (fun _ h9 => h9) rfl dX5_kindOfWord_33 ?_
    refine va_ldcS hx hb hown hZ.2.2.2.2.1 dX5_kindOfWord_36 ?_
    refine r_bind hf (fun u2 hu2 hf => ?_)
    refine cRiVZ (C := RX1) (rest := []) ⟨hx, hb, hml, hown, hts⟩ hK hZ va_S.rf (tX1_isFrom l G z h_text h_text_letters c_text_length c_text_letters c_from c_to 1 (by decide) u2 hu2) gX5_kindOfWord_X1_isFrom rfl hdX1_isFrom rfl rfl rfl ⟨Nat.le_of_ble_eq_true rfl, Nat.le_of_ble_eq_true rfl⟩ hP [1, 2] rfl (va_recv (ci := 1) (q0 := 1) hK hP rfl rfl) hl.1 (Nat.le_of_ble_eq_true rfl) rfl dX5_kindOfWord_38 ⟨Nat.zero_le _, Nat.zero_le _⟩ ?_
    refine lv_if_eq (tgt := 48) hx hb dX5_kindOfWord_41 (by decide) (fun c9 => ?_) (fun c9 => ?_)
    · have hf := c_t hf c9
      refine lv_aload_n hx hb dX5_kindOfWord_48 rfl (lv_at hl 0 rfl) ?_
      refine va_get (D := G.1) (cl := CL) (ci := 5) (C := RX5) (T := TX5) (N := 8) hx hb hts iX5_kindOfWord_5 hown hK hP 0 rfl rfl 0 (by decide) (hts (.fieldLink RX5 12 "LoomCards$Teller" "text" "LLoomCards$Letters;") (List.mem_of_getElem? (i := 1) rfl)) (fun _ h9 => h9) rfl dX5_kindOfWord_49 ?_
      refine lv_aload_n hx hb dX5_kindOfWord_52 rfl (lv_at hl 0 rfl) ?_
      refine va_get (D := G.1) (cl := CL) (ci := 5) (C := RX5) (T := TX5) (N := 8) hx hb hts iX5_kindOfWord_5 hown hK hP 0 rfl rfl 3 (by decide) (hts (.fieldLink RX5 39 "LoomCards$Teller" "from" "I") (List.mem_of_getElem? (i := 2) rfl)) (fun _ h9 => h9) rfl dX5_kindOfWord_53 ?_
      refine lv_aload_n hx hb dX5_kindOfWord_56 rfl (lv_at hl 0 rfl) ?_
      refine va_get (D := G.1) (cl := CL) (ci := 5) (C := RX5) (T := TX5) (N := 8) hx hb hts iX5_kindOfWord_5 hown hK hP 0 rfl rfl 4 (by decide) (hts (.fieldLink RX5 43 "LoomCards$Teller" "to" "I") (List.mem_of_getElem? (i := 3) rfl)) (fun _ h9 => h9) rfl dX5_kindOfWord_57 ?_
      refine va_ldcS hx hb hown hZ.2.2.2.2.2.1 dX5_kindOfWord_60 ?_
      refine r_bind hf (fun u3 hu3 hf => ?_)
      refine cRiVZ (C := RX1) (rest := []) ⟨hx, hb, hml, hown, hts⟩ hK hZ va_S.rf (tX1_isFrom l G z h_text h_text_letters c_text_length c_text_letters c_from c_to 2 (by decide) u3 hu3) gX5_kindOfWord_X1_isFrom rfl hdX1_isFrom rfl rfl rfl ⟨Nat.le_of_ble_eq_true rfl, Nat.le_of_ble_eq_true rfl⟩ hP [1, 2] rfl (va_recv (ci := 1) (q0 := 1) hK hP rfl rfl) hl.1 (Nat.le_of_ble_eq_true rfl) rfl dX5_kindOfWord_62 ⟨Nat.zero_le _, Nat.zero_le _⟩ ?_
      refine lv_if_eq (tgt := 73) hx hb dX5_kindOfWord_65 (by decide) (fun c9 => ?_) (fun c9 => ?_)
      · have hf := c_t hf c9
        refine lv_aload_n hx hb dX5_kindOfWord_73 rfl (lv_at hl 0 rfl) ?_
        refine va_get (D := G.1) (cl := CL) (ci := 5) (C := RX5) (T := TX5) (N := 8) hx hb hts iX5_kindOfWord_5 hown hK hP 0 rfl rfl 0 (by decide) (hts (.fieldLink RX5 12 "LoomCards$Teller" "text" "LLoomCards$Letters;") (List.mem_of_getElem? (i := 1) rfl)) (fun _ h9 => h9) rfl dX5_kindOfWord_74 ?_
        refine lv_aload_n hx hb dX5_kindOfWord_77 rfl (lv_at hl 0 rfl) ?_
        refine va_get (D := G.1) (cl := CL) (ci := 5) (C := RX5) (T := TX5) (N := 8) hx hb hts iX5_kindOfWord_5 hown hK hP 0 rfl rfl 3 (by decide) (hts (.fieldLink RX5 39 "LoomCards$Teller" "from" "I") (List.mem_of_getElem? (i := 2) rfl)) (fun _ h9 => h9) rfl dX5_kindOfWord_78 ?_
        refine lv_aload_n hx hb dX5_kindOfWord_81 rfl (lv_at hl 0 rfl) ?_
        refine va_get (D := G.1) (cl := CL) (ci := 5) (C := RX5) (T := TX5) (N := 8) hx hb hts iX5_kindOfWord_5 hown hK hP 0 rfl rfl 4 (by decide) (hts (.fieldLink RX5 43 "LoomCards$Teller" "to" "I") (List.mem_of_getElem? (i := 3) rfl)) (fun _ h9 => h9) rfl dX5_kindOfWord_82 ?_
        refine va_ldcS hx hb hown hZ.2.2.2.2.2.2.1 dX5_kindOfWord_85 ?_
        refine r_bind hf (fun u4 hu4 hf => ?_)
        refine cRiVZ (C := RX1) (rest := []) ⟨hx, hb, hml, hown, hts⟩ hK hZ va_S.rf (tX1_isFrom l G z h_text h_text_letters c_text_length c_text_letters c_from c_to 3 (by decide) u4 hu4) gX5_kindOfWord_X1_isFrom rfl hdX1_isFrom rfl rfl rfl ⟨Nat.le_of_ble_eq_true rfl, Nat.le_of_ble_eq_true rfl⟩ hP [1, 2] rfl (va_recv (ci := 1) (q0 := 1) hK hP rfl rfl) hl.1 (Nat.le_of_ble_eq_true rfl) rfl dX5_kindOfWord_87 ⟨Nat.zero_le _, Nat.zero_le _⟩ ?_
        refine lv_if_eq (tgt := 98) hx hb dX5_kindOfWord_90 (by decide) (fun c9 => ?_) (fun c9 => ?_)
        · have hf := c_t hf c9
          refine lv_aload_n hx hb dX5_kindOfWord_98 rfl (lv_at hl 0 rfl) ?_
          refine va_get (D := G.1) (cl := CL) (ci := 5) (C := RX5) (T := TX5) (N := 8) hx hb hts iX5_kindOfWord_5 hown hK hP 0 rfl rfl 0 (by decide) (hts (.fieldLink RX5 12 "LoomCards$Teller" "text" "LLoomCards$Letters;") (List.mem_of_getElem? (i := 1) rfl)) (fun _ h9 => h9) rfl dX5_kindOfWord_99 ?_
          refine lv_aload_n hx hb dX5_kindOfWord_102 rfl (lv_at hl 0 rfl) ?_
          refine va_get (D := G.1) (cl := CL) (ci := 5) (C := RX5) (T := TX5) (N := 8) hx hb hts iX5_kindOfWord_5 hown hK hP 0 rfl rfl 3 (by decide) (hts (.fieldLink RX5 39 "LoomCards$Teller" "from" "I") (List.mem_of_getElem? (i := 2) rfl)) (fun _ h9 => h9) rfl dX5_kindOfWord_103 ?_
          refine lv_aload_n hx hb dX5_kindOfWord_106 rfl (lv_at hl 0 rfl) ?_
          refine va_get (D := G.1) (cl := CL) (ci := 5) (C := RX5) (T := TX5) (N := 8) hx hb hts iX5_kindOfWord_5 hown hK hP 0 rfl rfl 4 (by decide) (hts (.fieldLink RX5 43 "LoomCards$Teller" "to" "I") (List.mem_of_getElem? (i := 3) rfl)) (fun _ h9 => h9) rfl dX5_kindOfWord_107 ?_
          refine va_ldcS hx hb hown hZ.2.2.2.2.2.2.2 dX5_kindOfWord_110 ?_
          refine r_bind hf (fun u5 hu5 hf => ?_)
          refine cRiVZ (C := RX1) (rest := []) ⟨hx, hb, hml, hown, hts⟩ hK hZ va_S.rf (tX1_isFrom l G z h_text h_text_letters c_text_length c_text_letters c_from c_to 4 (by decide) u5 hu5) gX5_kindOfWord_X1_isFrom rfl hdX1_isFrom rfl rfl rfl ⟨Nat.le_of_ble_eq_true rfl, Nat.le_of_ble_eq_true rfl⟩ hP [1, 2] rfl (va_recv (ci := 1) (q0 := 1) hK hP rfl rfl) hl.1 (Nat.le_of_ble_eq_true rfl) rfl dX5_kindOfWord_112 ⟨Nat.zero_le _, Nat.zero_le _⟩ ?_
          refine lv_if_eq (tgt := 123) hx hb dX5_kindOfWord_115 (by decide) (fun c9 => ?_) (fun c9 => ?_)
          · have hf := c_t hf c9
            refine lv_iconst (v := (3 : Int32)) hx hb dX5_kindOfWord_123 (by decide) ?_
            obtain rfl := Option.some.inj hf
            exact kr _ _ dX5_kindOfWord_124
          · have hf := c_f hf c9
            refine lv_bipush (v := (8 : Int32)) hx hb dX5_kindOfWord_118 (by decide) ?_
            refine lv_goto (tgt := 124) hx hb dX5_kindOfWord_120 (by decide) ?_
            obtain rfl := Option.some.inj hf
            exact kr _ _ dX5_kindOfWord_124
        · have hf := c_f hf c9
          refine lv_bipush (v := (7 : Int32)) hx hb dX5_kindOfWord_93 (by decide) ?_
          refine lv_goto (tgt := 124) hx hb dX5_kindOfWord_95 (by decide) ?_
          obtain rfl := Option.some.inj hf
          exact kr _ _ dX5_kindOfWord_124
      · have hf := c_f hf c9
        refine lv_bipush (v := (6 : Int32)) hx hb dX5_kindOfWord_68 (by decide) ?_
        refine lv_goto (tgt := 124) hx hb dX5_kindOfWord_70 (by decide) ?_
        obtain rfl := Option.some.inj hf
        exact kr _ _ dX5_kindOfWord_124
    · have hf := c_f hf c9
      refine lv_iconst (v := (5 : Int32)) hx hb dX5_kindOfWord_44 (by decide) ?_
      refine lv_goto (tgt := 124) hx hb dX5_kindOfWord_45 (by decide) ?_
      obtain rfl := Option.some.inj hf
      exact kr _ _ dX5_kindOfWord_124
  · have hf := c_f hf c9
    refine lv_iconst (v := (4 : Int32)) hx hb dX5_kindOfWord_20 (by decide) ?_
    refine lv_goto (tgt := 124) hx hb dX5_kindOfWord_21 (by decide) ?_
    obtain rfl := Option.some.inj hf
    exact kr _ _ dX5_kindOfWord_124
end SX5_kindOfWord
set_option maxHeartbeats 4000000 in
set_option maxRecDepth 100000 in
theorem tX5_kindOfWord (l : Launch) (G : GG) (z : ZZ) (h_this : Nat) (h_text : Nat) (h_draft : Nat) (h_text_letters : Nat) (c_kind : Int32) (c_from : Int32) (c_to : Int32) (c_hasHooks : Int32) (c_hasTies : Int32) (c_cardsTold : Int32) (c_text_length : Int32) (c_text_letters : Nat → Int32) (res : Int32) (hf : fX5_kindOfWord c_from c_to c_text_length c_text_letters = some res) : MRiZ l yX5_kindOfWord wsX5_kindOfWord rmX5_kindOfWord G z [.ref h_this] [(h_this, .inr (5, [.ref h_text, .ref h_draft, .int c_kind, .int c_from, .int c_to, .int c_hasHooks, .int c_hasTies, .int c_cardsTold])), (h_text, .inr (1, [.int c_text_length, .ref h_text_letters])), (h_text_letters, .inl (G.2 0, 120, .inl c_text_letters))] (res) := MRiZ.of (plainFor_of_name (by decide +kernel)) rfl (Nat.le_of_ble_eq_true rfl) (fun p e s m below meth c C hZ hP ls hl => kX5_kindOfWord z h_this h_text h_draft h_text_letters c_kind c_from c_to c_hasHooks c_hasTies c_cardsTold c_text_length c_text_letters C hZ hP (fun pc ls d => rRi C d) hf hl)
def fX5_nextToken (c_kind : Int32) (c_from : Int32) (c_to : Int32) (c_text_length : Int32) (c_text_letters : Nat → Int32)  : Option (Int32 × Int32 × Int32) := (fX5_placeBehindBlanks c_text_length c_text_letters c_to).bind (fun u1 => (fX1_at c_text_length c_text_letters u1).bind (fun u2 => (fX5_isFigure u2).bind (fun u3 => if u3 = 0 then (fX5_isWordLetter u2).bind (fun u4 => if u4 = 0 then if u1 < c_text_length then jn (fun (j133_0 : Int32) => some (j133_0, u1, (u1 + (1 : Int32)))) (fun J133 => if u2 = (59 : Int32) then J133 (1 : Int32) else J133 (3 : Int32)) else some ((0 : Int32), u1, u1) else (fX5_placeBehindWord c_text_length c_text_letters u1).bind (fun u5 => (fX5_kindOfWord u1 u5 c_text_length c_text_letters).bind (fun u6 => some (u6, u1, u5)))) else (fX5_placeBehindFigures c_text_length c_text_letters u1).bind (fun u7 => some ((2 : Int32), u1, u7)))))
theorem iX5_nextToken_1 : ∀ w ∈ wsX10, w ∈ wsX5_nextToken := fun w h => List.mem_cons_of_mem _ (List.mem_append_right _ (h))
theorem iX5_nextToken_5 : ∀ w ∈ wsX50, w ∈ wsX5_nextToken := fun w h => List.mem_cons_of_mem _ (List.mem_append_left _ (List.mem_append_right _ (h)))
theorem hdX5_nextToken : yX5_nextToken.cls = RX5 ∧ yX5_nextToken.cls ≠ "java/lang/invoke/MethodHandle" ∧ yX5_nextToken.cls ≠ "java/lang/invoke/VarHandle" ∧ (parseMethodDescriptor yX5_nextToken.desc).map (fun d => d.parameters.length) = some 0 := by decide +kernel
abbrev rmX5_nextToken : Room := { frames := 6, cells := 0, slots := 0, locals := 129 }
section SX5_nextToken
variable {p : Program} {l : Launch} {e : Env} {s : State} {m : MethodId} {args : Array Value} {below : List Frame} {meth : Method} {c : Code} {Q : State → Prop} {G : GG} {A : Nat → Prop}
set_option maxHeartbeats 4000000 in
set_option maxRecDepth 100000 in
theorem kX5_nextToken (z : ZZ) (h_this : Nat) (h_text : Nat) (h_draft : Nat) (h_text_letters : Nat) (c_kind : Int32) (c_from : Int32) (c_to : Int32) (c_hasHooks : Int32) (c_hasTies : Int32) (c_cardsTold : Int32) (c_text_length : Int32) (c_text_letters : Nat → Int32) (C : Cx cX5_nextToken none 2 RX5 wsX5_nextToken G p s m args meth c) (hZ : SF z A s) (hA : ∀ q : Nat, s.heap.size ≤ q → A q) (hP : va_P G.1 CL [(h_this, .inr (5, [.ref h_text, .ref h_draft, .int c_kind, .int c_from, .int c_to, .int c_hasHooks, .int c_hasTies, .int c_cardsTold])), (h_text, .inr (1, [.int c_text_length, .ref h_text_letters])), (h_text_letters, .inl (G.2 0, 120, .inl c_text_letters))] s.heap) (hD : va_D A [(h_this, .inr (5, [.ref h_text, .ref h_draft, .int c_kind, .int c_from, .int c_to, .int c_hasHooks, .int c_hasTies, .int c_cardsTold])), (h_text, .inr (1, [.int c_text_length, .ref h_text_letters])), (h_text_letters, .inl (G.2 0, 120, .inl c_text_letters))]) (hS : va_S A s.heap s.heap []) {res : Int32 × Int32 × Int32} (kr : ∀ (pc : Nat) (ls : Array Slot) (H : Heap) (locs : List Loc), va_P G.1 CL [(h_this, .inr (5, [.ref h_text, .ref h_draft, .int (res.1), .int (res.2.1), .int (res.2.2), .int c_hasHooks, .int c_hasTies, .int c_cardsTold])), (h_text, .inr (1, [.int c_text_length, .ref h_text_letters])), (h_text_letters, .inl (G.2 0, 120, .inl c_text_letters))] H → va_D A [(h_this, .inr (5, [.ref h_text, .ref h_draft, .int (res.1), .int (res.2.1), .int (res.2.2), .int c_hasHooks, .int c_hasTies, .int c_cardsTold])), (h_text, .inr (1, [.int c_text_length, .ref h_text_letters])), (h_text_letters, .inl (G.2 0, 120, .inl c_text_letters))] → va_S A s.heap H locs → decode cX5_nextToken pc = .ok (.return_, 1) → W p l e rmX5_nextToken s m args below meth c H locs 0 0 Q (F0 m pc ls [])) (hf : fX5_nextToken c_kind c_from c_to c_text_length c_text_letters = some res) {ls : Array Slot} (hl : lv_has ls 2 [(0, .ref h_this)]) : W p l e rmX5_nextToken s m args below meth c s.heap [] 0 0 Q (F0 m 0 ls []) := by
  obtain ⟨hx, hb, hr, hlk, hml, hown, hts, hK⟩ := id C
  rw [fX5_nextToken] at hf
  refine lv_aload_n hx hb dX5_nextToken_0 rfl (lv_at hl 0 rfl) ?_
  refine lv_aload_n hx hb dX5_nextToken_1 rfl (lv_at hl 0 rfl) ?_
  refine lv_aload_n hx hb dX5_nextToken_2 rfl (lv_at hl 0 rfl) ?_
  refine va_get (D := G.1) (cl := CL) (ci := 5) (C := RX5) (T := TX5) (N := 8) hx hb hts iX5_nextToken_5 hown hK hP 0 rfl rfl 4 (by decide) (hts (.fieldLink RX5 43 "LoomCards$Teller" "to" "I") (List.mem_of_getElem? (i := 1) rfl)) (fun _ h9 => h9) rfl dX5_nextToken_3 ?_
  refine r_bind hf (fun u1 hu1 hf => ?_)
  refine cRiV (ci := 5) (rest := [.ref h_this]) ⟨hx, hb, hml, hown, hts⟩ hK (tX5_placeBehindBlanks l G h_this h_text h_draft h_text_letters c_kind c_from c_to c_hasHooks c_hasTies c_cardsTold c_text_length c_text_letters c_to u1 hu1) gX5_nextToken_X5_placeBehindBlanks rfl hdX5_placeBehindBlanks rfl rfl rfl ⟨Nat.le_of_ble_eq_true rfl, Nat.le_of_ble_eq_true rfl⟩ hP [0, 1, 2] rfl 0 rfl rfl rfl hl.1 (Nat.le_of_ble_eq_true rfl) rfl dX5_nextToken_6 ⟨Nat.zero_le _, Nat.zero_le _⟩ ?_
  refine va_put (D := G.1) (cl := CL) (ci := 5) (v := .int u1) (ty := .int) (C := RX5) (T := TX5) (N := 8) hx hb hts iX5_nextToken_5 tyX5 tyX5_ok nmX5 hown hK hP hD hS 0 rfl rfl 3 (by decide) (hts (.fieldLink RX5 39 "LoomCards$Teller" "from" "I") (List.mem_of_getElem? (i := 2) rfl)) (fun _ h9 => h9) rfl (tyX5_ok 3 (by decide)) rfl rfl (Nat.le_of_ble_eq_true rfl) dX5_nextToken_9 (fun H locs hP hD hS => ?_)
  have hP : va_P G.1 CL [(h_this, .inr (5, [.ref h_text, .ref h_draft, .int c_kind, .int u1, .int c_to, .int c_hasHooks, .int c_hasTies, .int c_cardsTold])), (h_text, .inr (1, [.int c_text_length, .ref h_text_letters])), (h_text_letters, .inl (G.2 0, 120, .inl c_text_letters))] H := hP
  have hD : va_D A [(h_this, .inr (5, [.ref h_text, .ref h_draft, .int c_kind, .int u1, .int c_to, .int c_hasHooks, .int c_hasTies, .int c_cardsTold])), (h_text, .inr (1, [.int c_text_length, .ref h_text_letters])), (h_text_letters, .inl (G.2 0, 120, .inl c_text_letters))] := hD
  refine lv_aload_n hx hb dX5_nextToken_12 rfl (lv_at hl 0 rfl) ?_
  refine va_get (D := G.1) (cl := CL) (ci := 5) (C := RX5) (T := TX5) (N := 8) hx hb hts iX5_nextToken_5 hown hK hP 0 rfl rfl 0 (by decide) (hts (.fieldLink RX5 12 "LoomCards$Teller" "text" "LLoomCards$Letters;") (List.mem_of_getElem? (i := 3) rfl)) (fun _ h9 => h9) rfl dX5_nextToken_13 ?_
  refine lv_aload_n hx hb dX5_nextToken_16 rfl (lv_at hl 0 rfl) ?_
  refine va_get (D := G.1) (cl := CL) (ci := 5) (C := RX5) (T := TX5) (N := 8) hx hb hts iX5_nextToken_5 hown hK hP 0 rfl rfl 3 (by decide) (hts (.fieldLink RX5 39 "LoomCards$Teller" "from" "I") (List.mem_of_getElem? (i := 2) rfl)) (fun _ h9 => h9) rfl dX5_nextToken_17 ?_
  refine r_bind hf (fun u2 hu2 hf => ?_)
  refine cRiV (ci := 1) (rest := []) ⟨hx, hb, hml, hown, hts⟩ hK (tX1_at l G h_text h_text_letters c_text_length c_text_letters u1 u2 hu2) gX5_nextToken_X1_at rfl hdX1_at rfl rfl rfl ⟨Nat.le_of_ble_eq_true rfl, Nat.le_of_ble_eq_true rfl⟩ hP [1, 2] rfl 1 rfl rfl rfl hl.1 (Nat.le_of_ble_eq_true rfl) rfl dX5_nextToken_20 ⟨Nat.zero_le _, Nat.zero_le _⟩ ?_
  refine lv_istore_n (lv' := [(1, .int u2), (0, .ref h_this)]) hx hb dX5_nextToken_23 rfl hl (by decide) rfl (fun ls hl => ?_)
  refine lv_iload_n hx hb dX5_nextToken_24 rfl (lv_at hl 0 rfl) ?_
  refine r_bind hf (fun u3 hu3 hf => ?_)
  refine cRiS (rest := []) ⟨hx, hb, hml, hown, hts⟩ hK (tX5_isFigure l G u2 u3 hu3) gX5_nextToken_X5_isFigure rfl hdX5_isFigure rfl rfl rfl ⟨Nat.le_of_ble_eq_true rfl, Nat.le_of_ble_eq_true rfl⟩ hP [] rfl hl.1 (Nat.le_of_ble_eq_true rfl) rfl dX5_nextToken_25 ⟨Nat.zero_le _, Nat.zero_le _⟩ ?_
  refine lv_if_eq (tgt := 51) hx hb dX5_nextToken_28 (by decide) (fun c9 => ?_) (fun c9 => ?_)
  · have hf := c_t hf c9
    refine lv_iload_n hx hb dX5_nextToken_51 rfl (lv_at hl 0 rfl) ?_
    refine r_bind hf (fun u4 hu4 hf => ?_)
    refine cRiS (rest := []) ⟨hx, hb, hml, hown, hts⟩ hK (tX5_isWordLetter l G u2 u4 hu4) gX5_nextToken_X5_isWordLetter rfl hdX5_isWordLetter rfl rfl rfl ⟨Nat.le_of_ble_eq_true rfl, Nat.le_of_ble_eq_true rfl⟩ hP [] rfl hl.1 (Nat.le_of_ble_eq_true rfl) rfl dX5_nextToken_52 ⟨Nat.zero_le _, Nat.zero_le _⟩ ?_
    refine lv_if_eq (tgt := 81) hx hb dX5_nextToken_55 (by decide) (fun c9 => ?_) (fun c9 => ?_)
    · have hf := c_t hf c9
      refine lv_aload_n hx hb dX5_nextToken_81 rfl (lv_at hl 1 rfl) ?_
      refine va_get (D := G.1) (cl := CL) (ci := 5) (C := RX5) (T := TX5) (N := 8) hx hb hts iX5_nextToken_5 hown hK hP 0 rfl rfl 3 (by decide) (hts (.fieldLink RX5 39 "LoomCards$Teller" "from" "I") (List.mem_of_getElem? (i := 2) rfl)) (fun _ h9 => h9) rfl dX5_nextToken_82 ?_
      refine lv_aload_n hx hb dX5_nextToken_85 rfl (lv_at hl 1 rfl) ?_
      refine va_get (D := G.1) (cl := CL) (ci := 5) (C := RX5) (T := TX5) (N := 8) hx hb hts iX5_nextToken_5 hown hK hP 0 rfl rfl 0 (by decide) (hts (.fieldLink RX5 12 "LoomCards$Teller" "text" "LLoomCards$Letters;") (List.mem_of_getElem? (i := 3) rfl)) (fun _ h9 => h9) rfl dX5_nextToken_86 ?_
      refine va_get (D := G.1) (cl := CL) (ci := 1) (C := RX1) (T := TX1) (N := 2) hx hb hts iX5_nextToken_1 hown hK hP 1 rfl rfl 0 (by decide) (hts (.fieldLink RX5 136 "LoomCards$Letters" "length" "I") (List.mem_of_getElem? (i := 5) rfl)) (fun _ h9 => h9) rfl dX5_nextToken_89 ?_
      refine lv_icmp_lt (tgt := 111) hx hb dX5_nextToken_92 (by decide) (fun c9 => ?_) (fun c9 => ?_)
      · have hf := c_t hf c9
        refine lv_aload_n hx hb dX5_nextToken_111 rfl (lv_at hl 1 rfl) ?_
        refine lv_aload_n hx hb dX5_nextToken_112 rfl (lv_at hl 1 rfl) ?_
        refine va_get (D := G.1) (cl := CL) (ci := 5) (C := RX5) (T := TX5) (N := 8) hx hb hts iX5_nextToken_5 hown hK hP 0 rfl rfl 3 (by decide) (hts (.fieldLink RX5 39 "LoomCards$Teller" "from" "I") (List.mem_of_getElem? (i := 2) rfl)) (fun _ h9 => h9) rfl dX5_nextToken_113 ?_
        refine lv_iconst (v := (1 : Int32)) hx hb dX5_nextToken_116 (by decide) ?_
        refine lv_iadd hx hb dX5_nextToken_117 ?_
        refine va_put (D := G.1) (cl := CL) (ci := 5) (v := .int (u1 + (1 : Int32))) (ty := .int) (C := RX5) (T := TX5) (N := 8) hx hb hts iX5_nextToken_5 tyX5 tyX5_ok nmX5 hown hK hP hD hS 0 rfl rfl 4 (by decide) (hts (.fieldLink RX5 43 "LoomCards$Teller" "to" "I") (List.mem_of_getElem? (i := 1) rfl)) (fun _ h9 => h9) rfl (tyX5_ok 4 (by decide)) rfl rfl (Nat.le_of_ble_eq_true rfl) dX5_nextToken_118 (fun H locs hP hD hS => ?_)
        have hP : va_P G.1 CL [(h_this, .inr (5, [.ref h_text, .ref h_draft, .int c_kind, .int u1, .int (u1 + (1 : Int32)), .int c_hasHooks, .int c_hasTies, .int c_cardsTold])), (h_text, .inr (1, [.int c_text_length, .ref h_text_letters])), (h_text_letters, .inl (G.2 0, 120, .inl c_text_letters))] H := hP
        have hD : va_D A [(h_this, .inr (5, [.ref h_text, .ref h_draft, .int c_kind, .int u1, .int (u1 + (1 : Int32)), .int c_hasHooks, .int c_hasTies, .int c_cardsTold])), (h_text, .inr (1, [.int c_text_length, .ref h_text_letters])), (h_text_letters, .inl (G.2 0, 120, .inl c_text_letters))] := hD
        refine lv_aload_n hx hb dX5_nextToken_121 rfl (lv_at hl 1 rfl) ?_
        refine lv_iload_n hx hb dX5_nextToken_122 rfl (lv_at hl 0 rfl) ?_
        refine lv_bipush (v := (59 : Int32)) hx hb dX5_nextToken_123 (by decide) ?_
        refine r_jn1 hf (fun J133 eJ133 hf => ?_)
        have hJ133 : ∀ (j133_0 : Int32) (H : Heap) (locs : List Loc), J133 j133_0 = some res → va_P G.1 CL [(h_this, .inr (5, [.ref h_text, .ref h_draft, .int c_kind, .int u1, .int (u1 + (1 : Int32)), .int c_hasHooks, .int c_hasTies, .int c_cardsTold])), (h_text, .inr (1, [.int c_text_length, .ref h_text_letters])), (h_text_letters, .inl (G.2 0, 120, .inl c_text_letters))] H → va_D A [(h_this, .inr (5, [.ref h_text, .ref h_draft, .int c_kind, .int u1, .int (u1 + (1 : Int32)), .int c_hasHooks, .int c_hasTies, .int c_cardsTold])), (h_text, .inr (1, [.int c_text_length, .ref h_text_letters])), (h_text_letters, .inl (G.2 0, 120, .inl c_text_letters))] → va_S A s.heap H locs → ∀ (ls : Array Slot), lv_has ls 2 [] → W p l e rmX5_nextToken s m args below meth c H locs 0 0 Q (F0 m 133 ls [.int j133_0, .ref h_this]) := by
          intro j133_0 H locs hf hP hD hS ls hl
          rw [eJ133] at hf
          refine va_put (D := G.1) (cl := CL) (ci := 5) (v := .int j133_0) (ty := .int) (C := RX5) (T := TX5) (N := 8) hx hb hts iX5_nextToken_5 tyX5 tyX5_ok nmX5 hown hK hP hD hS 0 rfl rfl 2 (by decide) (hts (.fieldLink RX5 31 "LoomCards$Teller" "kind" "I") (List.mem_of_getElem? (i := 4) rfl)) (fun _ h9 => h9) rfl (tyX5_ok 2 (by decide)) rfl rfl (Nat.le_of_ble_eq_true rfl) dX5_nextToken_133 (fun H locs hP hD hS => ?_)
          have hP : va_P G.1 CL [(h_this, .inr (5, [.ref h_text, .ref h_draft, .int j133_0, .int u1, .int (u1 + (1 : Int32)), .int c_hasHooks, .int c_hasTies, .int c_cardsTold])), (h_text, .inr (1, [.int c_text_length, .ref h_text_letters])), (h_text_letters, .inl (G.2 0, 120, .inl c_text_letters))] H := hP
          have hD : va_D A [(h_this, .inr (5, [.ref h_text, .ref h_draft, .int j133_0, .int u1, .int (u1 + (1 : Int32)), .int c_hasHooks, .int c_hasTies, .int c_cardsTold])), (h_text, .inr (1, [.int c_text_length, .ref h_text_letters])), (h_text_letters, .inl (G.2 0, 120, .inl c_text_letters))] := hD
          obtain rfl := Option.some.inj hf
          exact kr _ _ _ _ hP hD hS dX5_nextToken_136
        refine lv_icmp_ne (tgt := 132) hx hb dX5_nextToken_125 (by decide) (fun c9 => ?_) (fun c9 => ?_)
        · have hf := c_f hf c9
          refine lv_iconst (v := (3 : Int32)) hx hb dX5_nextToken_132 (by decide) ?_
          exact hJ133 (3 : Int32) _ _ hf hP hD hS _ (lv_sub hl [] rfl)
        · have hf := c_t hf c9
          refine lv_iconst (v := (1 : Int32)) hx hb dX5_nextToken_128 (by decide) ?_
          refine lv_goto (tgt := 133) hx hb dX5_nextToken_129 (by decide) ?_
          exact hJ133 (1 : Int32) _ _ hf hP hD hS _ (lv_sub hl [] rfl)
      · have hf := c_f hf c9
        refine lv_aload_n hx hb dX5_nextToken_95 rfl (lv_at hl 1 rfl) ?_
        refine lv_aload_n hx hb dX5_nextToken_96 rfl (lv_at hl 1 rfl) ?_
        refine va_get (D := G.1) (cl := CL) (ci := 5) (C := RX5) (T := TX5) (N := 8) hx hb hts iX5_nextToken_5 hown hK hP 0 rfl rfl 3 (by decide) (hts (.fieldLink RX5 39 "LoomCards$Teller" "from" "I") (List.mem_of_getElem? (i := 2) rfl)) (fun _ h9 => h9) rfl dX5_nextToken_97 ?_
        refine va_put (D := G.1) (cl := CL) (ci := 5) (v := .int u1) (ty := .int) (C := RX5) (T := TX5) (N := 8) hx hb hts iX5_nextToken_5 tyX5 tyX5_ok nmX5 hown hK hP hD hS 0 rfl rfl 4 (by decide) (hts (.fieldLink RX5 43 "LoomCards$Teller" "to" "I") (List.mem_of_getElem? (i := 1) rfl)) (fun _ h9 => h9) rfl (tyX5_ok 4 (by decide)) rfl rfl (Nat.le_of_ble_eq_true rfl) dX5_nextToken_100 (fun H locs hP hD hS => ?_)
        have hP : va_P G.1 CL [(h_this, .inr (5, [.ref h_text, .ref h_draft, .int c_kind, .int u1, .int u1, .int c_hasHooks, .int c_hasTies, .int c_cardsTold])), (h_text, .inr (1, [.int c_text_length, .ref h_text_letters])), (h_text_letters, .inl (G.2 0, 120, .inl c_text_letters))] H := hP
        have hD : va_D A [(h_this, .inr (5, [.ref h_text, .ref h_draft, .int c_kind, .int u1, .int u1, .int c_hasHooks, .int c_hasTies, .int c_cardsTold])), (h_text, .inr (1, [.int c_text_length, .ref h_text_letters])), (h_text_letters, .inl (G.2 0, 120, .inl c_text_letters))] := hD
        refine lv_aload_n hx hb dX5_nextToken_103 rfl (lv_at hl 1 rfl) ?_
        refine lv_iconst (v := (0 : Int32)) hx hb dX5_nextToken_104 (by decide) ?_
        refine va_put (D := G.1) (cl := CL) (ci := 5) (v := .int (0 : Int32)) (ty := .int) (C := RX5) (T := TX5) (N := 8) hx hb hts iX5_nextToken_5 tyX5 tyX5_ok nmX5 hown hK hP hD hS 0 rfl rfl 2 (by decide) (hts (.fieldLink RX5 31 "LoomCards$Teller" "kind" "I") (List.mem_of_getElem? (i := 4) rfl)) (fun _ h9 => h9) rfl (tyX5_ok 2 (by decide)) rfl rfl (Nat.le_of_ble_eq_true rfl) dX5_nextToken_105 (fun H locs hP hD hS => ?_)
        have hP : va_P G.1 CL [(h_this, .inr (5, [.ref h_text, .ref h_draft, .int (0 : Int32), .int u1, .int u1, .int c_hasHooks, .int c_hasTies, .int c_cardsTold])), (h_text, .inr (1, [.int c_text_length, .ref h_text_letters])), (h_text_letters, .inl (G.2 0, 120, .inl c_text_letters))] H := hP
        have hD : va_D A [(h_this, .inr (5, [.ref h_text, .ref h_draft, .int (0 : Int32), .int u1, .int u1, .int c_hasHooks, .int c_hasTies, .int c_cardsTold])), (h_text, .inr (1, [.int c_text_length, .ref h_text_letters])), (h_text_letters, .inl (G.2 0, 120, .inl c_text_letters))] := hD
        refine lv_goto (tgt := 136) hx hb dX5_nextToken_108 (by decide) ?_
        obtain rfl := Option.some.inj hf
        exact kr _ _ _ _ hP hD hS dX5_nextToken_136
    · have hf := c_f hf c9
      refine lv_aload_n hx hb dX5_nextToken_58 rfl (lv_at hl 1 rfl) ?_
      refine lv_aload_n hx hb dX5_nextToken_59 rfl (lv_at hl 1 rfl) ?_
      refine lv_aload_n hx hb dX5_nextToken_60 rfl (lv_at hl 1 rfl) ?_
      refine va_get (D := G.1) (cl := CL) (ci := 5) (C := RX5) (T := TX5) (N := 8) hx hb hts iX5_nextToken_5 hown hK hP 0 rfl rfl 3 (by decide) (hts (.fieldLink RX5 39 "LoomCards$Teller" "from" "I") (List.mem_of_getElem? (i := 2) rfl)) (fun _ h9 => h9) rfl dX5_nextToken_61 ?_
      refine r_bind hf (fun u5 hu5 hf => ?_)
      refine cRiV (ci := 5) (rest := [.ref h_this]) ⟨hx, hb, hml, hown, hts⟩ hK (tX5_placeBehindWord l G h_this h_text h_draft h_text_letters c_kind u1 c_to c_hasHooks c_hasTies c_cardsTold c_text_length c_text_letters u1 u5 hu5) gX5_nextToken_X5_placeBehindWord rfl hdX5_placeBehindWord rfl rfl rfl ⟨Nat.le_of_ble_eq_true rfl, Nat.le_of_ble_eq_true rfl⟩ hP [0, 1, 2] rfl 0 rfl rfl rfl hl.1 (Nat.le_of_ble_eq_true rfl) rfl dX5_nextToken_64 ⟨Nat.zero_le _, Nat.zero_le _⟩ ?_
      refine va_put (D := G.1) (cl := CL) (ci := 5) (v := .int u5) (ty := .int) (C := RX5) (T := TX5) (N := 8) hx hb hts iX5_nextToken_5 tyX5 tyX5_ok nmX5 hown hK hP hD hS 0 rfl rfl 4 (by decide) (hts (.fieldLink RX5 43 "LoomCards$Teller" "to" "I") (List.mem_of_getElem? (i := 1) rfl)) (fun _ h9 => h9) rfl (tyX5_ok 4 (by decide)) rfl rfl (Nat.le_of_ble_eq_true rfl) dX5_nextToken_67 (fun H locs hP hD hS => ?_)
      have hP : va_P G.1 CL [(h_this, .inr (5, [.ref h_text, .ref h_draft, .int c_kind, .int u1, .int u5, .int c_hasHooks, .int c_hasTies, .int c_cardsTold])), (h_text, .inr (1, [.int c_text_length, .ref h_text_letters])), (h_text_letters, .inl (G.2 0, 120, .inl c_text_letters))] H := hP
      have hD : va_D A [(h_this, .inr (5, [.ref h_text, .ref h_draft, .int c_kind, .int u1, .int u5, .int c_hasHooks, .int c_hasTies, .int c_cardsTold])), (h_text, .inr (1, [.int c_text_length, .ref h_text_letters])), (h_text_letters, .inl (G.2 0, 120, .inl c_text_letters))] := hD
      refine lv_aload_n hx hb dX5_nextToken_70 rfl (lv_at hl 1 rfl) ?_
      refine lv_aload_n hx hb dX5_nextToken_71 rfl (lv_at hl 1 rfl) ?_
      refine r_bind hf (fun u6 hu6 hf => ?_)
      refine cRiVZ (C := RX5) (rest := [.ref h_this]) ⟨hx, hb, hml, hown, hts⟩ hK hZ hS (tX5_kindOfWord l G z h_this h_text h_draft h_text_letters c_kind u1 u5 c_hasHooks c_hasTies c_cardsTold c_text_length c_text_letters u6 hu6) gX5_nextToken_X5_kindOfWord rfl hdX5_kindOfWord rfl rfl rfl ⟨Nat.le_of_ble_eq_true rfl, Nat.le_of_ble_eq_true rfl⟩ hP [0, 1, 2] rfl (va_recv (ci := 5) (q0 := 0) hK hP rfl rfl) hl.1 (Nat.le_of_ble_eq_true rfl) rfl dX5_nextToken_72 ⟨Nat.zero_le _, Nat.zero_le _⟩ ?_
      refine va_put (D := G.1) (cl := CL) (ci := 5) (v := .int u6) (ty := .int) (C := RX5) (T := TX5) (N := 8) hx hb hts iX5_nextToken_5 tyX5 tyX5_ok nmX5 hown hK hP hD hS 0 rfl rfl 2 (by decide) (hts (.fieldLink RX5 31 "LoomCards$Teller" "kind" "I") (List.mem_of_getElem? (i := 4) rfl)) (fun _ h9 => h9) rfl (tyX5_ok 2 (by decide)) rfl rfl (Nat.le_of_ble_eq_true rfl) dX5_nextToken_75 (fun H locs hP hD hS => ?_)
      have hP : va_P G.1 CL [(h_this, .inr (5, [.ref h_text, .ref h_draft, .int u6, .int u1, .int u5, .int c_hasHooks, .int c_hasTies, .int c_cardsTold])), (h_text, .inr (1, [.int c_text_length, .ref h_text_letters])), (h_text_letters, .inl (G.2 0, 120, .inl c_text_letters))] H := hP
      have hD : va_D A [(h_this, .inr (5, [.ref h_text, .ref h_draft, .int u6, .int u1, .int u5, .int c_hasHooks, .int c_hasTies, .int c_cardsTold])), (h_text, .inr (1, [.int c_text_length, .ref h_text_letters])), (h_text_letters, .inl (G.2 0, 120, .inl c_text_letters))] := hD
      refine lv_goto (tgt := 136) hx hb dX5_nextToken_78 (by decide) ?_
      obtain rfl := Option.some.inj hf
      exact kr _ _ _ _ hP hD hS dX5_nextToken_136
  · have hf := c_f hf c9
    refine lv_aload_n hx hb dX5_nextToken_31 rfl (lv_at hl 1 rfl) ?_
    refine lv_aload_n hx hb dX5_nextToken_32 rfl (lv_at hl 1 rfl) ?_
    refine lv_aload_n hx hb dX5_nextToken_33 rfl (lv_at hl 1 rfl) ?_
    refine va_get (D := G.1) (cl := CL) (ci := 5) (C := RX5) (T := TX5) (N := 8) hx hb hts iX5_nextToken_5 hown hK hP 0 rfl rfl 3 (by decide) (hts (.fieldLink RX5 39 "LoomCards$Teller" "from" "I") (List.mem_of_getElem? (i := 2) rfl)) (fun _ h9 => h9) rfl dX5_nextToken_34 ?_
    refine r_bind hf (fun u7 hu7 hf => ?_)
    refine cRiV (ci := 5) (rest := [.ref h_this]) ⟨hx, hb, hml, hown, hts⟩ hK (tX5_placeBehindFigures l G h_this h_text h_draft h_text_letters c_kind u1 c_to c_hasHooks c_hasTies c_cardsTold c_text_length c_text_letters u1 u7 hu7) gX5_nextToken_X5_placeBehindFigures rfl hdX5_placeBehindFigures rfl rfl rfl ⟨Nat.le_of_ble_eq_true rfl, Nat.le_of_ble_eq_true rfl⟩ hP [0, 1, 2] rfl 0 rfl rfl rfl hl.1 (Nat.le_of_ble_eq_true rfl) rfl dX5_nextToken_37 ⟨Nat.zero_le _, Nat.zero_le _⟩ ?_
    refine va_put (D := G.1) (cl := CL) (ci := 5) (v := .int u7) (ty := .int) (C := RX5) (T := TX5) (N := 8) hx hb hts iX5_nextToken_5 tyX5 tyX5_ok nmX5 hown hK hP hD hS 0 rfl rfl 4 (by decide) (hts (.fieldLink RX5 43 "LoomCards$Teller" "to" "I") (List.mem_of_getElem? (i := 1) rfl)) (fun _ h9 => h9) rfl (tyX5_ok 4 (by decide)) rfl rfl (Nat.le_of_ble_eq_true rfl) dX5_nextToken_40 (fun H locs hP hD hS => ?_)
    have hP : va_P G.1 CL [(h_this, .inr (5, [.ref h_text, .ref h_draft, .int c_kind, .int u1, .int u7, .int c_hasHooks, .int c_hasTies, .int c_cardsTold])), (h_text, .inr (1, [.int c_text_length, .ref h_text_letters])), (h_text_letters, .inl (G.2 0, 120, .inl c_text_letters))] H := hP
    have hD : va_D A [(h_this, .inr (5, [.ref h_text, .ref h_draft, .int c_kind, .int u1, .int u7, .int c_hasHooks, .int c_hasTies, .int c_cardsTold])), (h_text, .inr (1, [.int c_text_length, .ref h_text_letters])), (h_text_letters, .inl (G.2 0, 120, .inl c_text_letters))] := hD
    refine lv_aload_n hx hb dX5_nextToken_43 rfl (lv_at hl 1 rfl) ?_
    refine lv_iconst (v := (2 : Int32)) hx hb dX5_nextToken_44 (by decide) ?_
    refine va_put (D := G.1) (cl := CL) (ci := 5) (v := .int (2 : Int32)) (ty := .int) (C := RX5) (T := TX5) (N := 8) hx hb hts iX5_nextToken_5 tyX5 tyX5_ok nmX5 hown hK hP hD hS 0 rfl rfl 2 (by decide) (hts (.fieldLink RX5 31 "LoomCards$Teller" "kind" "I") (List.mem_of_getElem? (i := 4) rfl)) (fun _ h9 => h9) rfl (tyX5_ok 2 (by decide)) rfl rfl (Nat.le_of_ble_eq_true rfl) dX5_nextToken_45 (fun H locs hP hD hS => ?_)
    have hP : va_P G.1 CL [(h_this, .inr (5, [.ref h_text, .ref h_draft, .int (2 : Int32), .int u1, .int u7, .int c_hasHooks, .int c_hasTies, .int c_cardsTold])), (h_text, .inr (1, [.int c_text_length, .ref h_text_letters])), (h_text_letters, .inl (G.2 0, 120, .inl c_text_letters))] H := hP
    have hD : va_D A [(h_this, .inr (5, [.ref h_text, .ref h_draft, .int (2 : Int32), .int u1, .int u7, .int c_hasHooks, .int c_hasTies, .int c_cardsTold])), (h_text, .inr (1, [.int c_text_length, .ref h_text_letters])), (h_text_letters, .inl (G.2 0, 120, .inl c_text_letters))] := hD
    refine lv_goto (tgt := 136) hx hb dX5_nextToken_48 (by decide) ?_
    obtain rfl := Option.some.inj hf
    exact kr _ _ _ _ hP hD hS dX5_nextToken_136
end SX5_nextToken
set_option maxHeartbeats 4000000 in
set_option maxRecDepth 100000 in
theorem tX5_nextToken (l : Launch) (G : GG) (z : ZZ) (h_this : Nat) (h_text : Nat) (h_draft : Nat) (h_text_letters : Nat) (c_kind : Int32) (c_from : Int32) (c_to : Int32) (c_hasHooks : Int32) (c_hasTies : Int32) (c_cardsTold : Int32) (c_text_length : Int32) (c_text_letters : Nat → Int32) (res : Int32 × Int32 × Int32) (hf : fX5_nextToken c_kind c_from c_to c_text_length c_text_letters = some res) : MWvZ l yX5_nextToken wsX5_nextToken rmX5_nextToken G z [.ref h_this] [(h_this, .inr (5, [.ref h_text, .ref h_draft, .int c_kind, .int c_from, .int c_to, .int c_hasHooks, .int c_hasTies, .int c_cardsTold])), (h_text, .inr (1, [.int c_text_length, .ref h_text_letters])), (h_text_letters, .inl (G.2 0, 120, .inl c_text_letters))] [(h_this, .inr (5, [.ref h_text, .ref h_draft, .int (res.1), .int (res.2.1), .int (res.2.2), .int c_hasHooks, .int c_hasTies, .int c_cardsTold])), (h_text, .inr (1, [.int c_text_length, .ref h_text_letters])), (h_text_letters, .inl (G.2 0, 120, .inl c_text_letters))] := MWvZ.of (plainFor_of_name (by decide +kernel)) rfl (Nat.le_of_ble_eq_true rfl) (fun p e s m below meth c A C hZ hA hP hD hS ls hl => kX5_nextToken z h_this h_text h_draft h_text_letters c_kind c_from c_to c_hasHooks c_hasTies c_cardsTold c_text_length c_text_letters C hZ hA hP hD hS (fun pc ls H locs hP hD hS d => rWv C hP hD hS d) hf hl)
def fX5_canStartItem (c_hasHooks : Int32) (c_hasTies : Int32) (c_cardsTold : Int32) (v1 : Int32) : Option (Int32) := if v1 = (4 : Int32) then if c_hasHooks = 0 then if c_hasTies = 0 then if c_cardsTold = 0 then some ((1 : Int32)) else some ((0 : Int32)) else some ((0 : Int32)) else some ((0 : Int32)) else if v1 = (5 : Int32) then if c_hasTies = 0 then if c_cardsTold = 0 then some ((1 : Int32)) else some ((0 : Int32)) else some ((0 : Int32)) else if v1 = (6 : Int32) then if (8 : Int32) ≤ c_cardsTold then some ((0 : Int32)) else some ((1 : Int32)) else if v1 = (7 : Int32) then if (8 : Int32) ≤ c_cardsTold then some ((0 : Int32)) else some ((1 : Int32)) else if v1 = (8 : Int32) then some ((1 : Int32)) else some ((0 : Int32))
theorem iX5_canStartItem_5 : ∀ w ∈ wsX50, w ∈ wsX5_canStartItem := fun w h => List.mem_cons_of_mem _ (List.mem_append_right _ (h))
theorem hdX5_canStartItem : yX5_canStartItem.cls = RX5 ∧ yX5_canStartItem.cls ≠ "java/lang/invoke/MethodHandle" ∧ yX5_canStartItem.cls ≠ "java/lang/invoke/VarHandle" ∧ (parseMethodDescriptor yX5_canStartItem.desc).map (fun d => d.parameters.length) = some 1 := by decide +kernel
abbrev rmX5_canStartItem : Room := { frames := 0, cells := 0, slots := 0, locals := 0 }
section SX5_canStartItem
variable {p : Program} {l : Launch} {e : Env} {s : State} {m : MethodId} {args : Array Value} {below : List Frame} {meth : Method} {c : Code} {Q : State → Prop} {G : GG}
set_option maxHeartbeats 4000000 in
set_option maxRecDepth 100000 in
theorem kX5_canStartItem (h_this : Nat) (h_text : Nat) (h_draft : Nat) (c_kind : Int32) (c_from : Int32) (c_to : Int32) (c_hasHooks : Int32) (c_hasTies : Int32) (c_cardsTold : Int32) (v1 : Int32) (C : Cx cX5_canStartItem (some .boolean) 2 RX5 wsX5_canStartItem G p s m args meth c) (hP : va_P G.1 CL [(h_this, .inr (5, [.ref h_text, .ref h_draft, .int c_kind, .int c_from, .int c_to, .int c_hasHooks, .int c_hasTies, .int c_cardsTold]))] s.heap) {res : Int32} (kr : ∀ (pc : Nat) (ls : Array Slot), narrow .boolean (.int res) = .int res → decode cX5_canStartItem pc = .ok (.ireturn, 1) → W p l e rmX5_canStartItem s m args below meth c s.heap [] 0 0 Q (F0 m pc ls [.int res])) (hf : fX5_canStartItem c_hasHooks c_hasTies c_cardsTold v1 = some res) {ls : Array Slot} (hl : lv_has ls 2 [(0, .ref h_this), (1, .int v1)]) : W p l e rmX5_canStartItem s m args below meth c s.heap [] 0 0 Q (F0 m 0 ls []) := by
  obtain ⟨hx, hb, hr, hlk, hml, hown, hts, hK⟩ := id C
  rw [fX5_canStartItem] at hf
  refine lv_iload_n hx hb dX5_canStartItem_0 rfl (lv_at hl 1 rfl) ?_
  refine r_if hf (fun e9 hf => ?_) (fun n0 hf => ?_)
  · refine sw_in (off := 35) (tgt := 36) e9 hx hb dX5_canStartItem_1 (by decide) (by decide) (by decide) (by decide) ?_
    refine lv_aload_n hx hb dX5_canStartItem_36 rfl (lv_at hl 0 rfl) ?_
    refine va_get (D := G.1) (cl := CL) (ci := 5) (C := RX5) (T := TX5) (N := 8) hx hb hts iX5_canStartItem_5 hown hK hP 0 rfl rfl 5 (by decide) (hts (.fieldLink RX5 46 "LoomCards$Teller" "hasHooks" "Z") (List.mem_of_getElem? (i := 1) rfl)) (fun _ h9 => h9) rfl dX5_canStartItem_37 ?_
    refine lv_if_ne (tgt := 61) hx hb dX5_canStartItem_40 (by decide) (fun c9 => ?_) (fun c9 => ?_)
    · have hf := c_f hf c9
      refine lv_iconst (v := (0 : Int32)) hx hb dX5_canStartItem_61 (by decide) ?_
      obtain rfl := Option.some.inj hf
      exact kr _ _ nb0 dX5_canStartItem_62
    · have hf := c_t hf c9
      refine lv_aload_n hx hb dX5_canStartItem_43 rfl (lv_at hl 0 rfl) ?_
      refine va_get (D := G.1) (cl := CL) (ci := 5) (C := RX5) (T := TX5) (N := 8) hx hb hts iX5_canStartItem_5 hown hK hP 0 rfl rfl 6 (by decide) (hts (.fieldLink RX5 50 "LoomCards$Teller" "hasTies" "Z") (List.mem_of_getElem? (i := 2) rfl)) (fun _ h9 => h9) rfl dX5_canStartItem_44 ?_
      refine lv_if_ne (tgt := 61) hx hb dX5_canStartItem_47 (by decide) (fun c9 => ?_) (fun c9 => ?_)
      · have hf := c_f hf c9
        refine lv_iconst (v := (0 : Int32)) hx hb dX5_canStartItem_61 (by decide) ?_
        obtain rfl := Option.some.inj hf
        exact kr _ _ nb0 dX5_canStartItem_62
      · have hf := c_t hf c9
        refine lv_aload_n hx hb dX5_canStartItem_50 rfl (lv_at hl 0 rfl) ?_
        refine va_get (D := G.1) (cl := CL) (ci := 5) (C := RX5) (T := TX5) (N := 8) hx hb hts iX5_canStartItem_5 hown hK hP 0 rfl rfl 7 (by decide) (hts (.fieldLink RX5 53 "LoomCards$Teller" "cardsTold" "I") (List.mem_of_getElem? (i := 3) rfl)) (fun _ h9 => h9) rfl dX5_canStartItem_51 ?_
        refine lv_if_ne (tgt := 61) hx hb dX5_canStartItem_54 (by decide) (fun c9 => ?_) (fun c9 => ?_)
        · have hf := c_f hf c9
          refine lv_iconst (v := (0 : Int32)) hx hb dX5_canStartItem_61 (by decide) ?_
          obtain rfl := Option.some.inj hf
          exact kr _ _ nb0 dX5_canStartItem_62
        · have hf := c_t hf c9
          refine lv_iconst (v := (1 : Int32)) hx hb dX5_canStartItem_57 (by decide) ?_
          refine lv_goto (tgt := 62) hx hb dX5_canStartItem_58 (by decide) ?_
          obtain rfl := Option.some.inj hf
          exact kr _ _ nb1 dX5_canStartItem_62
  · refine r_if hf (fun e9 hf => ?_) (fun n1 hf => ?_)
    · refine sw_in (off := 62) (tgt := 63) e9 hx hb dX5_canStartItem_1 (by decide) (by decide) (by decide) (by decide) ?_
      refine lv_aload_n hx hb dX5_canStartItem_63 rfl (lv_at hl 0 rfl) ?_
      refine va_get (D := G.1) (cl := CL) (ci := 5) (C := RX5) (T := TX5) (N := 8) hx hb hts iX5_canStartItem_5 hown hK hP 0 rfl rfl 6 (by decide) (hts (.fieldLink RX5 50 "LoomCards$Teller" "hasTies" "Z") (List.mem_of_getElem? (i := 2) rfl)) (fun _ h9 => h9) rfl dX5_canStartItem_64 ?_
      refine lv_if_ne (tgt := 81) hx hb dX5_canStartItem_67 (by decide) (fun c9 => ?_) (fun c9 => ?_)
      · have hf := c_f hf c9
        refine lv_iconst (v := (0 : Int32)) hx hb dX5_canStartItem_81 (by decide) ?_
        obtain rfl := Option.some.inj hf
        exact kr _ _ nb0 dX5_canStartItem_82
      · have hf := c_t hf c9
        refine lv_aload_n hx hb dX5_canStartItem_70 rfl (lv_at hl 0 rfl) ?_
        refine va_get (D := G.1) (cl := CL) (ci := 5) (C := RX5) (T := TX5) (N := 8) hx hb hts iX5_canStartItem_5 hown hK hP 0 rfl rfl 7 (by decide) (hts (.fieldLink RX5 53 "LoomCards$Teller" "cardsTold" "I") (List.mem_of_getElem? (i := 3) rfl)) (fun _ h9 => h9) rfl dX5_canStartItem_71 ?_
        refine lv_if_ne (tgt := 81) hx hb dX5_canStartItem_74 (by decide) (fun c9 => ?_) (fun c9 => ?_)
        · have hf := c_f hf c9
          refine lv_iconst (v := (0 : Int32)) hx hb dX5_canStartItem_81 (by decide) ?_
          obtain rfl := Option.some.inj hf
          exact kr _ _ nb0 dX5_canStartItem_82
        · have hf := c_t hf c9
          refine lv_iconst (v := (1 : Int32)) hx hb dX5_canStartItem_77 (by decide) ?_
          refine lv_goto (tgt := 82) hx hb dX5_canStartItem_78 (by decide) ?_
          obtain rfl := Option.some.inj hf
          exact kr _ _ nb1 dX5_canStartItem_82
    · refine r_if hf (fun e9 hf => ?_) (fun n2 hf => ?_)
      · refine sw_in (off := 82) (tgt := 83) e9 hx hb dX5_canStartItem_1 (by decide) (by decide) (by decide) (by decide) ?_
        refine lv_aload_n hx hb dX5_canStartItem_83 rfl (lv_at hl 0 rfl) ?_
        refine va_get (D := G.1) (cl := CL) (ci := 5) (C := RX5) (T := TX5) (N := 8) hx hb hts iX5_canStartItem_5 hown hK hP 0 rfl rfl 7 (by decide) (hts (.fieldLink RX5 53 "LoomCards$Teller" "cardsTold" "I") (List.mem_of_getElem? (i := 3) rfl)) (fun _ h9 => h9) rfl dX5_canStartItem_84 ?_
        refine lv_bipush (v := (8 : Int32)) hx hb dX5_canStartItem_87 (by decide) ?_
        refine lv_icmp_ge (tgt := 96) hx hb dX5_canStartItem_89 (by decide) (fun c9 => ?_) (fun c9 => ?_)
        · have hf := c_t hf c9
          refine lv_iconst (v := (0 : Int32)) hx hb dX5_canStartItem_96 (by decide) ?_
          obtain rfl := Option.some.inj hf
          exact kr _ _ nb0 dX5_canStartItem_97
        · have hf := c_f hf c9
          refine lv_iconst (v := (1 : Int32)) hx hb dX5_canStartItem_92 (by decide) ?_
          refine lv_goto (tgt := 97) hx hb dX5_canStartItem_93 (by decide) ?_
          obtain rfl := Option.some.inj hf
          exact kr _ _ nb1 dX5_canStartItem_97
      · refine r_if hf (fun e9 hf => ?_) (fun n3 hf => ?_)
        · refine sw_in (off := 97) (tgt := 98) e9 hx hb dX5_canStartItem_1 (by decide) (by decide) (by decide) (by decide) ?_
          refine lv_aload_n hx hb dX5_canStartItem_98 rfl (lv_at hl 0 rfl) ?_
          refine va_get (D := G.1) (cl := CL) (ci := 5) (C := RX5) (T := TX5) (N := 8) hx hb hts iX5_canStartItem_5 hown hK hP 0 rfl rfl 7 (by decide) (hts (.fieldLink RX5 53 "LoomCards$Teller" "cardsTold" "I") (List.mem_of_getElem? (i := 3) rfl)) (fun _ h9 => h9) rfl dX5_canStartItem_99 ?_
          refine lv_bipush (v := (8 : Int32)) hx hb dX5_canStartItem_102 (by decide) ?_
          refine lv_icmp_ge (tgt := 111) hx hb dX5_canStartItem_104 (by decide) (fun c9 => ?_) (fun c9 => ?_)
          · have hf := c_t hf c9
            refine lv_iconst (v := (0 : Int32)) hx hb dX5_canStartItem_111 (by decide) ?_
            obtain rfl := Option.some.inj hf
            exact kr _ _ nb0 dX5_canStartItem_112
          · have hf := c_f hf c9
            refine lv_iconst (v := (1 : Int32)) hx hb dX5_canStartItem_107 (by decide) ?_
            refine lv_goto (tgt := 112) hx hb dX5_canStartItem_108 (by decide) ?_
            obtain rfl := Option.some.inj hf
            exact kr _ _ nb1 dX5_canStartItem_112
        · refine r_if hf (fun e9 hf => ?_) (fun n4 hf => ?_)
          · refine sw_in (off := 112) (tgt := 113) e9 hx hb dX5_canStartItem_1 (by decide) (by decide) (by decide) (by decide) ?_
            refine lv_iconst (v := (1 : Int32)) hx hb dX5_canStartItem_113 (by decide) ?_
            obtain rfl := Option.some.inj hf
            exact kr _ _ nb1 dX5_canStartItem_114
          · refine sw_out (lo := 4) (N := 5) (tgt := 115) hx hb dX5_canStartItem_1 (fun j hj => by match j, hj with | 0, _ => exact n0 | 1, _ => exact n1 | 2, _ => exact n2 | 3, _ => exact n3 | 4, _ => exact n4 | j + 5, hj => omega) (by decide) (by decide) ?_
            refine lv_iconst (v := (0 : Int32)) hx hb dX5_canStartItem_115 (by decide) ?_
            obtain rfl := Option.some.inj hf
            exact kr _ _ nb0 dX5_canStartItem_116
end SX5_canStartItem
set_option maxHeartbeats 4000000 in
set_option maxRecDepth 100000 in
theorem tX5_canStartItem (l : Launch) (G : GG) (h_this : Nat) (h_text : Nat) (h_draft : Nat) (c_kind : Int32) (c_from : Int32) (c_to : Int32) (c_hasHooks : Int32) (c_hasTies : Int32) (c_cardsTold : Int32) (v1 : Int32) (res : Int32) (hf : fX5_canStartItem c_hasHooks c_hasTies c_cardsTold v1 = some res) : MRi l yX5_canStartItem wsX5_canStartItem rmX5_canStartItem G [.ref h_this, .int v1] [(h_this, .inr (5, [.ref h_text, .ref h_draft, .int c_kind, .int c_from, .int c_to, .int c_hasHooks, .int c_hasTies, .int c_cardsTold]))] (res) := MRi.of (plainFor_of_name (by decide +kernel)) rfl (Nat.le_of_ble_eq_true rfl) (fun p e s m below meth c C hP ls hl => kX5_canStartItem h_this h_text h_draft c_kind c_from c_to c_hasHooks c_hasTies c_cardsTold v1 C hP (fun pc ls hn d => rRz C hn d) hf hl)
def fX5_number (c_from : Int32) (c_to : Int32) (c_text_length : Int32) (c_text_letters : Nat → Int32)  : Option (Int32) := (fX1_figureAt c_text_length c_text_letters c_from).bind (fun u1 => if (2 : Int32) < (c_to - c_from) then some ((0 : Int32)) else if u1 = 0 then some ((0 : Int32)) else if (c_to - c_from) = (1 : Int32) then some (u1) else (fX1_figureAt c_text_length c_text_letters (c_from + (1 : Int32))).bind (fun u2 => some ((((10 : Int32) * u1) + u2))))
theorem iX5_number_1 : ∀ w ∈ wsX10, w ∈ wsX5_number := fun w h => List.mem_cons_of_mem _ (List.mem_append_right _ (h))
theorem iX5_number_5 : ∀ w ∈ wsX50, w ∈ wsX5_number := fun w h => List.mem_cons_of_mem _ (List.mem_append_left _ (List.mem_append_right _ (h)))
theorem hdX5_number : yX5_number.cls = RX5 ∧ yX5_number.cls ≠ "java/lang/invoke/MethodHandle" ∧ yX5_number.cls ≠ "java/lang/invoke/VarHandle" ∧ (parseMethodDescriptor yX5_number.desc).map (fun d => d.parameters.length) = some 0 := by decide +kernel
abbrev rmX5_number : Room := { frames := 1, cells := 0, slots := 0, locals := 21 }
section SX5_number
variable {p : Program} {l : Launch} {e : Env} {s : State} {m : MethodId} {args : Array Value} {below : List Frame} {meth : Method} {c : Code} {Q : State → Prop} {G : GG}
set_option maxHeartbeats 4000000 in
set_option maxRecDepth 100000 in
theorem kX5_number (h_this : Nat) (h_text : Nat) (h_draft : Nat) (h_text_letters : Nat) (c_kind : Int32) (c_from : Int32) (c_to : Int32) (c_hasHooks : Int32) (c_hasTies : Int32) (c_cardsTold : Int32) (c_text_length : Int32) (c_text_letters : Nat → Int32) (C : Cx cX5_number (some .int) 3 RX5 wsX5_number G p s m args meth c) (hP : va_P G.1 CL [(h_this, .inr (5, [.ref h_text, .ref h_draft, .int c_kind, .int c_from, .int c_to, .int c_hasHooks, .int c_hasTies, .int c_cardsTold])), (h_text, .inr (1, [.int c_text_length, .ref h_text_letters])), (h_text_letters, .inl (G.2 0, 120, .inl c_text_letters))] s.heap) {res : Int32} (kr : ∀ (pc : Nat) (ls : Array Slot), decode cX5_number pc = .ok (.ireturn, 1) → W p l e rmX5_number s m args below meth c s.heap [] 0 0 Q (F0 m pc ls [.int res])) (hf : fX5_number c_from c_to c_text_length c_text_letters = some res) {ls : Array Slot} (hl : lv_has ls 3 [(0, .ref h_this)]) : W p l e rmX5_number s m args below meth c s.heap [] 0 0 Q (F0 m 0 ls []) := by
  obtain ⟨hx, hb, hr, hlk, hml, hown, hts, hK⟩ := id C
  rw [fX5_number] at hf
  refine lv_aload_n hx hb dX5_number_0 rfl (lv_at hl 0 rfl) ?_
  refine va_get (D := G.1) (cl := CL) (ci := 5) (C := RX5) (T := TX5) (N := 8) hx hb hts iX5_number_5 hown hK hP 0 rfl rfl 4 (by decide) (hts (.fieldLink RX5 43 "LoomCards$Teller" "to" "I") (List.mem_of_getElem? (i := 1) rfl)) (fun _ h9 => h9) rfl dX5_number_1 ?_
  refine lv_aload_n hx hb dX5_number_4 rfl (lv_at hl 0 rfl) ?_
  refine va_get (D := G.1) (cl := CL) (ci := 5) (C := RX5) (T := TX5) (N := 8) hx hb hts iX5_number_5 hown hK hP 0 rfl rfl 3 (by decide) (hts (.fieldLink RX5 39 "LoomCards$Teller" "from" "I") (List.mem_of_getElem? (i := 2) rfl)) (fun _ h9 => h9) rfl dX5_number_5 ?_
  refine lv_isub hx hb dX5_number_8 ?_
  refine lv_istore_n (lv' := [(1, .int (c_to - c_from)), (0, .ref h_this)]) hx hb dX5_number_9 rfl hl (by decide) rfl (fun ls hl => ?_)
  refine lv_aload_n hx hb dX5_number_10 rfl (lv_at hl 1 rfl) ?_
  refine va_get (D := G.1) (cl := CL) (ci := 5) (C := RX5) (T := TX5) (N := 8) hx hb hts iX5_number_5 hown hK hP 0 rfl rfl 0 (by decide) (hts (.fieldLink RX5 12 "LoomCards$Teller" "text" "LLoomCards$Letters;") (List.mem_of_getElem? (i := 3) rfl)) (fun _ h9 => h9) rfl dX5_number_11 ?_
  refine lv_aload_n hx hb dX5_number_14 rfl (lv_at hl 1 rfl) ?_
  refine va_get (D := G.1) (cl := CL) (ci := 5) (C := RX5) (T := TX5) (N := 8) hx hb hts iX5_number_5 hown hK hP 0 rfl rfl 3 (by decide) (hts (.fieldLink RX5 39 "LoomCards$Teller" "from" "I") (List.mem_of_getElem? (i := 2) rfl)) (fun _ h9 => h9) rfl dX5_number_15 ?_
  refine r_bind hf (fun u1 hu1 hf => ?_)
  refine cRiV (ci := 1) (rest := []) ⟨hx, hb, hml, hown, hts⟩ hK (tX1_figureAt l G h_text h_text_letters c_text_length c_text_letters c_from u1 hu1) gX5_number_X1_figureAt rfl hdX1_figureAt rfl rfl rfl ⟨Nat.le_of_ble_eq_true rfl, Nat.le_of_ble_eq_true rfl⟩ hP [1, 2] rfl 1 rfl rfl rfl hl.1 (Nat.le_of_ble_eq_true rfl) rfl dX5_number_18 ⟨Nat.zero_le _, Nat.zero_le _⟩ ?_
  refine lv_istore_n (lv' := [(2, .int u1), (1, .int (c_to - c_from)), (0, .ref h_this)]) hx hb dX5_number_21 rfl hl (by decide) rfl (fun ls hl => ?_)
  refine lv_iload_n hx hb dX5_number_22 rfl (lv_at hl 1 rfl) ?_
  refine lv_iconst (v := (2 : Int32)) hx hb dX5_number_23 (by decide) ?_
  refine lv_icmp_gt (tgt := 31) hx hb dX5_number_24 (by decide) (fun c9 => ?_) (fun c9 => ?_)
  · have hf := c_t hf c9
    refine lv_iconst (v := (0 : Int32)) hx hb dX5_number_31 (by decide) ?_
    obtain rfl := Option.some.inj hf
    exact kr _ _ dX5_number_32
  · have hf := c_f hf c9
    refine lv_iload_n hx hb dX5_number_27 rfl (lv_at hl 0 rfl) ?_
    refine lv_if_ne (tgt := 33) hx hb dX5_number_28 (by decide) (fun c9 => ?_) (fun c9 => ?_)
    · have hf := c_f hf c9
      refine lv_iload_n hx hb dX5_number_33 rfl (lv_at hl 1 rfl) ?_
      refine lv_iconst (v := (1 : Int32)) hx hb dX5_number_34 (by decide) ?_
      refine lv_icmp_ne (tgt := 42) hx hb dX5_number_35 (by decide) (fun c9 => ?_) (fun c9 => ?_)
      · have hf := c_f hf c9
        refine lv_bipush (v := (10 : Int32)) hx hb dX5_number_42 (by decide) ?_
        refine lv_iload_n hx hb dX5_number_44 rfl (lv_at hl 0 rfl) ?_
        refine lv_imul hx hb dX5_number_45 ?_
        refine lv_aload_n hx hb dX5_number_46 rfl (lv_at hl 2 rfl) ?_
        refine va_get (D := G.1) (cl := CL) (ci := 5) (C := RX5) (T := TX5) (N := 8) hx hb hts iX5_number_5 hown hK hP 0 rfl rfl 0 (by decide) (hts (.fieldLink RX5 12 "LoomCards$Teller" "text" "LLoomCards$Letters;") (List.mem_of_getElem? (i := 3) rfl)) (fun _ h9 => h9) rfl dX5_number_47 ?_
        refine lv_aload_n hx hb dX5_number_50 rfl (lv_at hl 2 rfl) ?_
        refine va_get (D := G.1) (cl := CL) (ci := 5) (C := RX5) (T := TX5) (N := 8) hx hb hts iX5_number_5 hown hK hP 0 rfl rfl 3 (by decide) (hts (.fieldLink RX5 39 "LoomCards$Teller" "from" "I") (List.mem_of_getElem? (i := 2) rfl)) (fun _ h9 => h9) rfl dX5_number_51 ?_
        refine lv_iconst (v := (1 : Int32)) hx hb dX5_number_54 (by decide) ?_
        refine lv_iadd hx hb dX5_number_55 ?_
        refine r_bind hf (fun u2 hu2 hf => ?_)
        refine cRiV (ci := 1) (rest := [.int ((10 : Int32) * u1)]) ⟨hx, hb, hml, hown, hts⟩ hK (tX1_figureAt l G h_text h_text_letters c_text_length c_text_letters (c_from + (1 : Int32)) u2 hu2) gX5_number_X1_figureAt rfl hdX1_figureAt rfl rfl rfl ⟨Nat.le_of_ble_eq_true rfl, Nat.le_of_ble_eq_true rfl⟩ hP [1, 2] rfl 1 rfl rfl rfl hl.1 (Nat.le_of_ble_eq_true rfl) rfl dX5_number_56 ⟨Nat.zero_le _, Nat.zero_le _⟩ ?_
        refine lv_iadd hx hb dX5_number_59 ?_
        obtain rfl := Option.some.inj hf
        exact kr _ _ dX5_number_60
      · have hf := c_t hf c9
        refine lv_iload_n hx hb dX5_number_38 rfl (lv_at hl 0 rfl) ?_
        refine lv_goto (tgt := 60) hx hb dX5_number_39 (by decide) ?_
        obtain rfl := Option.some.inj hf
        exact kr _ _ dX5_number_60
    · have hf := c_t hf c9
      refine lv_iconst (v := (0 : Int32)) hx hb dX5_number_31 (by decide) ?_
      obtain rfl := Option.some.inj hf
      exact kr _ _ dX5_number_32
end SX5_number
set_option maxHeartbeats 4000000 in
set_option maxRecDepth 100000 in
theorem tX5_number (l : Launch) (G : GG) (h_this : Nat) (h_text : Nat) (h_draft : Nat) (h_text_letters : Nat) (c_kind : Int32) (c_from : Int32) (c_to : Int32) (c_hasHooks : Int32) (c_hasTies : Int32) (c_cardsTold : Int32) (c_text_length : Int32) (c_text_letters : Nat → Int32) (res : Int32) (hf : fX5_number c_from c_to c_text_length c_text_letters = some res) : MRi l yX5_number wsX5_number rmX5_number G [.ref h_this] [(h_this, .inr (5, [.ref h_text, .ref h_draft, .int c_kind, .int c_from, .int c_to, .int c_hasHooks, .int c_hasTies, .int c_cardsTold])), (h_text, .inr (1, [.int c_text_length, .ref h_text_letters])), (h_text_letters, .inl (G.2 0, 120, .inl c_text_letters))] (res) := MRi.of (plainFor_of_name (by decide +kernel)) rfl (Nat.le_of_ble_eq_true rfl) (fun p e s m below meth c C hP ls hl => kX5_number h_this h_text h_draft h_text_letters c_kind c_from c_to c_hasHooks c_hasTies c_cardsTold c_text_length c_text_letters C hP (fun pc ls d => rRi C d) hf hl)
def fX5_takesHooks (c_from : Int32) (c_to : Int32) (c_hasHooks : Int32) (c_text_length : Int32) (c_text_letters : Nat → Int32) (c_draft_hooks : Int32) (c_draft_hookOfEnd : Nat → Int32)  : Option (Int32 × Int32 × Int32 × (Nat → Int32)) := (fX5_number c_from c_to c_text_length c_text_letters).bind (fun u1 => if u1 < (1 : Int32) then some ((0 : Int32), c_hasHooks, c_draft_hooks, c_draft_hookOfEnd) else if u1 ≤ (6 : Int32) then (fX2_takeHooks c_draft_hooks c_draft_hookOfEnd u1).bind (fun u2 => some ((1 : Int32), (1 : Int32), u2.1, u2.2)) else some ((0 : Int32), c_hasHooks, c_draft_hooks, c_draft_hookOfEnd))
theorem iX5_takesHooks_1 : ∀ w ∈ wsX10, w ∈ wsX5_takesHooks := fun w h => List.mem_cons_of_mem _ (List.mem_append_left _ (List.mem_append_right _ (h)))
theorem iX5_takesHooks_2 : ∀ w ∈ wsX20, w ∈ wsX5_takesHooks := fun w h => List.mem_cons_of_mem _ (List.mem_append_right _ (h))
theorem iX5_takesHooks_5 : ∀ w ∈ wsX50, w ∈ wsX5_takesHooks := fun w h => List.mem_cons_of_mem _ (List.mem_append_left _ (List.mem_append_left _ (List.mem_append_right _ (h))))
theorem hdX5_takesHooks : yX5_takesHooks.cls = RX5 ∧ yX5_takesHooks.cls ≠ "java/lang/invoke/MethodHandle" ∧ yX5_takesHooks.cls ≠ "java/lang/invoke/VarHandle" ∧ (parseMethodDescriptor yX5_takesHooks.desc).map (fun d => d.parameters.length) = some 0 := by decide +kernel
abbrev rmX5_takesHooks : Room := { frames := 2, cells := 0, slots := 0, locals := 43 }
section SX5_takesHooks
variable {p : Program} {l : Launch} {e : Env} {s : State} {m : MethodId} {args : Array Value} {below : List Frame} {meth : Method} {c : Code} {Q : State → Prop} {G : GG} {A : Nat → Prop}
set_option maxHeartbeats 4000000 in
set_option maxRecDepth 100000 in
theorem kX5_takesHooks (h_this : Nat) (h_text : Nat) (h_draft : Nat) (h_text_letters : Nat) (h_draft_hookOfEnd : Nat) (h_draft_holesOfCard : Nat) (c_kind : Int32) (c_from : Int32) (c_to : Int32) (c_hasHooks : Int32) (c_hasTies : Int32) (c_cardsTold : Int32) (c_text_length : Int32) (c_text_letters : Nat → Int32) (c_draft_hooks : Int32) (c_draft_ends : Int32) (c_draft_cards : Int32) (c_draft_limit : Int32) (c_draft_hookOfEnd : Nat → Int32) (C : Cx cX5_takesHooks (some .boolean) 2 RX5 wsX5_takesHooks G p s m args meth c) (hA : ∀ q : Nat, s.heap.size ≤ q → A q) (hP : va_P G.1 CL [(h_this, .inr (5, [.ref h_text, .ref h_draft, .int c_kind, .int c_from, .int c_to, .int c_hasHooks, .int c_hasTies, .int c_cardsTold])), (h_text, .inr (1, [.int c_text_length, .ref h_text_letters])), (h_text_letters, .inl (G.2 0, 120, .inl c_text_letters)), (h_draft, .inr (2, [.int c_draft_hooks, .int c_draft_ends, .int c_draft_cards, .int c_draft_limit, .ref h_draft_hookOfEnd, .ref h_draft_holesOfCard])), (h_draft_hookOfEnd, .inl (G.2 0, 12, .inl c_draft_hookOfEnd))] s.heap) (hD : va_D A [(h_this, .inr (5, [.ref h_text, .ref h_draft, .int c_kind, .int c_from, .int c_to, .int c_hasHooks, .int c_hasTies, .int c_cardsTold])), (h_text, .inr (1, [.int c_text_length, .ref h_text_letters])), (h_text_letters, .inl (G.2 0, 120, .inl c_text_letters)), (h_draft, .inr (2, [.int c_draft_hooks, .int c_draft_ends, .int c_draft_cards, .int c_draft_limit, .ref h_draft_hookOfEnd, .ref h_draft_holesOfCard])), (h_draft_hookOfEnd, .inl (G.2 0, 12, .inl c_draft_hookOfEnd))]) (hS : va_S A s.heap s.heap []) {res : Int32 × Int32 × Int32 × (Nat → Int32)} (kr : ∀ (pc : Nat) (ls : Array Slot) (H : Heap) (locs : List Loc), narrow .boolean (.int res.1) = .int res.1 → va_P G.1 CL [(h_this, .inr (5, [.ref h_text, .ref h_draft, .int c_kind, .int c_from, .int c_to, .int (res.2.1), .int c_hasTies, .int c_cardsTold])), (h_text, .inr (1, [.int c_text_length, .ref h_text_letters])), (h_text_letters, .inl (G.2 0, 120, .inl c_text_letters)), (h_draft, .inr (2, [.int (res.2.2.1), .int c_draft_ends, .int c_draft_cards, .int c_draft_limit, .ref h_draft_hookOfEnd, .ref h_draft_holesOfCard])), (h_draft_hookOfEnd, .inl (G.2 0, 12, .inl (res.2.2.2)))] H → va_D A [(h_this, .inr (5, [.ref h_text, .ref h_draft, .int c_kind, .int c_from, .int c_to, .int (res.2.1), .int c_hasTies, .int c_cardsTold])), (h_text, .inr (1, [.int c_text_length, .ref h_text_letters])), (h_text_letters, .inl (G.2 0, 120, .inl c_text_letters)), (h_draft, .inr (2, [.int (res.2.2.1), .int c_draft_ends, .int c_draft_cards, .int c_draft_limit, .ref h_draft_hookOfEnd, .ref h_draft_holesOfCard])), (h_draft_hookOfEnd, .inl (G.2 0, 12, .inl (res.2.2.2)))] → va_S A s.heap H locs → decode cX5_takesHooks pc = .ok (.ireturn, 1) → W p l e rmX5_takesHooks s m args below meth c H locs 0 0 Q (F0 m pc ls [.int res.1])) (hf : fX5_takesHooks c_from c_to c_hasHooks c_text_length c_text_letters c_draft_hooks c_draft_hookOfEnd = some res) {ls : Array Slot} (hl : lv_has ls 2 [(0, .ref h_this)]) : W p l e rmX5_takesHooks s m args below meth c s.heap [] 0 0 Q (F0 m 0 ls []) := by
  obtain ⟨hx, hb, hr, hlk, hml, hown, hts, hK⟩ := id C
  rw [fX5_takesHooks] at hf
  refine lv_aload_n hx hb dX5_takesHooks_0 rfl (lv_at hl 0 rfl) ?_
  refine r_bind hf (fun u1 hu1 hf => ?_)
  refine cRiV (ci := 5) (rest := []) ⟨hx, hb, hml, hown, hts⟩ hK (tX5_number l G h_this h_text h_draft h_text_letters c_kind c_from c_to c_hasHooks c_hasTies c_cardsTold c_text_length c_text_letters u1 hu1) gX5_takesHooks_X5_number rfl hdX5_number rfl rfl rfl ⟨Nat.le_of_ble_eq_true rfl, Nat.le_of_ble_eq_true rfl⟩ hP [0, 1, 2] rfl 0 rfl rfl rfl hl.1 (Nat.le_of_ble_eq_true rfl) rfl dX5_takesHooks_1 ⟨Nat.zero_le _, Nat.zero_le _⟩ ?_
  refine lv_istore_n (lv' := [(1, .int u1), (0, .ref h_this)]) hx hb dX5_takesHooks_4 rfl hl (by decide) rfl (fun ls hl => ?_)
  refine lv_iload_n hx hb dX5_takesHooks_5 rfl (lv_at hl 0 rfl) ?_
  refine lv_iconst (v := (1 : Int32)) hx hb dX5_takesHooks_6 (by decide) ?_
  refine lv_icmp_lt (tgt := 16) hx hb dX5_takesHooks_7 (by decide) (fun c9 => ?_) (fun c9 => ?_)
  · have hf := c_t hf c9
    refine lv_iconst (v := (0 : Int32)) hx hb dX5_takesHooks_16 (by decide) ?_
    obtain rfl := Option.some.inj hf
    exact kr _ _ _ _ nb0 hP hD hS dX5_takesHooks_17
  · have hf := c_f hf c9
    refine lv_iload_n hx hb dX5_takesHooks_10 rfl (lv_at hl 0 rfl) ?_
    refine lv_bipush (v := (6 : Int32)) hx hb dX5_takesHooks_11 (by decide) ?_
    refine lv_icmp_le (tgt := 18) hx hb dX5_takesHooks_13 (by decide) (fun c9 => ?_) (fun c9 => ?_)
    · have hf := c_t hf c9
      refine lv_aload_n hx hb dX5_takesHooks_18 rfl (lv_at hl 1 rfl) ?_
      refine va_get (D := G.1) (cl := CL) (ci := 5) (C := RX5) (T := TX5) (N := 8) hx hb hts iX5_takesHooks_5 hown hK hP 0 rfl rfl 1 (by decide) (hts (.fieldLink RX5 21 "LoomCards$Teller" "draft" "LLoomCards$Loom;") (List.mem_of_getElem? (i := 1) rfl)) (fun _ h9 => h9) rfl dX5_takesHooks_19 ?_
      refine lv_iload_n hx hb dX5_takesHooks_22 rfl (lv_at hl 0 rfl) ?_
      refine r_bind hf (fun u2 hu2 hf => ?_)
      refine cWvV (ci := 2) (rest := []) (wr := [(h_this, .inr (5, [.ref h_text, .ref h_draft, .int c_kind, .int c_from, .int c_to, .int c_hasHooks, .int c_hasTies, .int c_cardsTold])), (h_text, .inr (1, [.int c_text_length, .ref h_text_letters])), (h_text_letters, .inl (G.2 0, 120, .inl c_text_letters))]) (wf := [(h_this, .inr (5, [.ref h_text, .ref h_draft, .int c_kind, .int c_from, .int c_to, .int c_hasHooks, .int c_hasTies, .int c_cardsTold])), (h_text, .inr (1, [.int c_text_length, .ref h_text_letters])), (h_text_letters, .inl (G.2 0, 120, .inl c_text_letters)), (h_draft, .inr (2, [.int u2.1, .int c_draft_ends, .int c_draft_cards, .int c_draft_limit, .ref h_draft_hookOfEnd, .ref h_draft_holesOfCard])), (h_draft_hookOfEnd, .inl (G.2 0, 12, .inl u2.2))]) ⟨hx, hb, hml, hown, hts⟩ hK (tX2_takeHooks l G h_draft h_draft_hookOfEnd h_draft_holesOfCard c_draft_hooks c_draft_ends c_draft_cards c_draft_limit c_draft_hookOfEnd u1 u2 hu2) gX5_takesHooks_X2_takeHooks rfl hdX2_takeHooks rfl rfl rfl ⟨Nat.le_of_ble_eq_true rfl, Nat.le_of_ble_eq_true rfl⟩ hP hD hS hA [3, 4] [0, 1, 2] [0, 1, 2, 3, 4] rfl rfl rfl (by decide) (by decide) (by decide) (by decide) 3 rfl rfl rfl hl.1 (Nat.le_of_ble_eq_true rfl) rfl dX5_takesHooks_23 ⟨Nat.zero_le _, Nat.zero_le _⟩ (fun H locs hP hD hS => ?_)
      refine lv_aload_n hx hb dX5_takesHooks_26 rfl (lv_at hl 1 rfl) ?_
      refine lv_iconst (v := (1 : Int32)) hx hb dX5_takesHooks_27 (by decide) ?_
      refine va_put (D := G.1) (cl := CL) (ci := 5) (v := .int (1 : Int32)) (ty := .boolean) (C := RX5) (T := TX5) (N := 8) hx hb hts iX5_takesHooks_5 tyX5 tyX5_ok nmX5 hown hK hP hD hS 0 rfl rfl 5 (by decide) (hts (.fieldLink RX5 46 "LoomCards$Teller" "hasHooks" "Z") (List.mem_of_getElem? (i := 2) rfl)) (fun _ h9 => h9) rfl (tyX5_ok 5 (by decide)) rfl rfl (Nat.le_of_ble_eq_true rfl) dX5_takesHooks_28 (fun H locs hP hD hS => ?_)
      have hP : va_P G.1 CL [(h_this, .inr (5, [.ref h_text, .ref h_draft, .int c_kind, .int c_from, .int c_to, .int (1 : Int32), .int c_hasTies, .int c_cardsTold])), (h_text, .inr (1, [.int c_text_length, .ref h_text_letters])), (h_text_letters, .inl (G.2 0, 120, .inl c_text_letters)), (h_draft, .inr (2, [.int u2.1, .int c_draft_ends, .int c_draft_cards, .int c_draft_limit, .ref h_draft_hookOfEnd, .ref h_draft_holesOfCard])), (h_draft_hookOfEnd, .inl (G.2 0, 12, .inl u2.2))] H := hP
      have hD : va_D A [(h_this, .inr (5, [.ref h_text, .ref h_draft, .int c_kind, .int c_from, .int c_to, .int (1 : Int32), .int c_hasTies, .int c_cardsTold])), (h_text, .inr (1, [.int c_text_length, .ref h_text_letters])), (h_text_letters, .inl (G.2 0, 120, .inl c_text_letters)), (h_draft, .inr (2, [.int u2.1, .int c_draft_ends, .int c_draft_cards, .int c_draft_limit, .ref h_draft_hookOfEnd, .ref h_draft_holesOfCard])), (h_draft_hookOfEnd, .inl (G.2 0, 12, .inl u2.2))] := hD
      refine lv_iconst (v := (1 : Int32)) hx hb dX5_takesHooks_31 (by decide) ?_
      obtain rfl := Option.some.inj hf
      exact kr _ _ _ _ nb1 hP hD hS dX5_takesHooks_32
    · have hf := c_f hf c9
      refine lv_iconst (v := (0 : Int32)) hx hb dX5_takesHooks_16 (by decide) ?_
      obtain rfl := Option.some.inj hf
      exact kr _ _ _ _ nb0 hP hD hS dX5_takesHooks_17
end SX5_takesHooks
set_option maxHeartbeats 4000000 in
set_option maxRecDepth 100000 in
theorem tX5_takesHooks (l : Launch) (G : GG) (h_this : Nat) (h_text : Nat) (h_draft : Nat) (h_text_letters : Nat) (h_draft_hookOfEnd : Nat) (h_draft_holesOfCard : Nat) (c_kind : Int32) (c_from : Int32) (c_to : Int32) (c_hasHooks : Int32) (c_hasTies : Int32) (c_cardsTold : Int32) (c_text_length : Int32) (c_text_letters : Nat → Int32) (c_draft_hooks : Int32) (c_draft_ends : Int32) (c_draft_cards : Int32) (c_draft_limit : Int32) (c_draft_hookOfEnd : Nat → Int32) (res : Int32 × Int32 × Int32 × (Nat → Int32)) (hf : fX5_takesHooks c_from c_to c_hasHooks c_text_length c_text_letters c_draft_hooks c_draft_hookOfEnd = some res) : MWi l yX5_takesHooks wsX5_takesHooks rmX5_takesHooks G [.ref h_this] [(h_this, .inr (5, [.ref h_text, .ref h_draft, .int c_kind, .int c_from, .int c_to, .int c_hasHooks, .int c_hasTies, .int c_cardsTold])), (h_text, .inr (1, [.int c_text_length, .ref h_text_letters])), (h_text_letters, .inl (G.2 0, 120, .inl c_text_letters)), (h_draft, .inr (2, [.int c_draft_hooks, .int c_draft_ends, .int c_draft_cards, .int c_draft_limit, .ref h_draft_hookOfEnd, .ref h_draft_holesOfCard])), (h_draft_hookOfEnd, .inl (G.2 0, 12, .inl c_draft_hookOfEnd))] (res.1) [(h_this, .inr (5, [.ref h_text, .ref h_draft, .int c_kind, .int c_from, .int c_to, .int (res.2.1), .int c_hasTies, .int c_cardsTold])), (h_text, .inr (1, [.int c_text_length, .ref h_text_letters])), (h_text_letters, .inl (G.2 0, 120, .inl c_text_letters)), (h_draft, .inr (2, [.int (res.2.2.1), .int c_draft_ends, .int c_draft_cards, .int c_draft_limit, .ref h_draft_hookOfEnd, .ref h_draft_holesOfCard])), (h_draft_hookOfEnd, .inl (G.2 0, 12, .inl (res.2.2.2)))] := MWi.of (plainFor_of_name (by decide +kernel)) rfl (Nat.le_of_ble_eq_true rfl) (fun p e s m below meth c A C hA hP hD hS ls hl => kX5_takesHooks h_this h_text h_draft h_text_letters h_draft_hookOfEnd h_draft_holesOfCard c_kind c_from c_to c_hasHooks c_hasTies c_cardsTold c_text_length c_text_letters c_draft_hooks c_draft_ends c_draft_cards c_draft_limit c_draft_hookOfEnd C hA hP hD hS (fun pc ls H locs hn hP hD hS d => rWz C hn hP hD hS d) hf hl)
def fX5_areFiguresBelow_L5 (k33 : Option (Int32)) (k25 : Option (Int32)) (c_to : Int32) (c_text_length : Int32) (c_text_letters : Nat → Int32) (v1 : Int32) : Nat → Int32 → Option (Int32)
  | 0, _ => none
  | n + 1, v2 => if c_to ≤ v2 then k33 else (fX1_figureAt c_text_length c_text_letters v2).bind (fun u1 => if u1 < v1 then fX5_areFiguresBelow_L5 k33 k25 c_to c_text_length c_text_letters v1 n (v2 + (1 : Int32)) else k25)
def fX5_areFiguresBelow (c_from : Int32) (c_to : Int32) (c_text_length : Int32) (c_text_letters : Nat → Int32) (v1 : Int32) : Option (Int32) := (fX5_areFiguresBelow_L5 (some ((1 : Int32))) (some ((0 : Int32))) c_to c_text_length c_text_letters v1 FU c_from)
theorem iX5_areFiguresBelow_1 : ∀ w ∈ wsX10, w ∈ wsX5_areFiguresBelow := fun w h => List.mem_cons_of_mem _ (List.mem_append_right _ (h))
theorem iX5_areFiguresBelow_5 : ∀ w ∈ wsX50, w ∈ wsX5_areFiguresBelow := fun w h => List.mem_cons_of_mem _ (List.mem_append_left _ (List.mem_append_right _ (h)))
theorem hdX5_areFiguresBelow : yX5_areFiguresBelow.cls = RX5 ∧ yX5_areFiguresBelow.cls ≠ "java/lang/invoke/MethodHandle" ∧ yX5_areFiguresBelow.cls ≠ "java/lang/invoke/VarHandle" ∧ (parseMethodDescriptor yX5_areFiguresBelow.desc).map (fun d => d.parameters.length) = some 1 := by decide +kernel
abbrev rmX5_areFiguresBelow : Room := { frames := 1, cells := 0, slots := 0, locals := 21 }
section SX5_areFiguresBelow
variable {p : Program} {l : Launch} {e : Env} {s : State} {m : MethodId} {args : Array Value} {below : List Frame} {meth : Method} {c : Code} {Q : State → Prop} {G : GG}
set_option maxHeartbeats 4000000 in
set_option maxRecDepth 100000 in
theorem kX5_areFiguresBelow_L5 (h_this : Nat) (h_text : Nat) (h_draft : Nat) (h_text_letters : Nat) (c_kind : Int32) (c_from : Int32) (c_to : Int32) (c_hasHooks : Int32) (c_hasTies : Int32) (c_cardsTold : Int32) (c_text_length : Int32) (c_text_letters : Nat → Int32) (v1 : Int32) (C : Cx cX5_areFiguresBelow (some .boolean) 3 RX5 wsX5_areFiguresBelow G p s m args meth c) (hP : va_P G.1 CL [(h_this, .inr (5, [.ref h_text, .ref h_draft, .int c_kind, .int c_from, .int c_to, .int c_hasHooks, .int c_hasTies, .int c_cardsTold])), (h_text, .inr (1, [.int c_text_length, .ref h_text_letters])), (h_text_letters, .inl (G.2 0, 120, .inl c_text_letters))] s.heap) {res : Int32} (kr : ∀ (pc : Nat) (ls : Array Slot), narrow .boolean (.int res) = .int res → decode cX5_areFiguresBelow pc = .ok (.ireturn, 1) → W p l e rmX5_areFiguresBelow s m args below meth c s.heap [] 0 0 Q (F0 m pc ls [.int res])) {k33 : Option (Int32)} (hk33 : k33 = some res → ∀ (ls : Array Slot), lv_has ls 3 [] → W p l e rmX5_areFiguresBelow s m args below meth c s.heap [] 0 0 Q (F0 m 33 ls [])) {k25 : Option (Int32)} (hk25 : k25 = some res → ∀ (ls : Array Slot), lv_has ls 3 [] → W p l e rmX5_areFiguresBelow s m args below meth c s.heap [] 0 0 Q (F0 m 25 ls [])) : ∀ (n : Nat) (v2 : Int32), fX5_areFiguresBelow_L5 k33 k25 c_to c_text_length c_text_letters v1 n v2 = some res → ∀ (ls : Array Slot), lv_has ls 3 [(0, .ref h_this), (1, .int v1), (2, .int v2)] → W p l e rmX5_areFiguresBelow s m args below meth c s.heap [] 0 0 Q (F0 m 5 ls []) := by
  obtain ⟨hx, hb, hr, hlk, hml, hown, hts, hK⟩ := id C
  intro n
  induction n with
  | zero =>
    intro v2 hf
    cases hf
  | succ n ih =>
    intro v2 hf ls hl
    rw [fX5_areFiguresBelow_L5] at hf
    refine lv_iload_n hx hb dX5_areFiguresBelow_5 rfl (lv_at hl 2 rfl) ?_
    refine lv_aload_n hx hb dX5_areFiguresBelow_6 rfl (lv_at hl 0 rfl) ?_
    refine va_get (D := G.1) (cl := CL) (ci := 5) (C := RX5) (T := TX5) (N := 8) hx hb hts iX5_areFiguresBelow_5 hown hK hP 0 rfl rfl 4 (by decide) (hts (.fieldLink RX5 43 "LoomCards$Teller" "to" "I") (List.mem_of_getElem? (i := 2) rfl)) (fun _ h9 => h9) rfl dX5_areFiguresBelow_7 ?_
    refine lv_icmp_ge (tgt := 33) hx hb dX5_areFiguresBelow_10 (by decide) (fun c9 => ?_) (fun c9 => ?_)
    · have hf := c_t hf c9
      exact hk33 hf _ (lv_sub hl [] rfl)
    · have hf := c_f hf c9
      refine lv_aload_n hx hb dX5_areFiguresBelow_13 rfl (lv_at hl 0 rfl) ?_
      refine va_get (D := G.1) (cl := CL) (ci := 5) (C := RX5) (T := TX5) (N := 8) hx hb hts iX5_areFiguresBelow_5 hown hK hP 0 rfl rfl 0 (by decide) (hts (.fieldLink RX5 12 "LoomCards$Teller" "text" "LLoomCards$Letters;") (List.mem_of_getElem? (i := 3) rfl)) (fun _ h9 => h9) rfl dX5_areFiguresBelow_14 ?_
      refine lv_iload_n hx hb dX5_areFiguresBelow_17 rfl (lv_at hl 2 rfl) ?_
      refine r_bind hf (fun u1 hu1 hf => ?_)
      refine cRiV (ci := 1) (rest := []) ⟨hx, hb, hml, hown, hts⟩ hK (tX1_figureAt l G h_text h_text_letters c_text_length c_text_letters v2 u1 hu1) gX5_areFiguresBelow_X1_figureAt rfl hdX1_figureAt rfl rfl rfl ⟨Nat.le_of_ble_eq_true rfl, Nat.le_of_ble_eq_true rfl⟩ hP [1, 2] rfl 1 rfl rfl rfl hl.1 (Nat.le_of_ble_eq_true rfl) rfl dX5_areFiguresBelow_18 ⟨Nat.zero_le _, Nat.zero_le _⟩ ?_
      refine lv_iload_n hx hb dX5_areFiguresBelow_21 rfl (lv_at hl 1 rfl) ?_
      refine lv_icmp_lt (tgt := 27) hx hb dX5_areFiguresBelow_22 (by decide) (fun c9 => ?_) (fun c9 => ?_)
      · have hf := c_t hf c9
        refine lv_iinc (v := (v2 + (1 : Int32))) (lv' := [(2, .int (v2 + (1 : Int32))), (0, .ref h_this), (1, .int v1)]) hx hb dX5_areFiguresBelow_27 hl (k := 2) rfl rfl (by decide) rfl (fun ls hl => ?_)
        refine lv_goto (tgt := 5) hx hb dX5_areFiguresBelow_30 (by decide) ?_
        exact ih (v2 + (1 : Int32)) hf _ (lv_sub hl [1, 2, 0] rfl)
      · have hf := c_f hf c9
        exact hk25 hf _ (lv_sub hl [] rfl)
set_option maxHeartbeats 4000000 in
set_option maxRecDepth 100000 in
theorem kX5_areFiguresBelow (h_this : Nat) (h_text : Nat) (h_draft : Nat) (h_text_letters : Nat) (c_kind : Int32) (c_from : Int32) (c_to : Int32) (c_hasHooks : Int32) (c_hasTies : Int32) (c_cardsTold : Int32) (c_text_length : Int32) (c_text_letters : Nat → Int32) (v1 : Int32) (C : Cx cX5_areFiguresBelow (some .boolean) 3 RX5 wsX5_areFiguresBelow G p s m args meth c) (hP : va_P G.1 CL [(h_this, .inr (5, [.ref h_text, .ref h_draft, .int c_kind, .int c_from, .int c_to, .int c_hasHooks, .int c_hasTies, .int c_cardsTold])), (h_text, .inr (1, [.int c_text_length, .ref h_text_letters])), (h_text_letters, .inl (G.2 0, 120, .inl c_text_letters))] s.heap) {res : Int32} (kr : ∀ (pc : Nat) (ls : Array Slot), narrow .boolean (.int res) = .int res → decode cX5_areFiguresBelow pc = .ok (.ireturn, 1) → W p l e rmX5_areFiguresBelow s m args below meth c s.heap [] 0 0 Q (F0 m pc ls [.int res])) (hf : fX5_areFiguresBelow c_from c_to c_text_length c_text_letters v1 = some res) {ls : Array Slot} (hl : lv_has ls 3 [(0, .ref h_this), (1, .int v1)]) : W p l e rmX5_areFiguresBelow s m args below meth c s.heap [] 0 0 Q (F0 m 0 ls []) := by
  obtain ⟨hx, hb, hr, hlk, hml, hown, hts, hK⟩ := id C
  rw [fX5_areFiguresBelow] at hf
  refine lv_aload_n hx hb dX5_areFiguresBelow_0 rfl (lv_at hl 0 rfl) ?_
  refine va_get (D := G.1) (cl := CL) (ci := 5) (C := RX5) (T := TX5) (N := 8) hx hb hts iX5_areFiguresBelow_5 hown hK hP 0 rfl rfl 3 (by decide) (hts (.fieldLink RX5 39 "LoomCards$Teller" "from" "I") (List.mem_of_getElem? (i := 1) rfl)) (fun _ h9 => h9) rfl dX5_areFiguresBelow_1 ?_
  refine lv_istore_n (lv' := [(2, .int c_from), (0, .ref h_this), (1, .int v1)]) hx hb dX5_areFiguresBelow_4 rfl hl (by decide) rfl (fun ls hl => ?_)
  refine kX5_areFiguresBelow_L5 h_this h_text h_draft h_text_letters c_kind c_from c_to c_hasHooks c_hasTies c_cardsTold c_text_length c_text_letters v1 C hP kr ?_ ?_ FU c_from hf _ (lv_sub hl [1, 2, 0] rfl)
  · intro hf ls hl
    refine lv_iconst (v := (1 : Int32)) hx hb dX5_areFiguresBelow_33 (by decide) ?_
    obtain rfl := Option.some.inj hf
    exact kr _ _ nb1 dX5_areFiguresBelow_34
  · intro hf ls hl
    refine lv_iconst (v := (0 : Int32)) hx hb dX5_areFiguresBelow_25 (by decide) ?_
    obtain rfl := Option.some.inj hf
    exact kr _ _ nb0 dX5_areFiguresBelow_26
end SX5_areFiguresBelow
set_option maxHeartbeats 4000000 in
set_option maxRecDepth 100000 in
theorem tX5_areFiguresBelow (l : Launch) (G : GG) (h_this : Nat) (h_text : Nat) (h_draft : Nat) (h_text_letters : Nat) (c_kind : Int32) (c_from : Int32) (c_to : Int32) (c_hasHooks : Int32) (c_hasTies : Int32) (c_cardsTold : Int32) (c_text_length : Int32) (c_text_letters : Nat → Int32) (v1 : Int32) (res : Int32) (hf : fX5_areFiguresBelow c_from c_to c_text_length c_text_letters v1 = some res) : MRi l yX5_areFiguresBelow wsX5_areFiguresBelow rmX5_areFiguresBelow G [.ref h_this, .int v1] [(h_this, .inr (5, [.ref h_text, .ref h_draft, .int c_kind, .int c_from, .int c_to, .int c_hasHooks, .int c_hasTies, .int c_cardsTold])), (h_text, .inr (1, [.int c_text_length, .ref h_text_letters])), (h_text_letters, .inl (G.2 0, 120, .inl c_text_letters))] (res) := MRi.of (plainFor_of_name (by decide +kernel)) rfl (Nat.le_of_ble_eq_true rfl) (fun p e s m below meth c C hP ls hl => kX5_areFiguresBelow h_this h_text h_draft h_text_letters c_kind c_from c_to c_hasHooks c_hasTies c_cardsTold c_text_length c_text_letters v1 C hP (fun pc ls hn d => rRz C hn d) hf hl)
def fX5_takesTies_L42 (k74 : (Nat → Int32) → Option (Int32 × Int32 × Int32 × (Nat → Int32))) (c_from : Int32) (c_text_length : Int32) (c_text_letters : Nat → Int32) (c_draft_ends : Int32) (v1 : Int32) : Nat → Int32 → (Nat → Int32) → Option (Int32 × Int32 × Int32 × (Nat → Int32))
  | 0, _, _ => none
  | n + 1, v2, c_draft_hookOfEnd => if v1 ≤ v2 then k74 c_draft_hookOfEnd else (fX1_figureAt c_text_length c_text_letters (c_from + v2)).bind (fun u2 => (fX2_tie c_draft_ends c_draft_hookOfEnd v2 u2).bind (fun u3 => fX5_takesTies_L42 k74 c_from c_text_length c_text_letters c_draft_ends v1 n (v2 + (1 : Int32)) u3))
def fX5_takesTies (c_from : Int32) (c_to : Int32) (c_hasTies : Int32) (c_text_length : Int32) (c_text_letters : Nat → Int32) (c_draft_hooks : Int32) (c_draft_ends : Int32) (c_draft_hookOfEnd : Nat → Int32)  : Option (Int32 × Int32 × Int32 × (Nat → Int32)) := if (12 : Int32) < (c_to - c_from) then some ((0 : Int32), c_hasTies, c_draft_ends, c_draft_hookOfEnd) else (fX5_areFiguresBelow c_from c_to c_text_length c_text_letters c_draft_hooks).bind (fun u1 => if u1 = 0 then some ((0 : Int32), c_hasTies, c_draft_ends, c_draft_hookOfEnd) else (fX5_takesTies_L42 (fun (c_draft_hookOfEnd_x4 : Nat → Int32) => some ((1 : Int32), (1 : Int32), (c_to - c_from), c_draft_hookOfEnd_x4)) c_from c_text_length c_text_letters (c_to - c_from) (c_to - c_from) FU (0 : Int32) c_draft_hookOfEnd))
theorem iX5_takesTies_1 : ∀ w ∈ wsX10, w ∈ wsX5_takesTies := fun w h => List.mem_cons_of_mem _ (List.mem_append_right _ (h))
theorem iX5_takesTies_2 : ∀ w ∈ wsX20, w ∈ wsX5_takesTies := fun w h => List.mem_cons_of_mem _ (List.mem_append_left _ (List.mem_append_right _ (h)))
theorem iX5_takesTies_5 : ∀ w ∈ wsX50, w ∈ wsX5_takesTies := fun w h => List.mem_cons_of_mem _ (List.mem_append_left _ (List.mem_append_left _ (List.mem_append_right _ (h))))
theorem hdX5_takesTies : yX5_takesTies.cls = RX5 ∧ yX5_takesTies.cls ≠ "java/lang/invoke/MethodHandle" ∧ yX5_takesTies.cls ≠ "java/lang/invoke/VarHandle" ∧ (parseMethodDescriptor yX5_takesTies.desc).map (fun d => d.parameters.length) = some 0 := by decide +kernel
abbrev rmX5_takesTies : Room := { frames := 2, cells := 0, slots := 0, locals := 43 }
section SX5_takesTies
variable {p : Program} {l : Launch} {e : Env} {s : State} {m : MethodId} {args : Array Value} {below : List Frame} {meth : Method} {c : Code} {Q : State → Prop} {G : GG} {A : Nat → Prop}
set_option maxHeartbeats 4000000 in
set_option maxRecDepth 100000 in
theorem kX5_takesTies_L42 (h_this : Nat) (h_text : Nat) (h_draft : Nat) (h_text_letters : Nat) (h_draft_hookOfEnd : Nat) (h_draft_holesOfCard : Nat) (c_kind : Int32) (c_from : Int32) (c_to : Int32) (c_hasHooks : Int32) (c_hasTies : Int32) (c_cardsTold : Int32) (c_text_length : Int32) (c_text_letters : Nat → Int32) (c_draft_hooks : Int32) (c_draft_ends : Int32) (c_draft_cards : Int32) (c_draft_limit : Int32) (v1 : Int32) (C : Cx cX5_takesTies (some .boolean) 3 RX5 wsX5_takesTies G p s m args meth c) (hA : ∀ q : Nat, s.heap.size ≤ q → A q) {res : Int32 × Int32 × Int32 × (Nat → Int32)} (kr : ∀ (pc : Nat) (ls : Array Slot) (H : Heap) (locs : List Loc), narrow .boolean (.int res.1) = .int res.1 → va_P G.1 CL [(h_this, .inr (5, [.ref h_text, .ref h_draft, .int c_kind, .int c_from, .int c_to, .int c_hasHooks, .int (res.2.1), .int c_cardsTold])), (h_text, .inr (1, [.int c_text_length, .ref h_text_letters])), (h_text_letters, .inl (G.2 0, 120, .inl c_text_letters)), (h_draft, .inr (2, [.int c_draft_hooks, .int (res.2.2.1), .int c_draft_cards, .int c_draft_limit, .ref h_draft_hookOfEnd, .ref h_draft_holesOfCard])), (h_draft_hookOfEnd, .inl (G.2 0, 12, .inl (res.2.2.2)))] H → va_D A [(h_this, .inr (5, [.ref h_text, .ref h_draft, .int c_kind, .int c_from, .int c_to, .int c_hasHooks, .int (res.2.1), .int c_cardsTold])), (h_text, .inr (1, [.int c_text_length, .ref h_text_letters])), (h_text_letters, .inl (G.2 0, 120, .inl c_text_letters)), (h_draft, .inr (2, [.int c_draft_hooks, .int (res.2.2.1), .int c_draft_cards, .int c_draft_limit, .ref h_draft_hookOfEnd, .ref h_draft_holesOfCard])), (h_draft_hookOfEnd, .inl (G.2 0, 12, .inl (res.2.2.2)))] → va_S A s.heap H locs → decode cX5_takesTies pc = .ok (.ireturn, 1) → W p l e rmX5_takesTies s m args below meth c H locs 0 0 Q (F0 m pc ls [.int res.1])) {k74 : (Nat → Int32) → Option (Int32 × Int32 × Int32 × (Nat → Int32))} (hk74 : ∀ (c_draft_hookOfEnd : Nat → Int32) (H : Heap) (locs : List Loc), k74 c_draft_hookOfEnd = some res → va_P G.1 CL [(h_this, .inr (5, [.ref h_text, .ref h_draft, .int c_kind, .int c_from, .int c_to, .int c_hasHooks, .int c_hasTies, .int c_cardsTold])), (h_text, .inr (1, [.int c_text_length, .ref h_text_letters])), (h_text_letters, .inl (G.2 0, 120, .inl c_text_letters)), (h_draft, .inr (2, [.int c_draft_hooks, .int c_draft_ends, .int c_draft_cards, .int c_draft_limit, .ref h_draft_hookOfEnd, .ref h_draft_holesOfCard])), (h_draft_hookOfEnd, .inl (G.2 0, 12, .inl c_draft_hookOfEnd))] H → va_D A [(h_this, .inr (5, [.ref h_text, .ref h_draft, .int c_kind, .int c_from, .int c_to, .int c_hasHooks, .int c_hasTies, .int c_cardsTold])), (h_text, .inr (1, [.int c_text_length, .ref h_text_letters])), (h_text_letters, .inl (G.2 0, 120, .inl c_text_letters)), (h_draft, .inr (2, [.int c_draft_hooks, .int c_draft_ends, .int c_draft_cards, .int c_draft_limit, .ref h_draft_hookOfEnd, .ref h_draft_holesOfCard])), (h_draft_hookOfEnd, .inl (G.2 0, 12, .inl c_draft_hookOfEnd))] → va_S A s.heap H locs → ∀ (ls : Array Slot), lv_has ls 3 [(0, .ref h_this)] → W p l e rmX5_takesTies s m args below meth c H locs 0 0 Q (F0 m 74 ls [])) : ∀ (n : Nat) (v2 : Int32) (c_draft_hookOfEnd : Nat → Int32) (H : Heap) (locs : List Loc), fX5_takesTies_L42 k74 c_from c_text_length c_text_letters c_draft_ends v1 n v2 c_draft_hookOfEnd = some res → va_P G.1 CL [(h_this, .inr (5, [.ref h_text, .ref h_draft, .int c_kind, .int c_from, .int c_to, .int c_hasHooks, .int c_hasTies, .int c_cardsTold])), (h_text, .inr (1, [.int c_text_length, .ref h_text_letters])), (h_text_letters, .inl (G.2 0, 120, .inl c_text_letters)), (h_draft, .inr (2, [.int c_draft_hooks, .int c_draft_ends, .int c_draft_cards, .int c_draft_limit, .ref h_draft_hookOfEnd, .ref h_draft_holesOfCard])), (h_draft_hookOfEnd, .inl (G.2 0, 12, .inl c_draft_hookOfEnd))] H → va_D A [(h_this, .inr (5, [.ref h_text, .ref h_draft, .int c_kind, .int c_from, .int c_to, .int c_hasHooks, .int c_hasTies, .int c_cardsTold])), (h_text, .inr (1, [.int c_text_length, .ref h_text_letters])), (h_text_letters, .inl (G.2 0, 120, .inl c_text_letters)), (h_draft, .inr (2, [.int c_draft_hooks, .int c_draft_ends, .int c_draft_cards, .int c_draft_limit, .ref h_draft_hookOfEnd, .ref h_draft_holesOfCard])), (h_draft_hookOfEnd, .inl (G.2 0, 12, .inl c_draft_hookOfEnd))] → va_S A s.heap H locs → ∀ (ls : Array Slot), lv_has ls 3 [(0, .ref h_this), (1, .int v1), (2, .int v2)] → W p l e rmX5_takesTies s m args below meth c H locs 0 0 Q (F0 m 42 ls []) := by
  obtain ⟨hx, hb, hr, hlk, hml, hown, hts, hK⟩ := id C
  intro n
  induction n with
  | zero =>
    intro v2 c_draft_hookOfEnd H locs hf
    cases hf
  | succ n ih =>
    intro v2 c_draft_hookOfEnd H locs hf hP hD hS ls hl
    rw [fX5_takesTies_L42] at hf
    refine lv_iload_n hx hb dX5_takesTies_42 rfl (lv_at hl 2 rfl) ?_
    refine lv_iload_n hx hb dX5_takesTies_43 rfl (lv_at hl 1 rfl) ?_
    refine lv_icmp_ge (tgt := 74) hx hb dX5_takesTies_44 (by decide) (fun c9 => ?_) (fun c9 => ?_)
    · have hf := c_t hf c9
      exact hk74 c_draft_hookOfEnd _ _ hf hP hD hS _ (lv_sub hl [0] rfl)
    · have hf := c_f hf c9
      refine lv_aload_n hx hb dX5_takesTies_47 rfl (lv_at hl 0 rfl) ?_
      refine va_get (D := G.1) (cl := CL) (ci := 5) (C := RX5) (T := TX5) (N := 8) hx hb hts iX5_takesTies_5 hown hK hP 0 rfl rfl 1 (by decide) (hts (.fieldLink RX5 21 "LoomCards$Teller" "draft" "LLoomCards$Loom;") (List.mem_of_getElem? (i := 3) rfl)) (fun _ h9 => h9) rfl dX5_takesTies_48 ?_
      refine lv_iload_n hx hb dX5_takesTies_51 rfl (lv_at hl 2 rfl) ?_
      refine lv_aload_n hx hb dX5_takesTies_52 rfl (lv_at hl 0 rfl) ?_
      refine va_get (D := G.1) (cl := CL) (ci := 5) (C := RX5) (T := TX5) (N := 8) hx hb hts iX5_takesTies_5 hown hK hP 0 rfl rfl 0 (by decide) (hts (.fieldLink RX5 12 "LoomCards$Teller" "text" "LLoomCards$Letters;") (List.mem_of_getElem? (i := 6) rfl)) (fun _ h9 => h9) rfl dX5_takesTies_53 ?_
      refine lv_aload_n hx hb dX5_takesTies_56 rfl (lv_at hl 0 rfl) ?_
      refine va_get (D := G.1) (cl := CL) (ci := 5) (C := RX5) (T := TX5) (N := 8) hx hb hts iX5_takesTies_5 hown hK hP 0 rfl rfl 3 (by decide) (hts (.fieldLink RX5 39 "LoomCards$Teller" "from" "I") (List.mem_of_getElem? (i := 2) rfl)) (fun _ h9 => h9) rfl dX5_takesTies_57 ?_
      refine lv_iload_n hx hb dX5_takesTies_60 rfl (lv_at hl 2 rfl) ?_
      refine lv_iadd hx hb dX5_takesTies_61 ?_
      refine r_bind hf (fun u2 hu2 hf => ?_)
      refine cRiV (ci := 1) (rest := [.int v2, .ref h_draft]) ⟨hx, hb, hml, hown, hts⟩ hK (tX1_figureAt l G h_text h_text_letters c_text_length c_text_letters (c_from + v2) u2 hu2) gX5_takesTies_X1_figureAt rfl hdX1_figureAt rfl rfl rfl ⟨Nat.le_of_ble_eq_true rfl, Nat.le_of_ble_eq_true rfl⟩ hP [1, 2] rfl 1 rfl rfl rfl hl.1 (Nat.le_of_ble_eq_true rfl) rfl dX5_takesTies_62 ⟨Nat.zero_le _, Nat.zero_le _⟩ ?_
      refine r_bind hf (fun u3 hu3 hf => ?_)
      refine cWvV (ci := 2) (rest := []) (wr := [(h_this, .inr (5, [.ref h_text, .ref h_draft, .int c_kind, .int c_from, .int c_to, .int c_hasHooks, .int c_hasTies, .int c_cardsTold])), (h_text, .inr (1, [.int c_text_length, .ref h_text_letters])), (h_text_letters, .inl (G.2 0, 120, .inl c_text_letters))]) (wf := [(h_this, .inr (5, [.ref h_text, .ref h_draft, .int c_kind, .int c_from, .int c_to, .int c_hasHooks, .int c_hasTies, .int c_cardsTold])), (h_text, .inr (1, [.int c_text_length, .ref h_text_letters])), (h_text_letters, .inl (G.2 0, 120, .inl c_text_letters)), (h_draft, .inr (2, [.int c_draft_hooks, .int c_draft_ends, .int c_draft_cards, .int c_draft_limit, .ref h_draft_hookOfEnd, .ref h_draft_holesOfCard])), (h_draft_hookOfEnd, .inl (G.2 0, 12, .inl u3))]) ⟨hx, hb, hml, hown, hts⟩ hK (tX2_tie l G h_draft h_draft_hookOfEnd h_draft_holesOfCard c_draft_hooks c_draft_ends c_draft_cards c_draft_limit c_draft_hookOfEnd v2 u2 u3 hu3) gX5_takesTies_X2_tie rfl hdX2_tie rfl rfl rfl ⟨Nat.le_of_ble_eq_true rfl, Nat.le_of_ble_eq_true rfl⟩ hP hD hS hA [3, 4] [0, 1, 2] [0, 1, 2, 3, 4] rfl rfl rfl (by decide) (by decide) (by decide) (by decide) 3 rfl rfl rfl hl.1 (Nat.le_of_ble_eq_true rfl) rfl dX5_takesTies_65 ⟨Nat.zero_le _, Nat.zero_le _⟩ (fun H locs hP hD hS => ?_)
      refine lv_iinc (v := (v2 + (1 : Int32))) (lv' := [(2, .int (v2 + (1 : Int32))), (0, .ref h_this), (1, .int v1)]) hx hb dX5_takesTies_68 hl (k := 2) rfl rfl (by decide) rfl (fun ls hl => ?_)
      refine lv_goto (tgt := 42) hx hb dX5_takesTies_71 (by decide) ?_
      exact ih (v2 + (1 : Int32)) u3 _ _ hf hP hD hS _ (lv_sub hl [1, 2, 0] rfl)
set_option maxHeartbeats 4000000 in
set_option maxRecDepth 100000 in
theorem kX5_takesTies (h_this : Nat) (h_text : Nat) (h_draft : Nat) (h_text_letters : Nat) (h_draft_hookOfEnd : Nat) (h_draft_holesOfCard : Nat) (c_kind : Int32) (c_from : Int32) (c_to : Int32) (c_hasHooks : Int32) (c_hasTies : Int32) (c_cardsTold : Int32) (c_text_length : Int32) (c_text_letters : Nat → Int32) (c_draft_hooks : Int32) (c_draft_ends : Int32) (c_draft_cards : Int32) (c_draft_limit : Int32) (c_draft_hookOfEnd : Nat → Int32) (C : Cx cX5_takesTies (some .boolean) 3 RX5 wsX5_takesTies G p s m args meth c) (hA : ∀ q : Nat, s.heap.size ≤ q → A q) (hP : va_P G.1 CL [(h_this, .inr (5, [.ref h_text, .ref h_draft, .int c_kind, .int c_from, .int c_to, .int c_hasHooks, .int c_hasTies, .int c_cardsTold])), (h_text, .inr (1, [.int c_text_length, .ref h_text_letters])), (h_text_letters, .inl (G.2 0, 120, .inl c_text_letters)), (h_draft, .inr (2, [.int c_draft_hooks, .int c_draft_ends, .int c_draft_cards, .int c_draft_limit, .ref h_draft_hookOfEnd, .ref h_draft_holesOfCard])), (h_draft_hookOfEnd, .inl (G.2 0, 12, .inl c_draft_hookOfEnd))] s.heap) (hD : va_D A [(h_this, .inr (5, [.ref h_text, .ref h_draft, .int c_kind, .int c_from, .int c_to, .int c_hasHooks, .int c_hasTies, .int c_cardsTold])), (h_text, .inr (1, [.int c_text_length, .ref h_text_letters])), (h_text_letters, .inl (G.2 0, 120, .inl c_text_letters)), (h_draft, .inr (2, [.int c_draft_hooks, .int c_draft_ends, .int c_draft_cards, .int c_draft_limit, .ref h_draft_hookOfEnd, .ref h_draft_holesOfCard])), (h_draft_hookOfEnd, .inl (G.2 0, 12, .inl c_draft_hookOfEnd))]) (hS : va_S A s.heap s.heap []) {res : Int32 × Int32 × Int32 × (Nat → Int32)} (kr : ∀ (pc : Nat) (ls : Array Slot) (H : Heap) (locs : List Loc), narrow .boolean (.int res.1) = .int res.1 → va_P G.1 CL [(h_this, .inr (5, [.ref h_text, .ref h_draft, .int c_kind, .int c_from, .int c_to, .int c_hasHooks, .int (res.2.1), .int c_cardsTold])), (h_text, .inr (1, [.int c_text_length, .ref h_text_letters])), (h_text_letters, .inl (G.2 0, 120, .inl c_text_letters)), (h_draft, .inr (2, [.int c_draft_hooks, .int (res.2.2.1), .int c_draft_cards, .int c_draft_limit, .ref h_draft_hookOfEnd, .ref h_draft_holesOfCard])), (h_draft_hookOfEnd, .inl (G.2 0, 12, .inl (res.2.2.2)))] H → va_D A [(h_this, .inr (5, [.ref h_text, .ref h_draft, .int c_kind, .int c_from, .int c_to, .int c_hasHooks, .int (res.2.1), .int c_cardsTold])), (h_text, .inr (1, [.int c_text_length, .ref h_text_letters])), (h_text_letters, .inl (G.2 0, 120, .inl c_text_letters)), (h_draft, .inr (2, [.int c_draft_hooks, .int (res.2.2.1), .int c_draft_cards, .int c_draft_limit, .ref h_draft_hookOfEnd, .ref h_draft_holesOfCard])), (h_draft_hookOfEnd, .inl (G.2 0, 12, .inl (res.2.2.2)))] → va_S A s.heap H locs → decode cX5_takesTies pc = .ok (.ireturn, 1) → W p l e rmX5_takesTies s m args below meth c H locs 0 0 Q (F0 m pc ls [.int res.1])) (hf : fX5_takesTies c_from c_to c_hasTies c_text_length c_text_letters c_draft_hooks c_draft_ends c_draft_hookOfEnd = some res) {ls : Array Slot} (hl : lv_has ls 3 [(0, .ref h_this)]) : W p l e rmX5_takesTies s m args below meth c s.heap [] 0 0 Q (F0 m 0 ls []) := by
  obtain ⟨hx, hb, hr, hlk, hml, hown, hts, hK⟩ := id C
  rw [fX5_takesTies] at hf
  refine lv_aload_n hx hb dX5_takesTies_0 rfl (lv_at hl 0 rfl) ?_
  refine va_get (D := G.1) (cl := CL) (ci := 5) (C := RX5) (T := TX5) (N := 8) hx hb hts iX5_takesTies_5 hown hK hP 0 rfl rfl 4 (by decide) (hts (.fieldLink RX5 43 "LoomCards$Teller" "to" "I") (List.mem_of_getElem? (i := 1) rfl)) (fun _ h9 => h9) rfl dX5_takesTies_1 ?_
  refine lv_aload_n hx hb dX5_takesTies_4 rfl (lv_at hl 0 rfl) ?_
  refine va_get (D := G.1) (cl := CL) (ci := 5) (C := RX5) (T := TX5) (N := 8) hx hb hts iX5_takesTies_5 hown hK hP 0 rfl rfl 3 (by decide) (hts (.fieldLink RX5 39 "LoomCards$Teller" "from" "I") (List.mem_of_getElem? (i := 2) rfl)) (fun _ h9 => h9) rfl dX5_takesTies_5 ?_
  refine lv_isub hx hb dX5_takesTies_8 ?_
  refine lv_istore_n (lv' := [(1, .int (c_to - c_from)), (0, .ref h_this)]) hx hb dX5_takesTies_9 rfl hl (by decide) rfl (fun ls hl => ?_)
  refine lv_iload_n hx hb dX5_takesTies_10 rfl (lv_at hl 0 rfl) ?_
  refine lv_bipush (v := (12 : Int32)) hx hb dX5_takesTies_11 (by decide) ?_
  refine lv_icmp_gt (tgt := 30) hx hb dX5_takesTies_13 (by decide) (fun c9 => ?_) (fun c9 => ?_)
  · have hf := c_t hf c9
    refine lv_iconst (v := (0 : Int32)) hx hb dX5_takesTies_30 (by decide) ?_
    obtain rfl := Option.some.inj hf
    exact kr _ _ _ _ nb0 hP hD hS dX5_takesTies_31
  · have hf := c_f hf c9
    refine lv_aload_n hx hb dX5_takesTies_16 rfl (lv_at hl 1 rfl) ?_
    refine lv_aload_n hx hb dX5_takesTies_17 rfl (lv_at hl 1 rfl) ?_
    refine va_get (D := G.1) (cl := CL) (ci := 5) (C := RX5) (T := TX5) (N := 8) hx hb hts iX5_takesTies_5 hown hK hP 0 rfl rfl 1 (by decide) (hts (.fieldLink RX5 21 "LoomCards$Teller" "draft" "LLoomCards$Loom;") (List.mem_of_getElem? (i := 3) rfl)) (fun _ h9 => h9) rfl dX5_takesTies_18 ?_
    refine va_get (D := G.1) (cl := CL) (ci := 2) (C := RX2) (T := TX2) (N := 6) hx hb hts iX5_takesTies_2 hown hK hP 3 rfl rfl 0 (by decide) (hts (.fieldLink RX5 86 "LoomCards$Loom" "hooks" "I") (List.mem_of_getElem? (i := 4) rfl)) (fun _ h9 => h9) rfl dX5_takesTies_21 ?_
    refine r_bind hf (fun u1 hu1 hf => ?_)
    refine cRiV (ci := 5) (rest := []) ⟨hx, hb, hml, hown, hts⟩ hK (tX5_areFiguresBelow l G h_this h_text h_draft h_text_letters c_kind c_from c_to c_hasHooks c_hasTies c_cardsTold c_text_length c_text_letters c_draft_hooks u1 hu1) gX5_takesTies_X5_areFiguresBelow rfl hdX5_areFiguresBelow rfl rfl rfl ⟨Nat.le_of_ble_eq_true rfl, Nat.le_of_ble_eq_true rfl⟩ hP [0, 1, 2] rfl 0 rfl rfl rfl hl.1 (Nat.le_of_ble_eq_true rfl) rfl dX5_takesTies_24 ⟨Nat.zero_le _, Nat.zero_le _⟩ ?_
    refine lv_if_ne (tgt := 32) hx hb dX5_takesTies_27 (by decide) (fun c9 => ?_) (fun c9 => ?_)
    · have hf := c_f hf c9
      refine lv_aload_n hx hb dX5_takesTies_32 rfl (lv_at hl 1 rfl) ?_
      refine va_get (D := G.1) (cl := CL) (ci := 5) (C := RX5) (T := TX5) (N := 8) hx hb hts iX5_takesTies_5 hown hK hP 0 rfl rfl 1 (by decide) (hts (.fieldLink RX5 21 "LoomCards$Teller" "draft" "LLoomCards$Loom;") (List.mem_of_getElem? (i := 3) rfl)) (fun _ h9 => h9) rfl dX5_takesTies_33 ?_
      refine lv_iload_n hx hb dX5_takesTies_36 rfl (lv_at hl 0 rfl) ?_
      refine va_put (D := G.1) (cl := CL) (ci := 2) (v := .int (c_to - c_from)) (ty := .int) (C := RX2) (T := TX2) (N := 6) hx hb hts iX5_takesTies_2 tyX2 tyX2_ok nmX2 hown hK hP hD hS 3 rfl rfl 1 (by decide) (hts (.fieldLink RX5 92 "LoomCards$Loom" "ends" "I") (List.mem_of_getElem? (i := 5) rfl)) (fun _ h9 => h9) rfl (tyX2_ok 1 (by decide)) rfl rfl (Nat.le_of_ble_eq_true rfl) dX5_takesTies_37 (fun H locs hP hD hS => ?_)
      have hP : va_P G.1 CL [(h_this, .inr (5, [.ref h_text, .ref h_draft, .int c_kind, .int c_from, .int c_to, .int c_hasHooks, .int c_hasTies, .int c_cardsTold])), (h_text, .inr (1, [.int c_text_length, .ref h_text_letters])), (h_text_letters, .inl (G.2 0, 120, .inl c_text_letters)), (h_draft, .inr (2, [.int c_draft_hooks, .int (c_to - c_from), .int c_draft_cards, .int c_draft_limit, .ref h_draft_hookOfEnd, .ref h_draft_holesOfCard])), (h_draft_hookOfEnd, .inl (G.2 0, 12, .inl c_draft_hookOfEnd))] H := hP
      have hD : va_D A [(h_this, .inr (5, [.ref h_text, .ref h_draft, .int c_kind, .int c_from, .int c_to, .int c_hasHooks, .int c_hasTies, .int c_cardsTold])), (h_text, .inr (1, [.int c_text_length, .ref h_text_letters])), (h_text_letters, .inl (G.2 0, 120, .inl c_text_letters)), (h_draft, .inr (2, [.int c_draft_hooks, .int (c_to - c_from), .int c_draft_cards, .int c_draft_limit, .ref h_draft_hookOfEnd, .ref h_draft_holesOfCard])), (h_draft_hookOfEnd, .inl (G.2 0, 12, .inl c_draft_hookOfEnd))] := hD
      refine lv_iconst (v := (0 : Int32)) hx hb dX5_takesTies_40 (by decide) ?_
      refine lv_istore_n (lv' := [(2, .int (0 : Int32)), (1, .int (c_to - c_from)), (0, .ref h_this)]) hx hb dX5_takesTies_41 rfl hl (by decide) rfl (fun ls hl => ?_)
      refine kX5_takesTies_L42 h_this h_text h_draft h_text_letters h_draft_hookOfEnd h_draft_holesOfCard c_kind c_from c_to c_hasHooks c_hasTies c_cardsTold c_text_length c_text_letters c_draft_hooks (c_to - c_from) c_draft_cards c_draft_limit (c_to - c_from) C hA kr ?_ FU (0 : Int32) c_draft_hookOfEnd _ _ hf hP hD hS _ (lv_sub hl [2, 1, 0] rfl)
      intro c_draft_hookOfEnd_x4 H locs hf hP hD hS ls hl
      refine lv_aload_n hx hb dX5_takesTies_74 rfl (lv_at hl 0 rfl) ?_
      refine lv_iconst (v := (1 : Int32)) hx hb dX5_takesTies_75 (by decide) ?_
      refine va_put (D := G.1) (cl := CL) (ci := 5) (v := .int (1 : Int32)) (ty := .boolean) (C := RX5) (T := TX5) (N := 8) hx hb hts iX5_takesTies_5 tyX5 tyX5_ok nmX5 hown hK hP hD hS 0 rfl rfl 6 (by decide) (hts (.fieldLink RX5 50 "LoomCards$Teller" "hasTies" "Z") (List.mem_of_getElem? (i := 7) rfl)) (fun _ h9 => h9) rfl (tyX5_ok 6 (by decide)) rfl rfl (Nat.le_of_ble_eq_true rfl) dX5_takesTies_76 (fun H locs hP hD hS => ?_)
      have hP : va_P G.1 CL [(h_this, .inr (5, [.ref h_text, .ref h_draft, .int c_kind, .int c_from, .int c_to, .int c_hasHooks, .int (1 : Int32), .int c_cardsTold])), (h_text, .inr (1, [.int c_text_length, .ref h_text_letters])), (h_text_letters, .inl (G.2 0, 120, .inl c_text_letters)), (h_draft, .inr (2, [.int c_draft_hooks, .int (c_to - c_from), .int c_draft_cards, .int c_draft_limit, .ref h_draft_hookOfEnd, .ref h_draft_holesOfCard])), (h_draft_hookOfEnd, .inl (G.2 0, 12, .inl c_draft_hookOfEnd_x4))] H := hP
      have hD : va_D A [(h_this, .inr (5, [.ref h_text, .ref h_draft, .int c_kind, .int c_from, .int c_to, .int c_hasHooks, .int (1 : Int32), .int c_cardsTold])), (h_text, .inr (1, [.int c_text_length, .ref h_text_letters])), (h_text_letters, .inl (G.2 0, 120, .inl c_text_letters)), (h_draft, .inr (2, [.int c_draft_hooks, .int (c_to - c_from), .int c_draft_cards, .int c_draft_limit, .ref h_draft_hookOfEnd, .ref h_draft_holesOfCard])), (h_draft_hookOfEnd, .inl (G.2 0, 12, .inl c_draft_hookOfEnd_x4))] := hD
      refine lv_iconst (v := (1 : Int32)) hx hb dX5_takesTies_79 (by decide) ?_
      obtain rfl := Option.some.inj hf
      exact kr _ _ _ _ nb1 hP hD hS dX5_takesTies_80
    · have hf := c_t hf c9
      refine lv_iconst (v := (0 : Int32)) hx hb dX5_takesTies_30 (by decide) ?_
      obtain rfl := Option.some.inj hf
      exact kr _ _ _ _ nb0 hP hD hS dX5_takesTies_31
end SX5_takesTies
set_option maxHeartbeats 4000000 in
set_option maxRecDepth 100000 in
theorem tX5_takesTies (l : Launch) (G : GG) (h_this : Nat) (h_text : Nat) (h_draft : Nat) (h_text_letters : Nat) (h_draft_hookOfEnd : Nat) (h_draft_holesOfCard : Nat) (c_kind : Int32) (c_from : Int32) (c_to : Int32) (c_hasHooks : Int32) (c_hasTies : Int32) (c_cardsTold : Int32) (c_text_length : Int32) (c_text_letters : Nat → Int32) (c_draft_hooks : Int32) (c_draft_ends : Int32) (c_draft_cards : Int32) (c_draft_limit : Int32) (c_draft_hookOfEnd : Nat → Int32) (res : Int32 × Int32 × Int32 × (Nat → Int32)) (hf : fX5_takesTies c_from c_to c_hasTies c_text_length c_text_letters c_draft_hooks c_draft_ends c_draft_hookOfEnd = some res) : MWi l yX5_takesTies wsX5_takesTies rmX5_takesTies G [.ref h_this] [(h_this, .inr (5, [.ref h_text, .ref h_draft, .int c_kind, .int c_from, .int c_to, .int c_hasHooks, .int c_hasTies, .int c_cardsTold])), (h_text, .inr (1, [.int c_text_length, .ref h_text_letters])), (h_text_letters, .inl (G.2 0, 120, .inl c_text_letters)), (h_draft, .inr (2, [.int c_draft_hooks, .int c_draft_ends, .int c_draft_cards, .int c_draft_limit, .ref h_draft_hookOfEnd, .ref h_draft_holesOfCard])), (h_draft_hookOfEnd, .inl (G.2 0, 12, .inl c_draft_hookOfEnd))] (res.1) [(h_this, .inr (5, [.ref h_text, .ref h_draft, .int c_kind, .int c_from, .int c_to, .int c_hasHooks, .int (res.2.1), .int c_cardsTold])), (h_text, .inr (1, [.int c_text_length, .ref h_text_letters])), (h_text_letters, .inl (G.2 0, 120, .inl c_text_letters)), (h_draft, .inr (2, [.int c_draft_hooks, .int (res.2.2.1), .int c_draft_cards, .int c_draft_limit, .ref h_draft_hookOfEnd, .ref h_draft_holesOfCard])), (h_draft_hookOfEnd, .inl (G.2 0, 12, .inl (res.2.2.2)))] := MWi.of (plainFor_of_name (by decide +kernel)) rfl (Nat.le_of_ble_eq_true rfl) (fun p e s m below meth c A C hA hP hD hS ls hl => kX5_takesTies h_this h_text h_draft h_text_letters h_draft_hookOfEnd h_draft_holesOfCard c_kind c_from c_to c_hasHooks c_hasTies c_cardsTold c_text_length c_text_letters c_draft_hooks c_draft_ends c_draft_cards c_draft_limit c_draft_hookOfEnd C hA hP hD hS (fun pc ls H locs hn hP hD hS d => rWz C hn hP hD hS d) hf hl)
def fX5_takeHoles (c_cardsTold : Int32) (c_draft_cards : Int32) (c_draft_holesOfCard : Nat → Int32) (v1 : Int32) : Option (Int32 × Int32 × (Nat → Int32)) := (fX2_putBehind c_draft_cards c_draft_holesOfCard c_cardsTold v1).bind (fun u1 => some ((c_cardsTold + (1 : Int32)), u1.1, u1.2))
theorem iX5_takeHoles_2 : ∀ w ∈ wsX20, w ∈ wsX5_takeHoles := fun w h => List.mem_cons_of_mem _ (List.mem_append_right _ (h))
theorem iX5_takeHoles_5 : ∀ w ∈ wsX50, w ∈ wsX5_takeHoles := fun w h => List.mem_cons_of_mem _ (List.mem_append_left _ (List.mem_append_right _ (h)))
theorem hdX5_takeHoles : yX5_takeHoles.cls = RX5 ∧ yX5_takeHoles.cls ≠ "java/lang/invoke/MethodHandle" ∧ yX5_takeHoles.cls ≠ "java/lang/invoke/VarHandle" ∧ (parseMethodDescriptor yX5_takeHoles.desc).map (fun d => d.parameters.length) = some 1 := by decide +kernel
abbrev rmX5_takeHoles : Room := { frames := 1, cells := 0, slots := 0, locals := 22 }
section SX5_takeHoles
variable {p : Program} {l : Launch} {e : Env} {s : State} {m : MethodId} {args : Array Value} {below : List Frame} {meth : Method} {c : Code} {Q : State → Prop} {G : GG} {A : Nat → Prop}
set_option maxHeartbeats 4000000 in
set_option maxRecDepth 100000 in
theorem kX5_takeHoles (h_this : Nat) (h_text : Nat) (h_draft : Nat) (h_draft_hookOfEnd : Nat) (h_draft_holesOfCard : Nat) (c_kind : Int32) (c_from : Int32) (c_to : Int32) (c_hasHooks : Int32) (c_hasTies : Int32) (c_cardsTold : Int32) (c_draft_hooks : Int32) (c_draft_ends : Int32) (c_draft_cards : Int32) (c_draft_limit : Int32) (c_draft_holesOfCard : Nat → Int32) (v1 : Int32) (C : Cx cX5_takeHoles none 2 RX5 wsX5_takeHoles G p s m args meth c) (hA : ∀ q : Nat, s.heap.size ≤ q → A q) (hP : va_P G.1 CL [(h_this, .inr (5, [.ref h_text, .ref h_draft, .int c_kind, .int c_from, .int c_to, .int c_hasHooks, .int c_hasTies, .int c_cardsTold])), (h_draft, .inr (2, [.int c_draft_hooks, .int c_draft_ends, .int c_draft_cards, .int c_draft_limit, .ref h_draft_hookOfEnd, .ref h_draft_holesOfCard])), (h_draft_holesOfCard, .inl (G.2 0, 8, .inl c_draft_holesOfCard))] s.heap) (hD : va_D A [(h_this, .inr (5, [.ref h_text, .ref h_draft, .int c_kind, .int c_from, .int c_to, .int c_hasHooks, .int c_hasTies, .int c_cardsTold])), (h_draft, .inr (2, [.int c_draft_hooks, .int c_draft_ends, .int c_draft_cards, .int c_draft_limit, .ref h_draft_hookOfEnd, .ref h_draft_holesOfCard])), (h_draft_holesOfCard, .inl (G.2 0, 8, .inl c_draft_holesOfCard))]) (hS : va_S A s.heap s.heap []) {res : Int32 × Int32 × (Nat → Int32)} (kr : ∀ (pc : Nat) (ls : Array Slot) (H : Heap) (locs : List Loc), va_P G.1 CL [(h_this, .inr (5, [.ref h_text, .ref h_draft, .int c_kind, .int c_from, .int c_to, .int c_hasHooks, .int c_hasTies, .int (res.1)])), (h_draft, .inr (2, [.int c_draft_hooks, .int c_draft_ends, .int (res.2.1), .int c_draft_limit, .ref h_draft_hookOfEnd, .ref h_draft_holesOfCard])), (h_draft_holesOfCard, .inl (G.2 0, 8, .inl (res.2.2)))] H → va_D A [(h_this, .inr (5, [.ref h_text, .ref h_draft, .int c_kind, .int c_from, .int c_to, .int c_hasHooks, .int c_hasTies, .int (res.1)])), (h_draft, .inr (2, [.int c_draft_hooks, .int c_draft_ends, .int (res.2.1), .int c_draft_limit, .ref h_draft_hookOfEnd, .ref h_draft_holesOfCard])), (h_draft_holesOfCard, .inl (G.2 0, 8, .inl (res.2.2)))] → va_S A s.heap H locs → decode cX5_takeHoles pc = .ok (.return_, 1) → W p l e rmX5_takeHoles s m args below meth c H locs 0 0 Q (F0 m pc ls [])) (hf : fX5_takeHoles c_cardsTold c_draft_cards c_draft_holesOfCard v1 = some res) {ls : Array Slot} (hl : lv_has ls 2 [(0, .ref h_this), (1, .int v1)]) : W p l e rmX5_takeHoles s m args below meth c s.heap [] 0 0 Q (F0 m 0 ls []) := by
  obtain ⟨hx, hb, hr, hlk, hml, hown, hts, hK⟩ := id C
  rw [fX5_takeHoles] at hf
  refine lv_aload_n hx hb dX5_takeHoles_0 rfl (lv_at hl 0 rfl) ?_
  refine va_get (D := G.1) (cl := CL) (ci := 5) (C := RX5) (T := TX5) (N := 8) hx hb hts iX5_takeHoles_5 hown hK hP 0 rfl rfl 1 (by decide) (hts (.fieldLink RX5 21 "LoomCards$Teller" "draft" "LLoomCards$Loom;") (List.mem_of_getElem? (i := 1) rfl)) (fun _ h9 => h9) rfl dX5_takeHoles_1 ?_
  refine lv_aload_n hx hb dX5_takeHoles_4 rfl (lv_at hl 0 rfl) ?_
  refine va_get (D := G.1) (cl := CL) (ci := 5) (C := RX5) (T := TX5) (N := 8) hx hb hts iX5_takeHoles_5 hown hK hP 0 rfl rfl 7 (by decide) (hts (.fieldLink RX5 53 "LoomCards$Teller" "cardsTold" "I") (List.mem_of_getElem? (i := 2) rfl)) (fun _ h9 => h9) rfl dX5_takeHoles_5 ?_
  refine lv_iload_n hx hb dX5_takeHoles_8 rfl (lv_at hl 1 rfl) ?_
  refine r_bind hf (fun u1 hu1 hf => ?_)
  refine cWvV (ci := 2) (rest := []) (wr := [(h_this, .inr (5, [.ref h_text, .ref h_draft, .int c_kind, .int c_from, .int c_to, .int c_hasHooks, .int c_hasTies, .int c_cardsTold]))]) (wf := [(h_this, .inr (5, [.ref h_text, .ref h_draft, .int c_kind, .int c_from, .int c_to, .int c_hasHooks, .int c_hasTies, .int c_cardsTold])), (h_draft, .inr (2, [.int c_draft_hooks, .int c_draft_ends, .int u1.1, .int c_draft_limit, .ref h_draft_hookOfEnd, .ref h_draft_holesOfCard])), (h_draft_holesOfCard, .inl (G.2 0, 8, .inl u1.2))]) ⟨hx, hb, hml, hown, hts⟩ hK (tX2_putBehind l G h_draft h_draft_hookOfEnd h_draft_holesOfCard c_draft_hooks c_draft_ends c_draft_cards c_draft_limit c_draft_holesOfCard c_cardsTold v1 u1 hu1) gX5_takeHoles_X2_putBehind rfl hdX2_putBehind rfl rfl rfl ⟨Nat.le_of_ble_eq_true rfl, Nat.le_of_ble_eq_true rfl⟩ hP hD hS hA [1, 2] [0] [0, 1, 2] rfl rfl rfl (by decide) (by decide) (by decide) (by decide) 1 rfl rfl rfl hl.1 (Nat.le_of_ble_eq_true rfl) rfl dX5_takeHoles_9 ⟨Nat.zero_le _, Nat.zero_le _⟩ (fun H locs hP hD hS => ?_)
  refine lv_aload_n hx hb dX5_takeHoles_12 rfl (lv_at hl 0 rfl) ?_
  refine lv_dup hx hb dX5_takeHoles_13 rfl ?_
  refine va_get (D := G.1) (cl := CL) (ci := 5) (C := RX5) (T := TX5) (N := 8) hx hb hts iX5_takeHoles_5 hown hK hP 0 rfl rfl 7 (by decide) (hts (.fieldLink RX5 53 "LoomCards$Teller" "cardsTold" "I") (List.mem_of_getElem? (i := 2) rfl)) (fun _ h9 => h9) rfl dX5_takeHoles_14 ?_
  refine lv_iconst (v := (1 : Int32)) hx hb dX5_takeHoles_17 (by decide) ?_
  refine lv_iadd hx hb dX5_takeHoles_18 ?_
  refine va_put (D := G.1) (cl := CL) (ci := 5) (v := .int (c_cardsTold + (1 : Int32))) (ty := .int) (C := RX5) (T := TX5) (N := 8) hx hb hts iX5_takeHoles_5 tyX5 tyX5_ok nmX5 hown hK hP hD hS 0 rfl rfl 7 (by decide) (hts (.fieldLink RX5 53 "LoomCards$Teller" "cardsTold" "I") (List.mem_of_getElem? (i := 2) rfl)) (fun _ h9 => h9) rfl (tyX5_ok 7 (by decide)) rfl rfl (Nat.le_of_ble_eq_true rfl) dX5_takeHoles_19 (fun H locs hP hD hS => ?_)
  have hP : va_P G.1 CL [(h_this, .inr (5, [.ref h_text, .ref h_draft, .int c_kind, .int c_from, .int c_to, .int c_hasHooks, .int c_hasTies, .int (c_cardsTold + (1 : Int32))])), (h_draft, .inr (2, [.int c_draft_hooks, .int c_draft_ends, .int u1.1, .int c_draft_limit, .ref h_draft_hookOfEnd, .ref h_draft_holesOfCard])), (h_draft_holesOfCard, .inl (G.2 0, 8, .inl u1.2))] H := hP
  have hD : va_D A [(h_this, .inr (5, [.ref h_text, .ref h_draft, .int c_kind, .int c_from, .int c_to, .int c_hasHooks, .int c_hasTies, .int (c_cardsTold + (1 : Int32))])), (h_draft, .inr (2, [.int c_draft_hooks, .int c_draft_ends, .int u1.1, .int c_draft_limit, .ref h_draft_hookOfEnd, .ref h_draft_holesOfCard])), (h_draft_holesOfCard, .inl (G.2 0, 8, .inl u1.2))] := hD
  obtain rfl := Option.some.inj hf
  exact kr _ _ _ _ hP hD hS dX5_takeHoles_22
end SX5_takeHoles
set_option maxHeartbeats 4000000 in
set_option maxRecDepth 100000 in
theorem tX5_takeHoles (l : Launch) (G : GG) (h_this : Nat) (h_text : Nat) (h_draft : Nat) (h_draft_hookOfEnd : Nat) (h_draft_holesOfCard : Nat) (c_kind : Int32) (c_from : Int32) (c_to : Int32) (c_hasHooks : Int32) (c_hasTies : Int32) (c_cardsTold : Int32) (c_draft_hooks : Int32) (c_draft_ends : Int32) (c_draft_cards : Int32) (c_draft_limit : Int32) (c_draft_holesOfCard : Nat → Int32) (v1 : Int32) (res : Int32 × Int32 × (Nat → Int32)) (hf : fX5_takeHoles c_cardsTold c_draft_cards c_draft_holesOfCard v1 = some res) : MWv l yX5_takeHoles wsX5_takeHoles rmX5_takeHoles G [.ref h_this, .int v1] [(h_this, .inr (5, [.ref h_text, .ref h_draft, .int c_kind, .int c_from, .int c_to, .int c_hasHooks, .int c_hasTies, .int c_cardsTold])), (h_draft, .inr (2, [.int c_draft_hooks, .int c_draft_ends, .int c_draft_cards, .int c_draft_limit, .ref h_draft_hookOfEnd, .ref h_draft_holesOfCard])), (h_draft_holesOfCard, .inl (G.2 0, 8, .inl c_draft_holesOfCard))] [(h_this, .inr (5, [.ref h_text, .ref h_draft, .int c_kind, .int c_from, .int c_to, .int c_hasHooks, .int c_hasTies, .int (res.1)])), (h_draft, .inr (2, [.int c_draft_hooks, .int c_draft_ends, .int (res.2.1), .int c_draft_limit, .ref h_draft_hookOfEnd, .ref h_draft_holesOfCard])), (h_draft_holesOfCard, .inl (G.2 0, 8, .inl (res.2.2)))] := MWv.of (plainFor_of_name (by decide +kernel)) rfl (Nat.le_of_ble_eq_true rfl) (fun p e s m below meth c A C hA hP hD hS ls hl => kX5_takeHoles h_this h_text h_draft h_draft_hookOfEnd h_draft_holesOfCard c_kind c_from c_to c_hasHooks c_hasTies c_cardsTold c_draft_hooks c_draft_ends c_draft_cards c_draft_limit c_draft_holesOfCard v1 C hA hP hD hS (fun pc ls H locs hP hD hS d => rWv C hP hD hS d) hf hl)
def fX5_takesCard_L33 (k68 : Int32 → Option (Int32 × Int32 × Int32 × (Nat → Int32))) (c_from : Int32) (c_text_length : Int32) (c_text_letters : Nat → Int32) (c_draft_hooks : Int32) : Nat → Int32 → Int32 → Option (Int32 × Int32 × Int32 × (Nat → Int32))
  | 0, _, _ => none
  | n + 1, v1, v2 => if c_draft_hooks ≤ v2 then k68 v1 else (fX1_figureAt c_text_length c_text_letters (c_from + v2)).bind (fun u2 => fX5_takesCard_L33 k68 c_from c_text_length c_text_letters c_draft_hooks n (v1 ||| (u2 <<< (v2 &&& 31))) (v2 + (1 : Int32)))
def fX5_takesCard (c_from : Int32) (c_to : Int32) (c_cardsTold : Int32) (c_text_length : Int32) (c_text_letters : Nat → Int32) (c_draft_hooks : Int32) (c_draft_cards : Int32) (c_draft_holesOfCard : Nat → Int32)  : Option (Int32 × Int32 × Int32 × (Nat → Int32)) := if (c_to - c_from) = c_draft_hooks then (fX5_areFiguresBelow c_from c_to c_text_length c_text_letters (2 : Int32)).bind (fun u1 => if u1 = 0 then some ((0 : Int32), c_cardsTold, c_draft_cards, c_draft_holesOfCard) else (fX5_takesCard_L33 (fun (v1_x3 : Int32) => (fX5_takeHoles c_cardsTold c_draft_cards c_draft_holesOfCard v1_x3).bind (fun u4 => some ((1 : Int32), u4.1, u4.2.1, u4.2.2))) c_from c_text_length c_text_letters c_draft_hooks FU (0 : Int32) (0 : Int32))) else some ((0 : Int32), c_cardsTold, c_draft_cards, c_draft_holesOfCard)
theorem iX5_takesCard_1 : ∀ w ∈ wsX10, w ∈ wsX5_takesCard := fun w h => List.mem_cons_of_mem _ (List.mem_append_right _ (h))
theorem iX5_takesCard_2 : ∀ w ∈ wsX20, w ∈ wsX5_takesCard := fun w h => List.mem_cons_of_mem _ (List.mem_append_left _ (List.mem_append_right _ (h)))
theorem iX5_takesCard_5 : ∀ w ∈ wsX50, w ∈ wsX5_takesCard := fun w h => List.mem_cons_of_mem _ (List.mem_append_left _ (List.mem_append_left _ (List.mem_append_right _ (h))))
theorem hdX5_takesCard : yX5_takesCard.cls = RX5 ∧ yX5_takesCard.cls ≠ "java/lang/invoke/MethodHandle" ∧ yX5_takesCard.cls ≠ "java/lang/invoke/VarHandle" ∧ (parseMethodDescriptor yX5_takesCard.desc).map (fun d => d.parameters.length) = some 0 := by decide +kernel
abbrev rmX5_takesCard : Room := { frames := 2, cells := 0, slots := 0, locals := 43 }
section SX5_takesCard
variable {p : Program} {l : Launch} {e : Env} {s : State} {m : MethodId} {args : Array Value} {below : List Frame} {meth : Method} {c : Code} {Q : State → Prop} {G : GG} {A : Nat → Prop}
set_option maxHeartbeats 4000000 in
set_option maxRecDepth 100000 in
theorem kX5_takesCard_L33 (h_this : Nat) (h_text : Nat) (h_draft : Nat) (h_text_letters : Nat) (h_draft_hookOfEnd : Nat) (h_draft_holesOfCard : Nat) (c_kind : Int32) (c_from : Int32) (c_to : Int32) (c_hasHooks : Int32) (c_hasTies : Int32) (c_cardsTold : Int32) (c_text_length : Int32) (c_text_letters : Nat → Int32) (c_draft_hooks : Int32) (c_draft_ends : Int32) (c_draft_cards : Int32) (c_draft_limit : Int32) (c_draft_holesOfCard : Nat → Int32) (C : Cx cX5_takesCard (some .boolean) 3 RX5 wsX5_takesCard G p s m args meth c) (hA : ∀ q : Nat, s.heap.size ≤ q → A q) {res : Int32 × Int32 × Int32 × (Nat → Int32)} (kr : ∀ (pc : Nat) (ls : Array Slot) (H : Heap) (locs : List Loc), narrow .boolean (.int res.1) = .int res.1 → va_P G.1 CL [(h_this, .inr (5, [.ref h_text, .ref h_draft, .int c_kind, .int c_from, .int c_to, .int c_hasHooks, .int c_hasTies, .int (res.2.1)])), (h_text, .inr (1, [.int c_text_length, .ref h_text_letters])), (h_text_letters, .inl (G.2 0, 120, .inl c_text_letters)), (h_draft, .inr (2, [.int c_draft_hooks, .int c_draft_ends, .int (res.2.2.1), .int c_draft_limit, .ref h_draft_hookOfEnd, .ref h_draft_holesOfCard])), (h_draft_holesOfCard, .inl (G.2 0, 8, .inl (res.2.2.2)))] H → va_D A [(h_this, .inr (5, [.ref h_text, .ref h_draft, .int c_kind, .int c_from, .int c_to, .int c_hasHooks, .int c_hasTies, .int (res.2.1)])), (h_text, .inr (1, [.int c_text_length, .ref h_text_letters])), (h_text_letters, .inl (G.2 0, 120, .inl c_text_letters)), (h_draft, .inr (2, [.int c_draft_hooks, .int c_draft_ends, .int (res.2.2.1), .int c_draft_limit, .ref h_draft_hookOfEnd, .ref h_draft_holesOfCard])), (h_draft_holesOfCard, .inl (G.2 0, 8, .inl (res.2.2.2)))] → va_S A s.heap H locs → decode cX5_takesCard pc = .ok (.ireturn, 1) → W p l e rmX5_takesCard s m args below meth c H locs 0 0 Q (F0 m pc ls [.int res.1])) {k68 : Int32 → Option (Int32 × Int32 × Int32 × (Nat → Int32))} (hk68 : ∀ (v1 : Int32) (H : Heap) (locs : List Loc), k68 v1 = some res → va_P G.1 CL [(h_this, .inr (5, [.ref h_text, .ref h_draft, .int c_kind, .int c_from, .int c_to, .int c_hasHooks, .int c_hasTies, .int c_cardsTold])), (h_text, .inr (1, [.int c_text_length, .ref h_text_letters])), (h_text_letters, .inl (G.2 0, 120, .inl c_text_letters)), (h_draft, .inr (2, [.int c_draft_hooks, .int c_draft_ends, .int c_draft_cards, .int c_draft_limit, .ref h_draft_hookOfEnd, .ref h_draft_holesOfCard])), (h_draft_holesOfCard, .inl (G.2 0, 8, .inl c_draft_holesOfCard))] H → va_D A [(h_this, .inr (5, [.ref h_text, .ref h_draft, .int c_kind, .int c_from, .int c_to, .int c_hasHooks, .int c_hasTies, .int c_cardsTold])), (h_text, .inr (1, [.int c_text_length, .ref h_text_letters])), (h_text_letters, .inl (G.2 0, 120, .inl c_text_letters)), (h_draft, .inr (2, [.int c_draft_hooks, .int c_draft_ends, .int c_draft_cards, .int c_draft_limit, .ref h_draft_hookOfEnd, .ref h_draft_holesOfCard])), (h_draft_holesOfCard, .inl (G.2 0, 8, .inl c_draft_holesOfCard))] → va_S A s.heap H locs → ∀ (ls : Array Slot), lv_has ls 3 [(0, .ref h_this), (1, .int v1)] → W p l e rmX5_takesCard s m args below meth c H locs 0 0 Q (F0 m 68 ls [])) : ∀ (n : Nat) (v1 : Int32) (v2 : Int32) (H : Heap) (locs : List Loc), fX5_takesCard_L33 k68 c_from c_text_length c_text_letters c_draft_hooks n v1 v2 = some res → va_P G.1 CL [(h_this, .inr (5, [.ref h_text, .ref h_draft, .int c_kind, .int c_from, .int c_to, .int c_hasHooks, .int c_hasTies, .int c_cardsTold])), (h_text, .inr (1, [.int c_text_length, .ref h_text_letters])), (h_text_letters, .inl (G.2 0, 120, .inl c_text_letters)), (h_draft, .inr (2, [.int c_draft_hooks, .int c_draft_ends, .int c_draft_cards, .int c_draft_limit, .ref h_draft_hookOfEnd, .ref h_draft_holesOfCard])), (h_draft_holesOfCard, .inl (G.2 0, 8, .inl c_draft_holesOfCard))] H → va_D A [(h_this, .inr (5, [.ref h_text, .ref h_draft, .int c_kind, .int c_from, .int c_to, .int c_hasHooks, .int c_hasTies, .int c_cardsTold])), (h_text, .inr (1, [.int c_text_length, .ref h_text_letters])), (h_text_letters, .inl (G.2 0, 120, .inl c_text_letters)), (h_draft, .inr (2, [.int c_draft_hooks, .int c_draft_ends, .int c_draft_cards, .int c_draft_limit, .ref h_draft_hookOfEnd, .ref h_draft_holesOfCard])), (h_draft_holesOfCard, .inl (G.2 0, 8, .inl c_draft_holesOfCard))] → va_S A s.heap H locs → ∀ (ls : Array Slot), lv_has ls 3 [(0, .ref h_this), (1, .int v1), (2, .int v2)] → W p l e rmX5_takesCard s m args below meth c H locs 0 0 Q (F0 m 33 ls []) := by
  obtain ⟨hx, hb, hr, hlk, hml, hown, hts, hK⟩ := id C
  intro n
  induction n with
  | zero =>
    intro v1 v2 H locs hf
    cases hf
  | succ n ih =>
    intro v1 v2 H locs hf hP hD hS ls hl
    rw [fX5_takesCard_L33] at hf
    refine lv_iload_n hx hb dX5_takesCard_33 rfl (lv_at hl 2 rfl) ?_
    refine lv_aload_n hx hb dX5_takesCard_34 rfl (lv_at hl 0 rfl) ?_
    refine va_get (D := G.1) (cl := CL) (ci := 5) (C := RX5) (T := TX5) (N := 8) hx hb hts iX5_takesCard_5 hown hK hP 0 rfl rfl 1 (by decide) (hts (.fieldLink RX5 21 "LoomCards$Teller" "draft" "LLoomCards$Loom;") (List.mem_of_getElem? (i := 3) rfl)) (fun _ h9 => h9) rfl dX5_takesCard_35 ?_
    refine va_get (D := G.1) (cl := CL) (ci := 2) (C := RX2) (T := TX2) (N := 6) hx hb hts iX5_takesCard_2 hown hK hP 3 rfl rfl 0 (by decide) (hts (.fieldLink RX5 86 "LoomCards$Loom" "hooks" "I") (List.mem_of_getElem? (i := 4) rfl)) (fun _ h9 => h9) rfl dX5_takesCard_38 ?_
    refine lv_icmp_ge (tgt := 68) hx hb dX5_takesCard_41 (by decide) (fun c9 => ?_) (fun c9 => ?_)
    · have hf := c_t hf c9
      exact hk68 v1 _ _ hf hP hD hS _ (lv_sub hl [0, 1] rfl)
    · have hf := c_f hf c9
      refine lv_iload_n hx hb dX5_takesCard_44 rfl (lv_at hl 1 rfl) ?_
      refine lv_aload_n hx hb dX5_takesCard_45 rfl (lv_at hl 0 rfl) ?_
      refine va_get (D := G.1) (cl := CL) (ci := 5) (C := RX5) (T := TX5) (N := 8) hx hb hts iX5_takesCard_5 hown hK hP 0 rfl rfl 0 (by decide) (hts (.fieldLink RX5 12 "LoomCards$Teller" "text" "LLoomCards$Letters;") (List.mem_of_getElem? (i := 5) rfl)) (fun _ h9 => h9) rfl dX5_takesCard_46 ?_
      refine lv_aload_n hx hb dX5_takesCard_49 rfl (lv_at hl 0 rfl) ?_
      refine va_get (D := G.1) (cl := CL) (ci := 5) (C := RX5) (T := TX5) (N := 8) hx hb hts iX5_takesCard_5 hown hK hP 0 rfl rfl 3 (by decide) (hts (.fieldLink RX5 39 "LoomCards$Teller" "from" "I") (List.mem_of_getElem? (i := 2) rfl)) (fun _ h9 => h9) rfl dX5_takesCard_50 ?_
      refine lv_iload_n hx hb dX5_takesCard_53 rfl (lv_at hl 2 rfl) ?_
      refine lv_iadd hx hb dX5_takesCard_54 ?_
      refine r_bind hf (fun u2 hu2 hf => ?_)
      refine cRiV (ci := 1) (rest := [.int v1]) ⟨hx, hb, hml, hown, hts⟩ hK (tX1_figureAt l G h_text h_text_letters c_text_length c_text_letters (c_from + v2) u2 hu2) gX5_takesCard_X1_figureAt rfl hdX1_figureAt rfl rfl rfl ⟨Nat.le_of_ble_eq_true rfl, Nat.le_of_ble_eq_true rfl⟩ hP [1, 2] rfl 1 rfl rfl rfl hl.1 (Nat.le_of_ble_eq_true rfl) rfl dX5_takesCard_55 ⟨Nat.zero_le _, Nat.zero_le _⟩ ?_
      refine lv_iload_n hx hb dX5_takesCard_58 rfl (lv_at hl 2 rfl) ?_
      refine lv_ishl hx hb dX5_takesCard_59 ?_
      refine lv_ior hx hb dX5_takesCard_60 ?_
      refine lv_istore_n (lv' := [(1, .int (v1 ||| (u2 <<< (v2 &&& 31)))), (0, .ref h_this), (2, .int v2)]) hx hb dX5_takesCard_61 rfl hl (by decide) rfl (fun ls hl => ?_)
      refine lv_iinc (v := (v2 + (1 : Int32))) (lv' := [(2, .int (v2 + (1 : Int32))), (1, .int (v1 ||| (u2 <<< (v2 &&& 31)))), (0, .ref h_this)]) hx hb dX5_takesCard_62 hl (k := 2) rfl rfl (by decide) rfl (fun ls hl => ?_)
      refine lv_goto (tgt := 33) hx hb dX5_takesCard_65 (by decide) ?_
      exact ih (v1 ||| (u2 <<< (v2 &&& 31))) (v2 + (1 : Int32)) _ _ hf hP hD hS _ (lv_sub hl [2, 1, 0] rfl)
set_option maxHeartbeats 4000000 in
set_option maxRecDepth 100000 in
theorem kX5_takesCard (h_this : Nat) (h_text : Nat) (h_draft : Nat) (h_text_letters : Nat) (h_draft_hookOfEnd : Nat) (h_draft_holesOfCard : Nat) (c_kind : Int32) (c_from : Int32) (c_to : Int32) (c_hasHooks : Int32) (c_hasTies : Int32) (c_cardsTold : Int32) (c_text_length : Int32) (c_text_letters : Nat → Int32) (c_draft_hooks : Int32) (c_draft_ends : Int32) (c_draft_cards : Int32) (c_draft_limit : Int32) (c_draft_holesOfCard : Nat → Int32) (C : Cx cX5_takesCard (some .boolean) 3 RX5 wsX5_takesCard G p s m args meth c) (hA : ∀ q : Nat, s.heap.size ≤ q → A q) (hP : va_P G.1 CL [(h_this, .inr (5, [.ref h_text, .ref h_draft, .int c_kind, .int c_from, .int c_to, .int c_hasHooks, .int c_hasTies, .int c_cardsTold])), (h_text, .inr (1, [.int c_text_length, .ref h_text_letters])), (h_text_letters, .inl (G.2 0, 120, .inl c_text_letters)), (h_draft, .inr (2, [.int c_draft_hooks, .int c_draft_ends, .int c_draft_cards, .int c_draft_limit, .ref h_draft_hookOfEnd, .ref h_draft_holesOfCard])), (h_draft_holesOfCard, .inl (G.2 0, 8, .inl c_draft_holesOfCard))] s.heap) (hD : va_D A [(h_this, .inr (5, [.ref h_text, .ref h_draft, .int c_kind, .int c_from, .int c_to, .int c_hasHooks, .int c_hasTies, .int c_cardsTold])), (h_text, .inr (1, [.int c_text_length, .ref h_text_letters])), (h_text_letters, .inl (G.2 0, 120, .inl c_text_letters)), (h_draft, .inr (2, [.int c_draft_hooks, .int c_draft_ends, .int c_draft_cards, .int c_draft_limit, .ref h_draft_hookOfEnd, .ref h_draft_holesOfCard])), (h_draft_holesOfCard, .inl (G.2 0, 8, .inl c_draft_holesOfCard))]) (hS : va_S A s.heap s.heap []) {res : Int32 × Int32 × Int32 × (Nat → Int32)} (kr : ∀ (pc : Nat) (ls : Array Slot) (H : Heap) (locs : List Loc), narrow .boolean (.int res.1) = .int res.1 → va_P G.1 CL [(h_this, .inr (5, [.ref h_text, .ref h_draft, .int c_kind, .int c_from, .int c_to, .int c_hasHooks, .int c_hasTies, .int (res.2.1)])), (h_text, .inr (1, [.int c_text_length, .ref h_text_letters])), (h_text_letters, .inl (G.2 0, 120, .inl c_text_letters)), (h_draft, .inr (2, [.int c_draft_hooks, .int c_draft_ends, .int (res.2.2.1), .int c_draft_limit, .ref h_draft_hookOfEnd, .ref h_draft_holesOfCard])), (h_draft_holesOfCard, .inl (G.2 0, 8, .inl (res.2.2.2)))] H → va_D A [(h_this, .inr (5, [.ref h_text, .ref h_draft, .int c_kind, .int c_from, .int c_to, .int c_hasHooks, .int c_hasTies, .int (res.2.1)])), (h_text, .inr (1, [.int c_text_length, .ref h_text_letters])), (h_text_letters, .inl (G.2 0, 120, .inl c_text_letters)), (h_draft, .inr (2, [.int c_draft_hooks, .int c_draft_ends, .int (res.2.2.1), .int c_draft_limit, .ref h_draft_hookOfEnd, .ref h_draft_holesOfCard])), (h_draft_holesOfCard, .inl (G.2 0, 8, .inl (res.2.2.2)))] → va_S A s.heap H locs → decode cX5_takesCard pc = .ok (.ireturn, 1) → W p l e rmX5_takesCard s m args below meth c H locs 0 0 Q (F0 m pc ls [.int res.1])) (hf : fX5_takesCard c_from c_to c_cardsTold c_text_length c_text_letters c_draft_hooks c_draft_cards c_draft_holesOfCard = some res) {ls : Array Slot} (hl : lv_has ls 3 [(0, .ref h_this)]) : W p l e rmX5_takesCard s m args below meth c s.heap [] 0 0 Q (F0 m 0 ls []) := by
  obtain ⟨hx, hb, hr, hlk, hml, hown, hts, hK⟩ := id C
  rw [fX5_takesCard] at hf
  refine lv_aload_n hx hb dX5_takesCard_0 rfl (lv_at hl 0 rfl) ?_
  refine va_get (D := G.1) (cl := CL) (ci := 5) (C := RX5) (T := TX5) (N := 8) hx hb hts iX5_takesCard_5 hown hK hP 0 rfl rfl 4 (by decide) (hts (.fieldLink RX5 43 "LoomCards$Teller" "to" "I") (List.mem_of_getElem? (i := 1) rfl)) (fun _ h9 => h9) rfl dX5_takesCard_1 ?_
  refine lv_aload_n hx hb dX5_takesCard_4 rfl (lv_at hl 0 rfl) ?_
  refine va_get (D := G.1) (cl := CL) (ci := 5) (C := RX5) (T := TX5) (N := 8) hx hb hts iX5_takesCard_5 hown hK hP 0 rfl rfl 3 (by decide) (hts (.fieldLink RX5 39 "LoomCards$Teller" "from" "I") (List.mem_of_getElem? (i := 2) rfl)) (fun _ h9 => h9) rfl dX5_takesCard_5 ?_
  refine lv_isub hx hb dX5_takesCard_8 ?_
  refine lv_aload_n hx hb dX5_takesCard_9 rfl (lv_at hl 0 rfl) ?_
  refine va_get (D := G.1) (cl := CL) (ci := 5) (C := RX5) (T := TX5) (N := 8) hx hb hts iX5_takesCard_5 hown hK hP 0 rfl rfl 1 (by decide) (hts (.fieldLink RX5 21 "LoomCards$Teller" "draft" "LLoomCards$Loom;") (List.mem_of_getElem? (i := 3) rfl)) (fun _ h9 => h9) rfl dX5_takesCard_10 ?_
  refine va_get (D := G.1) (cl := CL) (ci := 2) (C := RX2) (T := TX2) (N := 6) hx hb hts iX5_takesCard_2 hown hK hP 3 rfl rfl 0 (by decide) (hts (.fieldLink RX5 86 "LoomCards$Loom" "hooks" "I") (List.mem_of_getElem? (i := 4) rfl)) (fun _ h9 => h9) rfl dX5_takesCard_13 ?_
  refine lv_icmp_ne (tgt := 27) hx hb dX5_takesCard_16 (by decide) (fun c9 => ?_) (fun c9 => ?_)
  · have hf := c_f hf c9
    refine lv_iconst (v := (0 : Int32)) hx hb dX5_takesCard_27 (by decide) ?_
    obtain rfl := Option.some.inj hf
    exact kr _ _ _ _ nb0 hP hD hS dX5_takesCard_28
  · have hf := c_t hf c9
    refine lv_aload_n hx hb dX5_takesCard_19 rfl (lv_at hl 0 rfl) ?_
    refine lv_iconst (v := (2 : Int32)) hx hb dX5_takesCard_20 (by decide) ?_
    refine r_bind hf (fun u1 hu1 hf => ?_)
    refine cRiV (ci := 5) (rest := []) ⟨hx, hb, hml, hown, hts⟩ hK (tX5_areFiguresBelow l G h_this h_text h_draft h_text_letters c_kind c_from c_to c_hasHooks c_hasTies c_cardsTold c_text_length c_text_letters (2 : Int32) u1 hu1) gX5_takesCard_X5_areFiguresBelow rfl hdX5_areFiguresBelow rfl rfl rfl ⟨Nat.le_of_ble_eq_true rfl, Nat.le_of_ble_eq_true rfl⟩ hP [0, 1, 2] rfl 0 rfl rfl rfl hl.1 (Nat.le_of_ble_eq_true rfl) rfl dX5_takesCard_21 ⟨Nat.zero_le _, Nat.zero_le _⟩ ?_
    refine lv_if_ne (tgt := 29) hx hb dX5_takesCard_24 (by decide) (fun c9 => ?_) (fun c9 => ?_)
    · have hf := c_f hf c9
      refine lv_iconst (v := (0 : Int32)) hx hb dX5_takesCard_29 (by decide) ?_
      refine lv_istore_n (lv' := [(1, .int (0 : Int32)), (0, .ref h_this)]) hx hb dX5_takesCard_30 rfl hl (by decide) rfl (fun ls hl => ?_)
      refine lv_iconst (v := (0 : Int32)) hx hb dX5_takesCard_31 (by decide) ?_
      refine lv_istore_n (lv' := [(2, .int (0 : Int32)), (1, .int (0 : Int32)), (0, .ref h_this)]) hx hb dX5_takesCard_32 rfl hl (by decide) rfl (fun ls hl => ?_)
      refine kX5_takesCard_L33 h_this h_text h_draft h_text_letters h_draft_hookOfEnd h_draft_holesOfCard c_kind c_from c_to c_hasHooks c_hasTies c_cardsTold c_text_length c_text_letters c_draft_hooks c_draft_ends c_draft_cards c_draft_limit c_draft_holesOfCard C hA kr ?_ FU (0 : Int32) (0 : Int32) _ _ hf hP hD hS _ (lv_sub hl [2, 1, 0] rfl)
      intro v1_x3 H locs hf hP hD hS ls hl
      refine lv_aload_n hx hb dX5_takesCard_68 rfl (lv_at hl 0 rfl) ?_
      refine lv_iload_n hx hb dX5_takesCard_69 rfl (lv_at hl 1 rfl) ?_
      refine r_bind hf (fun u4 hu4 hf => ?_)
      refine cWvV (ci := 5) (rest := []) (wr := [(h_text, .inr (1, [.int c_text_length, .ref h_text_letters])), (h_text_letters, .inl (G.2 0, 120, .inl c_text_letters))]) (wf := [(h_this, .inr (5, [.ref h_text, .ref h_draft, .int c_kind, .int c_from, .int c_to, .int c_hasHooks, .int c_hasTies, .int u4.1])), (h_text, .inr (1, [.int c_text_length, .ref h_text_letters])), (h_text_letters, .inl (G.2 0, 120, .inl c_text_letters)), (h_draft, .inr (2, [.int c_draft_hooks, .int c_draft_ends, .int u4.2.1, .int c_draft_limit, .ref h_draft_hookOfEnd, .ref h_draft_holesOfCard])), (h_draft_holesOfCard, .inl (G.2 0, 8, .inl u4.2.2))]) ⟨hx, hb, hml, hown, hts⟩ hK (tX5_takeHoles l G h_this h_text h_draft h_draft_hookOfEnd h_draft_holesOfCard c_kind c_from c_to c_hasHooks c_hasTies c_cardsTold c_draft_hooks c_draft_ends c_draft_cards c_draft_limit c_draft_holesOfCard v1_x3 u4 hu4) gX5_takesCard_X5_takeHoles rfl hdX5_takeHoles rfl rfl rfl ⟨Nat.le_of_ble_eq_true rfl, Nat.le_of_ble_eq_true rfl⟩ hP hD hS hA [0, 3, 4] [1, 2] [2, 0, 1, 3, 4] rfl rfl rfl (by decide) (by decide) (by decide) (by decide) 0 rfl rfl rfl hl.1 (Nat.le_of_ble_eq_true rfl) rfl dX5_takesCard_70 ⟨Nat.zero_le _, Nat.zero_le _⟩ (fun H locs hP hD hS => ?_)
      refine lv_iconst (v := (1 : Int32)) hx hb dX5_takesCard_73 (by decide) ?_
      obtain rfl := Option.some.inj hf
      exact kr _ _ _ _ nb1 hP hD hS dX5_takesCard_74
    · have hf := c_t hf c9
      refine lv_iconst (v := (0 : Int32)) hx hb dX5_takesCard_27 (by decide) ?_
      obtain rfl := Option.some.inj hf
      exact kr _ _ _ _ nb0 hP hD hS dX5_takesCard_28
end SX5_takesCard
set_option maxHeartbeats 4000000 in
set_option maxRecDepth 100000 in
theorem tX5_takesCard (l : Launch) (G : GG) (h_this : Nat) (h_text : Nat) (h_draft : Nat) (h_text_letters : Nat) (h_draft_hookOfEnd : Nat) (h_draft_holesOfCard : Nat) (c_kind : Int32) (c_from : Int32) (c_to : Int32) (c_hasHooks : Int32) (c_hasTies : Int32) (c_cardsTold : Int32) (c_text_length : Int32) (c_text_letters : Nat → Int32) (c_draft_hooks : Int32) (c_draft_ends : Int32) (c_draft_cards : Int32) (c_draft_limit : Int32) (c_draft_holesOfCard : Nat → Int32) (res : Int32 × Int32 × Int32 × (Nat → Int32)) (hf : fX5_takesCard c_from c_to c_cardsTold c_text_length c_text_letters c_draft_hooks c_draft_cards c_draft_holesOfCard = some res) : MWi l yX5_takesCard wsX5_takesCard rmX5_takesCard G [.ref h_this] [(h_this, .inr (5, [.ref h_text, .ref h_draft, .int c_kind, .int c_from, .int c_to, .int c_hasHooks, .int c_hasTies, .int c_cardsTold])), (h_text, .inr (1, [.int c_text_length, .ref h_text_letters])), (h_text_letters, .inl (G.2 0, 120, .inl c_text_letters)), (h_draft, .inr (2, [.int c_draft_hooks, .int c_draft_ends, .int c_draft_cards, .int c_draft_limit, .ref h_draft_hookOfEnd, .ref h_draft_holesOfCard])), (h_draft_holesOfCard, .inl (G.2 0, 8, .inl c_draft_holesOfCard))] (res.1) [(h_this, .inr (5, [.ref h_text, .ref h_draft, .int c_kind, .int c_from, .int c_to, .int c_hasHooks, .int c_hasTies, .int (res.2.1)])), (h_text, .inr (1, [.int c_text_length, .ref h_text_letters])), (h_text_letters, .inl (G.2 0, 120, .inl c_text_letters)), (h_draft, .inr (2, [.int c_draft_hooks, .int c_draft_ends, .int (res.2.2.1), .int c_draft_limit, .ref h_draft_hookOfEnd, .ref h_draft_holesOfCard])), (h_draft_holesOfCard, .inl (G.2 0, 8, .inl (res.2.2.2)))] := MWi.of (plainFor_of_name (by decide +kernel)) rfl (Nat.le_of_ble_eq_true rfl) (fun p e s m below meth c A C hA hP hD hS ls hl => kX5_takesCard h_this h_text h_draft h_text_letters h_draft_hookOfEnd h_draft_holesOfCard c_kind c_from c_to c_hasHooks c_hasTies c_cardsTold c_text_length c_text_letters c_draft_hooks c_draft_ends c_draft_cards c_draft_limit c_draft_holesOfCard C hA hP hD hS (fun pc ls H locs hn hP hD hS d => rWz C hn hP hD hS d) hf hl)
def fX5_takesCloth_L35 (k116 : Int32 → Int32 → Option (Int32 × Int32 × Int32 × (Nat → Int32))) (c_from : Int32) (c_text_length : Int32) (c_text_letters : Nat → Int32) (c_draft_ends : Int32) (c_draft_hookOfEnd : Nat → Int32) : Nat → Int32 → Int32 → Int32 → Option (Int32 × Int32 × Int32 × (Nat → Int32))
  | 0, _, _, _ => none
  | n + 1, v1, v2, v3 => if c_draft_ends ≤ v3 then k116 v1 v2 else (fX2_hookOf c_draft_ends c_draft_hookOfEnd v3).bind (fun u2 => (fX1_figureAt c_text_length c_text_letters (c_from + v3)).bind (fun u3 => jn (fun (j80_0 : Int32) => jn (fun (j94_0 : Int32) (j94_1 : Int32) => jn (fun (j108_0 : Int32) (j108_1 : Int32) => fX5_takesCloth_L35 k116 c_from c_text_length c_text_letters c_draft_ends c_draft_hookOfEnd n (j94_1 ||| j94_0) (j108_1 ||| j108_0) (v3 + (1 : Int32))) (fun J108 => if j80_0 = 0 then J108 ((1 : Int32) <<< (u2 &&& 31)) v2 else J108 (0 : Int32) v2)) (fun J94 => if j80_0 = 0 then J94 (0 : Int32) v1 else J94 ((1 : Int32) <<< (u2 &&& 31)) v1)) (fun J80 => if u3 = (1 : Int32) then J80 (1 : Int32) else J80 (0 : Int32))))
def fX5_takesCloth (c_from : Int32) (c_to : Int32) (c_cardsTold : Int32) (c_text_length : Int32) (c_text_letters : Nat → Int32) (c_draft_ends : Int32) (c_draft_cards : Int32) (c_draft_hookOfEnd : Nat → Int32) (c_draft_holesOfCard : Nat → Int32)  : Option (Int32 × Int32 × Int32 × (Nat → Int32)) := if (c_to - c_from) = c_draft_ends then (fX5_areFiguresBelow c_from c_to c_text_length c_text_letters (2 : Int32)).bind (fun u1 => if u1 = 0 then some ((0 : Int32), c_cardsTold, c_draft_cards, c_draft_holesOfCard) else (fX5_takesCloth_L35 (fun (v1_x4 : Int32) (v2_x4 : Int32) => if (v1_x4 &&& v2_x4) = 0 then (fX5_takeHoles c_cardsTold c_draft_cards c_draft_holesOfCard v1_x4).bind (fun u5 => some ((1 : Int32), u5.1, u5.2.1, u5.2.2)) else some ((0 : Int32), c_cardsTold, c_draft_cards, c_draft_holesOfCard)) c_from c_text_length c_text_letters c_draft_ends c_draft_hookOfEnd FU (0 : Int32) (0 : Int32) (0 : Int32))) else some ((0 : Int32), c_cardsTold, c_draft_cards, c_draft_holesOfCard)
theorem iX5_takesCloth_1 : ∀ w ∈ wsX10, w ∈ wsX5_takesCloth := fun w h => List.mem_cons_of_mem _ (List.mem_append_right _ (h))
theorem iX5_takesCloth_2 : ∀ w ∈ wsX20, w ∈ wsX5_takesCloth := fun w h => List.mem_cons_of_mem _ (List.mem_append_left _ (List.mem_append_right _ (h)))
theorem iX5_takesCloth_5 : ∀ w ∈ wsX50, w ∈ wsX5_takesCloth := fun w h => List.mem_cons_of_mem _ (List.mem_append_left _ (List.mem_append_left _ (List.mem_append_right _ (h))))
theorem hdX5_takesCloth : yX5_takesCloth.cls = RX5 ∧ yX5_takesCloth.cls ≠ "java/lang/invoke/MethodHandle" ∧ yX5_takesCloth.cls ≠ "java/lang/invoke/VarHandle" ∧ (parseMethodDescriptor yX5_takesCloth.desc).map (fun d => d.parameters.length) = some 0 := by decide +kernel
abbrev rmX5_takesCloth : Room := { frames := 2, cells := 0, slots := 0, locals := 43 }
section SX5_takesCloth
variable {p : Program} {l : Launch} {e : Env} {s : State} {m : MethodId} {args : Array Value} {below : List Frame} {meth : Method} {c : Code} {Q : State → Prop} {G : GG} {A : Nat → Prop}
set_option maxHeartbeats 4000000 in
set_option maxRecDepth 100000 in
theorem kX5_takesCloth_L35 (h_this : Nat) (h_text : Nat) (h_draft : Nat) (h_text_letters : Nat) (h_draft_hookOfEnd : Nat) (h_draft_holesOfCard : Nat) (c_kind : Int32) (c_from : Int32) (c_to : Int32) (c_hasHooks : Int32) (c_hasTies : Int32) (c_cardsTold : Int32) (c_text_length : Int32) (c_text_letters : Nat → Int32) (c_draft_hooks : Int32) (c_draft_ends : Int32) (c_draft_cards : Int32) (c_draft_limit : Int32) (c_draft_hookOfEnd : Nat → Int32) (c_draft_holesOfCard : Nat → Int32) (C : Cx cX5_takesCloth (some .boolean) 6 RX5 wsX5_takesCloth G p s m args meth c) (hA : ∀ q : Nat, s.heap.size ≤ q → A q) {res : Int32 × Int32 × Int32 × (Nat → Int32)} (kr : ∀ (pc : Nat) (ls : Array Slot) (H : Heap) (locs : List Loc), narrow .boolean (.int res.1) = .int res.1 → va_P G.1 CL [(h_this, .inr (5, [.ref h_text, .ref h_draft, .int c_kind, .int c_from, .int c_to, .int c_hasHooks, .int c_hasTies, .int (res.2.1)])), (h_text, .inr (1, [.int c_text_length, .ref h_text_letters])), (h_text_letters, .inl (G.2 0, 120, .inl c_text_letters)), (h_draft, .inr (2, [.int c_draft_hooks, .int c_draft_ends, .int (res.2.2.1), .int c_draft_limit, .ref h_draft_hookOfEnd, .ref h_draft_holesOfCard])), (h_draft_hookOfEnd, .inl (G.2 0, 12, .inl c_draft_hookOfEnd)), (h_draft_holesOfCard, .inl (G.2 0, 8, .inl (res.2.2.2)))] H → va_D A [(h_this, .inr (5, [.ref h_text, .ref h_draft, .int c_kind, .int c_from, .int c_to, .int c_hasHooks, .int c_hasTies, .int (res.2.1)])), (h_text, .inr (1, [.int c_text_length, .ref h_text_letters])), (h_text_letters, .inl (G.2 0, 120, .inl c_text_letters)), (h_draft, .inr (2, [.int c_draft_hooks, .int c_draft_ends, .int (res.2.2.1), .int c_draft_limit, .ref h_draft_hookOfEnd, .ref h_draft_holesOfCard])), (h_draft_hookOfEnd, .inl (G.2 0, 12, .inl c_draft_hookOfEnd)), (h_draft_holesOfCard, .inl (G.2 0, 8, .inl (res.2.2.2)))] → va_S A s.heap H locs → decode cX5_takesCloth pc = .ok (.ireturn, 1) → W p l e rmX5_takesCloth s m args below meth c H locs 0 0 Q (F0 m pc ls [.int res.1])) {k116 : Int32 → Int32 → Option (Int32 × Int32 × Int32 × (Nat → Int32))} (hk116 : ∀ (v1 : Int32) (v2 : Int32) (H : Heap) (locs : List Loc), k116 v1 v2 = some res → va_P G.1 CL [(h_this, .inr (5, [.ref h_text, .ref h_draft, .int c_kind, .int c_from, .int c_to, .int c_hasHooks, .int c_hasTies, .int c_cardsTold])), (h_text, .inr (1, [.int c_text_length, .ref h_text_letters])), (h_text_letters, .inl (G.2 0, 120, .inl c_text_letters)), (h_draft, .inr (2, [.int c_draft_hooks, .int c_draft_ends, .int c_draft_cards, .int c_draft_limit, .ref h_draft_hookOfEnd, .ref h_draft_holesOfCard])), (h_draft_hookOfEnd, .inl (G.2 0, 12, .inl c_draft_hookOfEnd)), (h_draft_holesOfCard, .inl (G.2 0, 8, .inl c_draft_holesOfCard))] H → va_D A [(h_this, .inr (5, [.ref h_text, .ref h_draft, .int c_kind, .int c_from, .int c_to, .int c_hasHooks, .int c_hasTies, .int c_cardsTold])), (h_text, .inr (1, [.int c_text_length, .ref h_text_letters])), (h_text_letters, .inl (G.2 0, 120, .inl c_text_letters)), (h_draft, .inr (2, [.int c_draft_hooks, .int c_draft_ends, .int c_draft_cards, .int c_draft_limit, .ref h_draft_hookOfEnd, .ref h_draft_holesOfCard])), (h_draft_hookOfEnd, .inl (G.2 0, 12, .inl c_draft_hookOfEnd)), (h_draft_holesOfCard, .inl (G.2 0, 8, .inl c_draft_holesOfCard))] → va_S A s.heap H locs → ∀ (ls : Array Slot), lv_has ls 6 [(0, .ref h_this), (1, .int v1), (2, .int v2)] → W p l e rmX5_takesCloth s m args below meth c H locs 0 0 Q (F0 m 116 ls [])) : ∀ (n : Nat) (v1 : Int32) (v2 : Int32) (v3 : Int32) (H : Heap) (locs : List Loc), fX5_takesCloth_L35 k116 c_from c_text_length c_text_letters c_draft_ends c_draft_hookOfEnd n v1 v2 v3 = some res → va_P G.1 CL [(h_this, .inr (5, [.ref h_text, .ref h_draft, .int c_kind, .int c_from, .int c_to, .int c_hasHooks, .int c_hasTies, .int c_cardsTold])), (h_text, .inr (1, [.int c_text_length, .ref h_text_letters])), (h_text_letters, .inl (G.2 0, 120, .inl c_text_letters)), (h_draft, .inr (2, [.int c_draft_hooks, .int c_draft_ends, .int c_draft_cards, .int c_draft_limit, .ref h_draft_hookOfEnd, .ref h_draft_holesOfCard])), (h_draft_hookOfEnd, .inl (G.2 0, 12, .inl c_draft_hookOfEnd)), (h_draft_holesOfCard, .inl (G.2 0, 8, .inl c_draft_holesOfCard))] H → va_D A [(h_this, .inr (5, [.ref h_text, .ref h_draft, .int c_kind, .int c_from, .int c_to, .int c_hasHooks, .int c_hasTies, .int c_cardsTold])), (h_text, .inr (1, [.int c_text_length, .ref h_text_letters])), (h_text_letters, .inl (G.2 0, 120, .inl c_text_letters)), (h_draft, .inr (2, [.int c_draft_hooks, .int c_draft_ends, .int c_draft_cards, .int c_draft_limit, .ref h_draft_hookOfEnd, .ref h_draft_holesOfCard])), (h_draft_hookOfEnd, .inl (G.2 0, 12, .inl c_draft_hookOfEnd)), (h_draft_holesOfCard, .inl (G.2 0, 8, .inl c_draft_holesOfCard))] → va_S A s.heap H locs → ∀ (ls : Array Slot), lv_has ls 6 [(0, .ref h_this), (1, .int v1), (2, .int v2), (3, .int v3)] → W p l e rmX5_takesCloth s m args below meth c H locs 0 0 Q (F0 m 35 ls []) := by
  obtain ⟨hx, hb, hr, hlk, hml, hown, hts, hK⟩ := id C
  intro n
  induction n with
  | zero =>
    intro v1 v2 v3 H locs hf
    cases hf
  | succ n ih =>
    intro v1 v2 v3 H locs hf hP hD hS ls hl
    rw [fX5_takesCloth_L35] at hf
    refine lv_iload_n hx hb dX5_takesCloth_35 rfl (lv_at hl 3 rfl) ?_
    refine lv_aload_n hx hb dX5_takesCloth_36 rfl (lv_at hl 0 rfl) ?_
    refine va_get (D := G.1) (cl := CL) (ci := 5) (C := RX5) (T := TX5) (N := 8) hx hb hts iX5_takesCloth_5 hown hK hP 0 rfl rfl 1 (by decide) (hts (.fieldLink RX5 21 "LoomCards$Teller" "draft" "LLoomCards$Loom;") (List.mem_of_getElem? (i := 3) rfl)) (fun _ h9 => h9) rfl dX5_takesCloth_37 ?_
    refine va_get (D := G.1) (cl := CL) (ci := 2) (C := RX2) (T := TX2) (N := 6) hx hb hts iX5_takesCloth_2 hown hK hP 3 rfl rfl 1 (by decide) (hts (.fieldLink RX5 92 "LoomCards$Loom" "ends" "I") (List.mem_of_getElem? (i := 4) rfl)) (fun _ h9 => h9) rfl dX5_takesCloth_40 ?_
    refine lv_icmp_ge (tgt := 116) hx hb dX5_takesCloth_43 (by decide) (fun c9 => ?_) (fun c9 => ?_)
    · have hf := c_t hf c9
      exact hk116 v1 v2 _ _ hf hP hD hS _ (lv_sub hl [0, 1, 2] rfl)
    · have hf := c_f hf c9
      refine lv_iconst (v := (1 : Int32)) hx hb dX5_takesCloth_46 (by decide) ?_
      refine lv_aload_n hx hb dX5_takesCloth_47 rfl (lv_at hl 0 rfl) ?_
      refine va_get (D := G.1) (cl := CL) (ci := 5) (C := RX5) (T := TX5) (N := 8) hx hb hts iX5_takesCloth_5 hown hK hP 0 rfl rfl 1 (by decide) (hts (.fieldLink RX5 21 "LoomCards$Teller" "draft" "LLoomCards$Loom;") (List.mem_of_getElem? (i := 3) rfl)) (fun _ h9 => h9) rfl dX5_takesCloth_48 ?_
      refine lv_iload_n hx hb dX5_takesCloth_51 rfl (lv_at hl 3 rfl) ?_
      refine r_bind hf (fun u2 hu2 hf => ?_)
      refine cRiV (ci := 2) (rest := [.int (1 : Int32)]) ⟨hx, hb, hml, hown, hts⟩ hK (tX2_hookOf l G h_draft h_draft_hookOfEnd h_draft_holesOfCard c_draft_hooks c_draft_ends c_draft_cards c_draft_limit c_draft_hookOfEnd v3 u2 hu2) gX5_takesCloth_X2_hookOf rfl hdX2_hookOf rfl rfl rfl ⟨Nat.le_of_ble_eq_true rfl, Nat.le_of_ble_eq_true rfl⟩ hP [3, 4] rfl 3 rfl rfl rfl hl.1 (Nat.le_of_ble_eq_true rfl) rfl dX5_takesCloth_52 ⟨Nat.zero_le _, Nat.zero_le _⟩ ?_
      refine lv_ishl hx hb dX5_takesCloth_55 ?_
      refine lv_istore (lv' := [(4, .int ((1 : Int32) <<< (u2 &&& 31))), (0, .ref h_this), (1, .int v1), (2, .int v2), (3, .int v3)]) hx hb dX5_takesCloth_56 hl (by decide) rfl (fun ls hl => ?_)
      refine lv_aload_n hx hb dX5_takesCloth_58 rfl (lv_at hl 1 rfl) ?_
      refine va_get (D := G.1) (cl := CL) (ci := 5) (C := RX5) (T := TX5) (N := 8) hx hb hts iX5_takesCloth_5 hown hK hP 0 rfl rfl 0 (by decide) (hts (.fieldLink RX5 12 "LoomCards$Teller" "text" "LLoomCards$Letters;") (List.mem_of_getElem? (i := 5) rfl)) (fun _ h9 => h9) rfl dX5_takesCloth_59 ?_
      refine lv_aload_n hx hb dX5_takesCloth_62 rfl (lv_at hl 1 rfl) ?_
      refine va_get (D := G.1) (cl := CL) (ci := 5) (C := RX5) (T := TX5) (N := 8) hx hb hts iX5_takesCloth_5 hown hK hP 0 rfl rfl 3 (by decide) (hts (.fieldLink RX5 39 "LoomCards$Teller" "from" "I") (List.mem_of_getElem? (i := 2) rfl)) (fun _ h9 => h9) rfl dX5_takesCloth_63 ?_
      refine lv_iload_n hx hb dX5_takesCloth_66 rfl (lv_at hl 4 rfl) ?_
      refine lv_iadd hx hb dX5_takesCloth_67 ?_
      refine r_bind hf (fun u3 hu3 hf => ?_)
      refine cRiV (ci := 1) (rest := []) ⟨hx, hb, hml, hown, hts⟩ hK (tX1_figureAt l G h_text h_text_letters c_text_length c_text_letters (c_from + v3) u3 hu3) gX5_takesCloth_X1_figureAt rfl hdX1_figureAt rfl rfl rfl ⟨Nat.le_of_ble_eq_true rfl, Nat.le_of_ble_eq_true rfl⟩ hP [1, 2] rfl 1 rfl rfl rfl hl.1 (Nat.le_of_ble_eq_true rfl) rfl dX5_takesCloth_68 ⟨Nat.zero_le _, Nat.zero_le _⟩ ?_
      refine lv_iconst (v := (1 : Int32)) hx hb dX5_takesCloth_71 (by decide) ?_
      refine r_jn1 hf (fun J80 eJ80 hf => ?_)
      have hJ80 : ∀ (j80_0 : Int32) (H : Heap) (locs : List Loc), J80 j80_0 = some res → va_P G.1 CL [(h_this, .inr (5, [.ref h_text, .ref h_draft, .int c_kind, .int c_from, .int c_to, .int c_hasHooks, .int c_hasTies, .int c_cardsTold])), (h_text, .inr (1, [.int c_text_length, .ref h_text_letters])), (h_text_letters, .inl (G.2 0, 120, .inl c_text_letters)), (h_draft, .inr (2, [.int c_draft_hooks, .int c_draft_ends, .int c_draft_cards, .int c_draft_limit, .ref h_draft_hookOfEnd, .ref h_draft_holesOfCard])), (h_draft_hookOfEnd, .inl (G.2 0, 12, .inl c_draft_hookOfEnd)), (h_draft_holesOfCard, .inl (G.2 0, 8, .inl c_draft_holesOfCard))] H → va_D A [(h_this, .inr (5, [.ref h_text, .ref h_draft, .int c_kind, .int c_from, .int c_to, .int c_hasHooks, .int c_hasTies, .int c_cardsTold])), (h_text, .inr (1, [.int c_text_length, .ref h_text_letters])), (h_text_letters, .inl (G.2 0, 120, .inl c_text_letters)), (h_draft, .inr (2, [.int c_draft_hooks, .int c_draft_ends, .int c_draft_cards, .int c_draft_limit, .ref h_draft_hookOfEnd, .ref h_draft_holesOfCard])), (h_draft_hookOfEnd, .inl (G.2 0, 12, .inl c_draft_hookOfEnd)), (h_draft_holesOfCard, .inl (G.2 0, 8, .inl c_draft_holesOfCard))] → va_S A s.heap H locs → ∀ (ls : Array Slot), lv_has ls 6 [(0, .ref h_this), (1, .int v1), (2, .int v2), (3, .int v3), (4, .int ((1 : Int32) <<< (u2 &&& 31)))] → W p l e rmX5_takesCloth s m args below meth c H locs 0 0 Q (F0 m 80 ls [.int j80_0]) := by
        intro j80_0 H locs hf hP hD hS ls hl
        rw [eJ80] at hf
        refine lv_istore (lv' := [(5, .int j80_0), (0, .ref h_this), (1, .int v1), (2, .int v2), (3, .int v3), (4, .int ((1 : Int32) <<< (u2 &&& 31)))]) hx hb dX5_takesCloth_80 hl (by decide) rfl (fun ls hl => ?_)
        refine lv_iload_n hx hb dX5_takesCloth_82 rfl (lv_at hl 2 rfl) ?_
        refine lv_iload hx hb dX5_takesCloth_83 (lv_at hl 0 rfl) ?_
        refine r_jn2 hf (fun J94 eJ94 hf => ?_)
        have hJ94 : ∀ (j94_0 : Int32) (j94_1 : Int32) (H : Heap) (locs : List Loc), J94 j94_0 j94_1 = some res → va_P G.1 CL [(h_this, .inr (5, [.ref h_text, .ref h_draft, .int c_kind, .int c_from, .int c_to, .int c_hasHooks, .int c_hasTies, .int c_cardsTold])), (h_text, .inr (1, [.int c_text_length, .ref h_text_letters])), (h_text_letters, .inl (G.2 0, 120, .inl c_text_letters)), (h_draft, .inr (2, [.int c_draft_hooks, .int c_draft_ends, .int c_draft_cards, .int c_draft_limit, .ref h_draft_hookOfEnd, .ref h_draft_holesOfCard])), (h_draft_hookOfEnd, .inl (G.2 0, 12, .inl c_draft_hookOfEnd)), (h_draft_holesOfCard, .inl (G.2 0, 8, .inl c_draft_holesOfCard))] H → va_D A [(h_this, .inr (5, [.ref h_text, .ref h_draft, .int c_kind, .int c_from, .int c_to, .int c_hasHooks, .int c_hasTies, .int c_cardsTold])), (h_text, .inr (1, [.int c_text_length, .ref h_text_letters])), (h_text_letters, .inl (G.2 0, 120, .inl c_text_letters)), (h_draft, .inr (2, [.int c_draft_hooks, .int c_draft_ends, .int c_draft_cards, .int c_draft_limit, .ref h_draft_hookOfEnd, .ref h_draft_holesOfCard])), (h_draft_hookOfEnd, .inl (G.2 0, 12, .inl c_draft_hookOfEnd)), (h_draft_holesOfCard, .inl (G.2 0, 8, .inl c_draft_holesOfCard))] → va_S A s.heap H locs → ∀ (ls : Array Slot), lv_has ls 6 [(0, .ref h_this), (2, .int v2), (3, .int v3), (4, .int ((1 : Int32) <<< (u2 &&& 31))), (5, .int j80_0)] → W p l e rmX5_takesCloth s m args below meth c H locs 0 0 Q (F0 m 94 ls [.int j94_0, .int j94_1]) := by
          intro j94_0 j94_1 H locs hf hP hD hS ls hl
          rw [eJ94] at hf
          refine lv_ior hx hb dX5_takesCloth_94 ?_
          refine lv_istore_n (lv' := [(1, .int (j94_1 ||| j94_0)), (0, .ref h_this), (2, .int v2), (3, .int v3), (4, .int ((1 : Int32) <<< (u2 &&& 31))), (5, .int j80_0)]) hx hb dX5_takesCloth_95 rfl hl (by decide) rfl (fun ls hl => ?_)
          refine lv_iload_n hx hb dX5_takesCloth_96 rfl (lv_at hl 2 rfl) ?_
          refine lv_iload hx hb dX5_takesCloth_97 (lv_at hl 5 rfl) ?_
          refine r_jn2 hf (fun J108 eJ108 hf => ?_)
          have hJ108 : ∀ (j108_0 : Int32) (j108_1 : Int32) (H : Heap) (locs : List Loc), J108 j108_0 j108_1 = some res → va_P G.1 CL [(h_this, .inr (5, [.ref h_text, .ref h_draft, .int c_kind, .int c_from, .int c_to, .int c_hasHooks, .int c_hasTies, .int c_cardsTold])), (h_text, .inr (1, [.int c_text_length, .ref h_text_letters])), (h_text_letters, .inl (G.2 0, 120, .inl c_text_letters)), (h_draft, .inr (2, [.int c_draft_hooks, .int c_draft_ends, .int c_draft_cards, .int c_draft_limit, .ref h_draft_hookOfEnd, .ref h_draft_holesOfCard])), (h_draft_hookOfEnd, .inl (G.2 0, 12, .inl c_draft_hookOfEnd)), (h_draft_holesOfCard, .inl (G.2 0, 8, .inl c_draft_holesOfCard))] H → va_D A [(h_this, .inr (5, [.ref h_text, .ref h_draft, .int c_kind, .int c_from, .int c_to, .int c_hasHooks, .int c_hasTies, .int c_cardsTold])), (h_text, .inr (1, [.int c_text_length, .ref h_text_letters])), (h_text_letters, .inl (G.2 0, 120, .inl c_text_letters)), (h_draft, .inr (2, [.int c_draft_hooks, .int c_draft_ends, .int c_draft_cards, .int c_draft_limit, .ref h_draft_hookOfEnd, .ref h_draft_holesOfCard])), (h_draft_hookOfEnd, .inl (G.2 0, 12, .inl c_draft_hookOfEnd)), (h_draft_holesOfCard, .inl (G.2 0, 8, .inl c_draft_holesOfCard))] → va_S A s.heap H locs → ∀ (ls : Array Slot), lv_has ls 6 [(0, .ref h_this), (1, .int (j94_1 ||| j94_0)), (3, .int v3)] → W p l e rmX5_takesCloth s m args below meth c H locs 0 0 Q (F0 m 108 ls [.int j108_0, .int j108_1]) := by
            intro j108_0 j108_1 H locs hf hP hD hS ls hl
            rw [eJ108] at hf
            refine lv_ior hx hb dX5_takesCloth_108 ?_
            refine lv_istore_n (lv' := [(2, .int (j108_1 ||| j108_0)), (0, .ref h_this), (1, .int (j94_1 ||| j94_0)), (3, .int v3)]) hx hb dX5_takesCloth_109 rfl hl (by decide) rfl (fun ls hl => ?_)
            refine lv_iinc (v := (v3 + (1 : Int32))) (lv' := [(3, .int (v3 + (1 : Int32))), (2, .int (j108_1 ||| j108_0)), (0, .ref h_this), (1, .int (j94_1 ||| j94_0))]) hx hb dX5_takesCloth_110 hl (k := 3) rfl rfl (by decide) rfl (fun ls hl => ?_)
            refine lv_goto (tgt := 35) hx hb dX5_takesCloth_113 (by decide) ?_
            exact ih (j94_1 ||| j94_0) (j108_1 ||| j108_0) (v3 + (1 : Int32)) _ _ hf hP hD hS _ (lv_sub hl [2, 3, 1, 0] rfl)
          refine lv_if_eq (tgt := 106) hx hb dX5_takesCloth_99 (by decide) (fun c9 => ?_) (fun c9 => ?_)
          · have hf := c_t hf c9
            refine lv_iload hx hb dX5_takesCloth_106 (lv_at hl 4 rfl) ?_
            exact hJ108 ((1 : Int32) <<< (u2 &&& 31)) v2 _ _ hf hP hD hS _ (lv_sub hl [1, 0, 3] rfl)
          · have hf := c_f hf c9
            refine lv_iconst (v := (0 : Int32)) hx hb dX5_takesCloth_102 (by decide) ?_
            refine lv_goto (tgt := 108) hx hb dX5_takesCloth_103 (by decide) ?_
            exact hJ108 (0 : Int32) v2 _ _ hf hP hD hS _ (lv_sub hl [1, 0, 3] rfl)
        refine lv_if_eq (tgt := 93) hx hb dX5_takesCloth_85 (by decide) (fun c9 => ?_) (fun c9 => ?_)
        · have hf := c_t hf c9
          refine lv_iconst (v := (0 : Int32)) hx hb dX5_takesCloth_93 (by decide) ?_
          exact hJ94 (0 : Int32) v1 _ _ hf hP hD hS _ (lv_sub hl [1, 3, 4, 5, 0] rfl)
        · have hf := c_f hf c9
          refine lv_iload hx hb dX5_takesCloth_88 (lv_at hl 5 rfl) ?_
          refine lv_goto (tgt := 94) hx hb dX5_takesCloth_90 (by decide) ?_
          exact hJ94 ((1 : Int32) <<< (u2 &&& 31)) v1 _ _ hf hP hD hS _ (lv_sub hl [1, 3, 4, 5, 0] rfl)
      refine lv_icmp_ne (tgt := 79) hx hb dX5_takesCloth_72 (by decide) (fun c9 => ?_) (fun c9 => ?_)
      · have hf := c_f hf c9
        refine lv_iconst (v := (0 : Int32)) hx hb dX5_takesCloth_79 (by decide) ?_
        exact hJ80 (0 : Int32) _ _ hf hP hD hS _ (lv_sub hl [1, 2, 3, 4, 0] rfl)
      · have hf := c_t hf c9
        refine lv_iconst (v := (1 : Int32)) hx hb dX5_takesCloth_75 (by decide) ?_
        refine lv_goto (tgt := 80) hx hb dX5_takesCloth_76 (by decide) ?_
        exact hJ80 (1 : Int32) _ _ hf hP hD hS _ (lv_sub hl [1, 2, 3, 4, 0] rfl)
set_option maxHeartbeats 4000000 in
set_option maxRecDepth 100000 in
theorem kX5_takesCloth (h_this : Nat) (h_text : Nat) (h_draft : Nat) (h_text_letters : Nat) (h_draft_hookOfEnd : Nat) (h_draft_holesOfCard : Nat) (c_kind : Int32) (c_from : Int32) (c_to : Int32) (c_hasHooks : Int32) (c_hasTies : Int32) (c_cardsTold : Int32) (c_text_length : Int32) (c_text_letters : Nat → Int32) (c_draft_hooks : Int32) (c_draft_ends : Int32) (c_draft_cards : Int32) (c_draft_limit : Int32) (c_draft_hookOfEnd : Nat → Int32) (c_draft_holesOfCard : Nat → Int32) (C : Cx cX5_takesCloth (some .boolean) 6 RX5 wsX5_takesCloth G p s m args meth c) (hA : ∀ q : Nat, s.heap.size ≤ q → A q) (hP : va_P G.1 CL [(h_this, .inr (5, [.ref h_text, .ref h_draft, .int c_kind, .int c_from, .int c_to, .int c_hasHooks, .int c_hasTies, .int c_cardsTold])), (h_text, .inr (1, [.int c_text_length, .ref h_text_letters])), (h_text_letters, .inl (G.2 0, 120, .inl c_text_letters)), (h_draft, .inr (2, [.int c_draft_hooks, .int c_draft_ends, .int c_draft_cards, .int c_draft_limit, .ref h_draft_hookOfEnd, .ref h_draft_holesOfCard])), (h_draft_hookOfEnd, .inl (G.2 0, 12, .inl c_draft_hookOfEnd)), (h_draft_holesOfCard, .inl (G.2 0, 8, .inl c_draft_holesOfCard))] s.heap) (hD : va_D A [(h_this, .inr (5, [.ref h_text, .ref h_draft, .int c_kind, .int c_from, .int c_to, .int c_hasHooks, .int c_hasTies, .int c_cardsTold])), (h_text, .inr (1, [.int c_text_length, .ref h_text_letters])), (h_text_letters, .inl (G.2 0, 120, .inl c_text_letters)), (h_draft, .inr (2, [.int c_draft_hooks, .int c_draft_ends, .int c_draft_cards, .int c_draft_limit, .ref h_draft_hookOfEnd, .ref h_draft_holesOfCard])), (h_draft_hookOfEnd, .inl (G.2 0, 12, .inl c_draft_hookOfEnd)), (h_draft_holesOfCard, .inl (G.2 0, 8, .inl c_draft_holesOfCard))]) (hS : va_S A s.heap s.heap []) {res : Int32 × Int32 × Int32 × (Nat → Int32)} (kr : ∀ (pc : Nat) (ls : Array Slot) (H : Heap) (locs : List Loc), narrow .boolean (.int res.1) = .int res.1 → va_P G.1 CL [(h_this, .inr (5, [.ref h_text, .ref h_draft, .int c_kind, .int c_from, .int c_to, .int c_hasHooks, .int c_hasTies, .int (res.2.1)])), (h_text, .inr (1, [.int c_text_length, .ref h_text_letters])), (h_text_letters, .inl (G.2 0, 120, .inl c_text_letters)), (h_draft, .inr (2, [.int c_draft_hooks, .int c_draft_ends, .int (res.2.2.1), .int c_draft_limit, .ref h_draft_hookOfEnd, .ref h_draft_holesOfCard])), (h_draft_hookOfEnd, .inl (G.2 0, 12, .inl c_draft_hookOfEnd)), (h_draft_holesOfCard, .inl (G.2 0, 8, .inl (res.2.2.2)))] H → va_D A [(h_this, .inr (5, [.ref h_text, .ref h_draft, .int c_kind, .int c_from, .int c_to, .int c_hasHooks, .int c_hasTies, .int (res.2.1)])), (h_text, .inr (1, [.int c_text_length, .ref h_text_letters])), (h_text_letters, .inl (G.2 0, 120, .inl c_text_letters)), (h_draft, .inr (2, [.int c_draft_hooks, .int c_draft_ends, .int (res.2.2.1), .int c_draft_limit, .ref h_draft_hookOfEnd, .ref h_draft_holesOfCard])), (h_draft_hookOfEnd, .inl (G.2 0, 12, .inl c_draft_hookOfEnd)), (h_draft_holesOfCard, .inl (G.2 0, 8, .inl (res.2.2.2)))] → va_S A s.heap H locs → decode cX5_takesCloth pc = .ok (.ireturn, 1) → W p l e rmX5_takesCloth s m args below meth c H locs 0 0 Q (F0 m pc ls [.int res.1])) (hf : fX5_takesCloth c_from c_to c_cardsTold c_text_length c_text_letters c_draft_ends c_draft_cards c_draft_hookOfEnd c_draft_holesOfCard = some res) {ls : Array Slot} (hl : lv_has ls 6 [(0, .ref h_this)]) : W p l e rmX5_takesCloth s m args below meth c s.heap [] 0 0 Q (F0 m 0 ls []) := by
  obtain ⟨hx, hb, hr, hlk, hml, hown, hts, hK⟩ := id C
  rw [fX5_takesCloth] at hf
  refine lv_aload_n hx hb dX5_takesCloth_0 rfl (lv_at hl 0 rfl) ?_
  refine va_get (D := G.1) (cl := CL) (ci := 5) (C := RX5) (T := TX5) (N := 8) hx hb hts iX5_takesCloth_5 hown hK hP 0 rfl rfl 4 (by decide) (hts (.fieldLink RX5 43 "LoomCards$Teller" "to" "I") (List.mem_of_getElem? (i := 1) rfl)) (fun _ h9 => h9) rfl dX5_takesCloth_1 ?_
  refine lv_aload_n hx hb dX5_takesCloth_4 rfl (lv_at hl 0 rfl) ?_
  refine va_get (D := G.1) (cl := CL) (ci := 5) (C := RX5) (T := TX5) (N := 8) hx hb hts iX5_takesCloth_5 hown hK hP 0 rfl rfl 3 (by decide) (hts (.fieldLink RX5 39 "LoomCards$Teller" "from" "I") (List.mem_of_getElem? (i := 2) rfl)) (fun _ h9 => h9) rfl dX5_takesCloth_5 ?_
  refine lv_isub hx hb dX5_takesCloth_8 ?_
  refine lv_aload_n hx hb dX5_takesCloth_9 rfl (lv_at hl 0 rfl) ?_
  refine va_get (D := G.1) (cl := CL) (ci := 5) (C := RX5) (T := TX5) (N := 8) hx hb hts iX5_takesCloth_5 hown hK hP 0 rfl rfl 1 (by decide) (hts (.fieldLink RX5 21 "LoomCards$Teller" "draft" "LLoomCards$Loom;") (List.mem_of_getElem? (i := 3) rfl)) (fun _ h9 => h9) rfl dX5_takesCloth_10 ?_
  refine va_get (D := G.1) (cl := CL) (ci := 2) (C := RX2) (T := TX2) (N := 6) hx hb hts iX5_takesCloth_2 hown hK hP 3 rfl rfl 1 (by decide) (hts (.fieldLink RX5 92 "LoomCards$Loom" "ends" "I") (List.mem_of_getElem? (i := 4) rfl)) (fun _ h9 => h9) rfl dX5_takesCloth_13 ?_
  refine lv_icmp_ne (tgt := 27) hx hb dX5_takesCloth_16 (by decide) (fun c9 => ?_) (fun c9 => ?_)
  · have hf := c_f hf c9
    refine lv_iconst (v := (0 : Int32)) hx hb dX5_takesCloth_27 (by decide) ?_
    obtain rfl := Option.some.inj hf
    exact kr _ _ _ _ nb0 hP hD hS dX5_takesCloth_28
  · have hf := c_t hf c9
    refine lv_aload_n hx hb dX5_takesCloth_19 rfl (lv_at hl 0 rfl) ?_
    refine lv_iconst (v := (2 : Int32)) hx hb dX5_takesCloth_20 (by decide) ?_
    refine r_bind hf (fun u1 hu1 hf => ?_)
    refine cRiV (ci := 5) (rest := []) ⟨hx, hb, hml, hown, hts⟩ hK (tX5_areFiguresBelow l G h_this h_text h_draft h_text_letters c_kind c_from c_to c_hasHooks c_hasTies c_cardsTold c_text_length c_text_letters (2 : Int32) u1 hu1) gX5_takesCloth_X5_areFiguresBelow rfl hdX5_areFiguresBelow rfl rfl rfl ⟨Nat.le_of_ble_eq_true rfl, Nat.le_of_ble_eq_true rfl⟩ hP [0, 1, 2] rfl 0 rfl rfl rfl hl.1 (Nat.le_of_ble_eq_true rfl) rfl dX5_takesCloth_21 ⟨Nat.zero_le _, Nat.zero_le _⟩ ?_
    refine lv_if_ne (tgt := 29) hx hb dX5_takesCloth_24 (by decide) (fun c9 => ?_) (fun c9 => ?_)
    · have hf := c_f hf c9
      refine lv_iconst (v := (0 : Int32)) hx hb dX5_takesCloth_29 (by decide) ?_
      refine lv_istore_n (lv' := [(1, .int (0 : Int32)), (0, .ref h_this)]) hx hb dX5_takesCloth_30 rfl hl (by decide) rfl (fun ls hl => ?_)
      refine lv_iconst (v := (0 : Int32)) hx hb dX5_takesCloth_31 (by decide) ?_
      refine lv_istore_n (lv' := [(2, .int (0 : Int32)), (1, .int (0 : Int32)), (0, .ref h_this)]) hx hb dX5_takesCloth_32 rfl hl (by decide) rfl (fun ls hl => ?_)
      refine lv_iconst (v := (0 : Int32)) hx hb dX5_takesCloth_33 (by decide) ?_
      refine lv_istore_n (lv' := [(3, .int (0 : Int32)), (2, .int (0 : Int32)), (1, .int (0 : Int32)), (0, .ref h_this)]) hx hb dX5_takesCloth_34 rfl hl (by decide) rfl (fun ls hl => ?_)
      refine kX5_takesCloth_L35 h_this h_text h_draft h_text_letters h_draft_hookOfEnd h_draft_holesOfCard c_kind c_from c_to c_hasHooks c_hasTies c_cardsTold c_text_length c_text_letters c_draft_hooks c_draft_ends c_draft_cards c_draft_limit c_draft_hookOfEnd c_draft_holesOfCard C hA kr ?_ FU (0 : Int32) (0 : Int32) (0 : Int32) _ _ hf hP hD hS _ (lv_sub hl [3, 2, 1, 0] rfl)
      intro v1_x4 v2_x4 H locs hf hP hD hS ls hl
      refine lv_iload_n hx hb dX5_takesCloth_116 rfl (lv_at hl 1 rfl) ?_
      refine lv_iload_n hx hb dX5_takesCloth_117 rfl (lv_at hl 2 rfl) ?_
      refine lv_iand hx hb dX5_takesCloth_118 ?_
      refine lv_if_eq (tgt := 124) hx hb dX5_takesCloth_119 (by decide) (fun c9 => ?_) (fun c9 => ?_)
      · have hf := c_t hf c9
        refine lv_aload_n hx hb dX5_takesCloth_124 rfl (lv_at hl 0 rfl) ?_
        refine lv_iload_n hx hb dX5_takesCloth_125 rfl (lv_at hl 1 rfl) ?_
        refine r_bind hf (fun u5 hu5 hf => ?_)
        refine cWvV (ci := 5) (rest := []) (wr := [(h_text, .inr (1, [.int c_text_length, .ref h_text_letters])), (h_text_letters, .inl (G.2 0, 120, .inl c_text_letters)), (h_draft_hookOfEnd, .inl (G.2 0, 12, .inl c_draft_hookOfEnd))]) (wf := [(h_this, .inr (5, [.ref h_text, .ref h_draft, .int c_kind, .int c_from, .int c_to, .int c_hasHooks, .int c_hasTies, .int u5.1])), (h_text, .inr (1, [.int c_text_length, .ref h_text_letters])), (h_text_letters, .inl (G.2 0, 120, .inl c_text_letters)), (h_draft, .inr (2, [.int c_draft_hooks, .int c_draft_ends, .int u5.2.1, .int c_draft_limit, .ref h_draft_hookOfEnd, .ref h_draft_holesOfCard])), (h_draft_hookOfEnd, .inl (G.2 0, 12, .inl c_draft_hookOfEnd)), (h_draft_holesOfCard, .inl (G.2 0, 8, .inl u5.2.2))]) ⟨hx, hb, hml, hown, hts⟩ hK (tX5_takeHoles l G h_this h_text h_draft h_draft_hookOfEnd h_draft_holesOfCard c_kind c_from c_to c_hasHooks c_hasTies c_cardsTold c_draft_hooks c_draft_ends c_draft_cards c_draft_limit c_draft_holesOfCard v1_x4 u5 hu5) gX5_takesCloth_X5_takeHoles rfl hdX5_takeHoles rfl rfl rfl ⟨Nat.le_of_ble_eq_true rfl, Nat.le_of_ble_eq_true rfl⟩ hP hD hS hA [0, 3, 5] [1, 2, 4] [3, 0, 1, 4, 2, 5] rfl rfl rfl (by decide) (by decide) (by decide) (by decide) 0 rfl rfl rfl hl.1 (Nat.le_of_ble_eq_true rfl) rfl dX5_takesCloth_126 ⟨Nat.zero_le _, Nat.zero_le _⟩ (fun H locs hP hD hS => ?_)
        refine lv_iconst (v := (1 : Int32)) hx hb dX5_takesCloth_129 (by decide) ?_
        obtain rfl := Option.some.inj hf
        exact kr _ _ _ _ nb1 hP hD hS dX5_takesCloth_130
      · have hf := c_f hf c9
        refine lv_iconst (v := (0 : Int32)) hx hb dX5_takesCloth_122 (by decide) ?_
        obtain rfl := Option.some.inj hf
        exact kr _ _ _ _ nb0 hP hD hS dX5_takesCloth_123
    · have hf := c_t hf c9
      refine lv_iconst (v := (0 : Int32)) hx hb dX5_takesCloth_27 (by decide) ?_
      obtain rfl := Option.some.inj hf
      exact kr _ _ _ _ nb0 hP hD hS dX5_takesCloth_28
end SX5_takesCloth
set_option maxHeartbeats 4000000 in
set_option maxRecDepth 100000 in
theorem tX5_takesCloth (l : Launch) (G : GG) (h_this : Nat) (h_text : Nat) (h_draft : Nat) (h_text_letters : Nat) (h_draft_hookOfEnd : Nat) (h_draft_holesOfCard : Nat) (c_kind : Int32) (c_from : Int32) (c_to : Int32) (c_hasHooks : Int32) (c_hasTies : Int32) (c_cardsTold : Int32) (c_text_length : Int32) (c_text_letters : Nat → Int32) (c_draft_hooks : Int32) (c_draft_ends : Int32) (c_draft_cards : Int32) (c_draft_limit : Int32) (c_draft_hookOfEnd : Nat → Int32) (c_draft_holesOfCard : Nat → Int32) (res : Int32 × Int32 × Int32 × (Nat → Int32)) (hf : fX5_takesCloth c_from c_to c_cardsTold c_text_length c_text_letters c_draft_ends c_draft_cards c_draft_hookOfEnd c_draft_holesOfCard = some res) : MWi l yX5_takesCloth wsX5_takesCloth rmX5_takesCloth G [.ref h_this] [(h_this, .inr (5, [.ref h_text, .ref h_draft, .int c_kind, .int c_from, .int c_to, .int c_hasHooks, .int c_hasTies, .int c_cardsTold])), (h_text, .inr (1, [.int c_text_length, .ref h_text_letters])), (h_text_letters, .inl (G.2 0, 120, .inl c_text_letters)), (h_draft, .inr (2, [.int c_draft_hooks, .int c_draft_ends, .int c_draft_cards, .int c_draft_limit, .ref h_draft_hookOfEnd, .ref h_draft_holesOfCard])), (h_draft_hookOfEnd, .inl (G.2 0, 12, .inl c_draft_hookOfEnd)), (h_draft_holesOfCard, .inl (G.2 0, 8, .inl c_draft_holesOfCard))] (res.1) [(h_this, .inr (5, [.ref h_text, .ref h_draft, .int c_kind, .int c_from, .int c_to, .int c_hasHooks, .int c_hasTies, .int (res.2.1)])), (h_text, .inr (1, [.int c_text_length, .ref h_text_letters])), (h_text_letters, .inl (G.2 0, 120, .inl c_text_letters)), (h_draft, .inr (2, [.int c_draft_hooks, .int c_draft_ends, .int (res.2.2.1), .int c_draft_limit, .ref h_draft_hookOfEnd, .ref h_draft_holesOfCard])), (h_draft_hookOfEnd, .inl (G.2 0, 12, .inl c_draft_hookOfEnd)), (h_draft_holesOfCard, .inl (G.2 0, 8, .inl (res.2.2.2)))] := MWi.of (plainFor_of_name (by decide +kernel)) rfl (Nat.le_of_ble_eq_true rfl) (fun p e s m below meth c A C hA hP hD hS ls hl => kX5_takesCloth h_this h_text h_draft h_text_letters h_draft_hookOfEnd h_draft_holesOfCard c_kind c_from c_to c_hasHooks c_hasTies c_cardsTold c_text_length c_text_letters c_draft_hooks c_draft_ends c_draft_cards c_draft_limit c_draft_hookOfEnd c_draft_holesOfCard C hA hP hD hS (fun pc ls H locs hn hP hD hS d => rWz C hn hP hD hS d) hf hl)

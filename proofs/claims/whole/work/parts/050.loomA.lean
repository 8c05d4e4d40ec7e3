def fX2_hasHook (c_hooks : Int32) (v1 : Int32) : Option (Int32) := if v1 < 0 then some ((0 : Int32)) else if c_hooks ≤ v1 then some ((0 : Int32)) else some ((1 : Int32))
theorem iX2_hasHook_2 : ∀ w ∈ wsX20, w ∈ wsX2_hasHook := fun w h => List.mem_cons_of_mem _ (List.mem_append_right _ (h))
theorem hdX2_hasHook : yX2_hasHook.cls = RX2 ∧ yX2_hasHook.cls ≠ "java/lang/invoke/MethodHandle" ∧ yX2_hasHook.cls ≠ "java/lang/invoke/VarHandle" ∧ (parseMethodDescriptor yX2_hasHook.desc).map (fun d => d.parameters.length) = some 1 := by decide +kernel
abbrev rmX2_hasHook : Room := { frames := 0, cells := 0, slots := 0, locals := 0 }
section SX2_hasHook
variable {p : Program} {l : Launch} {e : Env} {s : State} {m : MethodId} {args : Array Value} {below : List Frame} {meth : Method} {c : Code} {Q : State → Prop} {G : GG}
set_option maxHeartbeats 4000000 in
set_option maxRecDepth 100000 in
theorem kX2_hasHook (h_this : Nat) (h_hookOfEnd : Nat) (h_holesOfCard : Nat) (c_hooks : Int32) (c_ends : Int32) (c_cards : Int32) (c_limit : Int32) (v1 : Int32) (C : Cx cX2_hasHook (some .boolean) 2 RX2 wsX2_hasHook G p s m args meth c) (hP : va_P G.1 CL [(h_this, .inr (2, [.int c_hooks, .int c_ends, .int c_cards, .int c_limit, .ref h_hookOfEnd, .ref h_holesOfCard]))] s.heap) {res : Int32} (kr : ∀ (pc : Nat) (ls : Array Slot), narrow .boolean (.int res) = .int res → decode cX2_hasHook pc = .ok (.ireturn, 1) → W p l e rmX2_hasHook s m args below meth c s.heap [] 0 0 Q (F0 m pc ls [.int res])) (hf : fX2_hasHook c_hooks v1 = some res) {ls : Array Slot} (hl : lv_has ls 2 [(0, .ref h_this), (1, .int v1)]) : W p l e rmX2_hasHook s m args below meth c s.heap [] 0 0 Q (F0 m 0 ls []) := by
  obtain ⟨hx, hb, hr, hlk, hml, hown, hts, hK⟩ := id C
  rw [fX2_hasHook] at hf
  refine lv_iload_n hx hb dX2_hasHook_0 rfl (lv_at hl 1 rfl) ?_
  refine lv_if_lt (tgt := 16) hx hb dX2_hasHook_1 (by decide) (fun c9 => ?_) (fun c9 => ?_)
  · have hf := c_t hf c9
    refine lv_iconst (v := (0 : Int32)) hx hb dX2_hasHook_16 (by decide) ?_
    obtain rfl := Option.some.inj hf
    exact kr _ _ rfl dX2_hasHook_17
  · have hf := c_f hf c9
    refine lv_iload_n hx hb dX2_hasHook_4 rfl (lv_at hl 1 rfl) ?_
    refine lv_aload_n hx hb dX2_hasHook_5 rfl (lv_at hl 0 rfl) ?_
    refine va_get (D := G.1) (cl := CL) (ci := 2) (C := RX2) (T := TX2) (N := 6) hx hb hts iX2_hasHook_2 hown hK hP 0 rfl rfl 0 (by decide) (hts (.fieldLink RX2 36 "LoomCards$Loom" "hooks" "I") (List.mem_of_getElem? (i := 1) rfl)) (fun _ h9 => h9) rfl dX2_hasHook_6 ?_
    refine lv_icmp_ge (tgt := 16) hx hb dX2_hasHook_9 (by decide) (fun c9 => ?_) (fun c9 => ?_)
    · have hf := c_t hf c9
      refine lv_iconst (v := (0 : Int32)) hx hb dX2_hasHook_16 (by decide) ?_
      obtain rfl := Option.some.inj hf
      exact kr _ _ rfl dX2_hasHook_17
    · have hf := c_f hf c9
      refine lv_iconst (v := (1 : Int32)) hx hb dX2_hasHook_12 (by decide) ?_
      refine lv_goto (tgt := 17) hx hb dX2_hasHook_13 (by decide) ?_
      obtain rfl := Option.some.inj hf
      exact kr _ _ rfl dX2_hasHook_17
end SX2_hasHook
set_option maxHeartbeats 4000000 in
set_option maxRecDepth 100000 in
theorem tX2_hasHook (l : Launch) (G : GG) (h_this : Nat) (h_hookOfEnd : Nat) (h_holesOfCard : Nat) (c_hooks : Int32) (c_ends : Int32) (c_cards : Int32) (c_limit : Int32) (v1 : Int32) (res : Int32) (hf : fX2_hasHook c_hooks v1 = some res) : MRi l yX2_hasHook wsX2_hasHook rmX2_hasHook G [.ref h_this, .int v1] [(h_this, .inr (2, [.int c_hooks, .int c_ends, .int c_cards, .int c_limit, .ref h_hookOfEnd, .ref h_holesOfCard]))] (res) := MRi.of (plainFor_of_name (by decide +kernel)) rfl (Nat.le_of_ble_eq_true rfl) (fun p e s m below meth c C hP ls hl => kX2_hasHook h_this h_hookOfEnd h_holesOfCard c_hooks c_ends c_cards c_limit v1 C hP (fun pc ls hn d => rRz C hn d) hf hl)
def fX2_hasEnd (c_ends : Int32) (v1 : Int32) : Option (Int32) := if v1 < 0 then some ((0 : Int32)) else if c_ends ≤ v1 then some ((0 : Int32)) else some ((1 : Int32))
theorem iX2_hasEnd_2 : ∀ w ∈ wsX20, w ∈ wsX2_hasEnd := fun w h => List.mem_cons_of_mem _ (List.mem_append_right _ (h))
theorem hdX2_hasEnd : yX2_hasEnd.cls = RX2 ∧ yX2_hasEnd.cls ≠ "java/lang/invoke/MethodHandle" ∧ yX2_hasEnd.cls ≠ "java/lang/invoke/VarHandle" ∧ (parseMethodDescriptor yX2_hasEnd.desc).map (fun d => d.parameters.length) = some 1 := by decide +kernel
abbrev rmX2_hasEnd : Room := { frames := 0, cells := 0, slots := 0, locals := 0 }
section SX2_hasEnd
variable {p : Program} {l : Launch} {e : Env} {s : State} {m : MethodId} {args : Array Value} {below : List Frame} {meth : Method} {c : Code} {Q : State → Prop} {G : GG}
set_option maxHeartbeats 4000000 in
set_option maxRecDepth 100000 in
theorem kX2_hasEnd (h_this : Nat) (h_hookOfEnd : Nat) (h_holesOfCard : Nat) (c_hooks : Int32) (c_ends : Int32) (c_cards : Int32) (c_limit : Int32) (v1 : Int32) (C : Cx cX2_hasEnd (some .boolean) 2 RX2 wsX2_hasEnd G p s m args meth c) (hP : va_P G.1 CL [(h_this, .inr (2, [.int c_hooks, .int c_ends, .int c_cards, .int c_limit, .ref h_hookOfEnd, .ref h_holesOfCard]))] s.heap) {res : Int32} (kr : ∀ (pc : Nat) (ls : Array Slot), narrow .boolean (.int res) = .int res → decode cX2_hasEnd pc = .ok (.ireturn, 1) → W p l e rmX2_hasEnd s m args below meth c s.heap [] 0 0 Q (F0 m pc ls [.int res])) (hf : fX2_hasEnd c_ends v1 = some res) {ls : Array Slot} (hl : lv_has ls 2 [(0, .ref h_this), (1, .int v1)]) : W p l e rmX2_hasEnd s m args below meth c s.heap [] 0 0 Q (F0 m 0 ls []) := by
  obtain ⟨hx, hb, hr, hlk, hml, hown, hts, hK⟩ := id C
  rw [fX2_hasEnd] at hf
  refine lv_iload_n hx hb dX2_hasEnd_0 rfl (lv_at hl 1 rfl) ?_
  refine lv_if_lt (tgt := 16) hx hb dX2_hasEnd_1 (by decide) (fun c9 => ?_) (fun c9 => ?_)
  · have hf := c_t hf c9
    refine lv_iconst (v := (0 : Int32)) hx hb dX2_hasEnd_16 (by decide) ?_
    obtain rfl := Option.some.inj hf
    exact kr _ _ rfl dX2_hasEnd_17
  · have hf := c_f hf c9
    refine lv_iload_n hx hb dX2_hasEnd_4 rfl (lv_at hl 1 rfl) ?_
    refine lv_aload_n hx hb dX2_hasEnd_5 rfl (lv_at hl 0 rfl) ?_
    refine va_get (D := G.1) (cl := CL) (ci := 2) (C := RX2) (T := TX2) (N := 6) hx hb hts iX2_hasEnd_2 hown hK hP 0 rfl rfl 1 (by decide) (hts (.fieldLink RX2 21 "LoomCards$Loom" "ends" "I") (List.mem_of_getElem? (i := 1) rfl)) (fun _ h9 => h9) rfl dX2_hasEnd_6 ?_
    refine lv_icmp_ge (tgt := 16) hx hb dX2_hasEnd_9 (by decide) (fun c9 => ?_) (fun c9 => ?_)
    · have hf := c_t hf c9
      refine lv_iconst (v := (0 : Int32)) hx hb dX2_hasEnd_16 (by decide) ?_
      obtain rfl := Option.some.inj hf
      exact kr _ _ rfl dX2_hasEnd_17
    · have hf := c_f hf c9
      refine lv_iconst (v := (1 : Int32)) hx hb dX2_hasEnd_12 (by decide) ?_
      refine lv_goto (tgt := 17) hx hb dX2_hasEnd_13 (by decide) ?_
      obtain rfl := Option.some.inj hf
      exact kr _ _ rfl dX2_hasEnd_17
end SX2_hasEnd
set_option maxHeartbeats 4000000 in
set_option maxRecDepth 100000 in
theorem tX2_hasEnd (l : Launch) (G : GG) (h_this : Nat) (h_hookOfEnd : Nat) (h_holesOfCard : Nat) (c_hooks : Int32) (c_ends : Int32) (c_cards : Int32) (c_limit : Int32) (v1 : Int32) (res : Int32) (hf : fX2_hasEnd c_ends v1 = some res) : MRi l yX2_hasEnd wsX2_hasEnd rmX2_hasEnd G [.ref h_this, .int v1] [(h_this, .inr (2, [.int c_hooks, .int c_ends, .int c_cards, .int c_limit, .ref h_hookOfEnd, .ref h_holesOfCard]))] (res) := MRi.of (plainFor_of_name (by decide +kernel)) rfl (Nat.le_of_ble_eq_true rfl) (fun p e s m below meth c C hP ls hl => kX2_hasEnd h_this h_hookOfEnd h_holesOfCard c_hooks c_ends c_cards c_limit v1 C hP (fun pc ls hn d => rRz C hn d) hf hl)
def fX2_hasCard (c_cards : Int32) (v1 : Int32) : Option (Int32) := if v1 < 0 then some ((0 : Int32)) else if c_cards ≤ v1 then some ((0 : Int32)) else some ((1 : Int32))
theorem iX2_hasCard_2 : ∀ w ∈ wsX20, w ∈ wsX2_hasCard := fun w h => List.mem_cons_of_mem _ (List.mem_append_right _ (h))
theorem hdX2_hasCard : yX2_hasCard.cls = RX2 ∧ yX2_hasCard.cls ≠ "java/lang/invoke/MethodHandle" ∧ yX2_hasCard.cls ≠ "java/lang/invoke/VarHandle" ∧ (parseMethodDescriptor yX2_hasCard.desc).map (fun d => d.parameters.length) = some 1 := by decide +kernel
abbrev rmX2_hasCard : Room := { frames := 0, cells := 0, slots := 0, locals := 0 }
section SX2_hasCard
variable {p : Program} {l : Launch} {e : Env} {s : State} {m : MethodId} {args : Array Value} {below : List Frame} {meth : Method} {c : Code} {Q : State → Prop} {G : GG}
set_option maxHeartbeats 4000000 in
set_option maxRecDepth 100000 in
theorem kX2_hasCard (h_this : Nat) (h_hookOfEnd : Nat) (h_holesOfCard : Nat) (c_hooks : Int32) (c_ends : Int32) (c_cards : Int32) (c_limit : Int32) (v1 : Int32) (C : Cx cX2_hasCard (some .boolean) 2 RX2 wsX2_hasCard G p s m args meth c) (hP : va_P G.1 CL [(h_this, .inr (2, [.int c_hooks, .int c_ends, .int c_cards, .int c_limit, .ref h_hookOfEnd, .ref h_holesOfCard]))] s.heap) {res : Int32} (kr : ∀ (pc : Nat) (ls : Array Slot), narrow .boolean (.int res) = .int res → decode cX2_hasCard pc = .ok (.ireturn, 1) → W p l e rmX2_hasCard s m args below meth c s.heap [] 0 0 Q (F0 m pc ls [.int res])) (hf : fX2_hasCard c_cards v1 = some res) {ls : Array Slot} (hl : lv_has ls 2 [(0, .ref h_this), (1, .int v1)]) : W p l e rmX2_hasCard s m args below meth c s.heap [] 0 0 Q (F0 m 0 ls []) := by
  obtain ⟨hx, hb, hr, hlk, hml, hown, hts, hK⟩ := id C
  rw [fX2_hasCard] at hf
  refine lv_iload_n hx hb dX2_hasCard_0 rfl (lv_at hl 1 rfl) ?_
  refine lv_if_lt (tgt := 16) hx hb dX2_hasCard_1 (by decide) (fun c9 => ?_) (fun c9 => ?_)
  · have hf := c_t hf c9
    refine lv_iconst (v := (0 : Int32)) hx hb dX2_hasCard_16 (by decide) ?_
    obtain rfl := Option.some.inj hf
    exact kr _ _ rfl dX2_hasCard_17
  · have hf := c_f hf c9
    refine lv_iload_n hx hb dX2_hasCard_4 rfl (lv_at hl 1 rfl) ?_
    refine lv_aload_n hx hb dX2_hasCard_5 rfl (lv_at hl 0 rfl) ?_
    refine va_get (D := G.1) (cl := CL) (ci := 2) (C := RX2) (T := TX2) (N := 6) hx hb hts iX2_hasCard_2 hown hK hP 0 rfl rfl 2 (by decide) (hts (.fieldLink RX2 39 "LoomCards$Loom" "cards" "I") (List.mem_of_getElem? (i := 1) rfl)) (fun _ h9 => h9) rfl dX2_hasCard_6 ?_
    refine lv_icmp_ge (tgt := 16) hx hb dX2_hasCard_9 (by decide) (fun c9 => ?_) (fun c9 => ?_)
    · have hf := c_t hf c9
      refine lv_iconst (v := (0 : Int32)) hx hb dX2_hasCard_16 (by decide) ?_
      obtain rfl := Option.some.inj hf
      exact kr _ _ rfl dX2_hasCard_17
    · have hf := c_f hf c9
      refine lv_iconst (v := (1 : Int32)) hx hb dX2_hasCard_12 (by decide) ?_
      refine lv_goto (tgt := 17) hx hb dX2_hasCard_13 (by decide) ?_
      obtain rfl := Option.some.inj hf
      exact kr _ _ rfl dX2_hasCard_17
end SX2_hasCard
set_option maxHeartbeats 4000000 in
set_option maxRecDepth 100000 in
theorem tX2_hasCard (l : Launch) (G : GG) (h_this : Nat) (h_hookOfEnd : Nat) (h_holesOfCard : Nat) (c_hooks : Int32) (c_ends : Int32) (c_cards : Int32) (c_limit : Int32) (v1 : Int32) (res : Int32) (hf : fX2_hasCard c_cards v1 = some res) : MRi l yX2_hasCard wsX2_hasCard rmX2_hasCard G [.ref h_this, .int v1] [(h_this, .inr (2, [.int c_hooks, .int c_ends, .int c_cards, .int c_limit, .ref h_hookOfEnd, .ref h_holesOfCard]))] (res) := MRi.of (plainFor_of_name (by decide +kernel)) rfl (Nat.le_of_ble_eq_true rfl) (fun p e s m below meth c C hP ls hl => kX2_hasCard h_this h_hookOfEnd h_holesOfCard c_hooks c_ends c_cards c_limit v1 C hP (fun pc ls hn d => rRz C hn d) hf hl)
def fX2_hasHoles (c_hooks : Int32) (v1 : Int32) : Option (Int32) := if v1 < 0 then some ((0 : Int32)) else if ((1 : Int32) <<< (c_hooks &&& 31)) ≤ v1 then some ((0 : Int32)) else some ((1 : Int32))
theorem iX2_hasHoles_2 : ∀ w ∈ wsX20, w ∈ wsX2_hasHoles := fun w h => List.mem_cons_of_mem _ (List.mem_append_right _ (h))
theorem hdX2_hasHoles : yX2_hasHoles.cls = RX2 ∧ yX2_hasHoles.cls ≠ "java/lang/invoke/MethodHandle" ∧ yX2_hasHoles.cls ≠ "java/lang/invoke/VarHandle" ∧ (parseMethodDescriptor yX2_hasHoles.desc).map (fun d => d.parameters.length) = some 1 := by decide +kernel
abbrev rmX2_hasHoles : Room := { frames := 0, cells := 0, slots := 0, locals := 0 }
section SX2_hasHoles
variable {p : Program} {l : Launch} {e : Env} {s : State} {m : MethodId} {args : Array Value} {below : List Frame} {meth : Method} {c : Code} {Q : State → Prop} {G : GG}
set_option maxHeartbeats 4000000 in
set_option maxRecDepth 100000 in
theorem kX2_hasHoles (h_this : Nat) (h_hookOfEnd : Nat) (h_holesOfCard : Nat) (c_hooks : Int32) (c_ends : Int32) (c_cards : Int32) (c_limit : Int32) (v1 : Int32) (C : Cx cX2_hasHoles (some .boolean) 2 RX2 wsX2_hasHoles G p s m args meth c) (hP : va_P G.1 CL [(h_this, .inr (2, [.int c_hooks, .int c_ends, .int c_cards, .int c_limit, .ref h_hookOfEnd, .ref h_holesOfCard]))] s.heap) {res : Int32} (kr : ∀ (pc : Nat) (ls : Array Slot), narrow .boolean (.int res) = .int res → decode cX2_hasHoles pc = .ok (.ireturn, 1) → W p l e rmX2_hasHoles s m args below meth c s.heap [] 0 0 Q (F0 m pc ls [.int res])) (hf : fX2_hasHoles c_hooks v1 = some res) {ls : Array Slot} (hl : lv_has ls 2 [(0, .ref h_this), (1, .int v1)]) : W p l e rmX2_hasHoles s m args below meth c s.heap [] 0 0 Q (F0 m 0 ls []) := by
  obtain ⟨hx, hb, hr, hlk, hml, hown, hts, hK⟩ := id C
  rw [fX2_hasHoles] at hf
  refine lv_iload_n hx hb dX2_hasHoles_0 rfl (lv_at hl 1 rfl) ?_
  refine lv_if_lt (tgt := 18) hx hb dX2_hasHoles_1 (by decide) (fun c9 => ?_) (fun c9 => ?_)
  · have hf := c_t hf c9
    refine lv_iconst (v := (0 : Int32)) hx hb dX2_hasHoles_18 (by decide) ?_
    obtain rfl := Option.some.inj hf
    exact kr _ _ rfl dX2_hasHoles_19
  · have hf := c_f hf c9
    refine lv_iload_n hx hb dX2_hasHoles_4 rfl (lv_at hl 1 rfl) ?_
    refine lv_iconst (v := (1 : Int32)) hx hb dX2_hasHoles_5 (by decide) ?_
    refine lv_aload_n hx hb dX2_hasHoles_6 rfl (lv_at hl 0 rfl) ?_
    refine va_get (D := G.1) (cl := CL) (ci := 2) (C := RX2) (T := TX2) (N := 6) hx hb hts iX2_hasHoles_2 hown hK hP 0 rfl rfl 0 (by decide) (hts (.fieldLink RX2 36 "LoomCards$Loom" "hooks" "I") (List.mem_of_getElem? (i := 1) rfl)) (fun _ h9 => h9) rfl dX2_hasHoles_7 ?_
    refine lv_ishl hx hb dX2_hasHoles_10 ?_
    refine lv_icmp_ge (tgt := 18) hx hb dX2_hasHoles_11 (by decide) (fun c9 => ?_) (fun c9 => ?_)
    · have hf := c_t hf c9
      refine lv_iconst (v := (0 : Int32)) hx hb dX2_hasHoles_18 (by decide) ?_
      obtain rfl := Option.some.inj hf
      exact kr _ _ rfl dX2_hasHoles_19
    · have hf := c_f hf c9
      refine lv_iconst (v := (1 : Int32)) hx hb dX2_hasHoles_14 (by decide) ?_
      refine lv_goto (tgt := 19) hx hb dX2_hasHoles_15 (by decide) ?_
      obtain rfl := Option.some.inj hf
      exact kr _ _ rfl dX2_hasHoles_19
end SX2_hasHoles
set_option maxHeartbeats 4000000 in
set_option maxRecDepth 100000 in
theorem tX2_hasHoles (l : Launch) (G : GG) (h_this : Nat) (h_hookOfEnd : Nat) (h_holesOfCard : Nat) (c_hooks : Int32) (c_ends : Int32) (c_cards : Int32) (c_limit : Int32) (v1 : Int32) (res : Int32) (hf : fX2_hasHoles c_hooks v1 = some res) : MRi l yX2_hasHoles wsX2_hasHoles rmX2_hasHoles G [.ref h_this, .int v1] [(h_this, .inr (2, [.int c_hooks, .int c_ends, .int c_cards, .int c_limit, .ref h_hookOfEnd, .ref h_holesOfCard]))] (res) := MRi.of (plainFor_of_name (by decide +kernel)) rfl (Nat.le_of_ble_eq_true rfl) (fun p e s m below meth c C hP ls hl => kX2_hasHoles h_this h_hookOfEnd h_holesOfCard c_hooks c_ends c_cards c_limit v1 C hP (fun pc ls hn d => rRz C hn d) hf hl)
def fX2_hookOf (c_ends : Int32) (c_hookOfEnd : Nat → Int32) (v1 : Int32) : Option (Int32) := (fX2_hasEnd c_ends v1).bind (fun u1 => if u1 = 0 then some ((0 : Int32)) else gd (ix v1 12) (some ((c_hookOfEnd v1.toNatClampNeg))))
theorem iX2_hookOf_2 : ∀ w ∈ wsX20, w ∈ wsX2_hookOf := fun w h => List.mem_cons_of_mem _ (List.mem_append_right _ (h))
theorem hdX2_hookOf : yX2_hookOf.cls = RX2 ∧ yX2_hookOf.cls ≠ "java/lang/invoke/MethodHandle" ∧ yX2_hookOf.cls ≠ "java/lang/invoke/VarHandle" ∧ (parseMethodDescriptor yX2_hookOf.desc).map (fun d => d.parameters.length) = some 1 := by decide +kernel
abbrev rmX2_hookOf : Room := { frames := 1, cells := 0, slots := 0, locals := 21 }
section SX2_hookOf
variable {p : Program} {l : Launch} {e : Env} {s : State} {m : MethodId} {args : Array Value} {below : List Frame} {meth : Method} {c : Code} {Q : State → Prop} {G : GG}
set_option maxHeartbeats 4000000 in
set_option maxRecDepth 100000 in
theorem kX2_hookOf (h_this : Nat) (h_hookOfEnd : Nat) (h_holesOfCard : Nat) (c_hooks : Int32) (c_ends : Int32) (c_cards : Int32) (c_limit : Int32) (c_hookOfEnd : Nat → Int32) (v1 : Int32) (C : Cx cX2_hookOf (some .int) 2 RX2 wsX2_hookOf G p s m args meth c) (hP : va_P G.1 CL [(h_this, .inr (2, [.int c_hooks, .int c_ends, .int c_cards, .int c_limit, .ref h_hookOfEnd, .ref h_holesOfCard])), (h_hookOfEnd, .inl (G.2 0, 12, .inl c_hookOfEnd))] s.heap) {res : Int32} (kr : ∀ (pc : Nat) (ls : Array Slot), decode cX2_hookOf pc = .ok (.ireturn, 1) → W p l e rmX2_hookOf s m args below meth c s.heap [] 0 0 Q (F0 m pc ls [.int res])) (hf : fX2_hookOf c_ends c_hookOfEnd v1 = some res) {ls : Array Slot} (hl : lv_has ls 2 [(0, .ref h_this), (1, .int v1)]) : W p l e rmX2_hookOf s m args below meth c s.heap [] 0 0 Q (F0 m 0 ls []) := by
  obtain ⟨hx, hb, hr, hlk, hml, hown, hts, hK⟩ := id C
  rw [fX2_hookOf] at hf
  refine lv_aload_n hx hb dX2_hookOf_0 rfl (lv_at hl 0 rfl) ?_
  refine lv_iload_n hx hb dX2_hookOf_1 rfl (lv_at hl 1 rfl) ?_
  refine r_bind hf (fun u1 hu1 hf => ?_)
  refine cRiV (ci := 2) (rest := []) ⟨hx, hb, hml, hown, hts⟩ hK (tX2_hasEnd l G h_this h_hookOfEnd h_holesOfCard c_hooks c_ends c_cards c_limit v1 u1 hu1) gX2_hookOf_X2_hasEnd rfl hdX2_hasEnd rfl rfl rfl ⟨Nat.le_of_ble_eq_true rfl, Nat.le_of_ble_eq_true rfl⟩ hP [0] rfl 0 rfl rfl rfl hl.1 (Nat.le_of_ble_eq_true rfl) rfl dX2_hookOf_2 ⟨Nat.zero_le _, Nat.zero_le _⟩ ?_
  refine lv_if_eq (tgt := 17) hx hb dX2_hookOf_5 (by decide) (fun c9 => ?_) (fun c9 => ?_)
  · have hf := c_t hf c9
    refine lv_iconst (v := (0 : Int32)) hx hb dX2_hookOf_17 (by decide) ?_
    obtain rfl := Option.some.inj hf
    exact kr _ _ dX2_hookOf_18
  · have hf := c_f hf c9
    refine lv_aload_n hx hb dX2_hookOf_8 rfl (lv_at hl 0 rfl) ?_
    refine va_get (D := G.1) (cl := CL) (ci := 2) (C := RX2) (T := TX2) (N := 6) hx hb hts iX2_hookOf_2 hown hK hP 0 rfl rfl 4 (by decide) (hts (.fieldLink RX2 9 "LoomCards$Loom" "hookOfEnd" "[I") (List.mem_of_getElem? (i := 1) rfl)) (fun _ h9 => h9) rfl dX2_hookOf_9 ?_
    refine lv_iload_n hx hb dX2_hookOf_12 rfl (lv_at hl 1 rfl) ?_
    refine r_gd hf (fun g9 hf => ?_)
    refine r_iald hx hb hK hP 1 rfl (ix_in g9) rfl dX2_hookOf_13 ?_
    refine lv_goto (tgt := 18) hx hb dX2_hookOf_14 (by decide) ?_
    obtain rfl := Option.some.inj hf
    exact kr _ _ dX2_hookOf_18
end SX2_hookOf
set_option maxHeartbeats 4000000 in
set_option maxRecDepth 100000 in
theorem tX2_hookOf (l : Launch) (G : GG) (h_this : Nat) (h_hookOfEnd : Nat) (h_holesOfCard : Nat) (c_hooks : Int32) (c_ends : Int32) (c_cards : Int32) (c_limit : Int32) (c_hookOfEnd : Nat → Int32) (v1 : Int32) (res : Int32) (hf : fX2_hookOf c_ends c_hookOfEnd v1 = some res) : MRi l yX2_hookOf wsX2_hookOf rmX2_hookOf G [.ref h_this, .int v1] [(h_this, .inr (2, [.int c_hooks, .int c_ends, .int c_cards, .int c_limit, .ref h_hookOfEnd, .ref h_holesOfCard])), (h_hookOfEnd, .inl (G.2 0, 12, .inl c_hookOfEnd))] (res) := MRi.of (plainFor_of_name (by decide +kernel)) rfl (Nat.le_of_ble_eq_true rfl) (fun p e s m below meth c C hP ls hl => kX2_hookOf h_this h_hookOfEnd h_holesOfCard c_hooks c_ends c_cards c_limit c_hookOfEnd v1 C hP (fun pc ls d => rRi C d) hf hl)
def fX2_holesOf (c_cards : Int32) (c_holesOfCard : Nat → Int32) (v1 : Int32) : Option (Int32) := (fX2_hasCard c_cards v1).bind (fun u1 => if u1 = 0 then some ((0 : Int32)) else gd (ix v1 8) (some ((c_holesOfCard v1.toNatClampNeg))))
theorem iX2_holesOf_2 : ∀ w ∈ wsX20, w ∈ wsX2_holesOf := fun w h => List.mem_cons_of_mem _ (List.mem_append_right _ (h))
theorem hdX2_holesOf : yX2_holesOf.cls = RX2 ∧ yX2_holesOf.cls ≠ "java/lang/invoke/MethodHandle" ∧ yX2_holesOf.cls ≠ "java/lang/invoke/VarHandle" ∧ (parseMethodDescriptor yX2_holesOf.desc).map (fun d => d.parameters.length) = some 1 := by decide +kernel
abbrev rmX2_holesOf : Room := { frames := 1, cells := 0, slots := 0, locals := 21 }
section SX2_holesOf
variable {p : Program} {l : Launch} {e : Env} {s : State} {m : MethodId} {args : Array Value} {below : List Frame} {meth : Method} {c : Code} {Q : State → Prop} {G : GG}
set_option maxHeartbeats 4000000 in
set_option maxRecDepth 100000 in
theorem kX2_holesOf (h_this : Nat) (h_hookOfEnd : Nat) (h_holesOfCard : Nat) (c_hooks : Int32) (c_ends : Int32) (c_cards : Int32) (c_limit : Int32) (c_holesOfCard : Nat → Int32) (v1 : Int32) (C : Cx cX2_holesOf (some .int) 2 RX2 wsX2_holesOf G p s m args meth c) (hP : va_P G.1 CL [(h_this, .inr (2, [.int c_hooks, .int c_ends, .int c_cards, .int c_limit, .ref h_hookOfEnd, .ref h_holesOfCard])), (h_holesOfCard, .inl (G.2 0, 8, .inl c_holesOfCard))] s.heap) {res : Int32} (kr : ∀ (pc : Nat) (ls : Array Slot), decode cX2_holesOf pc = .ok (.ireturn, 1) → W p l e rmX2_holesOf s m args below meth c s.heap [] 0 0 Q (F0 m pc ls [.int res])) (hf : fX2_holesOf c_cards c_holesOfCard v1 = some res) {ls : Array Slot} (hl : lv_has ls 2 [(0, .ref h_this), (1, .int v1)]) : W p l e rmX2_holesOf s m args below meth c s.heap [] 0 0 Q (F0 m 0 ls []) := by
  obtain ⟨hx, hb, hr, hlk, hml, hown, hts, hK⟩ := id C
  rw [fX2_holesOf] at hf
  refine lv_aload_n hx hb dX2_holesOf_0 rfl (lv_at hl 0 rfl) ?_
  refine lv_iload_n hx hb dX2_holesOf_1 rfl (lv_at hl 1 rfl) ?_
  refine r_bind hf (fun u1 hu1 hf => ?_)
  refine cRiV (ci := 2) (rest := []) ⟨hx, hb, hml, hown, hts⟩ hK (tX2_hasCard l G h_this h_hookOfEnd h_holesOfCard c_hooks c_ends c_cards c_limit v1 u1 hu1) gX2_holesOf_X2_hasCard rfl hdX2_hasCard rfl rfl rfl ⟨Nat.le_of_ble_eq_true rfl, Nat.le_of_ble_eq_true rfl⟩ hP [0] rfl 0 rfl rfl rfl hl.1 (Nat.le_of_ble_eq_true rfl) rfl dX2_holesOf_2 ⟨Nat.zero_le _, Nat.zero_le _⟩ ?_
  refine lv_if_eq (tgt := 17) hx hb dX2_holesOf_5 (by decide) (fun c9 => ?_) (fun c9 => ?_)
  · have hf := c_t hf c9
    refine lv_iconst (v := (0 : Int32)) hx hb dX2_holesOf_17 (by decide) ?_
    obtain rfl := Option.some.inj hf
    exact kr _ _ dX2_holesOf_18
  · have hf := c_f hf c9
    refine lv_aload_n hx hb dX2_holesOf_8 rfl (lv_at hl 0 rfl) ?_
    refine va_get (D := G.1) (cl := CL) (ci := 2) (C := RX2) (T := TX2) (N := 6) hx hb hts iX2_holesOf_2 hown hK hP 0 rfl rfl 5 (by decide) (hts (.fieldLink RX2 15 "LoomCards$Loom" "holesOfCard" "[I") (List.mem_of_getElem? (i := 1) rfl)) (fun _ h9 => h9) rfl dX2_holesOf_9 ?_
    refine lv_iload_n hx hb dX2_holesOf_12 rfl (lv_at hl 1 rfl) ?_
    refine r_gd hf (fun g9 hf => ?_)
    refine r_iald hx hb hK hP 1 rfl (ix_in g9) rfl dX2_holesOf_13 ?_
    refine lv_goto (tgt := 18) hx hb dX2_holesOf_14 (by decide) ?_
    obtain rfl := Option.some.inj hf
    exact kr _ _ dX2_holesOf_18
end SX2_holesOf
set_option maxHeartbeats 4000000 in
set_option maxRecDepth 100000 in
theorem tX2_holesOf (l : Launch) (G : GG) (h_this : Nat) (h_hookOfEnd : Nat) (h_holesOfCard : Nat) (c_hooks : Int32) (c_ends : Int32) (c_cards : Int32) (c_limit : Int32) (c_holesOfCard : Nat → Int32) (v1 : Int32) (res : Int32) (hf : fX2_holesOf c_cards c_holesOfCard v1 = some res) : MRi l yX2_holesOf wsX2_holesOf rmX2_holesOf G [.ref h_this, .int v1] [(h_this, .inr (2, [.int c_hooks, .int c_ends, .int c_cards, .int c_limit, .ref h_hookOfEnd, .ref h_holesOfCard])), (h_holesOfCard, .inl (G.2 0, 8, .inl c_holesOfCard))] (res) := MRi.of (plainFor_of_name (by decide +kernel)) rfl (Nat.le_of_ble_eq_true rfl) (fun p e s m below meth c C hP ls hl => kX2_holesOf h_this h_hookOfEnd h_holesOfCard c_hooks c_ends c_cards c_limit c_holesOfCard v1 C hP (fun pc ls d => rRi C d) hf hl)
def fX2_cardOfRow (c_cards : Int32) (v1 : Int32) : Option (Int32) := if v1 < 0 then some ((0 : Int32)) else if c_cards ≤ 0 then some ((0 : Int32)) else gd (!decide (c_cards = 0)) (some ((v1 - v1 / c_cards * c_cards)))
theorem iX2_cardOfRow_2 : ∀ w ∈ wsX20, w ∈ wsX2_cardOfRow := fun w h => List.mem_cons_of_mem _ (List.mem_append_right _ (h))
theorem hdX2_cardOfRow : yX2_cardOfRow.cls = RX2 ∧ yX2_cardOfRow.cls ≠ "java/lang/invoke/MethodHandle" ∧ yX2_cardOfRow.cls ≠ "java/lang/invoke/VarHandle" ∧ (parseMethodDescriptor yX2_cardOfRow.desc).map (fun d => d.parameters.length) = some 1 := by decide +kernel
abbrev rmX2_cardOfRow : Room := { frames := 0, cells := 0, slots := 0, locals := 0 }
section SX2_cardOfRow
variable {p : Program} {l : Launch} {e : Env} {s : State} {m : MethodId} {args : Array Value} {below : List Frame} {meth : Method} {c : Code} {Q : State → Prop} {G : GG}
set_option maxHeartbeats 4000000 in
set_option maxRecDepth 100000 in
theorem kX2_cardOfRow (h_this : Nat) (h_hookOfEnd : Nat) (h_holesOfCard : Nat) (c_hooks : Int32) (c_ends : Int32) (c_cards : Int32) (c_limit : Int32) (v1 : Int32) (C : Cx cX2_cardOfRow (some .int) 2 RX2 wsX2_cardOfRow G p s m args meth c) (hP : va_P G.1 CL [(h_this, .inr (2, [.int c_hooks, .int c_ends, .int c_cards, .int c_limit, .ref h_hookOfEnd, .ref h_holesOfCard]))] s.heap) {res : Int32} (kr : ∀ (pc : Nat) (ls : Array Slot), decode cX2_cardOfRow pc = .ok (.ireturn, 1) → W p l e rmX2_cardOfRow s m args below meth c s.heap [] 0 0 Q (F0 m pc ls [.int res])) (hf : fX2_cardOfRow c_cards v1 = some res) {ls : Array Slot} (hl : lv_has ls 2 [(0, .ref h_this), (1, .int v1)]) : W p l e rmX2_cardOfRow s m args below meth c s.heap [] 0 0 Q (F0 m 0 ls []) := by
  obtain ⟨hx, hb, hr, hlk, hml, hown, hts, hK⟩ := id C
  rw [fX2_cardOfRow] at hf
  refine lv_iload_n hx hb dX2_cardOfRow_0 rfl (lv_at hl 1 rfl) ?_
  refine lv_if_lt (tgt := 20) hx hb dX2_cardOfRow_1 (by decide) (fun c9 => ?_) (fun c9 => ?_)
  · have hf := c_t hf c9
    refine lv_iconst (v := (0 : Int32)) hx hb dX2_cardOfRow_20 (by decide) ?_
    obtain rfl := Option.some.inj hf
    exact kr _ _ dX2_cardOfRow_21
  · have hf := c_f hf c9
    refine lv_aload_n hx hb dX2_cardOfRow_4 rfl (lv_at hl 0 rfl) ?_
    refine va_get (D := G.1) (cl := CL) (ci := 2) (C := RX2) (T := TX2) (N := 6) hx hb hts iX2_cardOfRow_2 hown hK hP 0 rfl rfl 2 (by decide) (hts (.fieldLink RX2 39 "LoomCards$Loom" "cards" "I") (List.mem_of_getElem? (i := 1) rfl)) (fun _ h9 => h9) rfl dX2_cardOfRow_5 ?_
    refine lv_if_le (tgt := 20) hx hb dX2_cardOfRow_8 (by decide) (fun c9 => ?_) (fun c9 => ?_)
    · have hf := c_t hf c9
      refine lv_iconst (v := (0 : Int32)) hx hb dX2_cardOfRow_20 (by decide) ?_
      obtain rfl := Option.some.inj hf
      exact kr _ _ dX2_cardOfRow_21
    · have hf := c_f hf c9
      refine lv_iload_n hx hb dX2_cardOfRow_11 rfl (lv_at hl 1 rfl) ?_
      refine lv_aload_n hx hb dX2_cardOfRow_12 rfl (lv_at hl 0 rfl) ?_
      refine va_get (D := G.1) (cl := CL) (ci := 2) (C := RX2) (T := TX2) (N := 6) hx hb hts iX2_cardOfRow_2 hown hK hP 0 rfl rfl 2 (by decide) (hts (.fieldLink RX2 39 "LoomCards$Loom" "cards" "I") (List.mem_of_getElem? (i := 1) rfl)) (fun _ h9 => h9) rfl dX2_cardOfRow_13 ?_
      refine r_gd hf (fun g9 hf => ?_)
      refine lv_irem hx hb dX2_cardOfRow_16 (nz g9) ?_
      refine lv_goto (tgt := 21) hx hb dX2_cardOfRow_17 (by decide) ?_
      obtain rfl := Option.some.inj hf
      exact kr _ _ dX2_cardOfRow_21
end SX2_cardOfRow
set_option maxHeartbeats 4000000 in
set_option maxRecDepth 100000 in
theorem tX2_cardOfRow (l : Launch) (G : GG) (h_this : Nat) (h_hookOfEnd : Nat) (h_holesOfCard : Nat) (c_hooks : Int32) (c_ends : Int32) (c_cards : Int32) (c_limit : Int32) (v1 : Int32) (res : Int32) (hf : fX2_cardOfRow c_cards v1 = some res) : MRi l yX2_cardOfRow wsX2_cardOfRow rmX2_cardOfRow G [.ref h_this, .int v1] [(h_this, .inr (2, [.int c_hooks, .int c_ends, .int c_cards, .int c_limit, .ref h_hookOfEnd, .ref h_holesOfCard]))] (res) := MRi.of (plainFor_of_name (by decide +kernel)) rfl (Nat.le_of_ble_eq_true rfl) (fun p e s m below meth c C hP ls hl => kX2_cardOfRow h_this h_hookOfEnd h_holesOfCard c_hooks c_ends c_cards c_limit v1 C hP (fun pc ls d => rRi C d) hf hl)
def fX2_places (c_hooks : Int32) (c_cards : Int32)  : Option (Int32) := some ((c_hooks * c_cards))
theorem iX2_places_2 : ∀ w ∈ wsX20, w ∈ wsX2_places := fun w h => List.mem_cons_of_mem _ (List.mem_append_right _ (h))
theorem hdX2_places : yX2_places.cls = RX2 ∧ yX2_places.cls ≠ "java/lang/invoke/MethodHandle" ∧ yX2_places.cls ≠ "java/lang/invoke/VarHandle" ∧ (parseMethodDescriptor yX2_places.desc).map (fun d => d.parameters.length) = some 0 := by decide +kernel
abbrev rmX2_places : Room := { frames := 0, cells := 0, slots := 0, locals := 0 }
section SX2_places
variable {p : Program} {l : Launch} {e : Env} {s : State} {m : MethodId} {args : Array Value} {below : List Frame} {meth : Method} {c : Code} {Q : State → Prop} {G : GG}
set_option maxHeartbeats 4000000 in
set_option maxRecDepth 100000 in
theorem kX2_places (h_this : Nat) (h_hookOfEnd : Nat) (h_holesOfCard : Nat) (c_hooks : Int32) (c_ends : Int32) (c_cards : Int32) (c_limit : Int32) (C : Cx cX2_places (some .int) 1 RX2 wsX2_places G p s m args meth c) (hP : va_P G.1 CL [(h_this, .inr (2, [.int c_hooks, .int c_ends, .int c_cards, .int c_limit, .ref h_hookOfEnd, .ref h_holesOfCard]))] s.heap) {res : Int32} (kr : ∀ (pc : Nat) (ls : Array Slot), decode cX2_places pc = .ok (.ireturn, 1) → W p l e rmX2_places s m args below meth c s.heap [] 0 0 Q (F0 m pc ls [.int res])) (hf : fX2_places c_hooks c_cards = some res) {ls : Array Slot} (hl : lv_has ls 1 [(0, .ref h_this)]) : W p l e rmX2_places s m args below meth c s.heap [] 0 0 Q (F0 m 0 ls []) := by
  obtain ⟨hx, hb, hr, hlk, hml, hown, hts, hK⟩ := id C
  rw [fX2_places] at hf
  refine lv_aload_n hx hb dX2_places_0 rfl (lv_at hl 0 rfl) ?_
  refine va_get (D := G.1) (cl := CL) (ci := 2) (C := RX2) (T := TX2) (N := 6) hx hb hts iX2_places_2 hown hK hP 0 rfl rfl 0 (by decide) (hts (.fieldLink RX2 36 "LoomCards$Loom" "hooks" "I") (List.mem_of_getElem? (i := 1) rfl)) (fun _ h9 => h9) rfl dX2_places_1 ?_
  refine lv_aload_n hx hb dX2_places_4 rfl (lv_at hl 0 rfl) ?_
  refine va_get (D := G.1) (cl := CL) (ci := 2) (C := RX2) (T := TX2) (N := 6) hx hb hts iX2_places_2 hown hK hP 0 rfl rfl 2 (by decide) (hts (.fieldLink RX2 39 "LoomCards$Loom" "cards" "I") (List.mem_of_getElem? (i := 2) rfl)) (fun _ h9 => h9) rfl dX2_places_5 ?_
  refine lv_imul hx hb dX2_places_8 ?_
  obtain rfl := Option.some.inj hf
  exact kr _ _ dX2_places_9
end SX2_places
set_option maxHeartbeats 4000000 in
set_option maxRecDepth 100000 in
theorem tX2_places (l : Launch) (G : GG) (h_this : Nat) (h_hookOfEnd : Nat) (h_holesOfCard : Nat) (c_hooks : Int32) (c_ends : Int32) (c_cards : Int32) (c_limit : Int32) (res : Int32) (hf : fX2_places c_hooks c_cards = some res) : MRi l yX2_places wsX2_places rmX2_places G [.ref h_this] [(h_this, .inr (2, [.int c_hooks, .int c_ends, .int c_cards, .int c_limit, .ref h_hookOfEnd, .ref h_holesOfCard]))] (res) := MRi.of (plainFor_of_name (by decide +kernel)) rfl (Nat.le_of_ble_eq_true rfl) (fun p e s m below meth c C hP ls hl => kX2_places h_this h_hookOfEnd h_holesOfCard c_hooks c_ends c_cards c_limit C hP (fun pc ls d => rRi C d) hf hl)
def fX2_placeOf (c_hooks : Int32) (v1 : Int32) (v2 : Int32) : Option (Int32) := some (((c_hooks * v1) + v2))
theorem iX2_placeOf_2 : ∀ w ∈ wsX20, w ∈ wsX2_placeOf := fun w h => List.mem_cons_of_mem _ (List.mem_append_right _ (h))
theorem hdX2_placeOf : yX2_placeOf.cls = RX2 ∧ yX2_placeOf.cls ≠ "java/lang/invoke/MethodHandle" ∧ yX2_placeOf.cls ≠ "java/lang/invoke/VarHandle" ∧ (parseMethodDescriptor yX2_placeOf.desc).map (fun d => d.parameters.length) = some 2 := by decide +kernel
abbrev rmX2_placeOf : Room := { frames := 0, cells := 0, slots := 0, locals := 0 }
section SX2_placeOf
variable {p : Program} {l : Launch} {e : Env} {s : State} {m : MethodId} {args : Array Value} {below : List Frame} {meth : Method} {c : Code} {Q : State → Prop} {G : GG}
set_option maxHeartbeats 4000000 in
set_option maxRecDepth 100000 in
theorem kX2_placeOf (h_this : Nat) (h_hookOfEnd : Nat) (h_holesOfCard : Nat) (c_hooks : Int32) (c_ends : Int32) (c_cards : Int32) (c_limit : Int32) (v1 : Int32) (v2 : Int32) (C : Cx cX2_placeOf (some .int) 3 RX2 wsX2_placeOf G p s m args meth c) (hP : va_P G.1 CL [(h_this, .inr (2, [.int c_hooks, .int c_ends, .int c_cards, .int c_limit, .ref h_hookOfEnd, .ref h_holesOfCard]))] s.heap) {res : Int32} (kr : ∀ (pc : Nat) (ls : Array Slot), decode cX2_placeOf pc = .ok (.ireturn, 1) → W p l e rmX2_placeOf s m args below meth c s.heap [] 0 0 Q (F0 m pc ls [.int res])) (hf : fX2_placeOf c_hooks v1 v2 = some res) {ls : Array Slot} (hl : lv_has ls 3 [(0, .ref h_this), (1, .int v1), (2, .int v2)]) : W p l e rmX2_placeOf s m args below meth c s.heap [] 0 0 Q (F0 m 0 ls []) := by
  obtain ⟨hx, hb, hr, hlk, hml, hown, hts, hK⟩ := id C
  rw [fX2_placeOf] at hf
  refine lv_aload_n hx hb dX2_placeOf_0 rfl (lv_at hl 0 rfl) ?_
  refine va_get (D := G.1) (cl := CL) (ci := 2) (C := RX2) (T := TX2) (N := 6) hx hb hts iX2_placeOf_2 hown hK hP 0 rfl rfl 0 (by decide) (hts (.fieldLink RX2 36 "LoomCards$Loom" "hooks" "I") (List.mem_of_getElem? (i := 1) rfl)) (fun _ h9 => h9) rfl dX2_placeOf_1 ?_
  refine lv_iload_n hx hb dX2_placeOf_4 rfl (lv_at hl 1 rfl) ?_
  refine lv_imul hx hb dX2_placeOf_5 ?_
  refine lv_iload_n hx hb dX2_placeOf_6 rfl (lv_at hl 2 rfl) ?_
  refine lv_iadd hx hb dX2_placeOf_7 ?_
  obtain rfl := Option.some.inj hf
  exact kr _ _ dX2_placeOf_8
end SX2_placeOf
set_option maxHeartbeats 4000000 in
set_option maxRecDepth 100000 in
theorem tX2_placeOf (l : Launch) (G : GG) (h_this : Nat) (h_hookOfEnd : Nat) (h_holesOfCard : Nat) (c_hooks : Int32) (c_ends : Int32) (c_cards : Int32) (c_limit : Int32) (v1 : Int32) (v2 : Int32) (res : Int32) (hf : fX2_placeOf c_hooks v1 v2 = some res) : MRi l yX2_placeOf wsX2_placeOf rmX2_placeOf G [.ref h_this, .int v1, .int v2] [(h_this, .inr (2, [.int c_hooks, .int c_ends, .int c_cards, .int c_limit, .ref h_hookOfEnd, .ref h_holesOfCard]))] (res) := MRi.of (plainFor_of_name (by decide +kernel)) rfl (Nat.le_of_ble_eq_true rfl) (fun p e s m below meth c C hP ls hl => kX2_placeOf h_this h_hookOfEnd h_holesOfCard c_hooks c_ends c_cards c_limit v1 v2 C hP (fun pc ls d => rRi C d) hf hl)
def fX2_endsOf_L4 (k38 : Int32 → Option (Int32)) (c_ends : Int32) (c_hookOfEnd : Nat → Int32) (v1 : Int32) : Nat → Int32 → Int32 → Option (Int32)
  | 0, _, _ => none
  | n + 1, v2, v3 => if c_ends ≤ v3 then k38 v2 else gd (ix v3 12) (jn (fun (j30_0 : Int32) (j30_1 : Int32) => fX2_endsOf_L4 k38 c_ends c_hookOfEnd v1 n (j30_1 ||| j30_0) (v3 + (1 : Int32))) (fun J30 => if (c_hookOfEnd v3.toNatClampNeg) = v1 then J30 ((1 : Int32) <<< (v3 &&& 31)) v2 else J30 (0 : Int32) v2))
def fX2_endsOf (c_ends : Int32) (c_hookOfEnd : Nat → Int32) (v1 : Int32) : Option (Int32) := (fX2_endsOf_L4 (fun (v2_x1 : Int32) => some (v2_x1)) c_ends c_hookOfEnd v1 FU (0 : Int32) (0 : Int32))
theorem iX2_endsOf_2 : ∀ w ∈ wsX20, w ∈ wsX2_endsOf := fun w h => List.mem_cons_of_mem _ (List.mem_append_right _ (h))
theorem hdX2_endsOf : yX2_endsOf.cls = RX2 ∧ yX2_endsOf.cls ≠ "java/lang/invoke/MethodHandle" ∧ yX2_endsOf.cls ≠ "java/lang/invoke/VarHandle" ∧ (parseMethodDescriptor yX2_endsOf.desc).map (fun d => d.parameters.length) = some 1 := by decide +kernel
abbrev rmX2_endsOf : Room := { frames := 0, cells := 0, slots := 0, locals := 0 }
section SX2_endsOf
variable {p : Program} {l : Launch} {e : Env} {s : State} {m : MethodId} {args : Array Value} {below : List Frame} {meth : Method} {c : Code} {Q : State → Prop} {G : GG}
set_option maxHeartbeats 4000000 in
set_option maxRecDepth 100000 in
theorem kX2_endsOf_L4 (h_this : Nat) (h_hookOfEnd : Nat) (h_holesOfCard : Nat) (c_hooks : Int32) (c_ends : Int32) (c_cards : Int32) (c_limit : Int32) (c_hookOfEnd : Nat → Int32) (v1 : Int32) (C : Cx cX2_endsOf (some .int) 4 RX2 wsX2_endsOf G p s m args meth c) (hP : va_P G.1 CL [(h_this, .inr (2, [.int c_hooks, .int c_ends, .int c_cards, .int c_limit, .ref h_hookOfEnd, .ref h_holesOfCard])), (h_hookOfEnd, .inl (G.2 0, 12, .inl c_hookOfEnd))] s.heap) {res : Int32} (kr : ∀ (pc : Nat) (ls : Array Slot), decode cX2_endsOf pc = .ok (.ireturn, 1) → W p l e rmX2_endsOf s m args below meth c s.heap [] 0 0 Q (F0 m pc ls [.int res])) {k38 : Int32 → Option (Int32)} (hk38 : ∀ (v2 : Int32) , k38 v2 = some res → ∀ (ls : Array Slot), lv_has ls 4 [(2, .int v2)] → W p l e rmX2_endsOf s m args below meth c s.heap [] 0 0 Q (F0 m 38 ls [])) : ∀ (n : Nat) (v2 : Int32) (v3 : Int32), fX2_endsOf_L4 k38 c_ends c_hookOfEnd v1 n v2 v3 = some res → ∀ (ls : Array Slot), lv_has ls 4 [(0, .ref h_this), (1, .int v1), (2, .int v2), (3, .int v3)] → W p l e rmX2_endsOf s m args below meth c s.heap [] 0 0 Q (F0 m 4 ls []) := by
  obtain ⟨hx, hb, hr, hlk, hml, hown, hts, hK⟩ := id C
  intro n
  induction n with
  | zero =>
    intro v2 v3 hf
    cases hf
  | succ n ih =>
    intro v2 v3 hf ls hl
    rw [fX2_endsOf_L4] at hf
    refine lv_iload_n hx hb dX2_endsOf_4 rfl (lv_at hl 3 rfl) ?_
    refine lv_aload_n hx hb dX2_endsOf_5 rfl (lv_at hl 0 rfl) ?_
    refine va_get (D := G.1) (cl := CL) (ci := 2) (C := RX2) (T := TX2) (N := 6) hx hb hts iX2_endsOf_2 hown hK hP 0 rfl rfl 1 (by decide) (hts (.fieldLink RX2 21 "LoomCards$Loom" "ends" "I") (List.mem_of_getElem? (i := 1) rfl)) (fun _ h9 => h9) rfl dX2_endsOf_6 ?_
    refine lv_icmp_ge (tgt := 38) hx hb dX2_endsOf_9 (by decide) (fun c9 => ?_) (fun c9 => ?_)
    · have hf := c_t hf c9
      exact hk38 v2 hf _ (lv_sub hl [2] rfl)
    · have hf := c_f hf c9
      refine lv_iload_n hx hb dX2_endsOf_12 rfl (lv_at hl 2 rfl) ?_
      refine lv_aload_n hx hb dX2_endsOf_13 rfl (lv_at hl 0 rfl) ?_
      refine va_get (D := G.1) (cl := CL) (ci := 2) (C := RX2) (T := TX2) (N := 6) hx hb hts iX2_endsOf_2 hown hK hP 0 rfl rfl 4 (by decide) (hts (.fieldLink RX2 9 "LoomCards$Loom" "hookOfEnd" "[I") (List.mem_of_getElem? (i := 2) rfl)) (fun _ h9 => h9) rfl dX2_endsOf_14 ?_
      refine lv_iload_n hx hb dX2_endsOf_17 rfl (lv_at hl 3 rfl) ?_
      refine r_gd hf (fun g9 hf => ?_)
      refine r_iald hx hb hK hP 1 rfl (ix_in g9) rfl dX2_endsOf_18 ?_
      refine lv_iload_n hx hb dX2_endsOf_19 rfl (lv_at hl 1 rfl) ?_
      refine r_jn2 hf (fun J30 eJ30 hf => ?_)
      have hJ30 : ∀ (j30_0 : Int32) (j30_1 : Int32) , J30 j30_0 j30_1 = some res → ∀ (ls : Array Slot), lv_has ls 4 [(0, .ref h_this), (1, .int v1), (3, .int v3)] → W p l e rmX2_endsOf s m args below meth c s.heap [] 0 0 Q (F0 m 30 ls [.int j30_0, .int j30_1]) := by
        intro j30_0 j30_1 hf ls hl
        rw [eJ30] at hf
        refine lv_ior hx hb dX2_endsOf_30 ?_
        refine lv_istore_n (lv' := [(2, .int (j30_1 ||| j30_0)), (0, .ref h_this), (1, .int v1), (3, .int v3)]) hx hb dX2_endsOf_31 rfl hl (by decide) rfl (fun ls hl => ?_)
        refine lv_iinc (v := (v3 + (1 : Int32))) (lv' := [(3, .int (v3 + (1 : Int32))), (2, .int (j30_1 ||| j30_0)), (0, .ref h_this), (1, .int v1)]) hx hb dX2_endsOf_32 hl (k := 3) rfl rfl (by decide) rfl (fun ls hl => ?_)
        refine lv_goto (tgt := 4) hx hb dX2_endsOf_35 (by decide) ?_
        exact ih (j30_1 ||| j30_0) (v3 + (1 : Int32)) hf _ (lv_sub hl [2, 3, 1, 0] rfl)
      refine lv_icmp_ne (tgt := 29) hx hb dX2_endsOf_20 (by decide) (fun c9 => ?_) (fun c9 => ?_)
      · have hf := c_f hf c9
        refine lv_iconst (v := (0 : Int32)) hx hb dX2_endsOf_29 (by decide) ?_
        exact hJ30 (0 : Int32) v2 hf _ (lv_sub hl [0, 1, 3] rfl)
      · have hf := c_t hf c9
        refine lv_iconst (v := (1 : Int32)) hx hb dX2_endsOf_23 (by decide) ?_
        refine lv_iload_n hx hb dX2_endsOf_24 rfl (lv_at hl 3 rfl) ?_
        refine lv_ishl hx hb dX2_endsOf_25 ?_
        refine lv_goto (tgt := 30) hx hb dX2_endsOf_26 (by decide) ?_
        exact hJ30 ((1 : Int32) <<< (v3 &&& 31)) v2 hf _ (lv_sub hl [0, 1, 3] rfl)
set_option maxHeartbeats 4000000 in
set_option maxRecDepth 100000 in
theorem kX2_endsOf (h_this : Nat) (h_hookOfEnd : Nat) (h_holesOfCard : Nat) (c_hooks : Int32) (c_ends : Int32) (c_cards : Int32) (c_limit : Int32) (c_hookOfEnd : Nat → Int32) (v1 : Int32) (C : Cx cX2_endsOf (some .int) 4 RX2 wsX2_endsOf G p s m args meth c) (hP : va_P G.1 CL [(h_this, .inr (2, [.int c_hooks, .int c_ends, .int c_cards, .int c_limit, .ref h_hookOfEnd, .ref h_holesOfCard])), (h_hookOfEnd, .inl (G.2 0, 12, .inl c_hookOfEnd))] s.heap) {res : Int32} (kr : ∀ (pc : Nat) (ls : Array Slot), decode cX2_endsOf pc = .ok (.ireturn, 1) → W p l e rmX2_endsOf s m args below meth c s.heap [] 0 0 Q (F0 m pc ls [.int res])) (hf : fX2_endsOf c_ends c_hookOfEnd v1 = some res) {ls : Array Slot} (hl : lv_has ls 4 [(0, .ref h_this), (1, .int v1)]) : W p l e rmX2_endsOf s m args below meth c s.heap [] 0 0 Q (F0 m 0 ls []) := by
  obtain ⟨hx, hb, hr, hlk, hml, hown, hts, hK⟩ := id C
  rw [fX2_endsOf] at hf
  refine lv_iconst (v := (0 : Int32)) hx hb dX2_endsOf_0 (by decide) ?_
  refine lv_istore_n (lv' := [(2, .int (0 : Int32)), (0, .ref h_this), (1, .int v1)]) hx hb dX2_endsOf_1 rfl hl (by decide) rfl (fun ls hl => ?_)
  refine lv_iconst (v := (0 : Int32)) hx hb dX2_endsOf_2 (by decide) ?_
  refine lv_istore_n (lv' := [(3, .int (0 : Int32)), (2, .int (0 : Int32)), (0, .ref h_this), (1, .int v1)]) hx hb dX2_endsOf_3 rfl hl (by decide) rfl (fun ls hl => ?_)
  refine kX2_endsOf_L4 h_this h_hookOfEnd h_holesOfCard c_hooks c_ends c_cards c_limit c_hookOfEnd v1 C hP kr ?_ FU (0 : Int32) (0 : Int32) hf _ (lv_sub hl [2, 3, 1, 0] rfl)
  intro v2_x1 hf ls hl
  refine lv_iload_n hx hb dX2_endsOf_38 rfl (lv_at hl 0 rfl) ?_
  obtain rfl := Option.some.inj hf
  exact kr _ _ dX2_endsOf_39
end SX2_endsOf
set_option maxHeartbeats 4000000 in
set_option maxRecDepth 100000 in
theorem tX2_endsOf (l : Launch) (G : GG) (h_this : Nat) (h_hookOfEnd : Nat) (h_holesOfCard : Nat) (c_hooks : Int32) (c_ends : Int32) (c_cards : Int32) (c_limit : Int32) (c_hookOfEnd : Nat → Int32) (v1 : Int32) (res : Int32) (hf : fX2_endsOf c_ends c_hookOfEnd v1 = some res) : MRi l yX2_endsOf wsX2_endsOf rmX2_endsOf G [.ref h_this, .int v1] [(h_this, .inr (2, [.int c_hooks, .int c_ends, .int c_cards, .int c_limit, .ref h_hookOfEnd, .ref h_holesOfCard])), (h_hookOfEnd, .inl (G.2 0, 12, .inl c_hookOfEnd))] (res) := MRi.of (plainFor_of_name (by decide +kernel)) rfl (Nat.le_of_ble_eq_true rfl) (fun p e s m below meth c C hP ls hl => kX2_endsOf h_this h_hookOfEnd h_holesOfCard c_hooks c_ends c_cards c_limit c_hookOfEnd v1 C hP (fun pc ls d => rRi C d) hf hl)
def fX2_altersAll (c_hooks : Int32) (c_ends : Int32) (c_hookOfEnd : Nat → Int32) (v1 : Int32) (v2 : Int32) (v3 : Int32) : Option (Int32) := if 0 < c_hooks then gd (!decide (c_hooks = 0)) (if (v2 &&& (((1 : Int32) <<< ((v1 / c_hooks) &&& 31)) ^^^ (-1 : Int32))) = 0 then gd (!decide (c_hooks = 0)) ((fX2_endsOf c_ends c_hookOfEnd (v1 - v1 / c_hooks * c_hooks)).bind (fun u1 => if (v3 &&& (u1 ^^^ (-1 : Int32))) = 0 then some ((1 : Int32)) else some ((0 : Int32)))) else some ((0 : Int32))) else some ((0 : Int32))
theorem iX2_altersAll_2 : ∀ w ∈ wsX20, w ∈ wsX2_altersAll := fun w h => List.mem_cons_of_mem _ (List.mem_append_right _ (h))
theorem hdX2_altersAll : yX2_altersAll.cls = RX2 ∧ yX2_altersAll.cls ≠ "java/lang/invoke/MethodHandle" ∧ yX2_altersAll.cls ≠ "java/lang/invoke/VarHandle" ∧ (parseMethodDescriptor yX2_altersAll.desc).map (fun d => d.parameters.length) = some 3 := by decide +kernel
abbrev rmX2_altersAll : Room := { frames := 1, cells := 0, slots := 0, locals := 23 }
section SX2_altersAll
variable {p : Program} {l : Launch} {e : Env} {s : State} {m : MethodId} {args : Array Value} {below : List Frame} {meth : Method} {c : Code} {Q : State → Prop} {G : GG}
set_option maxHeartbeats 4000000 in
set_option maxRecDepth 100000 in
theorem kX2_altersAll (h_this : Nat) (h_hookOfEnd : Nat) (h_holesOfCard : Nat) (c_hooks : Int32) (c_ends : Int32) (c_cards : Int32) (c_limit : Int32) (c_hookOfEnd : Nat → Int32) (v1 : Int32) (v2 : Int32) (v3 : Int32) (C : Cx cX2_altersAll (some .boolean) 4 RX2 wsX2_altersAll G p s m args meth c) (hP : va_P G.1 CL [(h_this, .inr (2, [.int c_hooks, .int c_ends, .int c_cards, .int c_limit, .ref h_hookOfEnd, .ref h_holesOfCard])), (h_hookOfEnd, .inl (G.2 0, 12, .inl c_hookOfEnd))] s.heap) {res : Int32} (kr : ∀ (pc : Nat) (ls : Array Slot), narrow .boolean (.int res) = .int res → decode cX2_altersAll pc = .ok (.ireturn, 1) → W p l e rmX2_altersAll s m args below meth c s.heap [] 0 0 Q (F0 m pc ls [.int res])) (hf : fX2_altersAll c_hooks c_ends c_hookOfEnd v1 v2 v3 = some res) {ls : Array Slot} (hl : lv_has ls 4 [(0, .ref h_this), (1, .int v1), (2, .int v2), (3, .int v3)]) : W p l e rmX2_altersAll s m args below meth c s.heap [] 0 0 Q (F0 m 0 ls []) := by
  obtain ⟨hx, hb, hr, hlk, hml, hown, hts, hK⟩ := id C
  rw [fX2_altersAll] at hf
  refine lv_aload_n hx hb dX2_altersAll_0 rfl (lv_at hl 0 rfl) ?_
  refine va_get (D := G.1) (cl := CL) (ci := 2) (C := RX2) (T := TX2) (N := 6) hx hb hts iX2_altersAll_2 hown hK hP 0 rfl rfl 0 (by decide) (hts (.fieldLink RX2 36 "LoomCards$Loom" "hooks" "I") (List.mem_of_getElem? (i := 1) rfl)) (fun _ h9 => h9) rfl dX2_altersAll_1 ?_
  refine lv_if_gt (tgt := 9) hx hb dX2_altersAll_4 (by decide) (fun c9 => ?_) (fun c9 => ?_)
  · have hf := c_t hf c9
    refine lv_iload_n hx hb dX2_altersAll_9 rfl (lv_at hl 2 rfl) ?_
    refine lv_iconst (v := (1 : Int32)) hx hb dX2_altersAll_10 (by decide) ?_
    refine lv_iload_n hx hb dX2_altersAll_11 rfl (lv_at hl 1 rfl) ?_
    refine lv_aload_n hx hb dX2_altersAll_12 rfl (lv_at hl 0 rfl) ?_
    refine va_get (D := G.1) (cl := CL) (ci := 2) (C := RX2) (T := TX2) (N := 6) hx hb hts iX2_altersAll_2 hown hK hP 0 rfl rfl 0 (by decide) (hts (.fieldLink RX2 36 "LoomCards$Loom" "hooks" "I") (List.mem_of_getElem? (i := 1) rfl)) (fun _ h9 => h9) rfl dX2_altersAll_13 ?_
    refine r_gd hf (fun g9 hf => ?_)
    refine lv_idiv hx hb dX2_altersAll_16 (nz g9) ?_
    refine lv_ishl hx hb dX2_altersAll_17 ?_
    refine lv_iconst (v := (-1 : Int32)) hx hb dX2_altersAll_18 (by decide) ?_
    refine lv_ixor hx hb dX2_altersAll_19 ?_
    refine lv_iand hx hb dX2_altersAll_20 ?_
    refine lv_if_ne (tgt := 45) hx hb dX2_altersAll_21 (by decide) (fun c9 => ?_) (fun c9 => ?_)
    · have hf := c_f hf c9
      refine lv_iconst (v := (0 : Int32)) hx hb dX2_altersAll_45 (by decide) ?_
      obtain rfl := Option.some.inj hf
      exact kr _ _ rfl dX2_altersAll_46
    · have hf := c_t hf c9
      refine lv_iload_n hx hb dX2_altersAll_24 rfl (lv_at hl 3 rfl) ?_
      refine lv_aload_n hx hb dX2_altersAll_25 rfl (lv_at hl 0 rfl) ?_
      refine lv_iload_n hx hb dX2_altersAll_26 rfl (lv_at hl 1 rfl) ?_
      refine lv_aload_n hx hb dX2_altersAll_27 rfl (lv_at hl 0 rfl) ?_
      refine va_get (D := G.1) (cl := CL) (ci := 2) (C := RX2) (T := TX2) (N := 6) hx hb hts iX2_altersAll_2 hown hK hP 0 rfl rfl 0 (by decide) (hts (.fieldLink RX2 36 "LoomCards$Loom" "hooks" "I") (List.mem_of_getElem? (i := 1) rfl)) (fun _ h9 => h9) rfl dX2_altersAll_28 ?_
      refine r_gd hf (fun g9 hf => ?_)
      refine lv_irem hx hb dX2_altersAll_31 (nz g9) ?_
      refine r_bind hf (fun u1 hu1 hf => ?_)
      refine cRiV (ci := 2) (rest := [.int v3]) ⟨hx, hb, hml, hown, hts⟩ hK (tX2_endsOf l G h_this h_hookOfEnd h_holesOfCard c_hooks c_ends c_cards c_limit c_hookOfEnd (v1 - v1 / c_hooks * c_hooks) u1 hu1) gX2_altersAll_X2_endsOf rfl hdX2_endsOf rfl rfl rfl ⟨Nat.le_of_ble_eq_true rfl, Nat.le_of_ble_eq_true rfl⟩ hP [0, 1] rfl 0 rfl rfl rfl hl.1 (Nat.le_of_ble_eq_true rfl) rfl dX2_altersAll_32 ⟨Nat.zero_le _, Nat.zero_le _⟩ ?_
      refine lv_iconst (v := (-1 : Int32)) hx hb dX2_altersAll_35 (by decide) ?_
      refine lv_ixor hx hb dX2_altersAll_36 ?_
      refine lv_iand hx hb dX2_altersAll_37 ?_
      refine lv_if_ne (tgt := 45) hx hb dX2_altersAll_38 (by decide) (fun c9 => ?_) (fun c9 => ?_)
      · have hf := c_f hf c9
        refine lv_iconst (v := (0 : Int32)) hx hb dX2_altersAll_45 (by decide) ?_
        obtain rfl := Option.some.inj hf
        exact kr _ _ rfl dX2_altersAll_46
      · have hf := c_t hf c9
        refine lv_iconst (v := (1 : Int32)) hx hb dX2_altersAll_41 (by decide) ?_
        refine lv_goto (tgt := 46) hx hb dX2_altersAll_42 (by decide) ?_
        obtain rfl := Option.some.inj hf
        exact kr _ _ rfl dX2_altersAll_46
  · have hf := c_f hf c9
    refine lv_iconst (v := (0 : Int32)) hx hb dX2_altersAll_7 (by decide) ?_
    obtain rfl := Option.some.inj hf
    exact kr _ _ rfl dX2_altersAll_8
end SX2_altersAll
set_option maxHeartbeats 4000000 in
set_option maxRecDepth 100000 in
theorem tX2_altersAll (l : Launch) (G : GG) (h_this : Nat) (h_hookOfEnd : Nat) (h_holesOfCard : Nat) (c_hooks : Int32) (c_ends : Int32) (c_cards : Int32) (c_limit : Int32) (c_hookOfEnd : Nat → Int32) (v1 : Int32) (v2 : Int32) (v3 : Int32) (res : Int32) (hf : fX2_altersAll c_hooks c_ends c_hookOfEnd v1 v2 v3 = some res) : MRi l yX2_altersAll wsX2_altersAll rmX2_altersAll G [.ref h_this, .int v1, .int v2, .int v3] [(h_this, .inr (2, [.int c_hooks, .int c_ends, .int c_cards, .int c_limit, .ref h_hookOfEnd, .ref h_holesOfCard])), (h_hookOfEnd, .inl (G.2 0, 12, .inl c_hookOfEnd))] (res) := MRi.of (plainFor_of_name (by decide +kernel)) rfl (Nat.le_of_ble_eq_true rfl) (fun p e s m below meth c C hP ls hl => kX2_altersAll h_this h_hookOfEnd h_holesOfCard c_hooks c_ends c_cards c_limit c_hookOfEnd v1 v2 v3 C hP (fun pc ls hn d => rRz C hn d) hf hl)
def fX2_isUp (c_ends : Int32) (c_cards : Int32) (c_hookOfEnd : Nat → Int32) (c_holesOfCard : Nat → Int32) (v1 : Int32) (v2 : Int32) : Option (Int32) := if v1 < 0 then some ((0 : Int32)) else if c_cards ≤ v1 then some ((0 : Int32)) else if v2 < 0 then some ((0 : Int32)) else if v2 < c_ends then gd (ix v1 8) (gd (ix v2 12) (if (((c_holesOfCard v1.toNatClampNeg) >>> ((c_hookOfEnd v2.toNatClampNeg) &&& 31)) &&& (1 : Int32)) = (1 : Int32) then some ((1 : Int32)) else some ((0 : Int32)))) else some ((0 : Int32))
theorem iX2_isUp_2 : ∀ w ∈ wsX20, w ∈ wsX2_isUp := fun w h => List.mem_cons_of_mem _ (List.mem_append_right _ (h))
theorem hdX2_isUp : yX2_isUp.cls = RX2 ∧ yX2_isUp.cls ≠ "java/lang/invoke/MethodHandle" ∧ yX2_isUp.cls ≠ "java/lang/invoke/VarHandle" ∧ (parseMethodDescriptor yX2_isUp.desc).map (fun d => d.parameters.length) = some 2 := by decide +kernel
abbrev rmX2_isUp : Room := { frames := 0, cells := 0, slots := 0, locals := 0 }
section SX2_isUp
variable {p : Program} {l : Launch} {e : Env} {s : State} {m : MethodId} {args : Array Value} {below : List Frame} {meth : Method} {c : Code} {Q : State → Prop} {G : GG}
set_option maxHeartbeats 4000000 in
set_option maxRecDepth 100000 in
theorem kX2_isUp (h_this : Nat) (h_hookOfEnd : Nat) (h_holesOfCard : Nat) (c_hooks : Int32) (c_ends : Int32) (c_cards : Int32) (c_limit : Int32) (c_hookOfEnd : Nat → Int32) (c_holesOfCard : Nat → Int32) (v1 : Int32) (v2 : Int32) (C : Cx cX2_isUp (some .boolean) 3 RX2 wsX2_isUp G p s m args meth c) (hP : va_P G.1 CL [(h_this, .inr (2, [.int c_hooks, .int c_ends, .int c_cards, .int c_limit, .ref h_hookOfEnd, .ref h_holesOfCard])), (h_hookOfEnd, .inl (G.2 0, 12, .inl c_hookOfEnd)), (h_holesOfCard, .inl (G.2 0, 8, .inl c_holesOfCard))] s.heap) {res : Int32} (kr : ∀ (pc : Nat) (ls : Array Slot), narrow .boolean (.int res) = .int res → decode cX2_isUp pc = .ok (.ireturn, 1) → W p l e rmX2_isUp s m args below meth c s.heap [] 0 0 Q (F0 m pc ls [.int res])) (hf : fX2_isUp c_ends c_cards c_hookOfEnd c_holesOfCard v1 v2 = some res) {ls : Array Slot} (hl : lv_has ls 3 [(0, .ref h_this), (1, .int v1), (2, .int v2)]) : W p l e rmX2_isUp s m args below meth c s.heap [] 0 0 Q (F0 m 0 ls []) := by
  obtain ⟨hx, hb, hr, hlk, hml, hown, hts, hK⟩ := id C
  rw [fX2_isUp] at hf
  refine lv_iload_n hx hb dX2_isUp_0 rfl (lv_at hl 1 rfl) ?_
  refine lv_if_lt (tgt := 24) hx hb dX2_isUp_1 (by decide) (fun c9 => ?_) (fun c9 => ?_)
  · have hf := c_t hf c9
    refine lv_iconst (v := (0 : Int32)) hx hb dX2_isUp_24 (by decide) ?_
    obtain rfl := Option.some.inj hf
    exact kr _ _ rfl dX2_isUp_25
  · have hf := c_f hf c9
    refine lv_iload_n hx hb dX2_isUp_4 rfl (lv_at hl 1 rfl) ?_
    refine lv_aload_n hx hb dX2_isUp_5 rfl (lv_at hl 0 rfl) ?_
    refine va_get (D := G.1) (cl := CL) (ci := 2) (C := RX2) (T := TX2) (N := 6) hx hb hts iX2_isUp_2 hown hK hP 0 rfl rfl 2 (by decide) (hts (.fieldLink RX2 39 "LoomCards$Loom" "cards" "I") (List.mem_of_getElem? (i := 1) rfl)) (fun _ h9 => h9) rfl dX2_isUp_6 ?_
    refine lv_icmp_ge (tgt := 24) hx hb dX2_isUp_9 (by decide) (fun c9 => ?_) (fun c9 => ?_)
    · have hf := c_t hf c9
      refine lv_iconst (v := (0 : Int32)) hx hb dX2_isUp_24 (by decide) ?_
      obtain rfl := Option.some.inj hf
      exact kr _ _ rfl dX2_isUp_25
    · have hf := c_f hf c9
      refine lv_iload_n hx hb dX2_isUp_12 rfl (lv_at hl 2 rfl) ?_
      refine lv_if_lt (tgt := 24) hx hb dX2_isUp_13 (by decide) (fun c9 => ?_) (fun c9 => ?_)
      · have hf := c_t hf c9
        refine lv_iconst (v := (0 : Int32)) hx hb dX2_isUp_24 (by decide) ?_
        obtain rfl := Option.some.inj hf
        exact kr _ _ rfl dX2_isUp_25
      · have hf := c_f hf c9
        refine lv_iload_n hx hb dX2_isUp_16 rfl (lv_at hl 2 rfl) ?_
        refine lv_aload_n hx hb dX2_isUp_17 rfl (lv_at hl 0 rfl) ?_
        refine va_get (D := G.1) (cl := CL) (ci := 2) (C := RX2) (T := TX2) (N := 6) hx hb hts iX2_isUp_2 hown hK hP 0 rfl rfl 1 (by decide) (hts (.fieldLink RX2 21 "LoomCards$Loom" "ends" "I") (List.mem_of_getElem? (i := 2) rfl)) (fun _ h9 => h9) rfl dX2_isUp_18 ?_
        refine lv_icmp_lt (tgt := 26) hx hb dX2_isUp_21 (by decide) (fun c9 => ?_) (fun c9 => ?_)
        · have hf := c_t hf c9
          refine lv_aload_n hx hb dX2_isUp_26 rfl (lv_at hl 0 rfl) ?_
          refine va_get (D := G.1) (cl := CL) (ci := 2) (C := RX2) (T := TX2) (N := 6) hx hb hts iX2_isUp_2 hown hK hP 0 rfl rfl 5 (by decide) (hts (.fieldLink RX2 15 "LoomCards$Loom" "holesOfCard" "[I") (List.mem_of_getElem? (i := 3) rfl)) (fun _ h9 => h9) rfl dX2_isUp_27 ?_
          refine lv_iload_n hx hb dX2_isUp_30 rfl (lv_at hl 1 rfl) ?_
          refine r_gd hf (fun g9 hf => ?_)
          refine r_iald hx hb hK hP 2 rfl (ix_in g9) rfl dX2_isUp_31 ?_
          refine lv_aload_n hx hb dX2_isUp_32 rfl (lv_at hl 0 rfl) ?_
          refine va_get (D := G.1) (cl := CL) (ci := 2) (C := RX2) (T := TX2) (N := 6) hx hb hts iX2_isUp_2 hown hK hP 0 rfl rfl 4 (by decide) (hts (.fieldLink RX2 9 "LoomCards$Loom" "hookOfEnd" "[I") (List.mem_of_getElem? (i := 4) rfl)) (fun _ h9 => h9) rfl dX2_isUp_33 ?_
          refine lv_iload_n hx hb dX2_isUp_36 rfl (lv_at hl 2 rfl) ?_
          refine r_gd hf (fun g9 hf => ?_)
          refine r_iald hx hb hK hP 1 rfl (ix_in g9) rfl dX2_isUp_37 ?_
          refine lv_ishr hx hb dX2_isUp_38 ?_
          refine lv_iconst (v := (1 : Int32)) hx hb dX2_isUp_39 (by decide) ?_
          refine lv_iand hx hb dX2_isUp_40 ?_
          refine lv_iconst (v := (1 : Int32)) hx hb dX2_isUp_41 (by decide) ?_
          refine lv_icmp_ne (tgt := 49) hx hb dX2_isUp_42 (by decide) (fun c9 => ?_) (fun c9 => ?_)
          · have hf := c_f hf c9
            refine lv_iconst (v := (0 : Int32)) hx hb dX2_isUp_49 (by decide) ?_
            obtain rfl := Option.some.inj hf
            exact kr _ _ rfl dX2_isUp_50
          · have hf := c_t hf c9
            refine lv_iconst (v := (1 : Int32)) hx hb dX2_isUp_45 (by decide) ?_
            refine lv_goto (tgt := 50) hx hb dX2_isUp_46 (by decide) ?_
            obtain rfl := Option.some.inj hf
            exact kr _ _ rfl dX2_isUp_50
        · have hf := c_f hf c9
          refine lv_iconst (v := (0 : Int32)) hx hb dX2_isUp_24 (by decide) ?_
          obtain rfl := Option.some.inj hf
          exact kr _ _ rfl dX2_isUp_25
end SX2_isUp
set_option maxHeartbeats 4000000 in
set_option maxRecDepth 100000 in
theorem tX2_isUp (l : Launch) (G : GG) (h_this : Nat) (h_hookOfEnd : Nat) (h_holesOfCard : Nat) (c_hooks : Int32) (c_ends : Int32) (c_cards : Int32) (c_limit : Int32) (c_hookOfEnd : Nat → Int32) (c_holesOfCard : Nat → Int32) (v1 : Int32) (v2 : Int32) (res : Int32) (hf : fX2_isUp c_ends c_cards c_hookOfEnd c_holesOfCard v1 v2 = some res) : MRi l yX2_isUp wsX2_isUp rmX2_isUp G [.ref h_this, .int v1, .int v2] [(h_this, .inr (2, [.int c_hooks, .int c_ends, .int c_cards, .int c_limit, .ref h_hookOfEnd, .ref h_holesOfCard])), (h_hookOfEnd, .inl (G.2 0, 12, .inl c_hookOfEnd)), (h_holesOfCard, .inl (G.2 0, 8, .inl c_holesOfCard))] (res) := MRi.of (plainFor_of_name (by decide +kernel)) rfl (Nat.le_of_ble_eq_true rfl) (fun p e s m below meth c C hP ls hl => kX2_isUp h_this h_hookOfEnd h_holesOfCard c_hooks c_ends c_cards c_limit c_hookOfEnd c_holesOfCard v1 v2 C hP (fun pc ls hn d => rRz C hn d) hf hl)

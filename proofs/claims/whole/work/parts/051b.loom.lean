def fX2_longCards_L4 (k40 : Int32 → Option (Int32)) (c_ends : Int32) (c_cards : Int32) (c_limit : Int32) (c_hookOfEnd : Nat → Int32) (c_holesOfCard : Nat → Int32) : Nat → Int32 → Int32 → Option (Int32)
  | 0, _, _ => none
  | n + 1, v1, v2 => if c_cards ≤ v2 then k40 v1 else (fX2_across c_ends c_cards c_hookOfEnd c_holesOfCard v2).bind (fun u1 => jn (fun (j32_0 : Int32) (j32_1 : Int32) => fX2_longCards_L4 k40 c_ends c_cards c_limit c_hookOfEnd c_holesOfCard n (j32_1 ||| j32_0) (v2 + (1 : Int32))) (fun J32 => if u1 ≤ c_limit then J32 (0 : Int32) v1 else J32 ((1 : Int32) <<< (v2 &&& 31)) v1))
def fX2_longCards (c_ends : Int32) (c_cards : Int32) (c_limit : Int32) (c_hookOfEnd : Nat → Int32) (c_holesOfCard : Nat → Int32)  : Option (Int32) := (fX2_longCards_L4 (fun (v1_x2 : Int32) => some (v1_x2)) c_ends c_cards c_limit c_hookOfEnd c_holesOfCard FU (0 : Int32) (0 : Int32))
theorem iX2_longCards_2 : ∀ w ∈ wsX20, w ∈ wsX2_longCards := fun w h => List.mem_cons_of_mem _ (List.mem_append_right _ (h))
theorem hdX2_longCards : yX2_longCards.cls = RX2 ∧ yX2_longCards.cls ≠ "java/lang/invoke/MethodHandle" ∧ yX2_longCards.cls ≠ "java/lang/invoke/VarHandle" ∧ (parseMethodDescriptor yX2_longCards.desc).map (fun d => d.parameters.length) = some 0 := by decide +kernel
abbrev rmX2_longCards : Room := { frames := 2, cells := 0, slots := 0, locals := 46 }
section SX2_longCards
variable {p : Program} {l : Launch} {e : Env} {s : State} {m : MethodId} {args : Array Value} {below : List Frame} {meth : Method} {c : Code} {Q : State → Prop} {G : GG}
set_option maxHeartbeats 4000000 in
set_option maxRecDepth 100000 in
theorem kX2_longCards_L4 (h_this : Nat) (h_hookOfEnd : Nat) (h_holesOfCard : Nat) (c_hooks : Int32) (c_ends : Int32) (c_cards : Int32) (c_limit : Int32) (c_hookOfEnd : Nat → Int32) (c_holesOfCard : Nat → Int32) (C : Cx cX2_longCards (some .int) 3 RX2 wsX2_longCards G p s m args meth c) (hP : va_P G.1 CL [(h_this, .inr (2, [.int c_hooks, .int c_ends, .int c_cards, .int c_limit, .ref h_hookOfEnd, .ref h_holesOfCard])), (h_hookOfEnd, .inl (G.2 0, 12, .inl c_hookOfEnd)), (h_holesOfCard, .inl (G.2 0, 8, .inl c_holesOfCard))] s.heap) {res : Int32} (kr : ∀ (pc : Nat) (ls : Array Slot), decode cX2_longCards pc = .ok (.ireturn, 1) → W p l e rmX2_longCards s m args below meth c s.heap [] 0 0 Q (F0 m pc ls [.int res])) {k40 : Int32 → Option (Int32)} (hk40 : ∀ (v1 : Int32) , k40 v1 = some res → ∀ (ls : Array Slot), lv_has ls 3 [(1, .int v1)] → W p l e rmX2_longCards s m args below meth c s.heap [] 0 0 Q (F0 m 40 ls [])) : ∀ (n : Nat) (v1 : Int32) (v2 : Int32), fX2_longCards_L4 k40 c_ends c_cards c_limit c_hookOfEnd c_holesOfCard n v1 v2 = some res → ∀ (ls : Array Slot), lv_has ls 3 [(0, .ref h_this), (1, .int v1), (2, .int v2)] → W p l e rmX2_longCards s m args below meth c s.heap [] 0 0 Q (F0 m 4 ls []) := by
  obtain ⟨hx, hb, hr, hlk, hml, hown, hts, hK⟩ := id C
  intro n
  induction n with
  | zero =>
    intro v1 v2 hf
    cases hf
  | succ n ih =>
    intro v1 v2 hf ls hl
    rw [fX2_longCards_L4] at hf
    refine lv_iload_n hx hb dX2_longCards_4 rfl (lv_at hl 2 rfl) ?_
    refine lv_aload_n hx hb dX2_longCards_5 rfl (lv_at hl 0 rfl) ?_
    refine va_get (D := G.1) (cl := CL) (ci := 2) (C := RX2) (T := TX2) (N := 6) hx hb hts iX2_longCards_2 hown hK hP 0 rfl rfl 2 (by decide) (hts (.fieldLink RX2 39 "LoomCards$Loom" "cards" "I") (List.mem_of_getElem? (i := 1) rfl)) (fun _ h9 => h9) rfl dX2_longCards_6 ?_
    refine lv_icmp_ge (tgt := 40) hx hb dX2_longCards_9 (by decide) (fun c9 => ?_) (fun c9 => ?_)
    · have hf := c_t hf c9
      exact hk40 v1 hf _ (lv_sub hl [1] rfl)
    · have hf := c_f hf c9
      refine lv_iload_n hx hb dX2_longCards_12 rfl (lv_at hl 1 rfl) ?_
      refine lv_aload_n hx hb dX2_longCards_13 rfl (lv_at hl 0 rfl) ?_
      refine lv_iload_n hx hb dX2_longCards_14 rfl (lv_at hl 2 rfl) ?_
      refine r_bind hf (fun u1 hu1 hf => ?_)
      refine cRiV (ci := 2) (rest := [.int v1]) ⟨hx, hb, hml, hown, hts⟩ hK (tX2_across l G h_this h_hookOfEnd h_holesOfCard c_hooks c_ends c_cards c_limit c_hookOfEnd c_holesOfCard v2 u1 hu1) gX2_longCards_X2_across rfl hdX2_across rfl rfl rfl ⟨Nat.le_of_ble_eq_true rfl, Nat.le_of_ble_eq_true rfl⟩ hP [0, 1, 2] rfl 0 rfl rfl rfl hl.1 (Nat.le_of_ble_eq_true rfl) rfl dX2_longCards_15 ⟨Nat.zero_le _, Nat.zero_le _⟩ ?_
      refine lv_aload_n hx hb dX2_longCards_18 rfl (lv_at hl 0 rfl) ?_
      refine va_get (D := G.1) (cl := CL) (ci := 2) (C := RX2) (T := TX2) (N := 6) hx hb hts iX2_longCards_2 hown hK hP 0 rfl rfl 3 (by decide) (hts (.fieldLink RX2 33 "LoomCards$Loom" "limit" "I") (List.mem_of_getElem? (i := 2) rfl)) (fun _ h9 => h9) rfl dX2_longCards_19 ?_
      refine r_jn2 hf (fun J32 eJ32 hf => ?_)
      have hJ32 : ∀ (j32_0 : Int32) (j32_1 : Int32) , J32 j32_0 j32_1 = some res → ∀ (ls : Array Slot), lv_has ls 3 [(0, .ref h_this), (2, .int v2)] → W p l e rmX2_longCards s m args below meth c s.heap [] 0 0 Q (F0 m 32 ls [.int j32_0, .int j32_1]) := by
        intro j32_0 j32_1 hf ls hl
        rw [eJ32] at hf
        refine lv_ior hx hb dX2_longCards_32 ?_
        refine lv_istore_n (lv' := [(1, .int (j32_1 ||| j32_0)), (0, .ref h_this), (2, .int v2)]) hx hb dX2_longCards_33 rfl hl (by decide) rfl (fun ls hl => ?_)
        refine lv_iinc (v := (v2 + (1 : Int32))) (lv' := [(2, .int (v2 + (1 : Int32))), (1, .int (j32_1 ||| j32_0)), (0, .ref h_this)]) hx hb dX2_longCards_34 hl (k := 2) rfl rfl (by decide) rfl (fun ls hl => ?_)
        refine lv_goto (tgt := 4) hx hb dX2_longCards_37 (by decide) ?_
        exact ih (j32_1 ||| j32_0) (v2 + (1 : Int32)) hf _ (lv_sub hl [2, 1, 0] rfl)
      refine lv_icmp_le (tgt := 31) hx hb dX2_longCards_22 (by decide) (fun c9 => ?_) (fun c9 => ?_)
      · have hf := c_t hf c9
        refine lv_iconst (v := (0 : Int32)) hx hb dX2_longCards_31 (by decide) ?_
        exact hJ32 (0 : Int32) v1 hf _ (lv_sub hl [0, 2] rfl)
      · have hf := c_f hf c9
        refine lv_iconst (v := (1 : Int32)) hx hb dX2_longCards_25 (by decide) ?_
        refine lv_iload_n hx hb dX2_longCards_26 rfl (lv_at hl 2 rfl) ?_
        refine lv_ishl hx hb dX2_longCards_27 ?_
        refine lv_goto (tgt := 32) hx hb dX2_longCards_28 (by decide) ?_
        exact hJ32 ((1 : Int32) <<< (v2 &&& 31)) v1 hf _ (lv_sub hl [0, 2] rfl)
set_option maxHeartbeats 4000000 in
set_option maxRecDepth 100000 in
theorem kX2_longCards (h_this : Nat) (h_hookOfEnd : Nat) (h_holesOfCard : Nat) (c_hooks : Int32) (c_ends : Int32) (c_cards : Int32) (c_limit : Int32) (c_hookOfEnd : Nat → Int32) (c_holesOfCard : Nat → Int32) (C : Cx cX2_longCards (some .int) 3 RX2 wsX2_longCards G p s m args meth c) (hP : va_P G.1 CL [(h_this, .inr (2, [.int c_hooks, .int c_ends, .int c_cards, .int c_limit, .ref h_hookOfEnd, .ref h_holesOfCard])), (h_hookOfEnd, .inl (G.2 0, 12, .inl c_hookOfEnd)), (h_holesOfCard, .inl (G.2 0, 8, .inl c_holesOfCard))] s.heap) {res : Int32} (kr : ∀ (pc : Nat) (ls : Array Slot), decode cX2_longCards pc = .ok (.ireturn, 1) → W p l e rmX2_longCards s m args below meth c s.heap [] 0 0 Q (F0 m pc ls [.int res])) (hf : fX2_longCards c_ends c_cards c_limit c_hookOfEnd c_holesOfCard = some res) {ls : Array Slot} (hl : lv_has ls 3 [(0, .ref h_this)]) : W p l e rmX2_longCards s m args below meth c s.heap [] 0 0 Q (F0 m 0 ls []) := by
  obtain ⟨hx, hb, hr, hlk, hml, hown, hts, hK⟩ := id C
  rw [fX2_longCards] at hf
  refine lv_iconst (v := (0 : Int32)) hx hb dX2_longCards_0 (by decide) ?_
  refine lv_istore_n (lv' := [(1, .int (0 : Int32)), (0, .ref h_this)]) hx hb dX2_longCards_1 rfl hl (by decide) rfl (fun ls hl => ?_)
  refine lv_iconst (v := (0 : Int32)) hx hb dX2_longCards_2 (by decide) ?_
  refine lv_istore_n (lv' := [(2, .int (0 : Int32)), (1, .int (0 : Int32)), (0, .ref h_this)]) hx hb dX2_longCards_3 rfl hl (by decide) rfl (fun ls hl => ?_)
  refine kX2_longCards_L4 h_this h_hookOfEnd h_holesOfCard c_hooks c_ends c_cards c_limit c_hookOfEnd c_holesOfCard C hP kr ?_ FU (0 : Int32) (0 : Int32) hf _ (lv_sub hl [2, 1, 0] rfl)
  intro v1_x2 hf ls hl
  refine lv_iload_n hx hb dX2_longCards_40 rfl (lv_at hl 0 rfl) ?_
  obtain rfl := Option.some.inj hf
  exact kr _ _ dX2_longCards_41
end SX2_longCards
set_option maxHeartbeats 4000000 in
set_option maxRecDepth 100000 in
theorem tX2_longCards (l : Launch) (G : GG) (h_this : Nat) (h_hookOfEnd : Nat) (h_holesOfCard : Nat) (c_hooks : Int32) (c_ends : Int32) (c_cards : Int32) (c_limit : Int32) (c_hookOfEnd : Nat → Int32) (c_holesOfCard : Nat → Int32) (res : Int32) (hf : fX2_longCards c_ends c_cards c_limit c_hookOfEnd c_holesOfCard = some res) : MRi l yX2_longCards wsX2_longCards rmX2_longCards G [.ref h_this] [(h_this, .inr (2, [.int c_hooks, .int c_ends, .int c_cards, .int c_limit, .ref h_hookOfEnd, .ref h_holesOfCard])), (h_hookOfEnd, .inl (G.2 0, 12, .inl c_hookOfEnd)), (h_holesOfCard, .inl (G.2 0, 8, .inl c_holesOfCard))] (res) := MRi.of (plainFor_of_name (by decide +kernel)) rfl (Nat.le_of_ble_eq_true rfl) (fun p e s m below meth c C hP ls hl => kX2_longCards h_this h_hookOfEnd h_holesOfCard c_hooks c_ends c_cards c_limit c_hookOfEnd c_holesOfCard C hP (fun pc ls d => rRi C d) hf hl)
def fX2_longEnds_L4 (k40 : Int32 → Option (Int32)) (c_ends : Int32) (c_cards : Int32) (c_limit : Int32) (c_hookOfEnd : Nat → Int32) (c_holesOfCard : Nat → Int32) : Nat → Int32 → Int32 → Option (Int32)
  | 0, _, _ => none
  | n + 1, v1, v2 => if c_ends ≤ v2 then k40 v1 else (fX2_along c_ends c_cards c_hookOfEnd c_holesOfCard v2).bind (fun u1 => jn (fun (j32_0 : Int32) (j32_1 : Int32) => fX2_longEnds_L4 k40 c_ends c_cards c_limit c_hookOfEnd c_holesOfCard n (j32_1 ||| j32_0) (v2 + (1 : Int32))) (fun J32 => if u1 ≤ c_limit then J32 (0 : Int32) v1 else J32 ((1 : Int32) <<< (v2 &&& 31)) v1))
def fX2_longEnds (c_ends : Int32) (c_cards : Int32) (c_limit : Int32) (c_hookOfEnd : Nat → Int32) (c_holesOfCard : Nat → Int32)  : Option (Int32) := (fX2_longEnds_L4 (fun (v1_x2 : Int32) => some (v1_x2)) c_ends c_cards c_limit c_hookOfEnd c_holesOfCard FU (0 : Int32) (0 : Int32))
theorem iX2_longEnds_2 : ∀ w ∈ wsX20, w ∈ wsX2_longEnds := fun w h => List.mem_cons_of_mem _ (List.mem_append_right _ (h))
theorem hdX2_longEnds : yX2_longEnds.cls = RX2 ∧ yX2_longEnds.cls ≠ "java/lang/invoke/MethodHandle" ∧ yX2_longEnds.cls ≠ "java/lang/invoke/VarHandle" ∧ (parseMethodDescriptor yX2_longEnds.desc).map (fun d => d.parameters.length) = some 0 := by decide +kernel
abbrev rmX2_longEnds : Room := { frames := 2, cells := 0, slots := 0, locals := 49 }
section SX2_longEnds
variable {p : Program} {l : Launch} {e : Env} {s : State} {m : MethodId} {args : Array Value} {below : List Frame} {meth : Method} {c : Code} {Q : State → Prop} {G : GG}
set_option maxHeartbeats 4000000 in
set_option maxRecDepth 100000 in
theorem kX2_longEnds_L4 (h_this : Nat) (h_hookOfEnd : Nat) (h_holesOfCard : Nat) (c_hooks : Int32) (c_ends : Int32) (c_cards : Int32) (c_limit : Int32) (c_hookOfEnd : Nat → Int32) (c_holesOfCard : Nat → Int32) (C : Cx cX2_longEnds (some .int) 3 RX2 wsX2_longEnds G p s m args meth c) (hP : va_P G.1 CL [(h_this, .inr (2, [.int c_hooks, .int c_ends, .int c_cards, .int c_limit, .ref h_hookOfEnd, .ref h_holesOfCard])), (h_hookOfEnd, .inl (G.2 0, 12, .inl c_hookOfEnd)), (h_holesOfCard, .inl (G.2 0, 8, .inl c_holesOfCard))] s.heap) {res : Int32} (kr : ∀ (pc : Nat) (ls : Array Slot), decode cX2_longEnds pc = .ok (.ireturn, 1) → W p l e rmX2_longEnds s m args below meth c s.heap [] 0 0 Q (F0 m pc ls [.int res])) {k40 : Int32 → Option (Int32)} (hk40 : ∀ (v1 : Int32) , k40 v1 = some res → ∀ (ls : Array Slot), lv_has ls 3 [(1, .int v1)] → W p l e rmX2_longEnds s m args below meth c s.heap [] 0 0 Q (F0 m 40 ls [])) : ∀ (n : Nat) (v1 : Int32) (v2 : Int32), fX2_longEnds_L4 k40 c_ends c_cards c_limit c_hookOfEnd c_holesOfCard n v1 v2 = some res → ∀ (ls : Array Slot), lv_has ls 3 [(0, .ref h_this), (1, .int v1), (2, .int v2)] → W p l e rmX2_longEnds s m args below meth c s.heap [] 0 0 Q (F0 m 4 ls []) := by
  obtain ⟨hx, hb, hr, hlk, hml, hown, hts, hK⟩ := id C
  intro n
  induction n with
  | zero =>
    intro v1 v2 hf
    cases hf
  | succ n ih =>
    intro v1 v2 hf ls hl
    rw [fX2_longEnds_L4] at hf
    refine lv_iload_n hx hb dX2_longEnds_4 rfl (lv_at hl 2 rfl) ?_
    refine lv_aload_n hx hb dX2_longEnds_5 rfl (lv_at hl 0 rfl) ?_
    refine va_get (D := G.1) (cl := CL) (ci := 2) (C := RX2) (T := TX2) (N := 6) hx hb hts iX2_longEnds_2 hown hK hP 0 rfl rfl 1 (by decide) (hts (.fieldLink RX2 21 "LoomCards$Loom" "ends" "I") (List.mem_of_getElem? (i := 1) rfl)) (fun _ h9 => h9) rfl dX2_longEnds_6 ?_
    refine lv_icmp_ge (tgt := 40) hx hb dX2_longEnds_9 (by decide) (fun c9 => ?_) (fun c9 => ?_)
    · have hf := c_t hf c9
      exact hk40 v1 hf _ (lv_sub hl [1] rfl)
    · have hf := c_f hf c9
      refine lv_iload_n hx hb dX2_longEnds_12 rfl (lv_at hl 1 rfl) ?_
      refine lv_aload_n hx hb dX2_longEnds_13 rfl (lv_at hl 0 rfl) ?_
      refine lv_iload_n hx hb dX2_longEnds_14 rfl (lv_at hl 2 rfl) ?_
      refine r_bind hf (fun u1 hu1 hf => ?_)
      refine cRiV (ci := 2) (rest := [.int v1]) ⟨hx, hb, hml, hown, hts⟩ hK (tX2_along l G h_this h_hookOfEnd h_holesOfCard c_hooks c_ends c_cards c_limit c_hookOfEnd c_holesOfCard v2 u1 hu1) gX2_longEnds_X2_along rfl hdX2_along rfl rfl rfl ⟨Nat.le_of_ble_eq_true rfl, Nat.le_of_ble_eq_true rfl⟩ hP [0, 1, 2] rfl 0 rfl rfl rfl hl.1 (Nat.le_of_ble_eq_true rfl) rfl dX2_longEnds_15 ⟨Nat.zero_le _, Nat.zero_le _⟩ ?_
      refine lv_aload_n hx hb dX2_longEnds_18 rfl (lv_at hl 0 rfl) ?_
      refine va_get (D := G.1) (cl := CL) (ci := 2) (C := RX2) (T := TX2) (N := 6) hx hb hts iX2_longEnds_2 hown hK hP 0 rfl rfl 3 (by decide) (hts (.fieldLink RX2 33 "LoomCards$Loom" "limit" "I") (List.mem_of_getElem? (i := 2) rfl)) (fun _ h9 => h9) rfl dX2_longEnds_19 ?_
      refine r_jn2 hf (fun J32 eJ32 hf => ?_)
      have hJ32 : ∀ (j32_0 : Int32) (j32_1 : Int32) , J32 j32_0 j32_1 = some res → ∀ (ls : Array Slot), lv_has ls 3 [(0, .ref h_this), (2, .int v2)] → W p l e rmX2_longEnds s m args below meth c s.heap [] 0 0 Q (F0 m 32 ls [.int j32_0, .int j32_1]) := by
        intro j32_0 j32_1 hf ls hl
        rw [eJ32] at hf
        refine lv_ior hx hb dX2_longEnds_32 ?_
        refine lv_istore_n (lv' := [(1, .int (j32_1 ||| j32_0)), (0, .ref h_this), (2, .int v2)]) hx hb dX2_longEnds_33 rfl hl (by decide) rfl (fun ls hl => ?_)
        refine lv_iinc (v := (v2 + (1 : Int32))) (lv' := [(2, .int (v2 + (1 : Int32))), (1, .int (j32_1 ||| j32_0)), (0, .ref h_this)]) hx hb dX2_longEnds_34 hl (k := 2) rfl rfl (by decide) rfl (fun ls hl => ?_)
        refine lv_goto (tgt := 4) hx hb dX2_longEnds_37 (by decide) ?_
        exact ih (j32_1 ||| j32_0) (v2 + (1 : Int32)) hf _ (lv_sub hl [2, 1, 0] rfl)
      refine lv_icmp_le (tgt := 31) hx hb dX2_longEnds_22 (by decide) (fun c9 => ?_) (fun c9 => ?_)
      · have hf := c_t hf c9
        refine lv_iconst (v := (0 : Int32)) hx hb dX2_longEnds_31 (by decide) ?_
        exact hJ32 (0 : Int32) v1 hf _ (lv_sub hl [0, 2] rfl)
      · have hf := c_f hf c9
        refine lv_iconst (v := (1 : Int32)) hx hb dX2_longEnds_25 (by decide) ?_
        refine lv_iload_n hx hb dX2_longEnds_26 rfl (lv_at hl 2 rfl) ?_
        refine lv_ishl hx hb dX2_longEnds_27 ?_
        refine lv_goto (tgt := 32) hx hb dX2_longEnds_28 (by decide) ?_
        exact hJ32 ((1 : Int32) <<< (v2 &&& 31)) v1 hf _ (lv_sub hl [0, 2] rfl)
set_option maxHeartbeats 4000000 in
set_option maxRecDepth 100000 in
theorem kX2_longEnds (h_this : Nat) (h_hookOfEnd : Nat) (h_holesOfCard : Nat) (c_hooks : Int32) (c_ends : Int32) (c_cards : Int32) (c_limit : Int32) (c_hookOfEnd : Nat → Int32) (c_holesOfCard : Nat → Int32) (C : Cx cX2_longEnds (some .int) 3 RX2 wsX2_longEnds G p s m args meth c) (hP : va_P G.1 CL [(h_this, .inr (2, [.int c_hooks, .int c_ends, .int c_cards, .int c_limit, .ref h_hookOfEnd, .ref h_holesOfCard])), (h_hookOfEnd, .inl (G.2 0, 12, .inl c_hookOfEnd)), (h_holesOfCard, .inl (G.2 0, 8, .inl c_holesOfCard))] s.heap) {res : Int32} (kr : ∀ (pc : Nat) (ls : Array Slot), decode cX2_longEnds pc = .ok (.ireturn, 1) → W p l e rmX2_longEnds s m args below meth c s.heap [] 0 0 Q (F0 m pc ls [.int res])) (hf : fX2_longEnds c_ends c_cards c_limit c_hookOfEnd c_holesOfCard = some res) {ls : Array Slot} (hl : lv_has ls 3 [(0, .ref h_this)]) : W p l e rmX2_longEnds s m args below meth c s.heap [] 0 0 Q (F0 m 0 ls []) := by
  obtain ⟨hx, hb, hr, hlk, hml, hown, hts, hK⟩ := id C
  rw [fX2_longEnds] at hf
  refine lv_iconst (v := (0 : Int32)) hx hb dX2_longEnds_0 (by decide) ?_
  refine lv_istore_n (lv' := [(1, .int (0 : Int32)), (0, .ref h_this)]) hx hb dX2_longEnds_1 rfl hl (by decide) rfl (fun ls hl => ?_)
  refine lv_iconst (v := (0 : Int32)) hx hb dX2_longEnds_2 (by decide) ?_
  refine lv_istore_n (lv' := [(2, .int (0 : Int32)), (1, .int (0 : Int32)), (0, .ref h_this)]) hx hb dX2_longEnds_3 rfl hl (by decide) rfl (fun ls hl => ?_)
  refine kX2_longEnds_L4 h_this h_hookOfEnd h_holesOfCard c_hooks c_ends c_cards c_limit c_hookOfEnd c_holesOfCard C hP kr ?_ FU (0 : Int32) (0 : Int32) hf _ (lv_sub hl [2, 1, 0] rfl)
  intro v1_x2 hf ls hl
  refine lv_iload_n hx hb dX2_longEnds_40 rfl (lv_at hl 0 rfl) ?_
  obtain rfl := Option.some.inj hf
  exact kr _ _ dX2_longEnds_41
end SX2_longEnds
set_option maxHeartbeats 4000000 in
set_option maxRecDepth 100000 in
theorem tX2_longEnds (l : Launch) (G : GG) (h_this : Nat) (h_hookOfEnd : Nat) (h_holesOfCard : Nat) (c_hooks : Int32) (c_ends : Int32) (c_cards : Int32) (c_limit : Int32) (c_hookOfEnd : Nat → Int32) (c_holesOfCard : Nat → Int32) (res : Int32) (hf : fX2_longEnds c_ends c_cards c_limit c_hookOfEnd c_holesOfCard = some res) : MRi l yX2_longEnds wsX2_longEnds rmX2_longEnds G [.ref h_this] [(h_this, .inr (2, [.int c_hooks, .int c_ends, .int c_cards, .int c_limit, .ref h_hookOfEnd, .ref h_holesOfCard])), (h_hookOfEnd, .inl (G.2 0, 12, .inl c_hookOfEnd)), (h_holesOfCard, .inl (G.2 0, 8, .inl c_holesOfCard))] (res) := MRi.of (plainFor_of_name (by decide +kernel)) rfl (Nat.le_of_ble_eq_true rfl) (fun p e s m below meth c C hP ls hl => kX2_longEnds h_this h_hookOfEnd h_holesOfCard c_hooks c_ends c_cards c_limit c_hookOfEnd c_holesOfCard C hP (fun pc ls d => rRi C d) hf hl)
def fX2_hasNothingTooLong_L2 (k30 : Option (Int32)) (k22 : Option (Int32)) (c_ends : Int32) (c_cards : Int32) (c_limit : Int32) (c_hookOfEnd : Nat → Int32) (c_holesOfCard : Nat → Int32) : Nat → Int32 → Option (Int32)
  | 0, _ => none
  | n + 1, v1 => if c_cards ≤ v1 then k30 else (fX2_across c_ends c_cards c_hookOfEnd c_holesOfCard v1).bind (fun u1 => if u1 ≤ c_limit then fX2_hasNothingTooLong_L2 k30 k22 c_ends c_cards c_limit c_hookOfEnd c_holesOfCard n (v1 + (1 : Int32)) else k22)
def fX2_hasNothingTooLong_L32 (k60 : Option (Int32)) (k52 : Option (Int32)) (c_ends : Int32) (c_cards : Int32) (c_limit : Int32) (c_hookOfEnd : Nat → Int32) (c_holesOfCard : Nat → Int32) : Nat → Int32 → Option (Int32)
  | 0, _ => none
  | n + 1, v1 => if c_ends ≤ v1 then k60 else (fX2_along c_ends c_cards c_hookOfEnd c_holesOfCard v1).bind (fun u3 => if u3 ≤ c_limit then fX2_hasNothingTooLong_L32 k60 k52 c_ends c_cards c_limit c_hookOfEnd c_holesOfCard n (v1 + (1 : Int32)) else k52)
def fX2_hasNothingTooLong (c_ends : Int32) (c_cards : Int32) (c_limit : Int32) (c_hookOfEnd : Nat → Int32) (c_holesOfCard : Nat → Int32)  : Option (Int32) := (fX2_hasNothingTooLong_L2 ((fX2_hasNothingTooLong_L32 (some ((1 : Int32))) (some ((0 : Int32))) c_ends c_cards c_limit c_hookOfEnd c_holesOfCard FU (0 : Int32))) (some ((0 : Int32))) c_ends c_cards c_limit c_hookOfEnd c_holesOfCard FU (0 : Int32))
theorem iX2_hasNothingTooLong_2 : ∀ w ∈ wsX20, w ∈ wsX2_hasNothingTooLong := fun w h => List.mem_cons_of_mem _ (List.mem_append_right _ (h))
theorem hdX2_hasNothingTooLong : yX2_hasNothingTooLong.cls = RX2 ∧ yX2_hasNothingTooLong.cls ≠ "java/lang/invoke/MethodHandle" ∧ yX2_hasNothingTooLong.cls ≠ "java/lang/invoke/VarHandle" ∧ (parseMethodDescriptor yX2_hasNothingTooLong.desc).map (fun d => d.parameters.length) = some 0 := by decide +kernel
abbrev rmX2_hasNothingTooLong : Room := { frames := 2, cells := 0, slots := 0, locals := 49 }
section SX2_hasNothingTooLong
variable {p : Program} {l : Launch} {e : Env} {s : State} {m : MethodId} {args : Array Value} {below : List Frame} {meth : Method} {c : Code} {Q : State → Prop} {G : GG}
set_option maxHeartbeats 4000000 in
set_option maxRecDepth 100000 in
theorem kX2_hasNothingTooLong_L2 (h_this : Nat) (h_hookOfEnd : Nat) (h_holesOfCard : Nat) (c_hooks : Int32) (c_ends : Int32) (c_cards : Int32) (c_limit : Int32) (c_hookOfEnd : Nat → Int32) (c_holesOfCard : Nat → Int32) (C : Cx cX2_hasNothingTooLong (some .boolean) 2 RX2 wsX2_hasNothingTooLong G p s m args meth c) (hP : va_P G.1 CL [(h_this, .inr (2, [.int c_hooks, .int c_ends, .int c_cards, .int c_limit, .ref h_hookOfEnd, .ref h_holesOfCard])), (h_hookOfEnd, .inl (G.2 0, 12, .inl c_hookOfEnd)), (h_holesOfCard, .inl (G.2 0, 8, .inl c_holesOfCard))] s.heap) {res : Int32} (kr : ∀ (pc : Nat) (ls : Array Slot), narrow .boolean (.int res) = .int res → decode cX2_hasNothingTooLong pc = .ok (.ireturn, 1) → W p l e rmX2_hasNothingTooLong s m args below meth c s.heap [] 0 0 Q (F0 m pc ls [.int res])) {k30 : Option (Int32)} (hk30 : k30 = some res → ∀ (ls : Array Slot), lv_has ls 2 [(0, .ref h_this)] → W p l e rmX2_hasNothingTooLong s m args below meth c s.heap [] 0 0 Q (F0 m 30 ls [])) {k22 : Option (Int32)} (hk22 : k22 = some res → ∀ (ls : Array Slot), lv_has ls 2 [] → W p l e rmX2_hasNothingTooLong s m args below meth c s.heap [] 0 0 Q (F0 m 22 ls [])) : ∀ (n : Nat) (v1 : Int32), fX2_hasNothingTooLong_L2 k30 k22 c_ends c_cards c_limit c_hookOfEnd c_holesOfCard n v1 = some res → ∀ (ls : Array Slot), lv_has ls 2 [(0, .ref h_this), (1, .int v1)] → W p l e rmX2_hasNothingTooLong s m args below meth c s.heap [] 0 0 Q (F0 m 2 ls []) := by
  obtain ⟨hx, hb, hr, hlk, hml, hown, hts, hK⟩ := id C
  intro n
  induction n with
  | zero =>
    intro v1 hf
    cases hf
  | succ n ih =>
    intro v1 hf ls hl
    rw [fX2_hasNothingTooLong_L2] at hf
    refine lv_iload_n hx hb dX2_hasNothingTooLong_2 rfl (lv_at hl 1 rfl) ?_
    refine lv_aload_n hx hb dX2_hasNothingTooLong_3 rfl (lv_at hl 0 rfl) ?_
    refine va_get (D := G.1) (cl := CL) (ci := 2) (C := RX2) (T := TX2) (N := 6) hx hb hts iX2_hasNothingTooLong_2 hown hK hP 0 rfl rfl 2 (by decide) (hts (.fieldLink RX2 39 "LoomCards$Loom" "cards" "I") (List.mem_of_getElem? (i := 1) rfl)) (fun _ h9 => h9) rfl dX2_hasNothingTooLong_4 ?_
    refine lv_icmp_ge (tgt := 30) hx hb dX2_hasNothingTooLong_7 (by decide) (fun c9 => ?_) (fun c9 => ?_)
    · have hf := c_t hf c9
      exact hk30 hf _ (lv_sub hl [0] rfl)
    · have hf := c_f hf c9
      refine lv_aload_n hx hb dX2_hasNothingTooLong_10 rfl (lv_at hl 0 rfl) ?_
      refine lv_iload_n hx hb dX2_hasNothingTooLong_11 rfl (lv_at hl 1 rfl) ?_
      refine r_bind hf (fun u1 hu1 hf => ?_)
      refine cRiV (ci := 2) (rest := []) ⟨hx, hb, hml, hown, hts⟩ hK (tX2_across l G h_this h_hookOfEnd h_holesOfCard c_hooks c_ends c_cards c_limit c_hookOfEnd c_holesOfCard v1 u1 hu1) gX2_hasNothingTooLong_X2_across rfl hdX2_across rfl rfl rfl ⟨Nat.le_of_ble_eq_true rfl, Nat.le_of_ble_eq_true rfl⟩ hP [0, 1, 2] rfl 0 rfl rfl rfl hl.1 (Nat.le_of_ble_eq_true rfl) rfl dX2_hasNothingTooLong_12 ⟨Nat.zero_le _, Nat.zero_le _⟩ ?_
      refine lv_aload_n hx hb dX2_hasNothingTooLong_15 rfl (lv_at hl 0 rfl) ?_
      refine va_get (D := G.1) (cl := CL) (ci := 2) (C := RX2) (T := TX2) (N := 6) hx hb hts iX2_hasNothingTooLong_2 hown hK hP 0 rfl rfl 3 (by decide) (hts (.fieldLink RX2 33 "LoomCards$Loom" "limit" "I") (List.mem_of_getElem? (i := 2) rfl)) (fun _ h9 => h9) rfl dX2_hasNothingTooLong_16 ?_
      refine lv_icmp_le (tgt := 24) hx hb dX2_hasNothingTooLong_19 (by decide) (fun c9 => ?_) (fun c9 => ?_)
      · have hf := c_t hf c9
        refine lv_iinc (v := (v1 + (1 : Int32))) (lv' := [(1, .int (v1 + (1 : Int32))), (0, .ref h_this)]) hx hb dX2_hasNothingTooLong_24 hl (k := 1) rfl rfl (by decide) rfl (fun ls hl => ?_)
        refine lv_goto (tgt := 2) hx hb dX2_hasNothingTooLong_27 (by decide) ?_
        exact ih (v1 + (1 : Int32)) hf _ (lv_sub hl [1, 0] rfl)
      · have hf := c_f hf c9
        exact hk22 hf _ (lv_sub hl [] rfl)
set_option maxHeartbeats 4000000 in
set_option maxRecDepth 100000 in
theorem kX2_hasNothingTooLong_L32 (h_this : Nat) (h_hookOfEnd : Nat) (h_holesOfCard : Nat) (c_hooks : Int32) (c_ends : Int32) (c_cards : Int32) (c_limit : Int32) (c_hookOfEnd : Nat → Int32) (c_holesOfCard : Nat → Int32) (C : Cx cX2_hasNothingTooLong (some .boolean) 2 RX2 wsX2_hasNothingTooLong G p s m args meth c) (hP : va_P G.1 CL [(h_this, .inr (2, [.int c_hooks, .int c_ends, .int c_cards, .int c_limit, .ref h_hookOfEnd, .ref h_holesOfCard])), (h_hookOfEnd, .inl (G.2 0, 12, .inl c_hookOfEnd)), (h_holesOfCard, .inl (G.2 0, 8, .inl c_holesOfCard))] s.heap) {res : Int32} (kr : ∀ (pc : Nat) (ls : Array Slot), narrow .boolean (.int res) = .int res → decode cX2_hasNothingTooLong pc = .ok (.ireturn, 1) → W p l e rmX2_hasNothingTooLong s m args below meth c s.heap [] 0 0 Q (F0 m pc ls [.int res])) {k60 : Option (Int32)} (hk60 : k60 = some res → ∀ (ls : Array Slot), lv_has ls 2 [] → W p l e rmX2_hasNothingTooLong s m args below meth c s.heap [] 0 0 Q (F0 m 60 ls [])) {k52 : Option (Int32)} (hk52 : k52 = some res → ∀ (ls : Array Slot), lv_has ls 2 [] → W p l e rmX2_hasNothingTooLong s m args below meth c s.heap [] 0 0 Q (F0 m 52 ls [])) : ∀ (n : Nat) (v1 : Int32), fX2_hasNothingTooLong_L32 k60 k52 c_ends c_cards c_limit c_hookOfEnd c_holesOfCard n v1 = some res → ∀ (ls : Array Slot), lv_has ls 2 [(0, .ref h_this), (1, .int v1)] → W p l e rmX2_hasNothingTooLong s m args below meth c s.heap [] 0 0 Q (F0 m 32 ls []) := by
  obtain ⟨hx, hb, hr, hlk, hml, hown, hts, hK⟩ := id C
  intro n
  induction n with
  | zero =>
    intro v1 hf
    cases hf
  | succ n ih =>
    intro v1 hf ls hl
    rw [fX2_hasNothingTooLong_L32] at hf
    refine lv_iload_n hx hb dX2_hasNothingTooLong_32 rfl (lv_at hl 1 rfl) ?_
    refine lv_aload_n hx hb dX2_hasNothingTooLong_33 rfl (lv_at hl 0 rfl) ?_
    refine va_get (D := G.1) (cl := CL) (ci := 2) (C := RX2) (T := TX2) (N := 6) hx hb hts iX2_hasNothingTooLong_2 hown hK hP 0 rfl rfl 1 (by decide) (hts (.fieldLink RX2 21 "LoomCards$Loom" "ends" "I") (List.mem_of_getElem? (i := 3) rfl)) (fun _ h9 => h9) rfl dX2_hasNothingTooLong_34 ?_
    refine lv_icmp_ge (tgt := 60) hx hb dX2_hasNothingTooLong_37 (by decide) (fun c9 => ?_) (fun c9 => ?_)
    · have hf := c_t hf c9
      exact hk60 hf _ (lv_sub hl [] rfl)
    · have hf := c_f hf c9
      refine lv_aload_n hx hb dX2_hasNothingTooLong_40 rfl (lv_at hl 0 rfl) ?_
      refine lv_iload_n hx hb dX2_hasNothingTooLong_41 rfl (lv_at hl 1 rfl) ?_
      refine r_bind hf (fun u3 hu3 hf => ?_)
      refine cRiV (ci := 2) (rest := []) ⟨hx, hb, hml, hown, hts⟩ hK (tX2_along l G h_this h_hookOfEnd h_holesOfCard c_hooks c_ends c_cards c_limit c_hookOfEnd c_holesOfCard v1 u3 hu3) gX2_hasNothingTooLong_X2_along rfl hdX2_along rfl rfl rfl ⟨Nat.le_of_ble_eq_true rfl, Nat.le_of_ble_eq_true rfl⟩ hP [0, 1, 2] rfl 0 rfl rfl rfl hl.1 (Nat.le_of_ble_eq_true rfl) rfl dX2_hasNothingTooLong_42 ⟨Nat.zero_le _, Nat.zero_le _⟩ ?_
      refine lv_aload_n hx hb dX2_hasNothingTooLong_45 rfl (lv_at hl 0 rfl) ?_
      refine va_get (D := G.1) (cl := CL) (ci := 2) (C := RX2) (T := TX2) (N := 6) hx hb hts iX2_hasNothingTooLong_2 hown hK hP 0 rfl rfl 3 (by decide) (hts (.fieldLink RX2 33 "LoomCards$Loom" "limit" "I") (List.mem_of_getElem? (i := 2) rfl)) (fun _ h9 => h9) rfl dX2_hasNothingTooLong_46 ?_
      refine lv_icmp_le (tgt := 54) hx hb dX2_hasNothingTooLong_49 (by decide) (fun c9 => ?_) (fun c9 => ?_)
      · have hf := c_t hf c9
        refine lv_iinc (v := (v1 + (1 : Int32))) (lv' := [(1, .int (v1 + (1 : Int32))), (0, .ref h_this)]) hx hb dX2_hasNothingTooLong_54 hl (k := 1) rfl rfl (by decide) rfl (fun ls hl => ?_)
        refine lv_goto (tgt := 32) hx hb dX2_hasNothingTooLong_57 (by decide) ?_
        exact ih (v1 + (1 : Int32)) hf _ (lv_sub hl [1, 0] rfl)
      · have hf := c_f hf c9
        exact hk52 hf _ (lv_sub hl [] rfl)
set_option maxHeartbeats 4000000 in
set_option maxRecDepth 100000 in
theorem kX2_hasNothingTooLong (h_this : Nat) (h_hookOfEnd : Nat) (h_holesOfCard : Nat) (c_hooks : Int32) (c_ends : Int32) (c_cards : Int32) (c_limit : Int32) (c_hookOfEnd : Nat → Int32) (c_holesOfCard : Nat → Int32) (C : Cx cX2_hasNothingTooLong (some .boolean) 2 RX2 wsX2_hasNothingTooLong G p s m args meth c) (hP : va_P G.1 CL [(h_this, .inr (2, [.int c_hooks, .int c_ends, .int c_cards, .int c_limit, .ref h_hookOfEnd, .ref h_holesOfCard])), (h_hookOfEnd, .inl (G.2 0, 12, .inl c_hookOfEnd)), (h_holesOfCard, .inl (G.2 0, 8, .inl c_holesOfCard))] s.heap) {res : Int32} (kr : ∀ (pc : Nat) (ls : Array Slot), narrow .boolean (.int res) = .int res → decode cX2_hasNothingTooLong pc = .ok (.ireturn, 1) → W p l e rmX2_hasNothingTooLong s m args below meth c s.heap [] 0 0 Q (F0 m pc ls [.int res])) (hf : fX2_hasNothingTooLong c_ends c_cards c_limit c_hookOfEnd c_holesOfCard = some res) {ls : Array Slot} (hl : lv_has ls 2 [(0, .ref h_this)]) : W p l e rmX2_hasNothingTooLong s m args below meth c s.heap [] 0 0 Q (F0 m 0 ls []) := by
  obtain ⟨hx, hb, hr, hlk, hml, hown, hts, hK⟩ := id C
  rw [fX2_hasNothingTooLong] at hf
  refine lv_iconst (v := (0 : Int32)) hx hb dX2_hasNothingTooLong_0 (by decide) ?_
  refine lv_istore_n (lv' := [(1, .int (0 : Int32)), (0, .ref h_this)]) hx hb dX2_hasNothingTooLong_1 rfl hl (by decide) rfl (fun ls hl => ?_)
  refine kX2_hasNothingTooLong_L2 h_this h_hookOfEnd h_holesOfCard c_hooks c_ends c_cards c_limit c_hookOfEnd c_holesOfCard C hP kr ?_ ?_ FU (0 : Int32) hf _ (lv_sub hl [1, 0] rfl)
  · intro hf ls hl
    refine lv_iconst (v := (0 : Int32)) hx hb dX2_hasNothingTooLong_30 (by decide) ?_
    refine lv_istore_n (lv' := [(1, .int (0 : Int32)), (0, .ref h_this)]) hx hb dX2_hasNothingTooLong_31 rfl hl (by decide) rfl (fun ls hl => ?_)
    refine kX2_hasNothingTooLong_L32 h_this h_hookOfEnd h_holesOfCard c_hooks c_ends c_cards c_limit c_hookOfEnd c_holesOfCard C hP kr ?_ ?_ FU (0 : Int32) hf _ (lv_sub hl [1, 0] rfl)
    · intro hf ls hl
      refine lv_iconst (v := (1 : Int32)) hx hb dX2_hasNothingTooLong_60 (by decide) ?_
      obtain rfl := Option.some.inj hf
      exact kr _ _ nb1 dX2_hasNothingTooLong_61
    · intro hf ls hl
      refine lv_iconst (v := (0 : Int32)) hx hb dX2_hasNothingTooLong_52 (by decide) ?_
      obtain rfl := Option.some.inj hf
      exact kr _ _ nb0 dX2_hasNothingTooLong_53
  · intro hf ls hl
    refine lv_iconst (v := (0 : Int32)) hx hb dX2_hasNothingTooLong_22 (by decide) ?_
    obtain rfl := Option.some.inj hf
    exact kr _ _ nb0 dX2_hasNothingTooLong_23
end SX2_hasNothingTooLong
set_option maxHeartbeats 4000000 in
set_option maxRecDepth 100000 in
theorem tX2_hasNothingTooLong (l : Launch) (G : GG) (h_this : Nat) (h_hookOfEnd : Nat) (h_holesOfCard : Nat) (c_hooks : Int32) (c_ends : Int32) (c_cards : Int32) (c_limit : Int32) (c_hookOfEnd : Nat → Int32) (c_holesOfCard : Nat → Int32) (res : Int32) (hf : fX2_hasNothingTooLong c_ends c_cards c_limit c_hookOfEnd c_holesOfCard = some res) : MRi l yX2_hasNothingTooLong wsX2_hasNothingTooLong rmX2_hasNothingTooLong G [.ref h_this] [(h_this, .inr (2, [.int c_hooks, .int c_ends, .int c_cards, .int c_limit, .ref h_hookOfEnd, .ref h_holesOfCard])), (h_hookOfEnd, .inl (G.2 0, 12, .inl c_hookOfEnd)), (h_holesOfCard, .inl (G.2 0, 8, .inl c_holesOfCard))] (res) := MRi.of (plainFor_of_name (by decide +kernel)) rfl (Nat.le_of_ble_eq_true rfl) (fun p e s m below meth c C hP ls hl => kX2_hasNothingTooLong h_this h_hookOfEnd h_holesOfCard c_hooks c_ends c_cards c_limit c_hookOfEnd c_holesOfCard C hP (fun pc ls hn d => rRz C hn d) hf hl)
def fX2_hooksWithoutEnds_L4 (k36 : Int32 → Option (Int32)) (c_hooks : Int32) (c_ends : Int32) (c_hookOfEnd : Nat → Int32) : Nat → Int32 → Int32 → Option (Int32)
  | 0, _, _ => none
  | n + 1, v1, v2 => if c_hooks ≤ v2 then k36 v1 else (fX2_endsOf c_ends c_hookOfEnd v2).bind (fun u1 => jn (fun (j28_0 : Int32) (j28_1 : Int32) => fX2_hooksWithoutEnds_L4 k36 c_hooks c_ends c_hookOfEnd n (j28_1 ||| j28_0) (v2 + (1 : Int32))) (fun J28 => if u1 = 0 then J28 ((1 : Int32) <<< (v2 &&& 31)) v1 else J28 (0 : Int32) v1))
def fX2_hooksWithoutEnds (c_hooks : Int32) (c_ends : Int32) (c_hookOfEnd : Nat → Int32)  : Option (Int32) := (fX2_hooksWithoutEnds_L4 (fun (v1_x2 : Int32) => some (v1_x2)) c_hooks c_ends c_hookOfEnd FU (0 : Int32) (0 : Int32))
theorem iX2_hooksWithoutEnds_2 : ∀ w ∈ wsX20, w ∈ wsX2_hooksWithoutEnds := fun w h => List.mem_cons_of_mem _ (List.mem_append_right _ (h))
theorem hdX2_hooksWithoutEnds : yX2_hooksWithoutEnds.cls = RX2 ∧ yX2_hooksWithoutEnds.cls ≠ "java/lang/invoke/MethodHandle" ∧ yX2_hooksWithoutEnds.cls ≠ "java/lang/invoke/VarHandle" ∧ (parseMethodDescriptor yX2_hooksWithoutEnds.desc).map (fun d => d.parameters.length) = some 0 := by decide +kernel
abbrev rmX2_hooksWithoutEnds : Room := { frames := 1, cells := 0, slots := 0, locals := 23 }
section SX2_hooksWithoutEnds
variable {p : Program} {l : Launch} {e : Env} {s : State} {m : MethodId} {args : Array Value} {below : List Frame} {meth : Method} {c : Code} {Q : State → Prop} {G : GG}
set_option maxHeartbeats 4000000 in
set_option maxRecDepth 100000 in
theorem kX2_hooksWithoutEnds_L4 (h_this : Nat) (h_hookOfEnd : Nat) (h_holesOfCard : Nat) (c_hooks : Int32) (c_ends : Int32) (c_cards : Int32) (c_limit : Int32) (c_hookOfEnd : Nat → Int32) (C : Cx cX2_hooksWithoutEnds (some .int) 3 RX2 wsX2_hooksWithoutEnds G p s m args meth c) (hP : va_P G.1 CL [(h_this, .inr (2, [.int c_hooks, .int c_ends, .int c_cards, .int c_limit, .ref h_hookOfEnd, .ref h_holesOfCard])), (h_hookOfEnd, .inl (G.2 0, 12, .inl c_hookOfEnd))] s.heap) {res : Int32} (kr : ∀ (pc : Nat) (ls : Array Slot), decode cX2_hooksWithoutEnds pc = .ok (.ireturn, 1) → W p l e rmX2_hooksWithoutEnds s m args below meth c s.heap [] 0 0 Q (F0 m pc ls [.int res])) {k36 : Int32 → Option (Int32)} (hk36 : ∀ (v1 : Int32) , k36 v1 = some res → ∀ (ls : Array Slot), lv_has ls 3 [(1, .int v1)] → W p l e rmX2_hooksWithoutEnds s m args below meth c s.heap [] 0 0 Q (F0 m 36 ls [])) : ∀ (n : Nat) (v1 : Int32) (v2 : Int32), fX2_hooksWithoutEnds_L4 k36 c_hooks c_ends c_hookOfEnd n v1 v2 = some res → ∀ (ls : Array Slot), lv_has ls 3 [(0, .ref h_this), (1, .int v1), (2, .int v2)] → W p l e rmX2_hooksWithoutEnds s m args below meth c s.heap [] 0 0 Q (F0 m 4 ls []) := by
  obtain ⟨hx, hb, hr, hlk, hml, hown, hts, hK⟩ := id C
  intro n
  induction n with
  | zero =>
    intro v1 v2 hf
    cases hf
  | succ n ih =>
    intro v1 v2 hf ls hl
    rw [fX2_hooksWithoutEnds_L4] at hf
    refine lv_iload_n hx hb dX2_hooksWithoutEnds_4 rfl (lv_at hl 2 rfl) ?_
    refine lv_aload_n hx hb dX2_hooksWithoutEnds_5 rfl (lv_at hl 0 rfl) ?_
    refine va_get (D := G.1) (cl := CL) (ci := 2) (C := RX2) (T := TX2) (N := 6) hx hb hts iX2_hooksWithoutEnds_2 hown hK hP 0 rfl rfl 0 (by decide) (hts (.fieldLink RX2 36 "LoomCards$Loom" "hooks" "I") (List.mem_of_getElem? (i := 1) rfl)) (fun _ h9 => h9) rfl dX2_hooksWithoutEnds_6 ?_
    refine lv_icmp_ge (tgt := 36) hx hb dX2_hooksWithoutEnds_9 (by decide) (fun c9 => ?_) (fun c9 => ?_)
    · have hf := c_t hf c9
      exact hk36 v1 hf _ (lv_sub hl [1] rfl)
    · have hf := c_f hf c9
      refine lv_iload_n hx hb dX2_hooksWithoutEnds_12 rfl (lv_at hl 1 rfl) ?_
      refine lv_aload_n hx hb dX2_hooksWithoutEnds_13 rfl (lv_at hl 0 rfl) ?_
      refine lv_iload_n hx hb dX2_hooksWithoutEnds_14 rfl (lv_at hl 2 rfl) ?_
      refine r_bind hf (fun u1 hu1 hf => ?_)
      refine cRiV (ci := 2) (rest := [.int v1]) ⟨hx, hb, hml, hown, hts⟩ hK (tX2_endsOf l G h_this h_hookOfEnd h_holesOfCard c_hooks c_ends c_cards c_limit c_hookOfEnd v2 u1 hu1) gX2_hooksWithoutEnds_X2_endsOf rfl hdX2_endsOf rfl rfl rfl ⟨Nat.le_of_ble_eq_true rfl, Nat.le_of_ble_eq_true rfl⟩ hP [0, 1] rfl 0 rfl rfl rfl hl.1 (Nat.le_of_ble_eq_true rfl) rfl dX2_hooksWithoutEnds_15 ⟨Nat.zero_le _, Nat.zero_le _⟩ ?_
      refine r_jn2 hf (fun J28 eJ28 hf => ?_)
      have hJ28 : ∀ (j28_0 : Int32) (j28_1 : Int32) , J28 j28_0 j28_1 = some res → ∀ (ls : Array Slot), lv_has ls 3 [(0, .ref h_this), (2, .int v2)] → W p l e rmX2_hooksWithoutEnds s m args below meth c s.heap [] 0 0 Q (F0 m 28 ls [.int j28_0, .int j28_1]) := by
        intro j28_0 j28_1 hf ls hl
        rw [eJ28] at hf
        refine lv_ior hx hb dX2_hooksWithoutEnds_28 ?_
        refine lv_istore_n (lv' := [(1, .int (j28_1 ||| j28_0)), (0, .ref h_this), (2, .int v2)]) hx hb dX2_hooksWithoutEnds_29 rfl hl (by decide) rfl (fun ls hl => ?_)
        refine lv_iinc (v := (v2 + (1 : Int32))) (lv' := [(2, .int (v2 + (1 : Int32))), (1, .int (j28_1 ||| j28_0)), (0, .ref h_this)]) hx hb dX2_hooksWithoutEnds_30 hl (k := 2) rfl rfl (by decide) rfl (fun ls hl => ?_)
        refine lv_goto (tgt := 4) hx hb dX2_hooksWithoutEnds_33 (by decide) ?_
        exact ih (j28_1 ||| j28_0) (v2 + (1 : Int32)) hf _ (lv_sub hl [2, 1, 0] rfl)
      refine lv_if_ne (tgt := 27) hx hb dX2_hooksWithoutEnds_18 (by decide) (fun c9 => ?_) (fun c9 => ?_)
      · have hf := c_f hf c9
        refine lv_iconst (v := (0 : Int32)) hx hb dX2_hooksWithoutEnds_27 (by decide) ?_
        exact hJ28 (0 : Int32) v1 hf _ (lv_sub hl [0, 2] rfl)
      · have hf := c_t hf c9
        refine lv_iconst (v := (1 : Int32)) hx hb dX2_hooksWithoutEnds_21 (by decide) ?_
        refine lv_iload_n hx hb dX2_hooksWithoutEnds_22 rfl (lv_at hl 2 rfl) ?_
        refine lv_ishl hx hb dX2_hooksWithoutEnds_23 ?_
        refine lv_goto (tgt := 28) hx hb dX2_hooksWithoutEnds_24 (by decide) ?_
        exact hJ28 ((1 : Int32) <<< (v2 &&& 31)) v1 hf _ (lv_sub hl [0, 2] rfl)
set_option maxHeartbeats 4000000 in
set_option maxRecDepth 100000 in
theorem kX2_hooksWithoutEnds (h_this : Nat) (h_hookOfEnd : Nat) (h_holesOfCard : Nat) (c_hooks : Int32) (c_ends : Int32) (c_cards : Int32) (c_limit : Int32) (c_hookOfEnd : Nat → Int32) (C : Cx cX2_hooksWithoutEnds (some .int) 3 RX2 wsX2_hooksWithoutEnds G p s m args meth c) (hP : va_P G.1 CL [(h_this, .inr (2, [.int c_hooks, .int c_ends, .int c_cards, .int c_limit, .ref h_hookOfEnd, .ref h_holesOfCard])), (h_hookOfEnd, .inl (G.2 0, 12, .inl c_hookOfEnd))] s.heap) {res : Int32} (kr : ∀ (pc : Nat) (ls : Array Slot), decode cX2_hooksWithoutEnds pc = .ok (.ireturn, 1) → W p l e rmX2_hooksWithoutEnds s m args below meth c s.heap [] 0 0 Q (F0 m pc ls [.int res])) (hf : fX2_hooksWithoutEnds c_hooks c_ends c_hookOfEnd = some res) {ls : Array Slot} (hl : lv_has ls 3 [(0, .ref h_this)]) : W p l e rmX2_hooksWithoutEnds s m args below meth c s.heap [] 0 0 Q (F0 m 0 ls []) := by
  obtain ⟨hx, hb, hr, hlk, hml, hown, hts, hK⟩ := id C
  rw [fX2_hooksWithoutEnds] at hf
  refine lv_iconst (v := (0 : Int32)) hx hb dX2_hooksWithoutEnds_0 (by decide) ?_
  refine lv_istore_n (lv' := [(1, .int (0 : Int32)), (0, .ref h_this)]) hx hb dX2_hooksWithoutEnds_1 rfl hl (by decide) rfl (fun ls hl => ?_)
  refine lv_iconst (v := (0 : Int32)) hx hb dX2_hooksWithoutEnds_2 (by decide) ?_
  refine lv_istore_n (lv' := [(2, .int (0 : Int32)), (1, .int (0 : Int32)), (0, .ref h_this)]) hx hb dX2_hooksWithoutEnds_3 rfl hl (by decide) rfl (fun ls hl => ?_)
  refine kX2_hooksWithoutEnds_L4 h_this h_hookOfEnd h_holesOfCard c_hooks c_ends c_cards c_limit c_hookOfEnd C hP kr ?_ FU (0 : Int32) (0 : Int32) hf _ (lv_sub hl [2, 1, 0] rfl)
  intro v1_x2 hf ls hl
  refine lv_iload_n hx hb dX2_hooksWithoutEnds_36 rfl (lv_at hl 0 rfl) ?_
  obtain rfl := Option.some.inj hf
  exact kr _ _ dX2_hooksWithoutEnds_37
end SX2_hooksWithoutEnds
set_option maxHeartbeats 4000000 in
set_option maxRecDepth 100000 in
theorem tX2_hooksWithoutEnds (l : Launch) (G : GG) (h_this : Nat) (h_hookOfEnd : Nat) (h_holesOfCard : Nat) (c_hooks : Int32) (c_ends : Int32) (c_cards : Int32) (c_limit : Int32) (c_hookOfEnd : Nat → Int32) (res : Int32) (hf : fX2_hooksWithoutEnds c_hooks c_ends c_hookOfEnd = some res) : MRi l yX2_hooksWithoutEnds wsX2_hooksWithoutEnds rmX2_hooksWithoutEnds G [.ref h_this] [(h_this, .inr (2, [.int c_hooks, .int c_ends, .int c_cards, .int c_limit, .ref h_hookOfEnd, .ref h_holesOfCard])), (h_hookOfEnd, .inl (G.2 0, 12, .inl c_hookOfEnd))] (res) := MRi.of (plainFor_of_name (by decide +kernel)) rfl (Nat.le_of_ble_eq_true rfl) (fun p e s m below meth c C hP ls hl => kX2_hooksWithoutEnds h_this h_hookOfEnd h_holesOfCard c_hooks c_ends c_cards c_limit c_hookOfEnd C hP (fun pc ls d => rRi C d) hf hl)
def fX2_allHoles_L4 (k29 : Int32 → Option (Int32)) (c_cards : Int32) (c_holesOfCard : Nat → Int32) : Nat → Int32 → Int32 → Option (Int32)
  | 0, _, _ => none
  | n + 1, v1, v2 => if c_cards ≤ v2 then k29 v1 else (fX2_holesOf c_cards c_holesOfCard v2).bind (fun u1 => (fJ6_bitCount_0f7a4 u1).bind (fun u2 => fX2_allHoles_L4 k29 c_cards c_holesOfCard n (v1 + u2) (v2 + (1 : Int32))))
def fX2_allHoles (c_cards : Int32) (c_holesOfCard : Nat → Int32)  : Option (Int32) := (fX2_allHoles_L4 (fun (v1_x3 : Int32) => some (v1_x3)) c_cards c_holesOfCard FU (0 : Int32) (0 : Int32))
theorem iX2_allHoles_2 : ∀ w ∈ wsX20, w ∈ wsX2_allHoles := fun w h => List.mem_cons_of_mem _ (List.mem_append_right _ (h))
theorem hdX2_allHoles : yX2_allHoles.cls = RX2 ∧ yX2_allHoles.cls ≠ "java/lang/invoke/MethodHandle" ∧ yX2_allHoles.cls ≠ "java/lang/invoke/VarHandle" ∧ (parseMethodDescriptor yX2_allHoles.desc).map (fun d => d.parameters.length) = some 0 := by decide +kernel
abbrev rmX2_allHoles : Room := { frames := 2, cells := 0, slots := 0, locals := 42 }
section SX2_allHoles
variable {p : Program} {l : Launch} {e : Env} {s : State} {m : MethodId} {args : Array Value} {below : List Frame} {meth : Method} {c : Code} {Q : State → Prop} {G : GG}
set_option maxHeartbeats 4000000 in
set_option maxRecDepth 100000 in
theorem kX2_allHoles_L4 (h_this : Nat) (h_hookOfEnd : Nat) (h_holesOfCard : Nat) (c_hooks : Int32) (c_ends : Int32) (c_cards : Int32) (c_limit : Int32) (c_holesOfCard : Nat → Int32) (C : Cx cX2_allHoles (some .int) 3 RX2 wsX2_allHoles G p s m args meth c) (hP : va_P G.1 CL [(h_this, .inr (2, [.int c_hooks, .int c_ends, .int c_cards, .int c_limit, .ref h_hookOfEnd, .ref h_holesOfCard])), (h_holesOfCard, .inl (G.2 0, 8, .inl c_holesOfCard))] s.heap) {res : Int32} (kr : ∀ (pc : Nat) (ls : Array Slot), decode cX2_allHoles pc = .ok (.ireturn, 1) → W p l e rmX2_allHoles s m args below meth c s.heap [] 0 0 Q (F0 m pc ls [.int res])) {k29 : Int32 → Option (Int32)} (hk29 : ∀ (v1 : Int32) , k29 v1 = some res → ∀ (ls : Array Slot), lv_has ls 3 [(1, .int v1)] → W p l e rmX2_allHoles s m args below meth c s.heap [] 0 0 Q (F0 m 29 ls [])) : ∀ (n : Nat) (v1 : Int32) (v2 : Int32), fX2_allHoles_L4 k29 c_cards c_holesOfCard n v1 v2 = some res → ∀ (ls : Array Slot), lv_has ls 3 [(0, .ref h_this), (1, .int v1), (2, .int v2)] → W p l e rmX2_allHoles s m args below meth c s.heap [] 0 0 Q (F0 m 4 ls []) := by
  obtain ⟨hx, hb, hr, hlk, hml, hown, hts, hK⟩ := id C
  intro n
  induction n with
  | zero =>
    intro v1 v2 hf
    cases hf
  | succ n ih =>
    intro v1 v2 hf ls hl
    rw [fX2_allHoles_L4] at hf
    refine lv_iload_n hx hb dX2_allHoles_4 rfl (lv_at hl 2 rfl) ?_
    refine lv_aload_n hx hb dX2_allHoles_5 rfl (lv_at hl 0 rfl) ?_
    refine va_get (D := G.1) (cl := CL) (ci := 2) (C := RX2) (T := TX2) (N := 6) hx hb hts iX2_allHoles_2 hown hK hP 0 rfl rfl 2 (by decide) (hts (.fieldLink RX2 39 "LoomCards$Loom" "cards" "I") (List.mem_of_getElem? (i := 1) rfl)) (fun _ h9 => h9) rfl dX2_allHoles_6 ?_
    refine lv_icmp_ge (tgt := 29) hx hb dX2_allHoles_9 (by decide) (fun c9 => ?_) (fun c9 => ?_)
    · have hf := c_t hf c9
      exact hk29 v1 hf _ (lv_sub hl [1] rfl)
    · have hf := c_f hf c9
      refine lv_iload_n hx hb dX2_allHoles_12 rfl (lv_at hl 1 rfl) ?_
      refine lv_aload_n hx hb dX2_allHoles_13 rfl (lv_at hl 0 rfl) ?_
      refine lv_iload_n hx hb dX2_allHoles_14 rfl (lv_at hl 2 rfl) ?_
      refine r_bind hf (fun u1 hu1 hf => ?_)
      refine cRiV (ci := 2) (rest := [.int v1]) ⟨hx, hb, hml, hown, hts⟩ hK (tX2_holesOf l G h_this h_hookOfEnd h_holesOfCard c_hooks c_ends c_cards c_limit c_holesOfCard v2 u1 hu1) gX2_allHoles_X2_holesOf rfl hdX2_holesOf rfl rfl rfl ⟨Nat.le_of_ble_eq_true rfl, Nat.le_of_ble_eq_true rfl⟩ hP [0, 1] rfl 0 rfl rfl rfl hl.1 (Nat.le_of_ble_eq_true rfl) rfl dX2_allHoles_15 ⟨Nat.zero_le _, Nat.zero_le _⟩ ?_
      refine r_bind hf (fun u2 hu2 hf => ?_)
      refine cRiS (rest := [.int v1]) ⟨hx, hb, hml, hown, hts⟩ hK (tJ6_bitCount_0f7a4 l G u1 u2 hu2) gX2_allHoles_J6_bitCount_0f7a4 rfl hdJ6_bitCount_0f7a4 rfl rfl rfl ⟨Nat.le_of_ble_eq_true rfl, Nat.le_of_ble_eq_true rfl⟩ hP [] rfl hl.1 (Nat.le_of_ble_eq_true rfl) rfl dX2_allHoles_18 ⟨Nat.zero_le _, Nat.zero_le _⟩ ?_
      refine lv_iadd hx hb dX2_allHoles_21 ?_
      refine lv_istore_n (lv' := [(1, .int (v1 + u2)), (0, .ref h_this), (2, .int v2)]) hx hb dX2_allHoles_22 rfl hl (by decide) rfl (fun ls hl => ?_)
      refine lv_iinc (v := (v2 + (1 : Int32))) (lv' := [(2, .int (v2 + (1 : Int32))), (1, .int (v1 + u2)), (0, .ref h_this)]) hx hb dX2_allHoles_23 hl (k := 2) rfl rfl (by decide) rfl (fun ls hl => ?_)
      refine lv_goto (tgt := 4) hx hb dX2_allHoles_26 (by decide) ?_
      exact ih (v1 + u2) (v2 + (1 : Int32)) hf _ (lv_sub hl [2, 1, 0] rfl)
set_option maxHeartbeats 4000000 in
set_option maxRecDepth 100000 in
theorem kX2_allHoles (h_this : Nat) (h_hookOfEnd : Nat) (h_holesOfCard : Nat) (c_hooks : Int32) (c_ends : Int32) (c_cards : Int32) (c_limit : Int32) (c_holesOfCard : Nat → Int32) (C : Cx cX2_allHoles (some .int) 3 RX2 wsX2_allHoles G p s m args meth c) (hP : va_P G.1 CL [(h_this, .inr (2, [.int c_hooks, .int c_ends, .int c_cards, .int c_limit, .ref h_hookOfEnd, .ref h_holesOfCard])), (h_holesOfCard, .inl (G.2 0, 8, .inl c_holesOfCard))] s.heap) {res : Int32} (kr : ∀ (pc : Nat) (ls : Array Slot), decode cX2_allHoles pc = .ok (.ireturn, 1) → W p l e rmX2_allHoles s m args below meth c s.heap [] 0 0 Q (F0 m pc ls [.int res])) (hf : fX2_allHoles c_cards c_holesOfCard = some res) {ls : Array Slot} (hl : lv_has ls 3 [(0, .ref h_this)]) : W p l e rmX2_allHoles s m args below meth c s.heap [] 0 0 Q (F0 m 0 ls []) := by
  obtain ⟨hx, hb, hr, hlk, hml, hown, hts, hK⟩ := id C
  rw [fX2_allHoles] at hf
  refine lv_iconst (v := (0 : Int32)) hx hb dX2_allHoles_0 (by decide) ?_
  refine lv_istore_n (lv' := [(1, .int (0 : Int32)), (0, .ref h_this)]) hx hb dX2_allHoles_1 rfl hl (by decide) rfl (fun ls hl => ?_)
  refine lv_iconst (v := (0 : Int32)) hx hb dX2_allHoles_2 (by decide) ?_
  refine lv_istore_n (lv' := [(2, .int (0 : Int32)), (1, .int (0 : Int32)), (0, .ref h_this)]) hx hb dX2_allHoles_3 rfl hl (by decide) rfl (fun ls hl => ?_)
  refine kX2_allHoles_L4 h_this h_hookOfEnd h_holesOfCard c_hooks c_ends c_cards c_limit c_holesOfCard C hP kr ?_ FU (0 : Int32) (0 : Int32) hf _ (lv_sub hl [2, 1, 0] rfl)
  intro v1_x3 hf ls hl
  refine lv_iload_n hx hb dX2_allHoles_29 rfl (lv_at hl 0 rfl) ?_
  obtain rfl := Option.some.inj hf
  exact kr _ _ dX2_allHoles_30
end SX2_allHoles
set_option maxHeartbeats 4000000 in
set_option maxRecDepth 100000 in
theorem tX2_allHoles (l : Launch) (G : GG) (h_this : Nat) (h_hookOfEnd : Nat) (h_holesOfCard : Nat) (c_hooks : Int32) (c_ends : Int32) (c_cards : Int32) (c_limit : Int32) (c_holesOfCard : Nat → Int32) (res : Int32) (hf : fX2_allHoles c_cards c_holesOfCard = some res) : MRi l yX2_allHoles wsX2_allHoles rmX2_allHoles G [.ref h_this] [(h_this, .inr (2, [.int c_hooks, .int c_ends, .int c_cards, .int c_limit, .ref h_hookOfEnd, .ref h_holesOfCard])), (h_holesOfCard, .inl (G.2 0, 8, .inl c_holesOfCard))] (res) := MRi.of (plainFor_of_name (by decide +kernel)) rfl (Nat.le_of_ble_eq_true rfl) (fun p e s m below meth c C hP ls hl => kX2_allHoles h_this h_hookOfEnd h_holesOfCard c_hooks c_ends c_cards c_limit c_holesOfCard C hP (fun pc ls d => rRi C d) hf hl)

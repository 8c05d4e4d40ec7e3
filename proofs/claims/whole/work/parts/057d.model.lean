def fX7_repeat_L2 (k16 : Int32 → Option (Int32)) (c_s : Nat → Int32) : Nat → Int32 → Option (Int32)
  | 0, _ => none
  | n + 1, v1 => (fX7_isAgain c_s v1).bind (fun u1 => if u1 = 0 then fX7_repeat_L2 k16 c_s n (v1 + (1 : Int32)) else k16 v1)
def fX7_repeat (c_s : Nat → Int32)  : Option (Int32) := (fX7_repeat_L2 (fun (v1_x2 : Int32) => some (v1_x2)) c_s FU (1 : Int32))
theorem iX7_repeat_7 : ∀ w ∈ wsX70, w ∈ wsX7_repeat := fun w h => List.mem_cons_of_mem _ (List.mem_append_right _ (h))
theorem hdX7_repeat : yX7_repeat.cls = RX7 ∧ yX7_repeat.cls ≠ "java/lang/invoke/MethodHandle" ∧ yX7_repeat.cls ≠ "java/lang/invoke/VarHandle" ∧ (parseMethodDescriptor yX7_repeat.desc).map (fun d => d.parameters.length) = some 0 := by decide +kernel
abbrev rmX7_repeat : Room := { frames := 3, cells := 0, slots := 0, locals := 68 }
section SX7_repeat
variable {p : Program} {l : Launch} {e : Env} {s : State} {m : MethodId} {args : Array Value} {below : List Frame} {meth : Method} {c : Code} {Q : State → Prop} {G : GG}
set_option maxHeartbeats 4000000 in
set_option maxRecDepth 100000 in
theorem kX7_repeat_L2 (h_this : Nat) (h_s : Nat) (h_draft : Nat) (h_past : Nat) (h_kept : Nat) (h_isKept : Nat) (h_facts : Nat) (h_text : Nat) (c_thrown : Int32) (c_undos : Int32) (c_manyFacts : Int32) (c_typed : Int32) (c_from : Int32) (c_to : Int32) (c_token : Int32) (c_fault : Int32) (c_hasHooks : Int32) (c_hasTies : Int32) (c_low : Int32) (c_high : Int32) (c_s : Nat → Int32) (C : Cx cX7_repeat (some .int) 2 RX7 wsX7_repeat G p s m args meth c) (hP : va_P G.1 CL [(h_this, .inr (7, [.int c_thrown, .ref h_s, .ref h_draft, .ref h_past, .int c_undos, .ref h_kept, .ref h_isKept, .ref h_facts, .int c_manyFacts, .ref h_text, .int c_typed, .int c_from, .int c_to, .int c_token, .int c_fault, .int c_hasHooks, .int c_hasTies, .int c_low, .int c_high])), (h_s, .inl (G.2 0, 24, .inl c_s))] s.heap) {res : Int32} (kr : ∀ (pc : Nat) (ls : Array Slot), decode cX7_repeat pc = .ok (.ireturn, 1) → W p l e rmX7_repeat s m args below meth c s.heap [] 0 0 Q (F0 m pc ls [.int res])) {k16 : Int32 → Option (Int32)} (hk16 : ∀ (v1 : Int32) , k16 v1 = some res → ∀ (ls : Array Slot), lv_has ls 2 [(1, .int v1)] → W p l e rmX7_repeat s m args below meth c s.heap [] 0 0 Q (F0 m 16 ls [])) : ∀ (n : Nat) (v1 : Int32), fX7_repeat_L2 k16 c_s n v1 = some res → ∀ (ls : Array Slot), lv_has ls 2 [(0, .ref h_this), (1, .int v1)] → W p l e rmX7_repeat s m args below meth c s.heap [] 0 0 Q (F0 m 2 ls []) := by
  obtain ⟨hx, hb, hr, hlk, hml, hown, hts, hK⟩ := id C
  intro n
  induction n with
  | zero =>
    intro v1 hf
    cases hf
  | succ n ih =>
    intro v1 hf ls hl
    rw [fX7_repeat_L2] at hf
    refine lv_aload_n hx hb dX7_repeat_2 rfl (lv_at hl 0 rfl) ?_
    refine lv_iload_n hx hb dX7_repeat_3 rfl (lv_at hl 1 rfl) ?_
    refine r_bind hf (fun u1 hu1 hf => ?_)
    refine cRiV (ci := 7) (rest := []) ⟨hx, hb, hml, hown, hts⟩ hK (tX7_isAgain l G h_this h_s h_draft h_past h_kept h_isKept h_facts h_text c_thrown c_undos c_manyFacts c_typed c_from c_to c_token c_fault c_hasHooks c_hasTies c_low c_high c_s v1 u1 hu1) gX7_repeat_X7_isAgain rfl hdX7_isAgain rfl rfl rfl ⟨Nat.le_of_ble_eq_true rfl, Nat.le_of_ble_eq_true rfl⟩ hP [0, 1] rfl 0 rfl rfl rfl hl.1 (Nat.le_of_ble_eq_true rfl) rfl dX7_repeat_4 ⟨Nat.zero_le _, Nat.zero_le _⟩ ?_
    refine lv_if_ne (tgt := 16) hx hb dX7_repeat_7 (by decide) (fun c9 => ?_) (fun c9 => ?_)
    · have hf := c_f hf c9
      exact hk16 v1 hf _ (lv_sub hl [1] rfl)
    · have hf := c_t hf c9
      refine lv_iinc (v := (v1 + (1 : Int32))) (lv' := [(1, .int (v1 + (1 : Int32))), (0, .ref h_this)]) hx hb dX7_repeat_10 hl (k := 1) rfl rfl (by decide) rfl (fun ls hl => ?_)
      refine lv_goto (tgt := 2) hx hb dX7_repeat_13 (by decide) ?_
      exact ih (v1 + (1 : Int32)) hf _ (lv_sub hl [1, 0] rfl)
set_option maxHeartbeats 4000000 in
set_option maxRecDepth 100000 in
theorem kX7_repeat (h_this : Nat) (h_s : Nat) (h_draft : Nat) (h_past : Nat) (h_kept : Nat) (h_isKept : Nat) (h_facts : Nat) (h_text : Nat) (c_thrown : Int32) (c_undos : Int32) (c_manyFacts : Int32) (c_typed : Int32) (c_from : Int32) (c_to : Int32) (c_token : Int32) (c_fault : Int32) (c_hasHooks : Int32) (c_hasTies : Int32) (c_low : Int32) (c_high : Int32) (c_s : Nat → Int32) (C : Cx cX7_repeat (some .int) 2 RX7 wsX7_repeat G p s m args meth c) (hP : va_P G.1 CL [(h_this, .inr (7, [.int c_thrown, .ref h_s, .ref h_draft, .ref h_past, .int c_undos, .ref h_kept, .ref h_isKept, .ref h_facts, .int c_manyFacts, .ref h_text, .int c_typed, .int c_from, .int c_to, .int c_token, .int c_fault, .int c_hasHooks, .int c_hasTies, .int c_low, .int c_high])), (h_s, .inl (G.2 0, 24, .inl c_s))] s.heap) {res : Int32} (kr : ∀ (pc : Nat) (ls : Array Slot), decode cX7_repeat pc = .ok (.ireturn, 1) → W p l e rmX7_repeat s m args below meth c s.heap [] 0 0 Q (F0 m pc ls [.int res])) (hf : fX7_repeat c_s = some res) {ls : Array Slot} (hl : lv_has ls 2 [(0, .ref h_this)]) : W p l e rmX7_repeat s m args below meth c s.heap [] 0 0 Q (F0 m 0 ls []) := by
  obtain ⟨hx, hb, hr, hlk, hml, hown, hts, hK⟩ := id C
  rw [fX7_repeat] at hf
  refine lv_iconst (v := (1 : Int32)) hx hb dX7_repeat_0 (by decide) ?_
  refine lv_istore_n (lv' := [(1, .int (1 : Int32)), (0, .ref h_this)]) hx hb dX7_repeat_1 rfl hl (by decide) rfl (fun ls hl => ?_)
  refine kX7_repeat_L2 h_this h_s h_draft h_past h_kept h_isKept h_facts h_text c_thrown c_undos c_manyFacts c_typed c_from c_to c_token c_fault c_hasHooks c_hasTies c_low c_high c_s C hP kr ?_ FU (1 : Int32) hf _ (lv_sub hl [1, 0] rfl)
  intro v1_x2 hf ls hl
  refine lv_iload_n hx hb dX7_repeat_16 rfl (lv_at hl 0 rfl) ?_
  obtain rfl := Option.some.inj hf
  exact kr _ _ dX7_repeat_17
end SX7_repeat
set_option maxHeartbeats 4000000 in
set_option maxRecDepth 100000 in
theorem tX7_repeat (l : Launch) (G : GG) (h_this : Nat) (h_s : Nat) (h_draft : Nat) (h_past : Nat) (h_kept : Nat) (h_isKept : Nat) (h_facts : Nat) (h_text : Nat) (c_thrown : Int32) (c_undos : Int32) (c_manyFacts : Int32) (c_typed : Int32) (c_from : Int32) (c_to : Int32) (c_token : Int32) (c_fault : Int32) (c_hasHooks : Int32) (c_hasTies : Int32) (c_low : Int32) (c_high : Int32) (c_s : Nat → Int32) (res : Int32) (hf : fX7_repeat c_s = some res) : MRi l yX7_repeat wsX7_repeat rmX7_repeat G [.ref h_this] [(h_this, .inr (7, [.int c_thrown, .ref h_s, .ref h_draft, .ref h_past, .int c_undos, .ref h_kept, .ref h_isKept, .ref h_facts, .int c_manyFacts, .ref h_text, .int c_typed, .int c_from, .int c_to, .int c_token, .int c_fault, .int c_hasHooks, .int c_hasTies, .int c_low, .int c_high])), (h_s, .inl (G.2 0, 24, .inl c_s))] (res) := MRi.of (plainFor_of_name (by decide +kernel)) rfl (Nat.le_of_ble_eq_true rfl) (fun p e s m below meth c C hP ls hl => kX7_repeat h_this h_s h_draft h_past h_kept h_isKept h_facts h_text c_thrown c_undos c_manyFacts c_typed c_from c_to c_token c_fault c_hasHooks c_hasTies c_low c_high c_s C hP (fun pc ls d => rRi C d) hf hl)
def fX7_unlikeEnds_L19 (k55 : Int32 → Option (Int32)) (c_s : Nat → Int32) (v2 : Int32) : Nat → Int32 → Int32 → Option (Int32)
  | 0, _, _ => none
  | n + 1, v3, v4 => if v2 ≤ v4 then k55 v3 else jn (fun (j48_0 : Int32) => fX7_unlikeEnds_L19 k55 c_s v2 n j48_0 (v4 + (1 : Int32))) (fun J48 => jn (J48 (0 : Int32)) (fun J47 => if v3 = 0 then J47 else (fX7_rowsOf c_s v4).bind (fun u1 => (fX7_rowsOf c_s v2).bind (fun u2 => if u1 = u2 then J47 else J48 (1 : Int32)))))
def fX7_unlikeEnds_L4 (k73 : Int32 → Option (Int32)) (c_s : Nat → Int32) : Nat → Int32 → Int32 → Option (Int32)
  | 0, _, _ => none
  | n + 1, v1, v2 => if (c_s 1) ≤ v2 then k73 v1 else (fX7_unlikeEnds_L19 (fun (v3_x3 : Int32) => jn (fun (j65_0 : Int32) (j65_1 : Int32) => fX7_unlikeEnds_L4 k73 c_s n (j65_1 + j65_0) (v2 + (1 : Int32))) (fun J65 => if v3_x3 = 0 then J65 (0 : Int32) v1 else J65 (1 : Int32) v1)) c_s v2 FU (1 : Int32) (0 : Int32))
def fX7_unlikeEnds (c_s : Nat → Int32)  : Option (Int32) := (fX7_unlikeEnds_L4 (fun (v1_x4 : Int32) => some (v1_x4)) c_s FU (0 : Int32) (0 : Int32))
theorem iX7_unlikeEnds_7 : ∀ w ∈ wsX70, w ∈ wsX7_unlikeEnds := fun w h => List.mem_cons_of_mem _ (List.mem_append_right _ (h))
theorem hdX7_unlikeEnds : yX7_unlikeEnds.cls = RX7 ∧ yX7_unlikeEnds.cls ≠ "java/lang/invoke/MethodHandle" ∧ yX7_unlikeEnds.cls ≠ "java/lang/invoke/VarHandle" ∧ (parseMethodDescriptor yX7_unlikeEnds.desc).map (fun d => d.parameters.length) = some 0 := by decide +kernel
abbrev rmX7_unlikeEnds : Room := { frames := 2, cells := 0, slots := 0, locals := 45 }
section SX7_unlikeEnds
variable {p : Program} {l : Launch} {e : Env} {s : State} {m : MethodId} {args : Array Value} {below : List Frame} {meth : Method} {c : Code} {Q : State → Prop} {G : GG}
set_option maxHeartbeats 4000000 in
set_option maxRecDepth 100000 in
theorem kX7_unlikeEnds_L19 (h_this : Nat) (h_s : Nat) (h_draft : Nat) (h_past : Nat) (h_kept : Nat) (h_isKept : Nat) (h_facts : Nat) (h_text : Nat) (c_thrown : Int32) (c_undos : Int32) (c_manyFacts : Int32) (c_typed : Int32) (c_from : Int32) (c_to : Int32) (c_token : Int32) (c_fault : Int32) (c_hasHooks : Int32) (c_hasTies : Int32) (c_low : Int32) (c_high : Int32) (c_s : Nat → Int32) (v1 : Int32) (v2 : Int32) (C : Cx cX7_unlikeEnds (some .int) 5 RX7 wsX7_unlikeEnds G p s m args meth c) (hP : va_P G.1 CL [(h_this, .inr (7, [.int c_thrown, .ref h_s, .ref h_draft, .ref h_past, .int c_undos, .ref h_kept, .ref h_isKept, .ref h_facts, .int c_manyFacts, .ref h_text, .int c_typed, .int c_from, .int c_to, .int c_token, .int c_fault, .int c_hasHooks, .int c_hasTies, .int c_low, .int c_high])), (h_s, .inl (G.2 0, 24, .inl c_s))] s.heap) {res : Int32} (kr : ∀ (pc : Nat) (ls : Array Slot), decode cX7_unlikeEnds pc = .ok (.ireturn, 1) → W p l e rmX7_unlikeEnds s m args below meth c s.heap [] 0 0 Q (F0 m pc ls [.int res])) {k55 : Int32 → Option (Int32)} (hk55 : ∀ (v3 : Int32) , k55 v3 = some res → ∀ (ls : Array Slot), lv_has ls 5 [(0, .ref h_this), (1, .int v1), (2, .int v2), (3, .int v3)] → W p l e rmX7_unlikeEnds s m args below meth c s.heap [] 0 0 Q (F0 m 55 ls [])) : ∀ (n : Nat) (v3 : Int32) (v4 : Int32), fX7_unlikeEnds_L19 k55 c_s v2 n v3 v4 = some res → ∀ (ls : Array Slot), lv_has ls 5 [(0, .ref h_this), (1, .int v1), (2, .int v2), (3, .int v3), (4, .int v4)] → W p l e rmX7_unlikeEnds s m args below meth c s.heap [] 0 0 Q (F0 m 19 ls []) := by
  obtain ⟨hx, hb, hr, hlk, hml, hown, hts, hK⟩ := id C
  intro n
  induction n with
  | zero =>
    intro v3 v4 hf
    cases hf
  | succ n ih =>
    intro v3 v4 hf ls hl
    rw [fX7_unlikeEnds_L19] at hf
    refine lv_iload hx hb dX7_unlikeEnds_19 (lv_at hl 4 rfl) ?_
    refine lv_iload_n hx hb dX7_unlikeEnds_21 rfl (lv_at hl 2 rfl) ?_
    refine lv_icmp_ge (tgt := 55) hx hb dX7_unlikeEnds_22 (by decide) (fun c9 => ?_) (fun c9 => ?_)
    · have hf := c_t hf c9
      exact hk55 v3 hf _ (lv_sub hl [0, 1, 2, 3] rfl)
    · have hf := c_f hf c9
      refine lv_iload_n hx hb dX7_unlikeEnds_25 rfl (lv_at hl 3 rfl) ?_
      refine r_jn1 hf (fun J48 eJ48 hf => ?_)
      have hJ48 : ∀ (j48_0 : Int32) , J48 j48_0 = some res → ∀ (ls : Array Slot), lv_has ls 5 [(0, .ref h_this), (1, .int v1), (2, .int v2), (4, .int v4)] → W p l e rmX7_unlikeEnds s m args below meth c s.heap [] 0 0 Q (F0 m 48 ls [.int j48_0]) := by
        intro j48_0 hf ls hl
        rw [eJ48] at hf
        refine lv_istore_n (lv' := [(3, .int j48_0), (0, .ref h_this), (1, .int v1), (2, .int v2), (4, .int v4)]) hx hb dX7_unlikeEnds_48 rfl hl (by decide) rfl (fun ls hl => ?_)
        refine lv_iinc (v := (v4 + (1 : Int32))) (lv' := [(4, .int (v4 + (1 : Int32))), (3, .int j48_0), (0, .ref h_this), (1, .int v1), (2, .int v2)]) hx hb dX7_unlikeEnds_49 hl (k := 4) rfl rfl (by decide) rfl (fun ls hl => ?_)
        refine lv_goto (tgt := 19) hx hb dX7_unlikeEnds_52 (by decide) ?_
        exact ih j48_0 (v4 + (1 : Int32)) hf _ (lv_sub hl [2, 3, 4, 1, 0] rfl)
      refine r_jn0 hf (fun J47 eJ47 hf => ?_)
      have hJ47 : J47 = some res → ∀ (ls : Array Slot), lv_has ls 5 [(0, .ref h_this), (1, .int v1), (2, .int v2), (4, .int v4)] → W p l e rmX7_unlikeEnds s m args below meth c s.heap [] 0 0 Q (F0 m 47 ls []) := by
        intro hf ls hl
        rw [eJ47] at hf
        refine lv_iconst (v := (0 : Int32)) hx hb dX7_unlikeEnds_47 (by decide) ?_
        exact hJ48 (0 : Int32) hf _ (lv_sub hl [0, 1, 2, 3] rfl)
      refine lv_if_eq (tgt := 47) hx hb dX7_unlikeEnds_26 (by decide) (fun c9 => ?_) (fun c9 => ?_)
      · have hf := c_t hf c9
        exact hJ47 hf _ (lv_sub hl [0, 1, 2, 4] rfl)
      · have hf := c_f hf c9
        refine lv_aload_n hx hb dX7_unlikeEnds_29 rfl (lv_at hl 0 rfl) ?_
        refine lv_iload hx hb dX7_unlikeEnds_30 (lv_at hl 4 rfl) ?_
        refine r_bind hf (fun u1 hu1 hf => ?_)
        refine cRiV (ci := 7) (rest := []) ⟨hx, hb, hml, hown, hts⟩ hK (tX7_rowsOf l G h_this h_s h_draft h_past h_kept h_isKept h_facts h_text c_thrown c_undos c_manyFacts c_typed c_from c_to c_token c_fault c_hasHooks c_hasTies c_low c_high c_s v4 u1 hu1) gX7_unlikeEnds_X7_rowsOf rfl hdX7_rowsOf rfl rfl rfl ⟨Nat.le_of_ble_eq_true rfl, Nat.le_of_ble_eq_true rfl⟩ hP [0, 1] rfl 0 rfl rfl rfl hl.1 (Nat.le_of_ble_eq_true rfl) rfl dX7_unlikeEnds_32 ⟨Nat.zero_le _, Nat.zero_le _⟩ ?_
        refine lv_aload_n hx hb dX7_unlikeEnds_35 rfl (lv_at hl 0 rfl) ?_
        refine lv_iload_n hx hb dX7_unlikeEnds_36 rfl (lv_at hl 2 rfl) ?_
        refine r_bind hf (fun u2 hu2 hf => ?_)
        refine cRiV (ci := 7) (rest := [.int u1]) ⟨hx, hb, hml, hown, hts⟩ hK (tX7_rowsOf l G h_this h_s h_draft h_past h_kept h_isKept h_facts h_text c_thrown c_undos c_manyFacts c_typed c_from c_to c_token c_fault c_hasHooks c_hasTies c_low c_high c_s v2 u2 hu2) gX7_unlikeEnds_X7_rowsOf rfl hdX7_rowsOf rfl rfl rfl ⟨Nat.le_of_ble_eq_true rfl, Nat.le_of_ble_eq_true rfl⟩ hP [0, 1] rfl 0 rfl rfl rfl hl.1 (Nat.le_of_ble_eq_true rfl) rfl dX7_unlikeEnds_37 ⟨Nat.zero_le _, Nat.zero_le _⟩ ?_
        refine lv_icmp_eq (tgt := 47) hx hb dX7_unlikeEnds_40 (by decide) (fun c9 => ?_) (fun c9 => ?_)
        · have hf := c_t hf c9
          exact hJ47 hf _ (lv_sub hl [0, 1, 2, 4] rfl)
        · have hf := c_f hf c9
          refine lv_iconst (v := (1 : Int32)) hx hb dX7_unlikeEnds_43 (by decide) ?_
          refine lv_goto (tgt := 48) hx hb dX7_unlikeEnds_44 (by decide) ?_
          exact hJ48 (1 : Int32) hf _ (lv_sub hl [0, 1, 2, 4] rfl)
set_option maxHeartbeats 4000000 in
set_option maxRecDepth 100000 in
theorem kX7_unlikeEnds_L4 (h_this : Nat) (h_s : Nat) (h_draft : Nat) (h_past : Nat) (h_kept : Nat) (h_isKept : Nat) (h_facts : Nat) (h_text : Nat) (c_thrown : Int32) (c_undos : Int32) (c_manyFacts : Int32) (c_typed : Int32) (c_from : Int32) (c_to : Int32) (c_token : Int32) (c_fault : Int32) (c_hasHooks : Int32) (c_hasTies : Int32) (c_low : Int32) (c_high : Int32) (c_s : Nat → Int32) (C : Cx cX7_unlikeEnds (some .int) 5 RX7 wsX7_unlikeEnds G p s m args meth c) (hP : va_P G.1 CL [(h_this, .inr (7, [.int c_thrown, .ref h_s, .ref h_draft, .ref h_past, .int c_undos, .ref h_kept, .ref h_isKept, .ref h_facts, .int c_manyFacts, .ref h_text, .int c_typed, .int c_from, .int c_to, .int c_token, .int c_fault, .int c_hasHooks, .int c_hasTies, .int c_low, .int c_high])), (h_s, .inl (G.2 0, 24, .inl c_s))] s.heap) {res : Int32} (kr : ∀ (pc : Nat) (ls : Array Slot), decode cX7_unlikeEnds pc = .ok (.ireturn, 1) → W p l e rmX7_unlikeEnds s m args below meth c s.heap [] 0 0 Q (F0 m pc ls [.int res])) {k73 : Int32 → Option (Int32)} (hk73 : ∀ (v1 : Int32) , k73 v1 = some res → ∀ (ls : Array Slot), lv_has ls 5 [(1, .int v1)] → W p l e rmX7_unlikeEnds s m args below meth c s.heap [] 0 0 Q (F0 m 73 ls [])) : ∀ (n : Nat) (v1 : Int32) (v2 : Int32), fX7_unlikeEnds_L4 k73 c_s n v1 v2 = some res → ∀ (ls : Array Slot), lv_has ls 5 [(0, .ref h_this), (1, .int v1), (2, .int v2)] → W p l e rmX7_unlikeEnds s m args below meth c s.heap [] 0 0 Q (F0 m 4 ls []) := by
  obtain ⟨hx, hb, hr, hlk, hml, hown, hts, hK⟩ := id C
  intro n
  induction n with
  | zero =>
    intro v1 v2 hf
    cases hf
  | succ n ih =>
    intro v1 v2 hf ls hl
    rw [fX7_unlikeEnds_L4] at hf
    refine lv_iload_n hx hb dX7_unlikeEnds_4 rfl (lv_at hl 2 rfl) ?_
    refine lv_aload_n hx hb dX7_unlikeEnds_5 rfl (lv_at hl 0 rfl) ?_
    refine va_get (D := G.1) (cl := CL) (ci := 7) (C := RX7) (T := TX7) (N := 19) hx hb hts iX7_unlikeEnds_7 hown hK hP 0 rfl rfl 1 (by decide) (hts (.fieldLink RX7 7 "LoomCardsModel" "s" "[I") (List.mem_of_getElem? (i := 1) rfl)) (fun _ h9 => h9) rfl dX7_unlikeEnds_6 ?_
    refine lv_iconst (v := (1 : Int32)) hx hb dX7_unlikeEnds_9 (by decide) ?_
    refine r_iald (j := 1) hx hb hK hP 1 rfl (ix_in (n := 24) (by decide)) (by decide) dX7_unlikeEnds_10 ?_
    refine lv_icmp_ge (tgt := 73) hx hb dX7_unlikeEnds_11 (by decide) (fun c9 => ?_) (fun c9 => ?_)
    · have hf := c_t hf c9
      exact hk73 v1 hf _ (lv_sub hl [1] rfl)
    · have hf := c_f hf c9
      refine lv_iconst (v := (1 : Int32)) hx hb dX7_unlikeEnds_14 (by decide) ?_
      refine lv_istore_n (lv' := [(3, .int (1 : Int32)), (0, .ref h_this), (1, .int v1), (2, .int v2)]) hx hb dX7_unlikeEnds_15 rfl hl (by decide) rfl (fun ls hl => ?_)
      refine lv_iconst (v := (0 : Int32)) hx hb dX7_unlikeEnds_16 (by decide) ?_
      refine lv_istore (lv' := [(4, .int (0 : Int32)), (3, .int (1 : Int32)), (0, .ref h_this), (1, .int v1), (2, .int v2)]) hx hb dX7_unlikeEnds_17 hl (by decide) rfl (fun ls hl => ?_)
      refine kX7_unlikeEnds_L19 h_this h_s h_draft h_past h_kept h_isKept h_facts h_text c_thrown c_undos c_manyFacts c_typed c_from c_to c_token c_fault c_hasHooks c_hasTies c_low c_high c_s v1 v2 C hP kr ?_ FU (1 : Int32) (0 : Int32) hf _ (lv_sub hl [2, 3, 4, 1, 0] rfl)
      intro v3_x3 hf ls hl
      refine lv_iload_n hx hb dX7_unlikeEnds_55 rfl (lv_at hl 1 rfl) ?_
      refine lv_iload_n hx hb dX7_unlikeEnds_56 rfl (lv_at hl 3 rfl) ?_
      refine r_jn2 hf (fun J65 eJ65 hf => ?_)
      have hJ65 : ∀ (j65_0 : Int32) (j65_1 : Int32) , J65 j65_0 j65_1 = some res → ∀ (ls : Array Slot), lv_has ls 5 [(0, .ref h_this), (2, .int v2)] → W p l e rmX7_unlikeEnds s m args below meth c s.heap [] 0 0 Q (F0 m 65 ls [.int j65_0, .int j65_1]) := by
        intro j65_0 j65_1 hf ls hl
        rw [eJ65] at hf
        refine lv_iadd hx hb dX7_unlikeEnds_65 ?_
        refine lv_istore_n (lv' := [(1, .int (j65_1 + j65_0)), (0, .ref h_this), (2, .int v2)]) hx hb dX7_unlikeEnds_66 rfl hl (by decide) rfl (fun ls hl => ?_)
        refine lv_iinc (v := (v2 + (1 : Int32))) (lv' := [(2, .int (v2 + (1 : Int32))), (1, .int (j65_1 + j65_0)), (0, .ref h_this)]) hx hb dX7_unlikeEnds_67 hl (k := 2) rfl rfl (by decide) rfl (fun ls hl => ?_)
        refine lv_goto (tgt := 4) hx hb dX7_unlikeEnds_70 (by decide) ?_
        exact ih (j65_1 + j65_0) (v2 + (1 : Int32)) hf _ (lv_sub hl [2, 1, 0] rfl)
      refine lv_if_eq (tgt := 64) hx hb dX7_unlikeEnds_57 (by decide) (fun c9 => ?_) (fun c9 => ?_)
      · have hf := c_t hf c9
        refine lv_iconst (v := (0 : Int32)) hx hb dX7_unlikeEnds_64 (by decide) ?_
        exact hJ65 (0 : Int32) v1 hf _ (lv_sub hl [0, 2] rfl)
      · have hf := c_f hf c9
        refine lv_iconst (v := (1 : Int32)) hx hb dX7_unlikeEnds_60 (by decide) ?_
        refine lv_goto (tgt := 65) hx hb dX7_unlikeEnds_61 (by decide) ?_
        exact hJ65 (1 : Int32) v1 hf _ (lv_sub hl [0, 2] rfl)
set_option maxHeartbeats 4000000 in
set_option maxRecDepth 100000 in
theorem kX7_unlikeEnds (h_this : Nat) (h_s : Nat) (h_draft : Nat) (h_past : Nat) (h_kept : Nat) (h_isKept : Nat) (h_facts : Nat) (h_text : Nat) (c_thrown : Int32) (c_undos : Int32) (c_manyFacts : Int32) (c_typed : Int32) (c_from : Int32) (c_to : Int32) (c_token : Int32) (c_fault : Int32) (c_hasHooks : Int32) (c_hasTies : Int32) (c_low : Int32) (c_high : Int32) (c_s : Nat → Int32) (C : Cx cX7_unlikeEnds (some .int) 5 RX7 wsX7_unlikeEnds G p s m args meth c) (hP : va_P G.1 CL [(h_this, .inr (7, [.int c_thrown, .ref h_s, .ref h_draft, .ref h_past, .int c_undos, .ref h_kept, .ref h_isKept, .ref h_facts, .int c_manyFacts, .ref h_text, .int c_typed, .int c_from, .int c_to, .int c_token, .int c_fault, .int c_hasHooks, .int c_hasTies, .int c_low, .int c_high])), (h_s, .inl (G.2 0, 24, .inl c_s))] s.heap) {res : Int32} (kr : ∀ (pc : Nat) (ls : Array Slot), decode cX7_unlikeEnds pc = .ok (.ireturn, 1) → W p l e rmX7_unlikeEnds s m args below meth c s.heap [] 0 0 Q (F0 m pc ls [.int res])) (hf : fX7_unlikeEnds c_s = some res) {ls : Array Slot} (hl : lv_has ls 5 [(0, .ref h_this)]) : W p l e rmX7_unlikeEnds s m args below meth c s.heap [] 0 0 Q (F0 m 0 ls []) := by
  obtain ⟨hx, hb, hr, hlk, hml, hown, hts, hK⟩ := id C
  rw [fX7_unlikeEnds] at hf
  refine lv_iconst (v := (0 : Int32)) hx hb dX7_unlikeEnds_0 (by decide) ?_
  refine lv_istore_n (lv' := [(1, .int (0 : Int32)), (0, .ref h_this)]) hx hb dX7_unlikeEnds_1 rfl hl (by decide) rfl (fun ls hl => ?_)
  refine lv_iconst (v := (0 : Int32)) hx hb dX7_unlikeEnds_2 (by decide) ?_
  refine lv_istore_n (lv' := [(2, .int (0 : Int32)), (1, .int (0 : Int32)), (0, .ref h_this)]) hx hb dX7_unlikeEnds_3 rfl hl (by decide) rfl (fun ls hl => ?_)
  refine kX7_unlikeEnds_L4 h_this h_s h_draft h_past h_kept h_isKept h_facts h_text c_thrown c_undos c_manyFacts c_typed c_from c_to c_token c_fault c_hasHooks c_hasTies c_low c_high c_s C hP kr ?_ FU (0 : Int32) (0 : Int32) hf _ (lv_sub hl [2, 1, 0] rfl)
  intro v1_x4 hf ls hl
  refine lv_iload_n hx hb dX7_unlikeEnds_73 rfl (lv_at hl 0 rfl) ?_
  obtain rfl := Option.some.inj hf
  exact kr _ _ dX7_unlikeEnds_74
end SX7_unlikeEnds
set_option maxHeartbeats 4000000 in
set_option maxRecDepth 100000 in
theorem tX7_unlikeEnds (l : Launch) (G : GG) (h_this : Nat) (h_s : Nat) (h_draft : Nat) (h_past : Nat) (h_kept : Nat) (h_isKept : Nat) (h_facts : Nat) (h_text : Nat) (c_thrown : Int32) (c_undos : Int32) (c_manyFacts : Int32) (c_typed : Int32) (c_from : Int32) (c_to : Int32) (c_token : Int32) (c_fault : Int32) (c_hasHooks : Int32) (c_hasTies : Int32) (c_low : Int32) (c_high : Int32) (c_s : Nat → Int32) (res : Int32) (hf : fX7_unlikeEnds c_s = some res) : MRi l yX7_unlikeEnds wsX7_unlikeEnds rmX7_unlikeEnds G [.ref h_this] [(h_this, .inr (7, [.int c_thrown, .ref h_s, .ref h_draft, .ref h_past, .int c_undos, .ref h_kept, .ref h_isKept, .ref h_facts, .int c_manyFacts, .ref h_text, .int c_typed, .int c_from, .int c_to, .int c_token, .int c_fault, .int c_hasHooks, .int c_hasTies, .int c_low, .int c_high])), (h_s, .inl (G.2 0, 24, .inl c_s))] (res) := MRi.of (plainFor_of_name (by decide +kernel)) rfl (Nat.le_of_ble_eq_true rfl) (fun p e s m below meth c C hP ls hl => kX7_unlikeEnds h_this h_s h_draft h_past h_kept h_isKept h_facts h_text c_thrown c_undos c_manyFacts c_typed c_from c_to c_token c_fault c_hasHooks c_hasTies c_low c_high c_s C hP (fun pc ls d => rRi C d) hf hl)
def fX7_longCards_L4 (k44 : Int32 → Option (Int32)) (c_s : Nat → Int32) : Nat → Int32 → Int32 → Option (Int32)
  | 0, _, _ => none
  | n + 1, v1, v2 => if (c_s 2) ≤ v2 then k44 v1 else (fX7_across c_s v2).bind (fun u1 => jn (fun (j36_0 : Int32) (j36_1 : Int32) => fX7_longCards_L4 k44 c_s n (j36_1 ||| j36_0) (v2 + (1 : Int32))) (fun J36 => if u1 ≤ (c_s 3) then J36 (0 : Int32) v1 else J36 ((1 : Int32) <<< (v2 &&& 31)) v1))
def fX7_longCards (c_s : Nat → Int32)  : Option (Int32) := (fX7_longCards_L4 (fun (v1_x2 : Int32) => some (v1_x2)) c_s FU (0 : Int32) (0 : Int32))
theorem iX7_longCards_7 : ∀ w ∈ wsX70, w ∈ wsX7_longCards := fun w h => List.mem_cons_of_mem _ (List.mem_append_right _ (h))
theorem hdX7_longCards : yX7_longCards.cls = RX7 ∧ yX7_longCards.cls ≠ "java/lang/invoke/MethodHandle" ∧ yX7_longCards.cls ≠ "java/lang/invoke/VarHandle" ∧ (parseMethodDescriptor yX7_longCards.desc).map (fun d => d.parameters.length) = some 0 := by decide +kernel
abbrev rmX7_longCards : Room := { frames := 2, cells := 0, slots := 0, locals := 46 }
section SX7_longCards
variable {p : Program} {l : Launch} {e : Env} {s : State} {m : MethodId} {args : Array Value} {below : List Frame} {meth : Method} {c : Code} {Q : State → Prop} {G : GG}
set_option maxHeartbeats 4000000 in
set_option maxRecDepth 100000 in
theorem kX7_longCards_L4 (h_this : Nat) (h_s : Nat) (h_draft : Nat) (h_past : Nat) (h_kept : Nat) (h_isKept : Nat) (h_facts : Nat) (h_text : Nat) (c_thrown : Int32) (c_undos : Int32) (c_manyFacts : Int32) (c_typed : Int32) (c_from : Int32) (c_to : Int32) (c_token : Int32) (c_fault : Int32) (c_hasHooks : Int32) (c_hasTies : Int32) (c_low : Int32) (c_high : Int32) (c_s : Nat → Int32) (C : Cx cX7_longCards (some .int) 3 RX7 wsX7_longCards G p s m args meth c) (hP : va_P G.1 CL [(h_this, .inr (7, [.int c_thrown, .ref h_s, .ref h_draft, .ref h_past, .int c_undos, .ref h_kept, .ref h_isKept, .ref h_facts, .int c_manyFacts, .ref h_text, .int c_typed, .int c_from, .int c_to, .int c_token, .int c_fault, .int c_hasHooks, .int c_hasTies, .int c_low, .int c_high])), (h_s, .inl (G.2 0, 24, .inl c_s))] s.heap) {res : Int32} (kr : ∀ (pc : Nat) (ls : Array Slot), decode cX7_longCards pc = .ok (.ireturn, 1) → W p l e rmX7_longCards s m args below meth c s.heap [] 0 0 Q (F0 m pc ls [.int res])) {k44 : Int32 → Option (Int32)} (hk44 : ∀ (v1 : Int32) , k44 v1 = some res → ∀ (ls : Array Slot), lv_has ls 3 [(1, .int v1)] → W p l e rmX7_longCards s m args below meth c s.heap [] 0 0 Q (F0 m 44 ls [])) : ∀ (n : Nat) (v1 : Int32) (v2 : Int32), fX7_longCards_L4 k44 c_s n v1 v2 = some res → ∀ (ls : Array Slot), lv_has ls 3 [(0, .ref h_this), (1, .int v1), (2, .int v2)] → W p l e rmX7_longCards s m args below meth c s.heap [] 0 0 Q (F0 m 4 ls []) := by
  obtain ⟨hx, hb, hr, hlk, hml, hown, hts, hK⟩ := id C
  intro n
  induction n with
  | zero =>
    intro v1 v2 hf
    cases hf
  | succ n ih =>
    intro v1 v2 hf ls hl
    rw [fX7_longCards_L4] at hf
    refine lv_iload_n hx hb dX7_longCards_4 rfl (lv_at hl 2 rfl) ?_
    refine lv_aload_n hx hb dX7_longCards_5 rfl (lv_at hl 0 rfl) ?_
    refine va_get (D := G.1) (cl := CL) (ci := 7) (C := RX7) (T := TX7) (N := 19) hx hb hts iX7_longCards_7 hown hK hP 0 rfl rfl 1 (by decide) (hts (.fieldLink RX7 7 "LoomCardsModel" "s" "[I") (List.mem_of_getElem? (i := 1) rfl)) (fun _ h9 => h9) rfl dX7_longCards_6 ?_
    refine lv_iconst (v := (2 : Int32)) hx hb dX7_longCards_9 (by decide) ?_
    refine r_iald (j := 2) hx hb hK hP 1 rfl (ix_in (n := 24) (by decide)) (by decide) dX7_longCards_10 ?_
    refine lv_icmp_ge (tgt := 44) hx hb dX7_longCards_11 (by decide) (fun c9 => ?_) (fun c9 => ?_)
    · have hf := c_t hf c9
      exact hk44 v1 hf _ (lv_sub hl [1] rfl)
    · have hf := c_f hf c9
      refine lv_iload_n hx hb dX7_longCards_14 rfl (lv_at hl 1 rfl) ?_
      refine lv_aload_n hx hb dX7_longCards_15 rfl (lv_at hl 0 rfl) ?_
      refine lv_iload_n hx hb dX7_longCards_16 rfl (lv_at hl 2 rfl) ?_
      refine r_bind hf (fun u1 hu1 hf => ?_)
      refine cRiV (ci := 7) (rest := [.int v1]) ⟨hx, hb, hml, hown, hts⟩ hK (tX7_across l G h_this h_s h_draft h_past h_kept h_isKept h_facts h_text c_thrown c_undos c_manyFacts c_typed c_from c_to c_token c_fault c_hasHooks c_hasTies c_low c_high c_s v2 u1 hu1) gX7_longCards_X7_across rfl hdX7_across rfl rfl rfl ⟨Nat.le_of_ble_eq_true rfl, Nat.le_of_ble_eq_true rfl⟩ hP [0, 1] rfl 0 rfl rfl rfl hl.1 (Nat.le_of_ble_eq_true rfl) rfl dX7_longCards_17 ⟨Nat.zero_le _, Nat.zero_le _⟩ ?_
      refine lv_aload_n hx hb dX7_longCards_20 rfl (lv_at hl 0 rfl) ?_
      refine va_get (D := G.1) (cl := CL) (ci := 7) (C := RX7) (T := TX7) (N := 19) hx hb hts iX7_longCards_7 hown hK hP 0 rfl rfl 1 (by decide) (hts (.fieldLink RX7 7 "LoomCardsModel" "s" "[I") (List.mem_of_getElem? (i := 1) rfl)) (fun _ h9 => h9) rfl dX7_longCards_21 ?_
      refine lv_iconst (v := (3 : Int32)) hx hb dX7_longCards_24 (by decide) ?_
      refine r_iald (j := 3) hx hb hK hP 1 rfl (ix_in (n := 24) (by decide)) (by decide) dX7_longCards_25 ?_
      refine r_jn2 hf (fun J36 eJ36 hf => ?_)
      have hJ36 : ∀ (j36_0 : Int32) (j36_1 : Int32) , J36 j36_0 j36_1 = some res → ∀ (ls : Array Slot), lv_has ls 3 [(0, .ref h_this), (2, .int v2)] → W p l e rmX7_longCards s m args below meth c s.heap [] 0 0 Q (F0 m 36 ls [.int j36_0, .int j36_1]) := by
        intro j36_0 j36_1 hf ls hl
        rw [eJ36] at hf
        refine lv_ior hx hb dX7_longCards_36 ?_
        refine lv_istore_n (lv' := [(1, .int (j36_1 ||| j36_0)), (0, .ref h_this), (2, .int v2)]) hx hb dX7_longCards_37 rfl hl (by decide) rfl (fun ls hl => ?_)
        refine lv_iinc (v := (v2 + (1 : Int32))) (lv' := [(2, .int (v2 + (1 : Int32))), (1, .int (j36_1 ||| j36_0)), (0, .ref h_this)]) hx hb dX7_longCards_38 hl (k := 2) rfl rfl (by decide) rfl (fun ls hl => ?_)
        refine lv_goto (tgt := 4) hx hb dX7_longCards_41 (by decide) ?_
        exact ih (j36_1 ||| j36_0) (v2 + (1 : Int32)) hf _ (lv_sub hl [2, 1, 0] rfl)
      refine lv_icmp_le (tgt := 35) hx hb dX7_longCards_26 (by decide) (fun c9 => ?_) (fun c9 => ?_)
      · have hf := c_t hf c9
        refine lv_iconst (v := (0 : Int32)) hx hb dX7_longCards_35 (by decide) ?_
        exact hJ36 (0 : Int32) v1 hf _ (lv_sub hl [0, 2] rfl)
      · have hf := c_f hf c9
        refine lv_iconst (v := (1 : Int32)) hx hb dX7_longCards_29 (by decide) ?_
        refine lv_iload_n hx hb dX7_longCards_30 rfl (lv_at hl 2 rfl) ?_
        refine lv_ishl hx hb dX7_longCards_31 ?_
        refine lv_goto (tgt := 36) hx hb dX7_longCards_32 (by decide) ?_
        exact hJ36 ((1 : Int32) <<< (v2 &&& 31)) v1 hf _ (lv_sub hl [0, 2] rfl)
set_option maxHeartbeats 4000000 in
set_option maxRecDepth 100000 in
theorem kX7_longCards (h_this : Nat) (h_s : Nat) (h_draft : Nat) (h_past : Nat) (h_kept : Nat) (h_isKept : Nat) (h_facts : Nat) (h_text : Nat) (c_thrown : Int32) (c_undos : Int32) (c_manyFacts : Int32) (c_typed : Int32) (c_from : Int32) (c_to : Int32) (c_token : Int32) (c_fault : Int32) (c_hasHooks : Int32) (c_hasTies : Int32) (c_low : Int32) (c_high : Int32) (c_s : Nat → Int32) (C : Cx cX7_longCards (some .int) 3 RX7 wsX7_longCards G p s m args meth c) (hP : va_P G.1 CL [(h_this, .inr (7, [.int c_thrown, .ref h_s, .ref h_draft, .ref h_past, .int c_undos, .ref h_kept, .ref h_isKept, .ref h_facts, .int c_manyFacts, .ref h_text, .int c_typed, .int c_from, .int c_to, .int c_token, .int c_fault, .int c_hasHooks, .int c_hasTies, .int c_low, .int c_high])), (h_s, .inl (G.2 0, 24, .inl c_s))] s.heap) {res : Int32} (kr : ∀ (pc : Nat) (ls : Array Slot), decode cX7_longCards pc = .ok (.ireturn, 1) → W p l e rmX7_longCards s m args below meth c s.heap [] 0 0 Q (F0 m pc ls [.int res])) (hf : fX7_longCards c_s = some res) {ls : Array Slot} (hl : lv_has ls 3 [(0, .ref h_this)]) : W p l e rmX7_longCards s m args below meth c s.heap [] 0 0 Q (F0 m 0 ls []) := by
  obtain ⟨hx, hb, hr, hlk, hml, hown, hts, hK⟩ := id C
  rw [fX7_longCards] at hf
  refine lv_iconst (v := (0 : Int32)) hx hb dX7_longCards_0 (by decide) ?_
  refine lv_istore_n (lv' := [(1, .int (0 : Int32)), (0, .ref h_this)]) hx hb dX7_longCards_1 rfl hl (by decide) rfl (fun ls hl => ?_)
  refine lv_iconst (v := (0 : Int32)) hx hb dX7_longCards_2 (by decide) ?_
  refine lv_istore_n (lv' := [(2, .int (0 : Int32)), (1, .int (0 : Int32)), (0, .ref h_this)]) hx hb dX7_longCards_3 rfl hl (by decide) rfl (fun ls hl => ?_)
  refine kX7_longCards_L4 h_this h_s h_draft h_past h_kept h_isKept h_facts h_text c_thrown c_undos c_manyFacts c_typed c_from c_to c_token c_fault c_hasHooks c_hasTies c_low c_high c_s C hP kr ?_ FU (0 : Int32) (0 : Int32) hf _ (lv_sub hl [2, 1, 0] rfl)
  intro v1_x2 hf ls hl
  refine lv_iload_n hx hb dX7_longCards_44 rfl (lv_at hl 0 rfl) ?_
  obtain rfl := Option.some.inj hf
  exact kr _ _ dX7_longCards_45
end SX7_longCards
set_option maxHeartbeats 4000000 in
set_option maxRecDepth 100000 in
theorem tX7_longCards (l : Launch) (G : GG) (h_this : Nat) (h_s : Nat) (h_draft : Nat) (h_past : Nat) (h_kept : Nat) (h_isKept : Nat) (h_facts : Nat) (h_text : Nat) (c_thrown : Int32) (c_undos : Int32) (c_manyFacts : Int32) (c_typed : Int32) (c_from : Int32) (c_to : Int32) (c_token : Int32) (c_fault : Int32) (c_hasHooks : Int32) (c_hasTies : Int32) (c_low : Int32) (c_high : Int32) (c_s : Nat → Int32) (res : Int32) (hf : fX7_longCards c_s = some res) : MRi l yX7_longCards wsX7_longCards rmX7_longCards G [.ref h_this] [(h_this, .inr (7, [.int c_thrown, .ref h_s, .ref h_draft, .ref h_past, .int c_undos, .ref h_kept, .ref h_isKept, .ref h_facts, .int c_manyFacts, .ref h_text, .int c_typed, .int c_from, .int c_to, .int c_token, .int c_fault, .int c_hasHooks, .int c_hasTies, .int c_low, .int c_high])), (h_s, .inl (G.2 0, 24, .inl c_s))] (res) := MRi.of (plainFor_of_name (by decide +kernel)) rfl (Nat.le_of_ble_eq_true rfl) (fun p e s m below meth c C hP ls hl => kX7_longCards h_this h_s h_draft h_past h_kept h_isKept h_facts h_text c_thrown c_undos c_manyFacts c_typed c_from c_to c_token c_fault c_hasHooks c_hasTies c_low c_high c_s C hP (fun pc ls d => rRi C d) hf hl)
def fX7_longEnds_L4 (k44 : Int32 → Option (Int32)) (c_s : Nat → Int32) : Nat → Int32 → Int32 → Option (Int32)
  | 0, _, _ => none
  | n + 1, v1, v2 => if (c_s 1) ≤ v2 then k44 v1 else (fX7_along c_s v2).bind (fun u1 => jn (fun (j36_0 : Int32) (j36_1 : Int32) => fX7_longEnds_L4 k44 c_s n (j36_1 ||| j36_0) (v2 + (1 : Int32))) (fun J36 => if u1 ≤ (c_s 3) then J36 (0 : Int32) v1 else J36 ((1 : Int32) <<< (v2 &&& 31)) v1))
def fX7_longEnds (c_s : Nat → Int32)  : Option (Int32) := (fX7_longEnds_L4 (fun (v1_x2 : Int32) => some (v1_x2)) c_s FU (0 : Int32) (0 : Int32))
theorem iX7_longEnds_7 : ∀ w ∈ wsX70, w ∈ wsX7_longEnds := fun w h => List.mem_cons_of_mem _ (List.mem_append_right _ (h))
theorem hdX7_longEnds : yX7_longEnds.cls = RX7 ∧ yX7_longEnds.cls ≠ "java/lang/invoke/MethodHandle" ∧ yX7_longEnds.cls ≠ "java/lang/invoke/VarHandle" ∧ (parseMethodDescriptor yX7_longEnds.desc).map (fun d => d.parameters.length) = some 0 := by decide +kernel
abbrev rmX7_longEnds : Room := { frames := 2, cells := 0, slots := 0, locals := 46 }
section SX7_longEnds
variable {p : Program} {l : Launch} {e : Env} {s : State} {m : MethodId} {args : Array Value} {below : List Frame} {meth : Method} {c : Code} {Q : State → Prop} {G : GG}
set_option maxHeartbeats 4000000 in
set_option maxRecDepth 100000 in
theorem kX7_longEnds_L4 (h_this : Nat) (h_s : Nat) (h_draft : Nat) (h_past : Nat) (h_kept : Nat) (h_isKept : Nat) (h_facts : Nat) (h_text : Nat) (c_thrown : Int32) (c_undos : Int32) (c_manyFacts : Int32) (c_typed : Int32) (c_from : Int32) (c_to : Int32) (c_token : Int32) (c_fault : Int32) (c_hasHooks : Int32) (c_hasTies : Int32) (c_low : Int32) (c_high : Int32) (c_s : Nat → Int32) (C : Cx cX7_longEnds (some .int) 3 RX7 wsX7_longEnds G p s m args meth c) (hP : va_P G.1 CL [(h_this, .inr (7, [.int c_thrown, .ref h_s, .ref h_draft, .ref h_past, .int c_undos, .ref h_kept, .ref h_isKept, .ref h_facts, .int c_manyFacts, .ref h_text, .int c_typed, .int c_from, .int c_to, .int c_token, .int c_fault, .int c_hasHooks, .int c_hasTies, .int c_low, .int c_high])), (h_s, .inl (G.2 0, 24, .inl c_s))] s.heap) {res : Int32} (kr : ∀ (pc : Nat) (ls : Array Slot), decode cX7_longEnds pc = .ok (.ireturn, 1) → W p l e rmX7_longEnds s m args below meth c s.heap [] 0 0 Q (F0 m pc ls [.int res])) {k44 : Int32 → Option (Int32)} (hk44 : ∀ (v1 : Int32) , k44 v1 = some res → ∀ (ls : Array Slot), lv_has ls 3 [(1, .int v1)] → W p l e rmX7_longEnds s m args below meth c s.heap [] 0 0 Q (F0 m 44 ls [])) : ∀ (n : Nat) (v1 : Int32) (v2 : Int32), fX7_longEnds_L4 k44 c_s n v1 v2 = some res → ∀ (ls : Array Slot), lv_has ls 3 [(0, .ref h_this), (1, .int v1), (2, .int v2)] → W p l e rmX7_longEnds s m args below meth c s.heap [] 0 0 Q (F0 m 4 ls []) := by
  obtain ⟨hx, hb, hr, hlk, hml, hown, hts, hK⟩ := id C
  intro n
  induction n with
  | zero =>
    intro v1 v2 hf
    cases hf
  | succ n ih =>
    intro v1 v2 hf ls hl
    rw [fX7_longEnds_L4] at hf
    refine lv_iload_n hx hb dX7_longEnds_4 rfl (lv_at hl 2 rfl) ?_
    refine lv_aload_n hx hb dX7_longEnds_5 rfl (lv_at hl 0 rfl) ?_
    refine va_get (D := G.1) (cl := CL) (ci := 7) (C := RX7) (T := TX7) (N := 19) hx hb hts iX7_longEnds_7 hown hK hP 0 rfl rfl 1 (by decide) (hts (.fieldLink RX7 7 "LoomCardsModel" "s" "[I") (List.mem_of_getElem? (i := 1) rfl)) (fun _ h9 => h9) rfl dX7_longEnds_6 ?_
    refine lv_iconst (v := (1 : Int32)) hx hb dX7_longEnds_9 (by decide) ?_
    refine r_iald (j := 1) hx hb hK hP 1 rfl (ix_in (n := 24) (by decide)) (by decide) dX7_longEnds_10 ?_
    refine lv_icmp_ge (tgt := 44) hx hb dX7_longEnds_11 (by decide) (fun c9 => ?_) (fun c9 => ?_)
    · have hf := c_t hf c9
      exact hk44 v1 hf _ (lv_sub hl [1] rfl)
    · have hf := c_f hf c9
      refine lv_iload_n hx hb dX7_longEnds_14 rfl (lv_at hl 1 rfl) ?_
      refine lv_aload_n hx hb dX7_longEnds_15 rfl (lv_at hl 0 rfl) ?_
      refine lv_iload_n hx hb dX7_longEnds_16 rfl (lv_at hl 2 rfl) ?_
      refine r_bind hf (fun u1 hu1 hf => ?_)
      refine cRiV (ci := 7) (rest := [.int v1]) ⟨hx, hb, hml, hown, hts⟩ hK (tX7_along l G h_this h_s h_draft h_past h_kept h_isKept h_facts h_text c_thrown c_undos c_manyFacts c_typed c_from c_to c_token c_fault c_hasHooks c_hasTies c_low c_high c_s v2 u1 hu1) gX7_longEnds_X7_along rfl hdX7_along rfl rfl rfl ⟨Nat.le_of_ble_eq_true rfl, Nat.le_of_ble_eq_true rfl⟩ hP [0, 1] rfl 0 rfl rfl rfl hl.1 (Nat.le_of_ble_eq_true rfl) rfl dX7_longEnds_17 ⟨Nat.zero_le _, Nat.zero_le _⟩ ?_
      refine lv_aload_n hx hb dX7_longEnds_20 rfl (lv_at hl 0 rfl) ?_
      refine va_get (D := G.1) (cl := CL) (ci := 7) (C := RX7) (T := TX7) (N := 19) hx hb hts iX7_longEnds_7 hown hK hP 0 rfl rfl 1 (by decide) (hts (.fieldLink RX7 7 "LoomCardsModel" "s" "[I") (List.mem_of_getElem? (i := 1) rfl)) (fun _ h9 => h9) rfl dX7_longEnds_21 ?_
      refine lv_iconst (v := (3 : Int32)) hx hb dX7_longEnds_24 (by decide) ?_
      refine r_iald (j := 3) hx hb hK hP 1 rfl (ix_in (n := 24) (by decide)) (by decide) dX7_longEnds_25 ?_
      refine r_jn2 hf (fun J36 eJ36 hf => ?_)
      have hJ36 : ∀ (j36_0 : Int32) (j36_1 : Int32) , J36 j36_0 j36_1 = some res → ∀ (ls : Array Slot), lv_has ls 3 [(0, .ref h_this), (2, .int v2)] → W p l e rmX7_longEnds s m args below meth c s.heap [] 0 0 Q (F0 m 36 ls [.int j36_0, .int j36_1]) := by
        intro j36_0 j36_1 hf ls hl
        rw [eJ36] at hf
        refine lv_ior hx hb dX7_longEnds_36 ?_
        refine lv_istore_n (lv' := [(1, .int (j36_1 ||| j36_0)), (0, .ref h_this), (2, .int v2)]) hx hb dX7_longEnds_37 rfl hl (by decide) rfl (fun ls hl => ?_)
        refine lv_iinc (v := (v2 + (1 : Int32))) (lv' := [(2, .int (v2 + (1 : Int32))), (1, .int (j36_1 ||| j36_0)), (0, .ref h_this)]) hx hb dX7_longEnds_38 hl (k := 2) rfl rfl (by decide) rfl (fun ls hl => ?_)
        refine lv_goto (tgt := 4) hx hb dX7_longEnds_41 (by decide) ?_
        exact ih (j36_1 ||| j36_0) (v2 + (1 : Int32)) hf _ (lv_sub hl [2, 1, 0] rfl)
      refine lv_icmp_le (tgt := 35) hx hb dX7_longEnds_26 (by decide) (fun c9 => ?_) (fun c9 => ?_)
      · have hf := c_t hf c9
        refine lv_iconst (v := (0 : Int32)) hx hb dX7_longEnds_35 (by decide) ?_
        exact hJ36 (0 : Int32) v1 hf _ (lv_sub hl [0, 2] rfl)
      · have hf := c_f hf c9
        refine lv_iconst (v := (1 : Int32)) hx hb dX7_longEnds_29 (by decide) ?_
        refine lv_iload_n hx hb dX7_longEnds_30 rfl (lv_at hl 2 rfl) ?_
        refine lv_ishl hx hb dX7_longEnds_31 ?_
        refine lv_goto (tgt := 36) hx hb dX7_longEnds_32 (by decide) ?_
        exact hJ36 ((1 : Int32) <<< (v2 &&& 31)) v1 hf _ (lv_sub hl [0, 2] rfl)
set_option maxHeartbeats 4000000 in
set_option maxRecDepth 100000 in
theorem kX7_longEnds (h_this : Nat) (h_s : Nat) (h_draft : Nat) (h_past : Nat) (h_kept : Nat) (h_isKept : Nat) (h_facts : Nat) (h_text : Nat) (c_thrown : Int32) (c_undos : Int32) (c_manyFacts : Int32) (c_typed : Int32) (c_from : Int32) (c_to : Int32) (c_token : Int32) (c_fault : Int32) (c_hasHooks : Int32) (c_hasTies : Int32) (c_low : Int32) (c_high : Int32) (c_s : Nat → Int32) (C : Cx cX7_longEnds (some .int) 3 RX7 wsX7_longEnds G p s m args meth c) (hP : va_P G.1 CL [(h_this, .inr (7, [.int c_thrown, .ref h_s, .ref h_draft, .ref h_past, .int c_undos, .ref h_kept, .ref h_isKept, .ref h_facts, .int c_manyFacts, .ref h_text, .int c_typed, .int c_from, .int c_to, .int c_token, .int c_fault, .int c_hasHooks, .int c_hasTies, .int c_low, .int c_high])), (h_s, .inl (G.2 0, 24, .inl c_s))] s.heap) {res : Int32} (kr : ∀ (pc : Nat) (ls : Array Slot), decode cX7_longEnds pc = .ok (.ireturn, 1) → W p l e rmX7_longEnds s m args below meth c s.heap [] 0 0 Q (F0 m pc ls [.int res])) (hf : fX7_longEnds c_s = some res) {ls : Array Slot} (hl : lv_has ls 3 [(0, .ref h_this)]) : W p l e rmX7_longEnds s m args below meth c s.heap [] 0 0 Q (F0 m 0 ls []) := by
  obtain ⟨hx, hb, hr, hlk, hml, hown, hts, hK⟩ := id C
  rw [fX7_longEnds] at hf
  refine lv_iconst (v := (0 : Int32)) hx hb dX7_longEnds_0 (by decide) ?_
  refine lv_istore_n (lv' := [(1, .int (0 : Int32)), (0, .ref h_this)]) hx hb dX7_longEnds_1 rfl hl (by decide) rfl (fun ls hl => ?_)
  refine lv_iconst (v := (0 : Int32)) hx hb dX7_longEnds_2 (by decide) ?_
  refine lv_istore_n (lv' := [(2, .int (0 : Int32)), (1, .int (0 : Int32)), (0, .ref h_this)]) hx hb dX7_longEnds_3 rfl hl (by decide) rfl (fun ls hl => ?_)
  refine kX7_longEnds_L4 h_this h_s h_draft h_past h_kept h_isKept h_facts h_text c_thrown c_undos c_manyFacts c_typed c_from c_to c_token c_fault c_hasHooks c_hasTies c_low c_high c_s C hP kr ?_ FU (0 : Int32) (0 : Int32) hf _ (lv_sub hl [2, 1, 0] rfl)
  intro v1_x2 hf ls hl
  refine lv_iload_n hx hb dX7_longEnds_44 rfl (lv_at hl 0 rfl) ?_
  obtain rfl := Option.some.inj hf
  exact kr _ _ dX7_longEnds_45
end SX7_longEnds
set_option maxHeartbeats 4000000 in
set_option maxRecDepth 100000 in
theorem tX7_longEnds (l : Launch) (G : GG) (h_this : Nat) (h_s : Nat) (h_draft : Nat) (h_past : Nat) (h_kept : Nat) (h_isKept : Nat) (h_facts : Nat) (h_text : Nat) (c_thrown : Int32) (c_undos : Int32) (c_manyFacts : Int32) (c_typed : Int32) (c_from : Int32) (c_to : Int32) (c_token : Int32) (c_fault : Int32) (c_hasHooks : Int32) (c_hasTies : Int32) (c_low : Int32) (c_high : Int32) (c_s : Nat → Int32) (res : Int32) (hf : fX7_longEnds c_s = some res) : MRi l yX7_longEnds wsX7_longEnds rmX7_longEnds G [.ref h_this] [(h_this, .inr (7, [.int c_thrown, .ref h_s, .ref h_draft, .ref h_past, .int c_undos, .ref h_kept, .ref h_isKept, .ref h_facts, .int c_manyFacts, .ref h_text, .int c_typed, .int c_from, .int c_to, .int c_token, .int c_fault, .int c_hasHooks, .int c_hasTies, .int c_low, .int c_high])), (h_s, .inl (G.2 0, 24, .inl c_s))] (res) := MRi.of (plainFor_of_name (by decide +kernel)) rfl (Nat.le_of_ble_eq_true rfl) (fun p e s m below meth c C hP ls hl => kX7_longEnds h_this h_s h_draft h_past h_kept h_isKept h_facts h_text c_thrown c_undos c_manyFacts c_typed c_from c_to c_token c_fault c_hasHooks c_hasTies c_low c_high c_s C hP (fun pc ls d => rRi C d) hf hl)
def fX7_freeHooks_L13 (k44 : Int32 → Option (Int32)) (c_s : Nat → Int32) : Nat → Int32 → Int32 → Option (Int32)
  | 0, _, _ => none
  | n + 1, v1, v2 => if (c_s 1) ≤ v2 then k44 v1 else gd (ix ((4 : Int32) + v2) 24) (fX7_freeHooks_L13 k44 c_s n (v1 &&& (((1 : Int32) <<< ((c_s ((4 : Int32) + v2).toNatClampNeg) &&& 31)) ^^^ (-1 : Int32))) (v2 + (1 : Int32)))
def fX7_freeHooks (c_s : Nat → Int32)  : Option (Int32) := (fX7_freeHooks_L13 (fun (v1_x1 : Int32) => some (v1_x1)) c_s FU (((1 : Int32) <<< ((c_s 0) &&& 31)) - (1 : Int32)) (0 : Int32))
theorem iX7_freeHooks_7 : ∀ w ∈ wsX70, w ∈ wsX7_freeHooks := fun w h => List.mem_cons_of_mem _ (List.mem_append_right _ (h))
theorem hdX7_freeHooks : yX7_freeHooks.cls = RX7 ∧ yX7_freeHooks.cls ≠ "java/lang/invoke/MethodHandle" ∧ yX7_freeHooks.cls ≠ "java/lang/invoke/VarHandle" ∧ (parseMethodDescriptor yX7_freeHooks.desc).map (fun d => d.parameters.length) = some 0 := by decide +kernel
abbrev rmX7_freeHooks : Room := { frames := 0, cells := 0, slots := 0, locals := 0 }
section SX7_freeHooks
variable {p : Program} {l : Launch} {e : Env} {s : State} {m : MethodId} {args : Array Value} {below : List Frame} {meth : Method} {c : Code} {Q : State → Prop} {G : GG}
set_option maxHeartbeats 4000000 in
set_option maxRecDepth 100000 in
theorem kX7_freeHooks_L13 (h_this : Nat) (h_s : Nat) (h_draft : Nat) (h_past : Nat) (h_kept : Nat) (h_isKept : Nat) (h_facts : Nat) (h_text : Nat) (c_thrown : Int32) (c_undos : Int32) (c_manyFacts : Int32) (c_typed : Int32) (c_from : Int32) (c_to : Int32) (c_token : Int32) (c_fault : Int32) (c_hasHooks : Int32) (c_hasTies : Int32) (c_low : Int32) (c_high : Int32) (c_s : Nat → Int32) (C : Cx cX7_freeHooks (some .int) 3 RX7 wsX7_freeHooks G p s m args meth c) (hP : va_P G.1 CL [(h_this, .inr (7, [.int c_thrown, .ref h_s, .ref h_draft, .ref h_past, .int c_undos, .ref h_kept, .ref h_isKept, .ref h_facts, .int c_manyFacts, .ref h_text, .int c_typed, .int c_from, .int c_to, .int c_token, .int c_fault, .int c_hasHooks, .int c_hasTies, .int c_low, .int c_high])), (h_s, .inl (G.2 0, 24, .inl c_s))] s.heap) {res : Int32} (kr : ∀ (pc : Nat) (ls : Array Slot), decode cX7_freeHooks pc = .ok (.ireturn, 1) → W p l e rmX7_freeHooks s m args below meth c s.heap [] 0 0 Q (F0 m pc ls [.int res])) {k44 : Int32 → Option (Int32)} (hk44 : ∀ (v1 : Int32) , k44 v1 = some res → ∀ (ls : Array Slot), lv_has ls 3 [(1, .int v1)] → W p l e rmX7_freeHooks s m args below meth c s.heap [] 0 0 Q (F0 m 44 ls [])) : ∀ (n : Nat) (v1 : Int32) (v2 : Int32), fX7_freeHooks_L13 k44 c_s n v1 v2 = some res → ∀ (ls : Array Slot), lv_has ls 3 [(0, .ref h_this), (1, .int v1), (2, .int v2)] → W p l e rmX7_freeHooks s m args below meth c s.heap [] 0 0 Q (F0 m 13 ls []) := by
  obtain ⟨hx, hb, hr, hlk, hml, hown, hts, hK⟩ := id C
  intro n
  induction n with
  | zero =>
    intro v1 v2 hf
    cases hf
  | succ n ih =>
    intro v1 v2 hf ls hl
    rw [fX7_freeHooks_L13] at hf
    refine lv_iload_n hx hb dX7_freeHooks_13 rfl (lv_at hl 2 rfl) ?_
    refine lv_aload_n hx hb dX7_freeHooks_14 rfl (lv_at hl 0 rfl) ?_
    refine va_get (D := G.1) (cl := CL) (ci := 7) (C := RX7) (T := TX7) (N := 19) hx hb hts iX7_freeHooks_7 hown hK hP 0 rfl rfl 1 (by decide) (hts (.fieldLink RX7 7 "LoomCardsModel" "s" "[I") (List.mem_of_getElem? (i := 1) rfl)) (fun _ h9 => h9) rfl dX7_freeHooks_15 ?_
    refine lv_iconst (v := (1 : Int32)) hx hb dX7_freeHooks_18 (by decide) ?_
    refine r_iald (j := 1) hx hb hK hP 1 rfl (ix_in (n := 24) (by decide)) (by decide) dX7_freeHooks_19 ?_
    refine lv_icmp_ge (tgt := 44) hx hb dX7_freeHooks_20 (by decide) (fun c9 => ?_) (fun c9 => ?_)
    · have hf := c_t hf c9
      exact hk44 v1 hf _ (lv_sub hl [1] rfl)
    · have hf := c_f hf c9
      refine lv_iload_n hx hb dX7_freeHooks_23 rfl (lv_at hl 1 rfl) ?_
      refine lv_iconst (v := (1 : Int32)) hx hb dX7_freeHooks_24 (by decide) ?_
      refine lv_aload_n hx hb dX7_freeHooks_25 rfl (lv_at hl 0 rfl) ?_
      refine va_get (D := G.1) (cl := CL) (ci := 7) (C := RX7) (T := TX7) (N := 19) hx hb hts iX7_freeHooks_7 hown hK hP 0 rfl rfl 1 (by decide) (hts (.fieldLink RX7 7 "LoomCardsModel" "s" "[I") (List.mem_of_getElem? (i := 1) rfl)) (fun _ h9 => h9) rfl dX7_freeHooks_26 ?_
      refine lv_iconst (v := (4 : Int32)) hx hb dX7_freeHooks_29 (by decide) ?_
      refine lv_iload_n hx hb dX7_freeHooks_30 rfl (lv_at hl 2 rfl) ?_
      refine lv_iadd hx hb dX7_freeHooks_31 ?_
      refine r_gd hf (fun g9 hf => ?_)
      refine r_iald hx hb hK hP 1 rfl (ix_in g9) rfl dX7_freeHooks_32 ?_
      refine lv_ishl hx hb dX7_freeHooks_33 ?_
      refine lv_iconst (v := (-1 : Int32)) hx hb dX7_freeHooks_34 (by decide) ?_
      refine lv_ixor hx hb dX7_freeHooks_35 ?_
      refine lv_iand hx hb dX7_freeHooks_36 ?_
      refine lv_istore_n (lv' := [(1, .int (v1 &&& (((1 : Int32) <<< ((c_s ((4 : Int32) + v2).toNatClampNeg) &&& 31)) ^^^ (-1 : Int32)))), (0, .ref h_this), (2, .int v2)]) hx hb dX7_freeHooks_37 rfl hl (by decide) rfl (fun ls hl => ?_)
      refine lv_iinc (v := (v2 + (1 : Int32))) (lv' := [(2, .int (v2 + (1 : Int32))), (1, .int (v1 &&& (((1 : Int32) <<< ((c_s ((4 : Int32) + v2).toNatClampNeg) &&& 31)) ^^^ (-1 : Int32)))), (0, .ref h_this)]) hx hb dX7_freeHooks_38 hl (k := 2) rfl rfl (by decide) rfl (fun ls hl => ?_)
      refine lv_goto (tgt := 13) hx hb dX7_freeHooks_41 (by decide) ?_
      exact ih (v1 &&& (((1 : Int32) <<< ((c_s ((4 : Int32) + v2).toNatClampNeg) &&& 31)) ^^^ (-1 : Int32))) (v2 + (1 : Int32)) hf _ (lv_sub hl [2, 1, 0] rfl)
set_option maxHeartbeats 4000000 in
set_option maxRecDepth 100000 in
theorem kX7_freeHooks (h_this : Nat) (h_s : Nat) (h_draft : Nat) (h_past : Nat) (h_kept : Nat) (h_isKept : Nat) (h_facts : Nat) (h_text : Nat) (c_thrown : Int32) (c_undos : Int32) (c_manyFacts : Int32) (c_typed : Int32) (c_from : Int32) (c_to : Int32) (c_token : Int32) (c_fault : Int32) (c_hasHooks : Int32) (c_hasTies : Int32) (c_low : Int32) (c_high : Int32) (c_s : Nat → Int32) (C : Cx cX7_freeHooks (some .int) 3 RX7 wsX7_freeHooks G p s m args meth c) (hP : va_P G.1 CL [(h_this, .inr (7, [.int c_thrown, .ref h_s, .ref h_draft, .ref h_past, .int c_undos, .ref h_kept, .ref h_isKept, .ref h_facts, .int c_manyFacts, .ref h_text, .int c_typed, .int c_from, .int c_to, .int c_token, .int c_fault, .int c_hasHooks, .int c_hasTies, .int c_low, .int c_high])), (h_s, .inl (G.2 0, 24, .inl c_s))] s.heap) {res : Int32} (kr : ∀ (pc : Nat) (ls : Array Slot), decode cX7_freeHooks pc = .ok (.ireturn, 1) → W p l e rmX7_freeHooks s m args below meth c s.heap [] 0 0 Q (F0 m pc ls [.int res])) (hf : fX7_freeHooks c_s = some res) {ls : Array Slot} (hl : lv_has ls 3 [(0, .ref h_this)]) : W p l e rmX7_freeHooks s m args below meth c s.heap [] 0 0 Q (F0 m 0 ls []) := by
  obtain ⟨hx, hb, hr, hlk, hml, hown, hts, hK⟩ := id C
  rw [fX7_freeHooks] at hf
  refine lv_iconst (v := (1 : Int32)) hx hb dX7_freeHooks_0 (by decide) ?_
  refine lv_aload_n hx hb dX7_freeHooks_1 rfl (lv_at hl 0 rfl) ?_
  refine va_get (D := G.1) (cl := CL) (ci := 7) (C := RX7) (T := TX7) (N := 19) hx hb hts iX7_freeHooks_7 hown hK hP 0 rfl rfl 1 (by decide) (hts (.fieldLink RX7 7 "LoomCardsModel" "s" "[I") (List.mem_of_getElem? (i := 1) rfl)) (fun _ h9 => h9) rfl dX7_freeHooks_2 ?_
  refine lv_iconst (v := (0 : Int32)) hx hb dX7_freeHooks_5 (by decide) ?_
  refine r_iald (j := 0) hx hb hK hP 1 rfl (ix_in (n := 24) (by decide)) (by decide) dX7_freeHooks_6 ?_
  refine lv_ishl hx hb dX7_freeHooks_7 ?_
  refine lv_iconst (v := (1 : Int32)) hx hb dX7_freeHooks_8 (by decide) ?_
  refine lv_isub hx hb dX7_freeHooks_9 ?_
  refine lv_istore_n (lv' := [(1, .int (((1 : Int32) <<< ((c_s 0) &&& 31)) - (1 : Int32))), (0, .ref h_this)]) hx hb dX7_freeHooks_10 rfl hl (by decide) rfl (fun ls hl => ?_)
  refine lv_iconst (v := (0 : Int32)) hx hb dX7_freeHooks_11 (by decide) ?_
  refine lv_istore_n (lv' := [(2, .int (0 : Int32)), (1, .int (((1 : Int32) <<< ((c_s 0) &&& 31)) - (1 : Int32))), (0, .ref h_this)]) hx hb dX7_freeHooks_12 rfl hl (by decide) rfl (fun ls hl => ?_)
  refine kX7_freeHooks_L13 h_this h_s h_draft h_past h_kept h_isKept h_facts h_text c_thrown c_undos c_manyFacts c_typed c_from c_to c_token c_fault c_hasHooks c_hasTies c_low c_high c_s C hP kr ?_ FU (((1 : Int32) <<< ((c_s 0) &&& 31)) - (1 : Int32)) (0 : Int32) hf _ (lv_sub hl [2, 1, 0] rfl)
  intro v1_x1 hf ls hl
  refine lv_iload_n hx hb dX7_freeHooks_44 rfl (lv_at hl 0 rfl) ?_
  obtain rfl := Option.some.inj hf
  exact kr _ _ dX7_freeHooks_45
end SX7_freeHooks
set_option maxHeartbeats 4000000 in
set_option maxRecDepth 100000 in
theorem tX7_freeHooks (l : Launch) (G : GG) (h_this : Nat) (h_s : Nat) (h_draft : Nat) (h_past : Nat) (h_kept : Nat) (h_isKept : Nat) (h_facts : Nat) (h_text : Nat) (c_thrown : Int32) (c_undos : Int32) (c_manyFacts : Int32) (c_typed : Int32) (c_from : Int32) (c_to : Int32) (c_token : Int32) (c_fault : Int32) (c_hasHooks : Int32) (c_hasTies : Int32) (c_low : Int32) (c_high : Int32) (c_s : Nat → Int32) (res : Int32) (hf : fX7_freeHooks c_s = some res) : MRi l yX7_freeHooks wsX7_freeHooks rmX7_freeHooks G [.ref h_this] [(h_this, .inr (7, [.int c_thrown, .ref h_s, .ref h_draft, .ref h_past, .int c_undos, .ref h_kept, .ref h_isKept, .ref h_facts, .int c_manyFacts, .ref h_text, .int c_typed, .int c_from, .int c_to, .int c_token, .int c_fault, .int c_hasHooks, .int c_hasTies, .int c_low, .int c_high])), (h_s, .inl (G.2 0, 24, .inl c_s))] (res) := MRi.of (plainFor_of_name (by decide +kernel)) rfl (Nat.le_of_ble_eq_true rfl) (fun p e s m below meth c C hP ls hl => kX7_freeHooks h_this h_s h_draft h_past h_kept h_isKept h_facts h_text c_thrown c_undos c_manyFacts c_typed c_from c_to c_token c_fault c_hasHooks c_hasTies c_low c_high c_s C hP (fun pc ls d => rRi C d) hf hl)
def fX7_told (c_thrown : Int32) (c_s : Nat → Int32) (v1 : Int32) : Option (Int32 × Int32) := if v1 = (0 : Int32) then (fX7_repeat c_s).bind (fun u1 => some (u1, (0 : Int32))) else if v1 = (1 : Int32) then (fX7_unlikeEnds c_s).bind (fun u2 => some (u2, (0 : Int32))) else if v1 = (2 : Int32) then (fX7_longCards c_s).bind (fun u3 => some (u3, (0 : Int32))) else if v1 = (3 : Int32) then (fX7_longEnds c_s).bind (fun u4 => some (u4, (0 : Int32))) else if v1 = (4 : Int32) then (fX7_freeHooks c_s).bind (fun u5 => some (u5, (0 : Int32))) else some ((-1 : Int32), (0 : Int32))
theorem iX7_told_7 : ∀ w ∈ wsX70, w ∈ wsX7_told := fun w h => List.mem_cons_of_mem _ (List.mem_append_right _ (h))
theorem hdX7_told : yX7_told.cls = RX7 ∧ yX7_told.cls ≠ "java/lang/invoke/MethodHandle" ∧ yX7_told.cls ≠ "java/lang/invoke/VarHandle" ∧ (parseMethodDescriptor yX7_told.desc).map (fun d => d.parameters.length) = some 1 := by decide +kernel
abbrev rmX7_told : Room := { frames := 4, cells := 0, slots := 0, locals := 89 }
section SX7_told
variable {p : Program} {l : Launch} {e : Env} {s : State} {m : MethodId} {args : Array Value} {below : List Frame} {meth : Method} {c : Code} {Q : State → Prop} {G : GG} {A : Nat → Prop}
set_option maxHeartbeats 4000000 in
set_option maxRecDepth 100000 in
theorem kX7_told (h_this : Nat) (h_s : Nat) (h_draft : Nat) (h_past : Nat) (h_kept : Nat) (h_isKept : Nat) (h_facts : Nat) (h_text : Nat) (c_thrown : Int32) (c_undos : Int32) (c_manyFacts : Int32) (c_typed : Int32) (c_from : Int32) (c_to : Int32) (c_token : Int32) (c_fault : Int32) (c_hasHooks : Int32) (c_hasTies : Int32) (c_low : Int32) (c_high : Int32) (c_s : Nat → Int32) (v1 : Int32) (C : Cx cX7_told (some .int) 2 RX7 wsX7_told G p s m args meth c) (hA : ∀ q : Nat, s.heap.size ≤ q → A q) (hP : va_P G.1 CL [(h_this, .inr (7, [.int c_thrown, .ref h_s, .ref h_draft, .ref h_past, .int c_undos, .ref h_kept, .ref h_isKept, .ref h_facts, .int c_manyFacts, .ref h_text, .int c_typed, .int c_from, .int c_to, .int c_token, .int c_fault, .int c_hasHooks, .int c_hasTies, .int c_low, .int c_high])), (h_s, .inl (G.2 0, 24, .inl c_s))] s.heap) (hD : va_D A [(h_this, .inr (7, [.int c_thrown, .ref h_s, .ref h_draft, .ref h_past, .int c_undos, .ref h_kept, .ref h_isKept, .ref h_facts, .int c_manyFacts, .ref h_text, .int c_typed, .int c_from, .int c_to, .int c_token, .int c_fault, .int c_hasHooks, .int c_hasTies, .int c_low, .int c_high])), (h_s, .inl (G.2 0, 24, .inl c_s))]) (hS : va_S A s.heap s.heap []) {res : Int32 × Int32} (kr : ∀ (pc : Nat) (ls : Array Slot) (H : Heap) (locs : List Loc), va_P G.1 CL [(h_this, .inr (7, [.int (res.2), .ref h_s, .ref h_draft, .ref h_past, .int c_undos, .ref h_kept, .ref h_isKept, .ref h_facts, .int c_manyFacts, .ref h_text, .int c_typed, .int c_from, .int c_to, .int c_token, .int c_fault, .int c_hasHooks, .int c_hasTies, .int c_low, .int c_high])), (h_s, .inl (G.2 0, 24, .inl c_s))] H → va_D A [(h_this, .inr (7, [.int (res.2), .ref h_s, .ref h_draft, .ref h_past, .int c_undos, .ref h_kept, .ref h_isKept, .ref h_facts, .int c_manyFacts, .ref h_text, .int c_typed, .int c_from, .int c_to, .int c_token, .int c_fault, .int c_hasHooks, .int c_hasTies, .int c_low, .int c_high])), (h_s, .inl (G.2 0, 24, .inl c_s))] → va_S A s.heap H locs → decode cX7_told pc = .ok (.ireturn, 1) → W p l e rmX7_told s m args below meth c H locs 0 0 Q (F0 m pc ls [.int res.1])) (hf : fX7_told c_thrown c_s v1 = some res) {ls : Array Slot} (hl : lv_has ls 2 [(0, .ref h_this), (1, .int v1)]) : W p l e rmX7_told s m args below meth c s.heap [] 0 0 Q (F0 m 0 ls []) := by
  obtain ⟨hx, hb, hr, hlk, hml, hown, hts, hK⟩ := id C
  rw [fX7_told] at hf
  refine lv_aload_n hx hb dX7_told_0 rfl (lv_at hl 0 rfl) ?_
  refine lv_iconst (v := (0 : Int32)) hx hb dX7_told_1 (by decide) ?_
  refine va_put (D := G.1) (cl := CL) (ci := 7) (v := .int (0 : Int32)) (ty := .int) (C := RX7) (T := TX7) (N := 19) hx hb hts iX7_told_7 tyX7 tyX7_ok nmX7 hown hK hP hD hS 0 rfl rfl 0 (by decide) (hts (.fieldLink RX7 37 "LoomCardsModel" "thrown" "I") (List.mem_of_getElem? (i := 1) rfl)) (fun _ h9 => h9) rfl (tyX7_ok 0 (by decide)) rfl rfl (Nat.le_of_ble_eq_true rfl) dX7_told_2 (fun H locs hP hD hS => ?_)
  have hP : va_P G.1 CL [(h_this, .inr (7, [.int (0 : Int32), .ref h_s, .ref h_draft, .ref h_past, .int c_undos, .ref h_kept, .ref h_isKept, .ref h_facts, .int c_manyFacts, .ref h_text, .int c_typed, .int c_from, .int c_to, .int c_token, .int c_fault, .int c_hasHooks, .int c_hasTies, .int c_low, .int c_high])), (h_s, .inl (G.2 0, 24, .inl c_s))] H := hP
  have hD : va_D A [(h_this, .inr (7, [.int (0 : Int32), .ref h_s, .ref h_draft, .ref h_past, .int c_undos, .ref h_kept, .ref h_isKept, .ref h_facts, .int c_manyFacts, .ref h_text, .int c_typed, .int c_from, .int c_to, .int c_token, .int c_fault, .int c_hasHooks, .int c_hasTies, .int c_low, .int c_high])), (h_s, .inl (G.2 0, 24, .inl c_s))] := hD
  refine lv_iload_n hx hb dX7_told_5 rfl (lv_at hl 1 rfl) ?_
  refine r_if hf (fun e9 hf => ?_) (fun n0 hf => ?_)
  · refine sw_in (off := 34) (tgt := 40) e9 hx hb dX7_told_6 (by decide) (by decide) (by decide) (by decide) ?_
    refine lv_aload_n hx hb dX7_told_40 rfl (lv_at hl 0 rfl) ?_
    refine r_bind hf (fun u1 hu1 hf => ?_)
    refine cRiV (ci := 7) (rest := []) ⟨hx, hb, hml, hown, hts⟩ hK (tX7_repeat l G h_this h_s h_draft h_past h_kept h_isKept h_facts h_text (0 : Int32) c_undos c_manyFacts c_typed c_from c_to c_token c_fault c_hasHooks c_hasTies c_low c_high c_s u1 hu1) gX7_told_X7_repeat rfl hdX7_repeat rfl rfl rfl ⟨Nat.le_of_ble_eq_true rfl, Nat.le_of_ble_eq_true rfl⟩ hP [0, 1] rfl 0 rfl rfl rfl hl.1 (Nat.le_of_ble_eq_true rfl) rfl dX7_told_41 ⟨Nat.zero_le _, Nat.zero_le _⟩ ?_
    obtain rfl := Option.some.inj hf
    exact kr _ _ _ _ hP hD hS dX7_told_44
  · refine r_if hf (fun e9 hf => ?_) (fun n1 hf => ?_)
    · refine sw_in (off := 39) (tgt := 45) e9 hx hb dX7_told_6 (by decide) (by decide) (by decide) (by decide) ?_
      refine lv_aload_n hx hb dX7_told_45 rfl (lv_at hl 0 rfl) ?_
      refine r_bind hf (fun u2 hu2 hf => ?_)
      refine cRiV (ci := 7) (rest := []) ⟨hx, hb, hml, hown, hts⟩ hK (tX7_unlikeEnds l G h_this h_s h_draft h_past h_kept h_isKept h_facts h_text (0 : Int32) c_undos c_manyFacts c_typed c_from c_to c_token c_fault c_hasHooks c_hasTies c_low c_high c_s u2 hu2) gX7_told_X7_unlikeEnds rfl hdX7_unlikeEnds rfl rfl rfl ⟨Nat.le_of_ble_eq_true rfl, Nat.le_of_ble_eq_true rfl⟩ hP [0, 1] rfl 0 rfl rfl rfl hl.1 (Nat.le_of_ble_eq_true rfl) rfl dX7_told_46 ⟨Nat.zero_le _, Nat.zero_le _⟩ ?_
      obtain rfl := Option.some.inj hf
      exact kr _ _ _ _ hP hD hS dX7_told_49
    · refine r_if hf (fun e9 hf => ?_) (fun n2 hf => ?_)
      · refine sw_in (off := 44) (tgt := 50) e9 hx hb dX7_told_6 (by decide) (by decide) (by decide) (by decide) ?_
        refine lv_aload_n hx hb dX7_told_50 rfl (lv_at hl 0 rfl) ?_
        refine r_bind hf (fun u3 hu3 hf => ?_)
        refine cRiV (ci := 7) (rest := []) ⟨hx, hb, hml, hown, hts⟩ hK (tX7_longCards l G h_this h_s h_draft h_past h_kept h_isKept h_facts h_text (0 : Int32) c_undos c_manyFacts c_typed c_from c_to c_token c_fault c_hasHooks c_hasTies c_low c_high c_s u3 hu3) gX7_told_X7_longCards rfl hdX7_longCards rfl rfl rfl ⟨Nat.le_of_ble_eq_true rfl, Nat.le_of_ble_eq_true rfl⟩ hP [0, 1] rfl 0 rfl rfl rfl hl.1 (Nat.le_of_ble_eq_true rfl) rfl dX7_told_51 ⟨Nat.zero_le _, Nat.zero_le _⟩ ?_
        obtain rfl := Option.some.inj hf
        exact kr _ _ _ _ hP hD hS dX7_told_54
      · refine r_if hf (fun e9 hf => ?_) (fun n3 hf => ?_)
        · refine sw_in (off := 49) (tgt := 55) e9 hx hb dX7_told_6 (by decide) (by decide) (by decide) (by decide) ?_
          refine lv_aload_n hx hb dX7_told_55 rfl (lv_at hl 0 rfl) ?_
          refine r_bind hf (fun u4 hu4 hf => ?_)
          refine cRiV (ci := 7) (rest := []) ⟨hx, hb, hml, hown, hts⟩ hK (tX7_longEnds l G h_this h_s h_draft h_past h_kept h_isKept h_facts h_text (0 : Int32) c_undos c_manyFacts c_typed c_from c_to c_token c_fault c_hasHooks c_hasTies c_low c_high c_s u4 hu4) gX7_told_X7_longEnds rfl hdX7_longEnds rfl rfl rfl ⟨Nat.le_of_ble_eq_true rfl, Nat.le_of_ble_eq_true rfl⟩ hP [0, 1] rfl 0 rfl rfl rfl hl.1 (Nat.le_of_ble_eq_true rfl) rfl dX7_told_56 ⟨Nat.zero_le _, Nat.zero_le _⟩ ?_
          obtain rfl := Option.some.inj hf
          exact kr _ _ _ _ hP hD hS dX7_told_59
        · refine r_if hf (fun e9 hf => ?_) (fun n4 hf => ?_)
          · refine sw_in (off := 54) (tgt := 60) e9 hx hb dX7_told_6 (by decide) (by decide) (by decide) (by decide) ?_
            refine lv_aload_n hx hb dX7_told_60 rfl (lv_at hl 0 rfl) ?_
            refine r_bind hf (fun u5 hu5 hf => ?_)
            refine cRiV (ci := 7) (rest := []) ⟨hx, hb, hml, hown, hts⟩ hK (tX7_freeHooks l G h_this h_s h_draft h_past h_kept h_isKept h_facts h_text (0 : Int32) c_undos c_manyFacts c_typed c_from c_to c_token c_fault c_hasHooks c_hasTies c_low c_high c_s u5 hu5) gX7_told_X7_freeHooks rfl hdX7_freeHooks rfl rfl rfl ⟨Nat.le_of_ble_eq_true rfl, Nat.le_of_ble_eq_true rfl⟩ hP [0, 1] rfl 0 rfl rfl rfl hl.1 (Nat.le_of_ble_eq_true rfl) rfl dX7_told_61 ⟨Nat.zero_le _, Nat.zero_le _⟩ ?_
            obtain rfl := Option.some.inj hf
            exact kr _ _ _ _ hP hD hS dX7_told_64
          · refine sw_out (lo := 0) (N := 5) (tgt := 65) hx hb dX7_told_6 (fun j hj => by match j, hj with | 0, _ => exact n0 | 1, _ => exact n1 | 2, _ => exact n2 | 3, _ => exact n3 | 4, _ => exact n4 | j + 5, hj => omega) (by decide) (by decide) ?_
            refine lv_iconst (v := (-1 : Int32)) hx hb dX7_told_65 (by decide) ?_
            obtain rfl := Option.some.inj hf
            exact kr _ _ _ _ hP hD hS dX7_told_66
end SX7_told
set_option maxHeartbeats 4000000 in
set_option maxRecDepth 100000 in
theorem tX7_told (l : Launch) (G : GG) (h_this : Nat) (h_s : Nat) (h_draft : Nat) (h_past : Nat) (h_kept : Nat) (h_isKept : Nat) (h_facts : Nat) (h_text : Nat) (c_thrown : Int32) (c_undos : Int32) (c_manyFacts : Int32) (c_typed : Int32) (c_from : Int32) (c_to : Int32) (c_token : Int32) (c_fault : Int32) (c_hasHooks : Int32) (c_hasTies : Int32) (c_low : Int32) (c_high : Int32) (c_s : Nat → Int32) (v1 : Int32) (res : Int32 × Int32) (hf : fX7_told c_thrown c_s v1 = some res) : MWi l yX7_told wsX7_told rmX7_told G [.ref h_this, .int v1] [(h_this, .inr (7, [.int c_thrown, .ref h_s, .ref h_draft, .ref h_past, .int c_undos, .ref h_kept, .ref h_isKept, .ref h_facts, .int c_manyFacts, .ref h_text, .int c_typed, .int c_from, .int c_to, .int c_token, .int c_fault, .int c_hasHooks, .int c_hasTies, .int c_low, .int c_high])), (h_s, .inl (G.2 0, 24, .inl c_s))] (res.1) [(h_this, .inr (7, [.int (res.2), .ref h_s, .ref h_draft, .ref h_past, .int c_undos, .ref h_kept, .ref h_isKept, .ref h_facts, .int c_manyFacts, .ref h_text, .int c_typed, .int c_from, .int c_to, .int c_token, .int c_fault, .int c_hasHooks, .int c_hasTies, .int c_low, .int c_high])), (h_s, .inl (G.2 0, 24, .inl c_s))] := MWi.of (plainFor_of_name (by decide +kernel)) rfl (Nat.le_of_ble_eq_true rfl) (fun p e s m below meth c A C hA hP hD hS ls hl => kX7_told h_this h_s h_draft h_past h_kept h_isKept h_facts h_text c_thrown c_undos c_manyFacts c_typed c_from c_to c_token c_fault c_hasHooks c_hasTies c_low c_high c_s v1 C hA hP hD hS (fun pc ls H locs hP hD hS d => rWi C hP hD hS d) hf hl)
def fX7_places (c_s : Nat → Int32)  : Option (Int32) := some (((c_s 0) * (c_s 2)))
theorem iX7_places_7 : ∀ w ∈ wsX70, w ∈ wsX7_places := fun w h => List.mem_cons_of_mem _ (List.mem_append_right _ (h))
theorem hdX7_places : yX7_places.cls = RX7 ∧ yX7_places.cls ≠ "java/lang/invoke/MethodHandle" ∧ yX7_places.cls ≠ "java/lang/invoke/VarHandle" ∧ (parseMethodDescriptor yX7_places.desc).map (fun d => d.parameters.length) = some 0 := by decide +kernel
abbrev rmX7_places : Room := { frames := 0, cells := 0, slots := 0, locals := 0 }
section SX7_places
variable {p : Program} {l : Launch} {e : Env} {s : State} {m : MethodId} {args : Array Value} {below : List Frame} {meth : Method} {c : Code} {Q : State → Prop} {G : GG}
set_option maxHeartbeats 4000000 in
set_option maxRecDepth 100000 in
theorem kX7_places (h_this : Nat) (h_s : Nat) (h_draft : Nat) (h_past : Nat) (h_kept : Nat) (h_isKept : Nat) (h_facts : Nat) (h_text : Nat) (c_thrown : Int32) (c_undos : Int32) (c_manyFacts : Int32) (c_typed : Int32) (c_from : Int32) (c_to : Int32) (c_token : Int32) (c_fault : Int32) (c_hasHooks : Int32) (c_hasTies : Int32) (c_low : Int32) (c_high : Int32) (c_s : Nat → Int32) (C : Cx cX7_places (some .int) 1 RX7 wsX7_places G p s m args meth c) (hP : va_P G.1 CL [(h_this, .inr (7, [.int c_thrown, .ref h_s, .ref h_draft, .ref h_past, .int c_undos, .ref h_kept, .ref h_isKept, .ref h_facts, .int c_manyFacts, .ref h_text, .int c_typed, .int c_from, .int c_to, .int c_token, .int c_fault, .int c_hasHooks, .int c_hasTies, .int c_low, .int c_high])), (h_s, .inl (G.2 0, 24, .inl c_s))] s.heap) {res : Int32} (kr : ∀ (pc : Nat) (ls : Array Slot), decode cX7_places pc = .ok (.ireturn, 1) → W p l e rmX7_places s m args below meth c s.heap [] 0 0 Q (F0 m pc ls [.int res])) (hf : fX7_places c_s = some res) {ls : Array Slot} (hl : lv_has ls 1 [(0, .ref h_this)]) : W p l e rmX7_places s m args below meth c s.heap [] 0 0 Q (F0 m 0 ls []) := by
  obtain ⟨hx, hb, hr, hlk, hml, hown, hts, hK⟩ := id C
  rw [fX7_places] at hf
  refine lv_aload_n hx hb dX7_places_0 rfl (lv_at hl 0 rfl) ?_
  refine va_get (D := G.1) (cl := CL) (ci := 7) (C := RX7) (T := TX7) (N := 19) hx hb hts iX7_places_7 hown hK hP 0 rfl rfl 1 (by decide) (hts (.fieldLink RX7 7 "LoomCardsModel" "s" "[I") (List.mem_of_getElem? (i := 1) rfl)) (fun _ h9 => h9) rfl dX7_places_1 ?_
  refine lv_iconst (v := (0 : Int32)) hx hb dX7_places_4 (by decide) ?_
  refine r_iald (j := 0) hx hb hK hP 1 rfl (ix_in (n := 24) (by decide)) (by decide) dX7_places_5 ?_
  refine lv_aload_n hx hb dX7_places_6 rfl (lv_at hl 0 rfl) ?_
  refine va_get (D := G.1) (cl := CL) (ci := 7) (C := RX7) (T := TX7) (N := 19) hx hb hts iX7_places_7 hown hK hP 0 rfl rfl 1 (by decide) (hts (.fieldLink RX7 7 "LoomCardsModel" "s" "[I") (List.mem_of_getElem? (i := 1) rfl)) (fun _ h9 => h9) rfl dX7_places_7 ?_
  refine lv_iconst (v := (2 : Int32)) hx hb dX7_places_10 (by decide) ?_
  refine r_iald (j := 2) hx hb hK hP 1 rfl (ix_in (n := 24) (by decide)) (by decide) dX7_places_11 ?_
  refine lv_imul hx hb dX7_places_12 ?_
  obtain rfl := Option.some.inj hf
  exact kr _ _ dX7_places_13
end SX7_places
set_option maxHeartbeats 4000000 in
set_option maxRecDepth 100000 in
theorem tX7_places (l : Launch) (G : GG) (h_this : Nat) (h_s : Nat) (h_draft : Nat) (h_past : Nat) (h_kept : Nat) (h_isKept : Nat) (h_facts : Nat) (h_text : Nat) (c_thrown : Int32) (c_undos : Int32) (c_manyFacts : Int32) (c_typed : Int32) (c_from : Int32) (c_to : Int32) (c_token : Int32) (c_fault : Int32) (c_hasHooks : Int32) (c_hasTies : Int32) (c_low : Int32) (c_high : Int32) (c_s : Nat → Int32) (res : Int32) (hf : fX7_places c_s = some res) : MRi l yX7_places wsX7_places rmX7_places G [.ref h_this] [(h_this, .inr (7, [.int c_thrown, .ref h_s, .ref h_draft, .ref h_past, .int c_undos, .ref h_kept, .ref h_isKept, .ref h_facts, .int c_manyFacts, .ref h_text, .int c_typed, .int c_from, .int c_to, .int c_token, .int c_fault, .int c_hasHooks, .int c_hasTies, .int c_low, .int c_high])), (h_s, .inl (G.2 0, 24, .inl c_s))] (res) := MRi.of (plainFor_of_name (by decide +kernel)) rfl (Nat.le_of_ble_eq_true rfl) (fun p e s m below meth c C hP ls hl => kX7_places h_this h_s h_draft h_past h_kept h_isKept h_facts h_text c_thrown c_undos c_manyFacts c_typed c_from c_to c_token c_fault c_hasHooks c_hasTies c_low c_high c_s C hP (fun pc ls d => rRi C d) hf hl)
def fX7_turnsOver (c_s : Nat → Int32) (v1 : Int32) : Option ((Nat → Int32)) := gd (!decide ((c_s 0) = 0)) (gd (ix ((16 : Int32) + (v1 / (c_s 0))) 24) (gd (!decide ((c_s 0) = 0)) (gd (ix ((16 : Int32) + (v1 / (c_s 0))) 24) (some ((upd c_s ((16 : Int32) + (v1 / (c_s 0))).toNatClampNeg ((c_s ((16 : Int32) + (v1 / (c_s 0))).toNatClampNeg) ^^^ ((1 : Int32) <<< ((v1 - v1 / (c_s 0) * (c_s 0)) &&& 31)))))))))
theorem iX7_turnsOver_7 : ∀ w ∈ wsX70, w ∈ wsX7_turnsOver := fun w h => List.mem_cons_of_mem _ (List.mem_append_right _ (h))
theorem hdX7_turnsOver : yX7_turnsOver.cls = RX7 ∧ yX7_turnsOver.cls ≠ "java/lang/invoke/MethodHandle" ∧ yX7_turnsOver.cls ≠ "java/lang/invoke/VarHandle" ∧ (parseMethodDescriptor yX7_turnsOver.desc).map (fun d => d.parameters.length) = some 1 := by decide +kernel
abbrev rmX7_turnsOver : Room := { frames := 0, cells := 0, slots := 0, locals := 0 }
section SX7_turnsOver
variable {p : Program} {l : Launch} {e : Env} {s : State} {m : MethodId} {args : Array Value} {below : List Frame} {meth : Method} {c : Code} {Q : State → Prop} {G : GG} {A : Nat → Prop}
set_option maxHeartbeats 4000000 in
set_option maxRecDepth 100000 in
theorem kX7_turnsOver (h_this : Nat) (h_s : Nat) (h_draft : Nat) (h_past : Nat) (h_kept : Nat) (h_isKept : Nat) (h_facts : Nat) (h_text : Nat) (c_thrown : Int32) (c_undos : Int32) (c_manyFacts : Int32) (c_typed : Int32) (c_from : Int32) (c_to : Int32) (c_token : Int32) (c_fault : Int32) (c_hasHooks : Int32) (c_hasTies : Int32) (c_low : Int32) (c_high : Int32) (c_s : Nat → Int32) (v1 : Int32) (C : Cx cX7_turnsOver none 2 RX7 wsX7_turnsOver G p s m args meth c) (hA : ∀ q : Nat, s.heap.size ≤ q → A q) (hP : va_P G.1 CL [(h_this, .inr (7, [.int c_thrown, .ref h_s, .ref h_draft, .ref h_past, .int c_undos, .ref h_kept, .ref h_isKept, .ref h_facts, .int c_manyFacts, .ref h_text, .int c_typed, .int c_from, .int c_to, .int c_token, .int c_fault, .int c_hasHooks, .int c_hasTies, .int c_low, .int c_high])), (h_s, .inl (G.2 0, 24, .inl c_s))] s.heap) (hD : va_D A [(h_this, .inr (7, [.int c_thrown, .ref h_s, .ref h_draft, .ref h_past, .int c_undos, .ref h_kept, .ref h_isKept, .ref h_facts, .int c_manyFacts, .ref h_text, .int c_typed, .int c_from, .int c_to, .int c_token, .int c_fault, .int c_hasHooks, .int c_hasTies, .int c_low, .int c_high])), (h_s, .inl (G.2 0, 24, .inl c_s))]) (hS : va_S A s.heap s.heap []) {res : (Nat → Int32)} (kr : ∀ (pc : Nat) (ls : Array Slot) (H : Heap) (locs : List Loc), va_P G.1 CL [(h_this, .inr (7, [.int c_thrown, .ref h_s, .ref h_draft, .ref h_past, .int c_undos, .ref h_kept, .ref h_isKept, .ref h_facts, .int c_manyFacts, .ref h_text, .int c_typed, .int c_from, .int c_to, .int c_token, .int c_fault, .int c_hasHooks, .int c_hasTies, .int c_low, .int c_high])), (h_s, .inl (G.2 0, 24, .inl (res)))] H → va_D A [(h_this, .inr (7, [.int c_thrown, .ref h_s, .ref h_draft, .ref h_past, .int c_undos, .ref h_kept, .ref h_isKept, .ref h_facts, .int c_manyFacts, .ref h_text, .int c_typed, .int c_from, .int c_to, .int c_token, .int c_fault, .int c_hasHooks, .int c_hasTies, .int c_low, .int c_high])), (h_s, .inl (G.2 0, 24, .inl (res)))] → va_S A s.heap H locs → decode cX7_turnsOver pc = .ok (.return_, 1) → W p l e rmX7_turnsOver s m args below meth c H locs 0 0 Q (F0 m pc ls [])) (hf : fX7_turnsOver c_s v1 = some res) {ls : Array Slot} (hl : lv_has ls 2 [(0, .ref h_this), (1, .int v1)]) : W p l e rmX7_turnsOver s m args below meth c s.heap [] 0 0 Q (F0 m 0 ls []) := by
  obtain ⟨hx, hb, hr, hlk, hml, hown, hts, hK⟩ := id C
  rw [fX7_turnsOver] at hf
  refine lv_aload_n hx hb dX7_turnsOver_0 rfl (lv_at hl 0 rfl) ?_
  refine va_get (D := G.1) (cl := CL) (ci := 7) (C := RX7) (T := TX7) (N := 19) hx hb hts iX7_turnsOver_7 hown hK hP 0 rfl rfl 1 (by decide) (hts (.fieldLink RX7 7 "LoomCardsModel" "s" "[I") (List.mem_of_getElem? (i := 1) rfl)) (fun _ h9 => h9) rfl dX7_turnsOver_1 ?_
  refine lv_bipush (v := (16 : Int32)) hx hb dX7_turnsOver_4 (by decide) ?_
  refine lv_iload_n hx hb dX7_turnsOver_6 rfl (lv_at hl 1 rfl) ?_
  refine lv_aload_n hx hb dX7_turnsOver_7 rfl (lv_at hl 0 rfl) ?_
  refine va_get (D := G.1) (cl := CL) (ci := 7) (C := RX7) (T := TX7) (N := 19) hx hb hts iX7_turnsOver_7 hown hK hP 0 rfl rfl 1 (by decide) (hts (.fieldLink RX7 7 "LoomCardsModel" "s" "[I") (List.mem_of_getElem? (i := 1) rfl)) (fun _ h9 => h9) rfl dX7_turnsOver_8 ?_
  refine lv_iconst (v := (0 : Int32)) hx hb dX7_turnsOver_11 (by decide) ?_
  refine r_iald (j := 0) hx hb hK hP 1 rfl (ix_in (n := 24) (by decide)) (by decide) dX7_turnsOver_12 ?_
  refine r_gd hf (fun g9 hf => ?_)
  refine lv_idiv hx hb dX7_turnsOver_13 (nz g9) ?_
  refine lv_iadd hx hb dX7_turnsOver_14 ?_
  refine lv_dup2_11 hx hb dX7_turnsOver_15 rfl rfl ?_
  refine r_gd hf (fun g9 hf => ?_)
  refine r_iald hx hb hK hP 1 rfl (ix_in g9) rfl dX7_turnsOver_16 ?_
  refine lv_iconst (v := (1 : Int32)) hx hb dX7_turnsOver_17 (by decide) ?_
  refine lv_iload_n hx hb dX7_turnsOver_18 rfl (lv_at hl 1 rfl) ?_
  refine lv_aload_n hx hb dX7_turnsOver_19 rfl (lv_at hl 0 rfl) ?_
  refine va_get (D := G.1) (cl := CL) (ci := 7) (C := RX7) (T := TX7) (N := 19) hx hb hts iX7_turnsOver_7 hown hK hP 0 rfl rfl 1 (by decide) (hts (.fieldLink RX7 7 "LoomCardsModel" "s" "[I") (List.mem_of_getElem? (i := 1) rfl)) (fun _ h9 => h9) rfl dX7_turnsOver_20 ?_
  refine lv_iconst (v := (0 : Int32)) hx hb dX7_turnsOver_23 (by decide) ?_
  refine r_iald (j := 0) hx hb hK hP 1 rfl (ix_in (n := 24) (by decide)) (by decide) dX7_turnsOver_24 ?_
  refine r_gd hf (fun g9 hf => ?_)
  refine lv_irem hx hb dX7_turnsOver_25 (nz g9) ?_
  refine lv_ishl hx hb dX7_turnsOver_26 ?_
  refine lv_ixor hx hb dX7_turnsOver_27 ?_
  refine r_gd hf (fun g9 hf => ?_)
  refine r_iast hx hb hK hP hD hS 1 rfl (ix_in g9) rfl dX7_turnsOver_28 (fun H locs hP hD hS => ?_)
  have hP : va_P G.1 CL [(h_this, .inr (7, [.int c_thrown, .ref h_s, .ref h_draft, .ref h_past, .int c_undos, .ref h_kept, .ref h_isKept, .ref h_facts, .int c_manyFacts, .ref h_text, .int c_typed, .int c_from, .int c_to, .int c_token, .int c_fault, .int c_hasHooks, .int c_hasTies, .int c_low, .int c_high])), (h_s, .inl (G.2 0, 24, .inl (upd c_s ((16 : Int32) + (v1 / (c_s 0))).toNatClampNeg ((c_s ((16 : Int32) + (v1 / (c_s 0))).toNatClampNeg) ^^^ ((1 : Int32) <<< ((v1 - v1 / (c_s 0) * (c_s 0)) &&& 31))))))] H := hP
  have hD : va_D A [(h_this, .inr (7, [.int c_thrown, .ref h_s, .ref h_draft, .ref h_past, .int c_undos, .ref h_kept, .ref h_isKept, .ref h_facts, .int c_manyFacts, .ref h_text, .int c_typed, .int c_from, .int c_to, .int c_token, .int c_fault, .int c_hasHooks, .int c_hasTies, .int c_low, .int c_high])), (h_s, .inl (G.2 0, 24, .inl (upd c_s ((16 : Int32) + (v1 / (c_s 0))).toNatClampNeg ((c_s ((16 : Int32) + (v1 / (c_s 0))).toNatClampNeg) ^^^ ((1 : Int32) <<< ((v1 - v1 / (c_s 0) * (c_s 0)) &&& 31))))))] := hD
  obtain rfl := Option.some.inj hf
  exact kr _ _ _ _ hP hD hS dX7_turnsOver_29
end SX7_turnsOver
set_option maxHeartbeats 4000000 in
set_option maxRecDepth 100000 in
theorem tX7_turnsOver (l : Launch) (G : GG) (h_this : Nat) (h_s : Nat) (h_draft : Nat) (h_past : Nat) (h_kept : Nat) (h_isKept : Nat) (h_facts : Nat) (h_text : Nat) (c_thrown : Int32) (c_undos : Int32) (c_manyFacts : Int32) (c_typed : Int32) (c_from : Int32) (c_to : Int32) (c_token : Int32) (c_fault : Int32) (c_hasHooks : Int32) (c_hasTies : Int32) (c_low : Int32) (c_high : Int32) (c_s : Nat → Int32) (v1 : Int32) (res : (Nat → Int32)) (hf : fX7_turnsOver c_s v1 = some res) : MWv l yX7_turnsOver wsX7_turnsOver rmX7_turnsOver G [.ref h_this, .int v1] [(h_this, .inr (7, [.int c_thrown, .ref h_s, .ref h_draft, .ref h_past, .int c_undos, .ref h_kept, .ref h_isKept, .ref h_facts, .int c_manyFacts, .ref h_text, .int c_typed, .int c_from, .int c_to, .int c_token, .int c_fault, .int c_hasHooks, .int c_hasTies, .int c_low, .int c_high])), (h_s, .inl (G.2 0, 24, .inl c_s))] [(h_this, .inr (7, [.int c_thrown, .ref h_s, .ref h_draft, .ref h_past, .int c_undos, .ref h_kept, .ref h_isKept, .ref h_facts, .int c_manyFacts, .ref h_text, .int c_typed, .int c_from, .int c_to, .int c_token, .int c_fault, .int c_hasHooks, .int c_hasTies, .int c_low, .int c_high])), (h_s, .inl (G.2 0, 24, .inl (res)))] := MWv.of (plainFor_of_name (by decide +kernel)) rfl (Nat.le_of_ble_eq_true rfl) (fun p e s m below meth c A C hA hP hD hS ls hl => kX7_turnsOver h_this h_s h_draft h_past h_kept h_isKept h_facts h_text c_thrown c_undos c_manyFacts c_typed c_from c_to c_token c_fault c_hasHooks c_hasTies c_low c_high c_s v1 C hA hP hD hS (fun pc ls H locs hP hD hS d => rWv C hP hD hS d) hf hl)
def fX7_isFine (c_s : Nat → Int32)  : Option (Int32) := (fX7_longCards c_s).bind (fun u1 => if u1 = 0 then (fX7_longEnds c_s).bind (fun u2 => if u2 = 0 then some ((1 : Int32)) else some ((0 : Int32))) else some ((0 : Int32)))
theorem iX7_isFine_7 : ∀ w ∈ wsX70, w ∈ wsX7_isFine := fun w h => List.mem_cons_of_mem _ (List.mem_append_right _ (h))
theorem hdX7_isFine : yX7_isFine.cls = RX7 ∧ yX7_isFine.cls ≠ "java/lang/invoke/MethodHandle" ∧ yX7_isFine.cls ≠ "java/lang/invoke/VarHandle" ∧ (parseMethodDescriptor yX7_isFine.desc).map (fun d => d.parameters.length) = some 0 := by decide +kernel
abbrev rmX7_isFine : Room := { frames := 3, cells := 0, slots := 0, locals := 68 }
section SX7_isFine
variable {p : Program} {l : Launch} {e : Env} {s : State} {m : MethodId} {args : Array Value} {below : List Frame} {meth : Method} {c : Code} {Q : State → Prop} {G : GG}
set_option maxHeartbeats 4000000 in
set_option maxRecDepth 100000 in
theorem kX7_isFine (h_this : Nat) (h_s : Nat) (h_draft : Nat) (h_past : Nat) (h_kept : Nat) (h_isKept : Nat) (h_facts : Nat) (h_text : Nat) (c_thrown : Int32) (c_undos : Int32) (c_manyFacts : Int32) (c_typed : Int32) (c_from : Int32) (c_to : Int32) (c_token : Int32) (c_fault : Int32) (c_hasHooks : Int32) (c_hasTies : Int32) (c_low : Int32) (c_high : Int32) (c_s : Nat → Int32) (C : Cx cX7_isFine (some .boolean) 1 RX7 wsX7_isFine G p s m args meth c) (hP : va_P G.1 CL [(h_this, .inr (7, [.int c_thrown, .ref h_s, .ref h_draft, .ref h_past, .int c_undos, .ref h_kept, .ref h_isKept, .ref h_facts, .int c_manyFacts, .ref h_text, .int c_typed, .int c_from, .int c_to, .int c_token, .int c_fault, .int c_hasHooks, .int c_hasTies, .int c_low, .int c_high])), (h_s, .inl (G.2 0, 24, .inl c_s))] s.heap) {res : Int32} (kr : ∀ (pc : Nat) (ls : Array Slot), narrow .boolean (.int res) = .int res → decode cX7_isFine pc = .ok (.ireturn, 1) → W p l e rmX7_isFine s m args below meth c s.heap [] 0 0 Q (F0 m pc ls [.int res])) (hf : fX7_isFine c_s = some res) {ls : Array Slot} (hl : lv_has ls 1 [(0, .ref h_this)]) : W p l e rmX7_isFine s m args below meth c s.heap [] 0 0 Q (F0 m 0 ls []) := by
  obtain ⟨hx, hb, hr, hlk, hml, hown, hts, hK⟩ := id C
  rw [fX7_isFine] at hf
  refine lv_aload_n hx hb dX7_isFine_0 rfl (lv_at hl 0 rfl) ?_
  refine r_bind hf (fun u1 hu1 hf => ?_)
  refine cRiV (ci := 7) (rest := []) ⟨hx, hb, hml, hown, hts⟩ hK (tX7_longCards l G h_this h_s h_draft h_past h_kept h_isKept h_facts h_text c_thrown c_undos c_manyFacts c_typed c_from c_to c_token c_fault c_hasHooks c_hasTies c_low c_high c_s u1 hu1) gX7_isFine_X7_longCards rfl hdX7_longCards rfl rfl rfl ⟨Nat.le_of_ble_eq_true rfl, Nat.le_of_ble_eq_true rfl⟩ hP [0, 1] rfl 0 rfl rfl rfl hl.1 (Nat.le_of_ble_eq_true rfl) rfl dX7_isFine_1 ⟨Nat.zero_le _, Nat.zero_le _⟩ ?_
  refine lv_if_ne (tgt := 18) hx hb dX7_isFine_4 (by decide) (fun c9 => ?_) (fun c9 => ?_)
  · have hf := c_f hf c9
    refine lv_iconst (v := (0 : Int32)) hx hb dX7_isFine_18 (by decide) ?_
    obtain rfl := Option.some.inj hf
    exact kr _ _ nb0 dX7_isFine_19
  · have hf := c_t hf c9
    refine lv_aload_n hx hb dX7_isFine_7 rfl (lv_at hl 0 rfl) ?_
    refine r_bind hf (fun u2 hu2 hf => ?_)
    refine cRiV (ci := 7) (rest := []) ⟨hx, hb, hml, hown, hts⟩ hK (tX7_longEnds l G h_this h_s h_draft h_past h_kept h_isKept h_facts h_text c_thrown c_undos c_manyFacts c_typed c_from c_to c_token c_fault c_hasHooks c_hasTies c_low c_high c_s u2 hu2) gX7_isFine_X7_longEnds rfl hdX7_longEnds rfl rfl rfl ⟨Nat.le_of_ble_eq_true rfl, Nat.le_of_ble_eq_true rfl⟩ hP [0, 1] rfl 0 rfl rfl rfl hl.1 (Nat.le_of_ble_eq_true rfl) rfl dX7_isFine_8 ⟨Nat.zero_le _, Nat.zero_le _⟩ ?_
    refine lv_if_ne (tgt := 18) hx hb dX7_isFine_11 (by decide) (fun c9 => ?_) (fun c9 => ?_)
    · have hf := c_f hf c9
      refine lv_iconst (v := (0 : Int32)) hx hb dX7_isFine_18 (by decide) ?_
      obtain rfl := Option.some.inj hf
      exact kr _ _ nb0 dX7_isFine_19
    · have hf := c_t hf c9
      refine lv_iconst (v := (1 : Int32)) hx hb dX7_isFine_14 (by decide) ?_
      refine lv_goto (tgt := 19) hx hb dX7_isFine_15 (by decide) ?_
      obtain rfl := Option.some.inj hf
      exact kr _ _ nb1 dX7_isFine_19
end SX7_isFine
set_option maxHeartbeats 4000000 in
set_option maxRecDepth 100000 in
theorem tX7_isFine (l : Launch) (G : GG) (h_this : Nat) (h_s : Nat) (h_draft : Nat) (h_past : Nat) (h_kept : Nat) (h_isKept : Nat) (h_facts : Nat) (h_text : Nat) (c_thrown : Int32) (c_undos : Int32) (c_manyFacts : Int32) (c_typed : Int32) (c_from : Int32) (c_to : Int32) (c_token : Int32) (c_fault : Int32) (c_hasHooks : Int32) (c_hasTies : Int32) (c_low : Int32) (c_high : Int32) (c_s : Nat → Int32) (res : Int32) (hf : fX7_isFine c_s = some res) : MRi l yX7_isFine wsX7_isFine rmX7_isFine G [.ref h_this] [(h_this, .inr (7, [.int c_thrown, .ref h_s, .ref h_draft, .ref h_past, .int c_undos, .ref h_kept, .ref h_isKept, .ref h_facts, .int c_manyFacts, .ref h_text, .int c_typed, .int c_from, .int c_to, .int c_token, .int c_fault, .int c_hasHooks, .int c_hasTies, .int c_low, .int c_high])), (h_s, .inl (G.2 0, 24, .inl c_s))] (res) := MRi.of (plainFor_of_name (by decide +kernel)) rfl (Nat.le_of_ble_eq_true rfl) (fun p e s m below meth c C hP ls hl => kX7_isFine h_this h_s h_draft h_past h_kept h_isKept h_facts h_text c_thrown c_undos c_manyFacts c_typed c_from c_to c_token c_fault c_hasHooks c_hasTies c_low c_high c_s C hP (fun pc ls hn d => rRz C hn d) hf hl)
def fX7_mending_L23 (k73 : Int32 → (Nat → Int32) → Option (Int32 × Int32 × Int32 × (Nat → Int32)))  : Nat → Int32 → Int32 → (Nat → Int32) → Option (Int32 × Int32 × Int32 × (Nat → Int32))
  | 0, _, _, _ => none
  | n + 1, v1, c_low, c_s => (fX7_places c_s).bind (fun u2 => if u2 ≤ v1 then k73 c_low c_s else if c_low = (-9 : Int32) then (fX7_turnsOver c_s v1).bind (fun u3 => (fX7_isFine u3).bind (fun u4 => jn (fun (j59_0 : Int32) => (fX7_turnsOver u3 v1).bind (fun u5 => fX7_mending_L23 k73 n (v1 + (1 : Int32)) j59_0 u5)) (fun J59 => if u4 = 0 then J59 (-9 : Int32) else J59 v1))) else k73 c_low c_s)
def fX7_mending_L112 (k181 : Int32 → Int32 → (Nat → Int32) → Option (Int32 × Int32 × Int32 × (Nat → Int32))) (v1 : Int32) : Nat → Int32 → Int32 → Int32 → (Nat → Int32) → Option (Int32 × Int32 × Int32 × (Nat → Int32))
  | 0, _, _, _, _ => none
  | n + 1, v2, c_low, c_high, c_s => (fX7_places c_s).bind (fun u9 => if u9 ≤ v2 then k181 c_low c_high c_s else if c_low = (-9 : Int32) then (fX7_turnsOver c_s v2).bind (fun u10 => (fX7_isFine u10).bind (fun u11 => jn (fun (j148_0 : Int32) => jn (fun (j167_0 : Int32) => (fX7_turnsOver u10 v2).bind (fun u12 => fX7_mending_L112 k181 v1 n (v2 + (1 : Int32)) j148_0 j167_0 u12)) (fun J167 => if j148_0 = (-9 : Int32) then J167 (-9 : Int32) else J167 v2)) (fun J148 => if u11 = 0 then J148 (-9 : Int32) else J148 v1))) else k181 c_low c_high c_s)
def fX7_mending_L86 (k192 : Int32 → Int32 → (Nat → Int32) → Option (Int32 × Int32 × Int32 × (Nat → Int32)))  : Nat → Int32 → Int32 → Int32 → (Nat → Int32) → Option (Int32 × Int32 × Int32 × (Nat → Int32))
  | 0, _, _, _, _ => none
  | n + 1, v1, c_low, c_high, c_s => (fX7_places c_s).bind (fun u7 => if u7 ≤ v1 then k192 c_low c_high c_s else if c_low = (-9 : Int32) then (fX7_turnsOver c_s v1).bind (fun u8 => (fX7_mending_L112 (fun (c_low_x13 : Int32) (c_high_x13 : Int32) (c_s_x13 : Nat → Int32) => (fX7_turnsOver c_s_x13 v1).bind (fun u14 => fX7_mending_L86 k192 n (v1 + (1 : Int32)) c_low_x13 c_high_x13 u14)) v1 FU (v1 + (1 : Int32)) c_low c_high u8)) else k192 c_low c_high c_s)
def fX7_mending (c_low : Int32) (c_high : Int32) (c_s : Nat → Int32)  : Option (Int32 × Int32 × Int32 × (Nat → Int32)) := (fX7_isFine c_s).bind (fun u1 => if u1 = 0 then (fX7_mending_L23 (fun (c_low_x6 : Int32) (c_s_x6 : Nat → Int32) => if c_low_x6 = (-9 : Int32) then (fX7_mending_L86 (fun (c_low_x15 : Int32) (c_high_x15 : Int32) (c_s_x15 : Nat → Int32) => if c_low_x15 = (-9 : Int32) then some ((-9 : Int32), c_low_x15, c_high_x15, c_s_x15) else some ((2 : Int32), c_low_x15, c_high_x15, c_s_x15)) FU (0 : Int32) c_low_x6 (-9 : Int32) c_s_x6) else some ((1 : Int32), c_low_x6, (-9 : Int32), c_s_x6)) FU (0 : Int32) (-9 : Int32) c_s) else some ((0 : Int32), (-9 : Int32), (-9 : Int32), c_s))
theorem iX7_mending_7 : ∀ w ∈ wsX70, w ∈ wsX7_mending := fun w h => List.mem_cons_of_mem _ (List.mem_append_right _ (h))
theorem hdX7_mending : yX7_mending.cls = RX7 ∧ yX7_mending.cls ≠ "java/lang/invoke/MethodHandle" ∧ yX7_mending.cls ≠ "java/lang/invoke/VarHandle" ∧ (parseMethodDescriptor yX7_mending.desc).map (fun d => d.parameters.length) = some 0 := by decide +kernel
abbrev rmX7_mending : Room := { frames := 4, cells := 0, slots := 0, locals := 88 }
section SX7_mending
variable {p : Program} {l : Launch} {e : Env} {s : State} {m : MethodId} {args : Array Value} {below : List Frame} {meth : Method} {c : Code} {Q : State → Prop} {G : GG} {A : Nat → Prop}
set_option maxHeartbeats 4000000 in
set_option maxRecDepth 100000 in
theorem kX7_mending_L23 (h_this : Nat) (h_s : Nat) (h_draft : Nat) (h_past : Nat) (h_kept : Nat) (h_isKept : Nat) (h_facts : Nat) (h_text : Nat) (c_thrown : Int32) (c_undos : Int32) (c_manyFacts : Int32) (c_typed : Int32) (c_from : Int32) (c_to : Int32) (c_token : Int32) (c_fault : Int32) (c_hasHooks : Int32) (c_hasTies : Int32) (c_high : Int32) (C : Cx cX7_mending (some .int) 3 RX7 wsX7_mending G p s m args meth c) (hA : ∀ q : Nat, s.heap.size ≤ q → A q) {res : Int32 × Int32 × Int32 × (Nat → Int32)} (kr : ∀ (pc : Nat) (ls : Array Slot) (H : Heap) (locs : List Loc), va_P G.1 CL [(h_this, .inr (7, [.int c_thrown, .ref h_s, .ref h_draft, .ref h_past, .int c_undos, .ref h_kept, .ref h_isKept, .ref h_facts, .int c_manyFacts, .ref h_text, .int c_typed, .int c_from, .int c_to, .int c_token, .int c_fault, .int c_hasHooks, .int c_hasTies, .int (res.2.1), .int (res.2.2.1)])), (h_s, .inl (G.2 0, 24, .inl (res.2.2.2)))] H → va_D A [(h_this, .inr (7, [.int c_thrown, .ref h_s, .ref h_draft, .ref h_past, .int c_undos, .ref h_kept, .ref h_isKept, .ref h_facts, .int c_manyFacts, .ref h_text, .int c_typed, .int c_from, .int c_to, .int c_token, .int c_fault, .int c_hasHooks, .int c_hasTies, .int (res.2.1), .int (res.2.2.1)])), (h_s, .inl (G.2 0, 24, .inl (res.2.2.2)))] → va_S A s.heap H locs → decode cX7_mending pc = .ok (.ireturn, 1) → W p l e rmX7_mending s m args below meth c H locs 0 0 Q (F0 m pc ls [.int res.1])) {k73 : Int32 → (Nat → Int32) → Option (Int32 × Int32 × Int32 × (Nat → Int32))} (hk73 : ∀ (c_low : Int32) (c_s : Nat → Int32) (H : Heap) (locs : List Loc), k73 c_low c_s = some res → va_P G.1 CL [(h_this, .inr (7, [.int c_thrown, .ref h_s, .ref h_draft, .ref h_past, .int c_undos, .ref h_kept, .ref h_isKept, .ref h_facts, .int c_manyFacts, .ref h_text, .int c_typed, .int c_from, .int c_to, .int c_token, .int c_fault, .int c_hasHooks, .int c_hasTies, .int c_low, .int c_high])), (h_s, .inl (G.2 0, 24, .inl c_s))] H → va_D A [(h_this, .inr (7, [.int c_thrown, .ref h_s, .ref h_draft, .ref h_past, .int c_undos, .ref h_kept, .ref h_isKept, .ref h_facts, .int c_manyFacts, .ref h_text, .int c_typed, .int c_from, .int c_to, .int c_token, .int c_fault, .int c_hasHooks, .int c_hasTies, .int c_low, .int c_high])), (h_s, .inl (G.2 0, 24, .inl c_s))] → va_S A s.heap H locs → ∀ (ls : Array Slot), lv_has ls 3 [(0, .ref h_this)] → W p l e rmX7_mending s m args below meth c H locs 0 0 Q (F0 m 73 ls [])) : ∀ (n : Nat) (v1 : Int32) (c_low : Int32) (c_s : Nat → Int32) (H : Heap) (locs : List Loc), fX7_mending_L23 k73 n v1 c_low c_s = some res → va_P G.1 CL [(h_this, .inr (7, [.int c_thrown, .ref h_s, .ref h_draft, .ref h_past, .int c_undos, .ref h_kept, .ref h_isKept, .ref h_facts, .int c_manyFacts, .ref h_text, .int c_typed, .int c_from, .int c_to, .int c_token, .int c_fault, .int c_hasHooks, .int c_hasTies, .int c_low, .int c_high])), (h_s, .inl (G.2 0, 24, .inl c_s))] H → va_D A [(h_this, .inr (7, [.int c_thrown, .ref h_s, .ref h_draft, .ref h_past, .int c_undos, .ref h_kept, .ref h_isKept, .ref h_facts, .int c_manyFacts, .ref h_text, .int c_typed, .int c_from, .int c_to, .int c_token, .int c_fault, .int c_hasHooks, .int c_hasTies, .int c_low, .int c_high])), (h_s, .inl (G.2 0, 24, .inl c_s))] → va_S A s.heap H locs → ∀ (ls : Array Slot), lv_has ls 3 [(0, .ref h_this), (1, .int v1)] → W p l e rmX7_mending s m args below meth c H locs 0 0 Q (F0 m 23 ls []) := by
  obtain ⟨hx, hb, hr, hlk, hml, hown, hts, hK⟩ := id C
  intro n
  induction n with
  | zero =>
    intro v1 c_low c_s H locs hf
    cases hf
  | succ n ih =>
    intro v1 c_low c_s H locs hf hP hD hS ls hl
    rw [fX7_mending_L23] at hf
    refine lv_iload_n hx hb dX7_mending_23 rfl (lv_at hl 1 rfl) ?_
    refine lv_aload_n hx hb dX7_mending_24 rfl (lv_at hl 0 rfl) ?_
    refine r_bind hf (fun u2 hu2 hf => ?_)
    refine cRiV (ci := 7) (rest := [.int v1]) ⟨hx, hb, hml, hown, hts⟩ hK (tX7_places l G h_this h_s h_draft h_past h_kept h_isKept h_facts h_text c_thrown c_undos c_manyFacts c_typed c_from c_to c_token c_fault c_hasHooks c_hasTies c_low c_high c_s u2 hu2) gX7_mending_X7_places rfl hdX7_places rfl rfl rfl ⟨Nat.le_of_ble_eq_true rfl, Nat.le_of_ble_eq_true rfl⟩ hP [0, 1] rfl 0 rfl rfl rfl hl.1 (Nat.le_of_ble_eq_true rfl) rfl dX7_mending_25 ⟨Nat.zero_le _, Nat.zero_le _⟩ ?_
    refine lv_icmp_ge (tgt := 73) hx hb dX7_mending_28 (by decide) (fun c9 => ?_) (fun c9 => ?_)
    · have hf := c_t hf c9
      exact hk73 c_low c_s _ _ hf hP hD hS _ (lv_sub hl [0] rfl)
    · have hf := c_f hf c9
      refine lv_aload_n hx hb dX7_mending_31 rfl (lv_at hl 0 rfl) ?_
      refine va_get (D := G.1) (cl := CL) (ci := 7) (C := RX7) (T := TX7) (N := 19) hx hb hts iX7_mending_7 hown hK hP 0 rfl rfl 17 (by decide) (hts (.fieldLink RX7 164 "LoomCardsModel" "low" "I") (List.mem_of_getElem? (i := 1) rfl)) (fun _ h9 => h9) rfl dX7_mending_32 ?_
      refine lv_bipush (v := (-9 : Int32)) hx hb dX7_mending_35 (by decide) ?_
      refine lv_icmp_ne (tgt := 73) hx hb dX7_mending_37 (by decide) (fun c9 => ?_) (fun c9 => ?_)
      · have hf := c_f hf c9
        exact hk73 c_low c_s _ _ hf hP hD hS _ (lv_sub hl [0] rfl)
      · have hf := c_t hf c9
        refine lv_aload_n hx hb dX7_mending_40 rfl (lv_at hl 0 rfl) ?_
        refine lv_iload_n hx hb dX7_mending_41 rfl (lv_at hl 1 rfl) ?_
        refine r_bind hf (fun u3 hu3 hf => ?_)
        refine cWvV (ci := 7) (rest := []) (wr := []) (wf := [(h_this, .inr (7, [.int c_thrown, .ref h_s, .ref h_draft, .ref h_past, .int c_undos, .ref h_kept, .ref h_isKept, .ref h_facts, .int c_manyFacts, .ref h_text, .int c_typed, .int c_from, .int c_to, .int c_token, .int c_fault, .int c_hasHooks, .int c_hasTies, .int c_low, .int c_high])), (h_s, .inl (G.2 0, 24, .inl u3))]) ⟨hx, hb, hml, hown, hts⟩ hK (tX7_turnsOver l G h_this h_s h_draft h_past h_kept h_isKept h_facts h_text c_thrown c_undos c_manyFacts c_typed c_from c_to c_token c_fault c_hasHooks c_hasTies c_low c_high c_s v1 u3 hu3) gX7_mending_X7_turnsOver rfl hdX7_turnsOver rfl rfl rfl ⟨Nat.le_of_ble_eq_true rfl, Nat.le_of_ble_eq_true rfl⟩ hP hD hS hA [0, 1] [] [0, 1] rfl rfl rfl (by decide) (by decide) (by decide) (by decide) 0 rfl rfl rfl hl.1 (Nat.le_of_ble_eq_true rfl) rfl dX7_mending_42 ⟨Nat.zero_le _, Nat.zero_le _⟩ (fun H locs hP hD hS => ?_)
        refine lv_aload_n hx hb dX7_mending_45 rfl (lv_at hl 0 rfl) ?_
        refine lv_aload_n hx hb dX7_mending_46 rfl (lv_at hl 0 rfl) ?_
        refine r_bind hf (fun u4 hu4 hf => ?_)
        refine cRiV (ci := 7) (rest := [.ref h_this]) ⟨hx, hb, hml, hown, hts⟩ hK (tX7_isFine l G h_this h_s h_draft h_past h_kept h_isKept h_facts h_text c_thrown c_undos c_manyFacts c_typed c_from c_to c_token c_fault c_hasHooks c_hasTies c_low c_high u3 u4 hu4) gX7_mending_X7_isFine rfl hdX7_isFine rfl rfl rfl ⟨Nat.le_of_ble_eq_true rfl, Nat.le_of_ble_eq_true rfl⟩ hP [0, 1] rfl 0 rfl rfl rfl hl.1 (Nat.le_of_ble_eq_true rfl) rfl dX7_mending_47 ⟨Nat.zero_le _, Nat.zero_le _⟩ ?_
        refine r_jn1 hf (fun J59 eJ59 hf => ?_)
        have hJ59 : ∀ (j59_0 : Int32) (H : Heap) (locs : List Loc), J59 j59_0 = some res → va_P G.1 CL [(h_this, .inr (7, [.int c_thrown, .ref h_s, .ref h_draft, .ref h_past, .int c_undos, .ref h_kept, .ref h_isKept, .ref h_facts, .int c_manyFacts, .ref h_text, .int c_typed, .int c_from, .int c_to, .int c_token, .int c_fault, .int c_hasHooks, .int c_hasTies, .int c_low, .int c_high])), (h_s, .inl (G.2 0, 24, .inl u3))] H → va_D A [(h_this, .inr (7, [.int c_thrown, .ref h_s, .ref h_draft, .ref h_past, .int c_undos, .ref h_kept, .ref h_isKept, .ref h_facts, .int c_manyFacts, .ref h_text, .int c_typed, .int c_from, .int c_to, .int c_token, .int c_fault, .int c_hasHooks, .int c_hasTies, .int c_low, .int c_high])), (h_s, .inl (G.2 0, 24, .inl u3))] → va_S A s.heap H locs → ∀ (ls : Array Slot), lv_has ls 3 [(0, .ref h_this), (1, .int v1)] → W p l e rmX7_mending s m args below meth c H locs 0 0 Q (F0 m 59 ls [.int j59_0, .ref h_this]) := by
          intro j59_0 H locs hf hP hD hS ls hl
          rw [eJ59] at hf
          refine va_put (D := G.1) (cl := CL) (ci := 7) (v := .int j59_0) (ty := .int) (C := RX7) (T := TX7) (N := 19) hx hb hts iX7_mending_7 tyX7 tyX7_ok nmX7 hown hK hP hD hS 0 rfl rfl 17 (by decide) (hts (.fieldLink RX7 164 "LoomCardsModel" "low" "I") (List.mem_of_getElem? (i := 1) rfl)) (fun _ h9 => h9) rfl (tyX7_ok 17 (by decide)) rfl rfl (Nat.le_of_ble_eq_true rfl) dX7_mending_59 (fun H locs hP hD hS => ?_)
          have hP : va_P G.1 CL [(h_this, .inr (7, [.int c_thrown, .ref h_s, .ref h_draft, .ref h_past, .int c_undos, .ref h_kept, .ref h_isKept, .ref h_facts, .int c_manyFacts, .ref h_text, .int c_typed, .int c_from, .int c_to, .int c_token, .int c_fault, .int c_hasHooks, .int c_hasTies, .int j59_0, .int c_high])), (h_s, .inl (G.2 0, 24, .inl u3))] H := hP
          have hD : va_D A [(h_this, .inr (7, [.int c_thrown, .ref h_s, .ref h_draft, .ref h_past, .int c_undos, .ref h_kept, .ref h_isKept, .ref h_facts, .int c_manyFacts, .ref h_text, .int c_typed, .int c_from, .int c_to, .int c_token, .int c_fault, .int c_hasHooks, .int c_hasTies, .int j59_0, .int c_high])), (h_s, .inl (G.2 0, 24, .inl u3))] := hD
          refine lv_aload_n hx hb dX7_mending_62 rfl (lv_at hl 0 rfl) ?_
          refine lv_iload_n hx hb dX7_mending_63 rfl (lv_at hl 1 rfl) ?_
          refine r_bind hf (fun u5 hu5 hf => ?_)
          refine cWvV (ci := 7) (rest := []) (wr := []) (wf := [(h_this, .inr (7, [.int c_thrown, .ref h_s, .ref h_draft, .ref h_past, .int c_undos, .ref h_kept, .ref h_isKept, .ref h_facts, .int c_manyFacts, .ref h_text, .int c_typed, .int c_from, .int c_to, .int c_token, .int c_fault, .int c_hasHooks, .int c_hasTies, .int j59_0, .int c_high])), (h_s, .inl (G.2 0, 24, .inl u5))]) ⟨hx, hb, hml, hown, hts⟩ hK (tX7_turnsOver l G h_this h_s h_draft h_past h_kept h_isKept h_facts h_text c_thrown c_undos c_manyFacts c_typed c_from c_to c_token c_fault c_hasHooks c_hasTies j59_0 c_high u3 v1 u5 hu5) gX7_mending_X7_turnsOver rfl hdX7_turnsOver rfl rfl rfl ⟨Nat.le_of_ble_eq_true rfl, Nat.le_of_ble_eq_true rfl⟩ hP hD hS hA [0, 1] [] [0, 1] rfl rfl rfl (by decide) (by decide) (by decide) (by decide) 0 rfl rfl rfl hl.1 (Nat.le_of_ble_eq_true rfl) rfl dX7_mending_64 ⟨Nat.zero_le _, Nat.zero_le _⟩ (fun H locs hP hD hS => ?_)
          refine lv_iinc (v := (v1 + (1 : Int32))) (lv' := [(1, .int (v1 + (1 : Int32))), (0, .ref h_this)]) hx hb dX7_mending_67 hl (k := 1) rfl rfl (by decide) rfl (fun ls hl => ?_)
          refine lv_goto (tgt := 23) hx hb dX7_mending_70 (by decide) ?_
          exact ih (v1 + (1 : Int32)) j59_0 u5 _ _ hf hP hD hS _ (lv_sub hl [1, 0] rfl)
        refine lv_if_eq (tgt := 57) hx hb dX7_mending_50 (by decide) (fun c9 => ?_) (fun c9 => ?_)
        · have hf := c_t hf c9
          refine lv_bipush (v := (-9 : Int32)) hx hb dX7_mending_57 (by decide) ?_
          exact hJ59 (-9 : Int32) _ _ hf hP hD hS _ (lv_sub hl [0, 1] rfl)
        · have hf := c_f hf c9
          refine lv_iload_n hx hb dX7_mending_53 rfl (lv_at hl 1 rfl) ?_
          refine lv_goto (tgt := 59) hx hb dX7_mending_54 (by decide) ?_
          exact hJ59 v1 _ _ hf hP hD hS _ (lv_sub hl [0, 1] rfl)
set_option maxHeartbeats 4000000 in
set_option maxRecDepth 100000 in
theorem kX7_mending_L112 (h_this : Nat) (h_s : Nat) (h_draft : Nat) (h_past : Nat) (h_kept : Nat) (h_isKept : Nat) (h_facts : Nat) (h_text : Nat) (c_thrown : Int32) (c_undos : Int32) (c_manyFacts : Int32) (c_typed : Int32) (c_from : Int32) (c_to : Int32) (c_token : Int32) (c_fault : Int32) (c_hasHooks : Int32) (c_hasTies : Int32) (v1 : Int32) (C : Cx cX7_mending (some .int) 3 RX7 wsX7_mending G p s m args meth c) (hA : ∀ q : Nat, s.heap.size ≤ q → A q) {res : Int32 × Int32 × Int32 × (Nat → Int32)} (kr : ∀ (pc : Nat) (ls : Array Slot) (H : Heap) (locs : List Loc), va_P G.1 CL [(h_this, .inr (7, [.int c_thrown, .ref h_s, .ref h_draft, .ref h_past, .int c_undos, .ref h_kept, .ref h_isKept, .ref h_facts, .int c_manyFacts, .ref h_text, .int c_typed, .int c_from, .int c_to, .int c_token, .int c_fault, .int c_hasHooks, .int c_hasTies, .int (res.2.1), .int (res.2.2.1)])), (h_s, .inl (G.2 0, 24, .inl (res.2.2.2)))] H → va_D A [(h_this, .inr (7, [.int c_thrown, .ref h_s, .ref h_draft, .ref h_past, .int c_undos, .ref h_kept, .ref h_isKept, .ref h_facts, .int c_manyFacts, .ref h_text, .int c_typed, .int c_from, .int c_to, .int c_token, .int c_fault, .int c_hasHooks, .int c_hasTies, .int (res.2.1), .int (res.2.2.1)])), (h_s, .inl (G.2 0, 24, .inl (res.2.2.2)))] → va_S A s.heap H locs → decode cX7_mending pc = .ok (.ireturn, 1) → W p l e rmX7_mending s m args below meth c H locs 0 0 Q (F0 m pc ls [.int res.1])) {k181 : Int32 → Int32 → (Nat → Int32) → Option (Int32 × Int32 × Int32 × (Nat → Int32))} (hk181 : ∀ (c_low : Int32) (c_high : Int32) (c_s : Nat → Int32) (H : Heap) (locs : List Loc), k181 c_low c_high c_s = some res → va_P G.1 CL [(h_this, .inr (7, [.int c_thrown, .ref h_s, .ref h_draft, .ref h_past, .int c_undos, .ref h_kept, .ref h_isKept, .ref h_facts, .int c_manyFacts, .ref h_text, .int c_typed, .int c_from, .int c_to, .int c_token, .int c_fault, .int c_hasHooks, .int c_hasTies, .int c_low, .int c_high])), (h_s, .inl (G.2 0, 24, .inl c_s))] H → va_D A [(h_this, .inr (7, [.int c_thrown, .ref h_s, .ref h_draft, .ref h_past, .int c_undos, .ref h_kept, .ref h_isKept, .ref h_facts, .int c_manyFacts, .ref h_text, .int c_typed, .int c_from, .int c_to, .int c_token, .int c_fault, .int c_hasHooks, .int c_hasTies, .int c_low, .int c_high])), (h_s, .inl (G.2 0, 24, .inl c_s))] → va_S A s.heap H locs → ∀ (ls : Array Slot), lv_has ls 3 [(0, .ref h_this), (1, .int v1)] → W p l e rmX7_mending s m args below meth c H locs 0 0 Q (F0 m 181 ls [])) : ∀ (n : Nat) (v2 : Int32) (c_low : Int32) (c_high : Int32) (c_s : Nat → Int32) (H : Heap) (locs : List Loc), fX7_mending_L112 k181 v1 n v2 c_low c_high c_s = some res → va_P G.1 CL [(h_this, .inr (7, [.int c_thrown, .ref h_s, .ref h_draft, .ref h_past, .int c_undos, .ref h_kept, .ref h_isKept, .ref h_facts, .int c_manyFacts, .ref h_text, .int c_typed, .int c_from, .int c_to, .int c_token, .int c_fault, .int c_hasHooks, .int c_hasTies, .int c_low, .int c_high])), (h_s, .inl (G.2 0, 24, .inl c_s))] H → va_D A [(h_this, .inr (7, [.int c_thrown, .ref h_s, .ref h_draft, .ref h_past, .int c_undos, .ref h_kept, .ref h_isKept, .ref h_facts, .int c_manyFacts, .ref h_text, .int c_typed, .int c_from, .int c_to, .int c_token, .int c_fault, .int c_hasHooks, .int c_hasTies, .int c_low, .int c_high])), (h_s, .inl (G.2 0, 24, .inl c_s))] → va_S A s.heap H locs → ∀ (ls : Array Slot), lv_has ls 3 [(0, .ref h_this), (1, .int v1), (2, .int v2)] → W p l e rmX7_mending s m args below meth c H locs 0 0 Q (F0 m 112 ls []) := by
  obtain ⟨hx, hb, hr, hlk, hml, hown, hts, hK⟩ := id C
  intro n
  induction n with
  | zero =>
    intro v2 c_low c_high c_s H locs hf
    cases hf
  | succ n ih =>
    intro v2 c_low c_high c_s H locs hf hP hD hS ls hl
    rw [fX7_mending_L112] at hf
    refine lv_iload_n hx hb dX7_mending_112 rfl (lv_at hl 2 rfl) ?_
    refine lv_aload_n hx hb dX7_mending_113 rfl (lv_at hl 0 rfl) ?_
    refine r_bind hf (fun u9 hu9 hf => ?_)
    refine cRiV (ci := 7) (rest := [.int v2]) ⟨hx, hb, hml, hown, hts⟩ hK (tX7_places l G h_this h_s h_draft h_past h_kept h_isKept h_facts h_text c_thrown c_undos c_manyFacts c_typed c_from c_to c_token c_fault c_hasHooks c_hasTies c_low c_high c_s u9 hu9) gX7_mending_X7_places rfl hdX7_places rfl rfl rfl ⟨Nat.le_of_ble_eq_true rfl, Nat.le_of_ble_eq_true rfl⟩ hP [0, 1] rfl 0 rfl rfl rfl hl.1 (Nat.le_of_ble_eq_true rfl) rfl dX7_mending_114 ⟨Nat.zero_le _, Nat.zero_le _⟩ ?_
    refine lv_icmp_ge (tgt := 181) hx hb dX7_mending_117 (by decide) (fun c9 => ?_) (fun c9 => ?_)
    · have hf := c_t hf c9
      exact hk181 c_low c_high c_s _ _ hf hP hD hS _ (lv_sub hl [0, 1] rfl)
    · have hf := c_f hf c9
      refine lv_aload_n hx hb dX7_mending_120 rfl (lv_at hl 0 rfl) ?_
      refine va_get (D := G.1) (cl := CL) (ci := 7) (C := RX7) (T := TX7) (N := 19) hx hb hts iX7_mending_7 hown hK hP 0 rfl rfl 17 (by decide) (hts (.fieldLink RX7 164 "LoomCardsModel" "low" "I") (List.mem_of_getElem? (i := 1) rfl)) (fun _ h9 => h9) rfl dX7_mending_121 ?_
      refine lv_bipush (v := (-9 : Int32)) hx hb dX7_mending_124 (by decide) ?_
      refine lv_icmp_ne (tgt := 181) hx hb dX7_mending_126 (by decide) (fun c9 => ?_) (fun c9 => ?_)
      · have hf := c_f hf c9
        exact hk181 c_low c_high c_s _ _ hf hP hD hS _ (lv_sub hl [0, 1] rfl)
      · have hf := c_t hf c9
        refine lv_aload_n hx hb dX7_mending_129 rfl (lv_at hl 0 rfl) ?_
        refine lv_iload_n hx hb dX7_mending_130 rfl (lv_at hl 2 rfl) ?_
        refine r_bind hf (fun u10 hu10 hf => ?_)
        refine cWvV (ci := 7) (rest := []) (wr := []) (wf := [(h_this, .inr (7, [.int c_thrown, .ref h_s, .ref h_draft, .ref h_past, .int c_undos, .ref h_kept, .ref h_isKept, .ref h_facts, .int c_manyFacts, .ref h_text, .int c_typed, .int c_from, .int c_to, .int c_token, .int c_fault, .int c_hasHooks, .int c_hasTies, .int c_low, .int c_high])), (h_s, .inl (G.2 0, 24, .inl u10))]) ⟨hx, hb, hml, hown, hts⟩ hK (tX7_turnsOver l G h_this h_s h_draft h_past h_kept h_isKept h_facts h_text c_thrown c_undos c_manyFacts c_typed c_from c_to c_token c_fault c_hasHooks c_hasTies c_low c_high c_s v2 u10 hu10) gX7_mending_X7_turnsOver rfl hdX7_turnsOver rfl rfl rfl ⟨Nat.le_of_ble_eq_true rfl, Nat.le_of_ble_eq_true rfl⟩ hP hD hS hA [0, 1] [] [0, 1] rfl rfl rfl (by decide) (by decide) (by decide) (by decide) 0 rfl rfl rfl hl.1 (Nat.le_of_ble_eq_true rfl) rfl dX7_mending_131 ⟨Nat.zero_le _, Nat.zero_le _⟩ (fun H locs hP hD hS => ?_)
        refine lv_aload_n hx hb dX7_mending_134 rfl (lv_at hl 0 rfl) ?_
        refine lv_aload_n hx hb dX7_mending_135 rfl (lv_at hl 0 rfl) ?_
        refine r_bind hf (fun u11 hu11 hf => ?_)
        refine cRiV (ci := 7) (rest := [.ref h_this]) ⟨hx, hb, hml, hown, hts⟩ hK (tX7_isFine l G h_this h_s h_draft h_past h_kept h_isKept h_facts h_text c_thrown c_undos c_manyFacts c_typed c_from c_to c_token c_fault c_hasHooks c_hasTies c_low c_high u10 u11 hu11) gX7_mending_X7_isFine rfl hdX7_isFine rfl rfl rfl ⟨Nat.le_of_ble_eq_true rfl, Nat.le_of_ble_eq_true rfl⟩ hP [0, 1] rfl 0 rfl rfl rfl hl.1 (Nat.le_of_ble_eq_true rfl) rfl dX7_mending_136 ⟨Nat.zero_le _, Nat.zero_le _⟩ ?_
        refine r_jn1 hf (fun J148 eJ148 hf => ?_)
        have hJ148 : ∀ (j148_0 : Int32) (H : Heap) (locs : List Loc), J148 j148_0 = some res → va_P G.1 CL [(h_this, .inr (7, [.int c_thrown, .ref h_s, .ref h_draft, .ref h_past, .int c_undos, .ref h_kept, .ref h_isKept, .ref h_facts, .int c_manyFacts, .ref h_text, .int c_typed, .int c_from, .int c_to, .int c_token, .int c_fault, .int c_hasHooks, .int c_hasTies, .int c_low, .int c_high])), (h_s, .inl (G.2 0, 24, .inl u10))] H → va_D A [(h_this, .inr (7, [.int c_thrown, .ref h_s, .ref h_draft, .ref h_past, .int c_undos, .ref h_kept, .ref h_isKept, .ref h_facts, .int c_manyFacts, .ref h_text, .int c_typed, .int c_from, .int c_to, .int c_token, .int c_fault, .int c_hasHooks, .int c_hasTies, .int c_low, .int c_high])), (h_s, .inl (G.2 0, 24, .inl u10))] → va_S A s.heap H locs → ∀ (ls : Array Slot), lv_has ls 3 [(0, .ref h_this), (1, .int v1), (2, .int v2)] → W p l e rmX7_mending s m args below meth c H locs 0 0 Q (F0 m 148 ls [.int j148_0, .ref h_this]) := by
          intro j148_0 H locs hf hP hD hS ls hl
          rw [eJ148] at hf
          refine va_put (D := G.1) (cl := CL) (ci := 7) (v := .int j148_0) (ty := .int) (C := RX7) (T := TX7) (N := 19) hx hb hts iX7_mending_7 tyX7 tyX7_ok nmX7 hown hK hP hD hS 0 rfl rfl 17 (by decide) (hts (.fieldLink RX7 164 "LoomCardsModel" "low" "I") (List.mem_of_getElem? (i := 1) rfl)) (fun _ h9 => h9) rfl (tyX7_ok 17 (by decide)) rfl rfl (Nat.le_of_ble_eq_true rfl) dX7_mending_148 (fun H locs hP hD hS => ?_)
          have hP : va_P G.1 CL [(h_this, .inr (7, [.int c_thrown, .ref h_s, .ref h_draft, .ref h_past, .int c_undos, .ref h_kept, .ref h_isKept, .ref h_facts, .int c_manyFacts, .ref h_text, .int c_typed, .int c_from, .int c_to, .int c_token, .int c_fault, .int c_hasHooks, .int c_hasTies, .int j148_0, .int c_high])), (h_s, .inl (G.2 0, 24, .inl u10))] H := hP
          have hD : va_D A [(h_this, .inr (7, [.int c_thrown, .ref h_s, .ref h_draft, .ref h_past, .int c_undos, .ref h_kept, .ref h_isKept, .ref h_facts, .int c_manyFacts, .ref h_text, .int c_typed, .int c_from, .int c_to, .int c_token, .int c_fault, .int c_hasHooks, .int c_hasTies, .int j148_0, .int c_high])), (h_s, .inl (G.2 0, 24, .inl u10))] := hD
          refine lv_aload_n hx hb dX7_mending_151 rfl (lv_at hl 0 rfl) ?_
          refine lv_aload_n hx hb dX7_mending_152 rfl (lv_at hl 0 rfl) ?_
          refine va_get (D := G.1) (cl := CL) (ci := 7) (C := RX7) (T := TX7) (N := 19) hx hb hts iX7_mending_7 hown hK hP 0 rfl rfl 17 (by decide) (hts (.fieldLink RX7 164 "LoomCardsModel" "low" "I") (List.mem_of_getElem? (i := 1) rfl)) (fun _ h9 => h9) rfl dX7_mending_153 ?_
          refine lv_bipush (v := (-9 : Int32)) hx hb dX7_mending_156 (by decide) ?_
          refine r_jn1 hf (fun J167 eJ167 hf => ?_)
          have hJ167 : ∀ (j167_0 : Int32) (H : Heap) (locs : List Loc), J167 j167_0 = some res → va_P G.1 CL [(h_this, .inr (7, [.int c_thrown, .ref h_s, .ref h_draft, .ref h_past, .int c_undos, .ref h_kept, .ref h_isKept, .ref h_facts, .int c_manyFacts, .ref h_text, .int c_typed, .int c_from, .int c_to, .int c_token, .int c_fault, .int c_hasHooks, .int c_hasTies, .int j148_0, .int c_high])), (h_s, .inl (G.2 0, 24, .inl u10))] H → va_D A [(h_this, .inr (7, [.int c_thrown, .ref h_s, .ref h_draft, .ref h_past, .int c_undos, .ref h_kept, .ref h_isKept, .ref h_facts, .int c_manyFacts, .ref h_text, .int c_typed, .int c_from, .int c_to, .int c_token, .int c_fault, .int c_hasHooks, .int c_hasTies, .int j148_0, .int c_high])), (h_s, .inl (G.2 0, 24, .inl u10))] → va_S A s.heap H locs → ∀ (ls : Array Slot), lv_has ls 3 [(0, .ref h_this), (1, .int v1), (2, .int v2)] → W p l e rmX7_mending s m args below meth c H locs 0 0 Q (F0 m 167 ls [.int j167_0, .ref h_this]) := by
            intro j167_0 H locs hf hP hD hS ls hl
            rw [eJ167] at hf
            refine va_put (D := G.1) (cl := CL) (ci := 7) (v := .int j167_0) (ty := .int) (C := RX7) (T := TX7) (N := 19) hx hb hts iX7_mending_7 tyX7 tyX7_ok nmX7 hown hK hP hD hS 0 rfl rfl 18 (by decide) (hts (.fieldLink RX7 167 "LoomCardsModel" "high" "I") (List.mem_of_getElem? (i := 2) rfl)) (fun _ h9 => h9) rfl (tyX7_ok 18 (by decide)) rfl rfl (Nat.le_of_ble_eq_true rfl) dX7_mending_167 (fun H locs hP hD hS => ?_)
            have hP : va_P G.1 CL [(h_this, .inr (7, [.int c_thrown, .ref h_s, .ref h_draft, .ref h_past, .int c_undos, .ref h_kept, .ref h_isKept, .ref h_facts, .int c_manyFacts, .ref h_text, .int c_typed, .int c_from, .int c_to, .int c_token, .int c_fault, .int c_hasHooks, .int c_hasTies, .int j148_0, .int j167_0])), (h_s, .inl (G.2 0, 24, .inl u10))] H := hP
            have hD : va_D A [(h_this, .inr (7, [.int c_thrown, .ref h_s, .ref h_draft, .ref h_past, .int c_undos, .ref h_kept, .ref h_isKept, .ref h_facts, .int c_manyFacts, .ref h_text, .int c_typed, .int c_from, .int c_to, .int c_token, .int c_fault, .int c_hasHooks, .int c_hasTies, .int j148_0, .int j167_0])), (h_s, .inl (G.2 0, 24, .inl u10))] := hD
            refine lv_aload_n hx hb dX7_mending_170 rfl (lv_at hl 0 rfl) ?_
            refine lv_iload_n hx hb dX7_mending_171 rfl (lv_at hl 2 rfl) ?_
            refine r_bind hf (fun u12 hu12 hf => ?_)
            refine cWvV (ci := 7) (rest := []) (wr := []) (wf := [(h_this, .inr (7, [.int c_thrown, .ref h_s, .ref h_draft, .ref h_past, .int c_undos, .ref h_kept, .ref h_isKept, .ref h_facts, .int c_manyFacts, .ref h_text, .int c_typed, .int c_from, .int c_to, .int c_token, .int c_fault, .int c_hasHooks, .int c_hasTies, .int j148_0, .int j167_0])), (h_s, .inl (G.2 0, 24, .inl u12))]) ⟨hx, hb, hml, hown, hts⟩ hK (tX7_turnsOver l G h_this h_s h_draft h_past h_kept h_isKept h_facts h_text c_thrown c_undos c_manyFacts c_typed c_from c_to c_token c_fault c_hasHooks c_hasTies j148_0 j167_0 u10 v2 u12 hu12) gX7_mending_X7_turnsOver rfl hdX7_turnsOver rfl rfl rfl ⟨Nat.le_of_ble_eq_true rfl, Nat.le_of_ble_eq_true rfl⟩ hP hD hS hA [0, 1] [] [0, 1] rfl rfl rfl (by decide) (by decide) (by decide) (by decide) 0 rfl rfl rfl hl.1 (Nat.le_of_ble_eq_true rfl) rfl dX7_mending_172 ⟨Nat.zero_le _, Nat.zero_le _⟩ (fun H locs hP hD hS => ?_)
            refine lv_iinc (v := (v2 + (1 : Int32))) (lv' := [(2, .int (v2 + (1 : Int32))), (0, .ref h_this), (1, .int v1)]) hx hb dX7_mending_175 hl (k := 2) rfl rfl (by decide) rfl (fun ls hl => ?_)
            refine lv_goto (tgt := 112) hx hb dX7_mending_178 (by decide) ?_
            exact ih (v2 + (1 : Int32)) j148_0 j167_0 u12 _ _ hf hP hD hS _ (lv_sub hl [1, 2, 0] rfl)
          refine lv_icmp_ne (tgt := 166) hx hb dX7_mending_158 (by decide) (fun c9 => ?_) (fun c9 => ?_)
          · have hf := c_f hf c9
            refine lv_iload_n hx hb dX7_mending_166 rfl (lv_at hl 2 rfl) ?_
            exact hJ167 v2 _ _ hf hP hD hS _ (lv_sub hl [0, 1, 2] rfl)
          · have hf := c_t hf c9
            refine lv_bipush (v := (-9 : Int32)) hx hb dX7_mending_161 (by decide) ?_
            refine lv_goto (tgt := 167) hx hb dX7_mending_163 (by decide) ?_
            exact hJ167 (-9 : Int32) _ _ hf hP hD hS _ (lv_sub hl [0, 1, 2] rfl)
        refine lv_if_eq (tgt := 146) hx hb dX7_mending_139 (by decide) (fun c9 => ?_) (fun c9 => ?_)
        · have hf := c_t hf c9
          refine lv_bipush (v := (-9 : Int32)) hx hb dX7_mending_146 (by decide) ?_
          exact hJ148 (-9 : Int32) _ _ hf hP hD hS _ (lv_sub hl [0, 1, 2] rfl)
        · have hf := c_f hf c9
          refine lv_iload_n hx hb dX7_mending_142 rfl (lv_at hl 1 rfl) ?_
          refine lv_goto (tgt := 148) hx hb dX7_mending_143 (by decide) ?_
          exact hJ148 v1 _ _ hf hP hD hS _ (lv_sub hl [0, 1, 2] rfl)
set_option maxHeartbeats 4000000 in
set_option maxRecDepth 100000 in
theorem kX7_mending_L86 (h_this : Nat) (h_s : Nat) (h_draft : Nat) (h_past : Nat) (h_kept : Nat) (h_isKept : Nat) (h_facts : Nat) (h_text : Nat) (c_thrown : Int32) (c_undos : Int32) (c_manyFacts : Int32) (c_typed : Int32) (c_from : Int32) (c_to : Int32) (c_token : Int32) (c_fault : Int32) (c_hasHooks : Int32) (c_hasTies : Int32) (C : Cx cX7_mending (some .int) 3 RX7 wsX7_mending G p s m args meth c) (hA : ∀ q : Nat, s.heap.size ≤ q → A q) {res : Int32 × Int32 × Int32 × (Nat → Int32)} (kr : ∀ (pc : Nat) (ls : Array Slot) (H : Heap) (locs : List Loc), va_P G.1 CL [(h_this, .inr (7, [.int c_thrown, .ref h_s, .ref h_draft, .ref h_past, .int c_undos, .ref h_kept, .ref h_isKept, .ref h_facts, .int c_manyFacts, .ref h_text, .int c_typed, .int c_from, .int c_to, .int c_token, .int c_fault, .int c_hasHooks, .int c_hasTies, .int (res.2.1), .int (res.2.2.1)])), (h_s, .inl (G.2 0, 24, .inl (res.2.2.2)))] H → va_D A [(h_this, .inr (7, [.int c_thrown, .ref h_s, .ref h_draft, .ref h_past, .int c_undos, .ref h_kept, .ref h_isKept, .ref h_facts, .int c_manyFacts, .ref h_text, .int c_typed, .int c_from, .int c_to, .int c_token, .int c_fault, .int c_hasHooks, .int c_hasTies, .int (res.2.1), .int (res.2.2.1)])), (h_s, .inl (G.2 0, 24, .inl (res.2.2.2)))] → va_S A s.heap H locs → decode cX7_mending pc = .ok (.ireturn, 1) → W p l e rmX7_mending s m args below meth c H locs 0 0 Q (F0 m pc ls [.int res.1])) {k192 : Int32 → Int32 → (Nat → Int32) → Option (Int32 × Int32 × Int32 × (Nat → Int32))} (hk192 : ∀ (c_low : Int32) (c_high : Int32) (c_s : Nat → Int32) (H : Heap) (locs : List Loc), k192 c_low c_high c_s = some res → va_P G.1 CL [(h_this, .inr (7, [.int c_thrown, .ref h_s, .ref h_draft, .ref h_past, .int c_undos, .ref h_kept, .ref h_isKept, .ref h_facts, .int c_manyFacts, .ref h_text, .int c_typed, .int c_from, .int c_to, .int c_token, .int c_fault, .int c_hasHooks, .int c_hasTies, .int c_low, .int c_high])), (h_s, .inl (G.2 0, 24, .inl c_s))] H → va_D A [(h_this, .inr (7, [.int c_thrown, .ref h_s, .ref h_draft, .ref h_past, .int c_undos, .ref h_kept, .ref h_isKept, .ref h_facts, .int c_manyFacts, .ref h_text, .int c_typed, .int c_from, .int c_to, .int c_token, .int c_fault, .int c_hasHooks, .int c_hasTies, .int c_low, .int c_high])), (h_s, .inl (G.2 0, 24, .inl c_s))] → va_S A s.heap H locs → ∀ (ls : Array Slot), lv_has ls 3 [(0, .ref h_this)] → W p l e rmX7_mending s m args below meth c H locs 0 0 Q (F0 m 192 ls [])) : ∀ (n : Nat) (v1 : Int32) (c_low : Int32) (c_high : Int32) (c_s : Nat → Int32) (H : Heap) (locs : List Loc), fX7_mending_L86 k192 n v1 c_low c_high c_s = some res → va_P G.1 CL [(h_this, .inr (7, [.int c_thrown, .ref h_s, .ref h_draft, .ref h_past, .int c_undos, .ref h_kept, .ref h_isKept, .ref h_facts, .int c_manyFacts, .ref h_text, .int c_typed, .int c_from, .int c_to, .int c_token, .int c_fault, .int c_hasHooks, .int c_hasTies, .int c_low, .int c_high])), (h_s, .inl (G.2 0, 24, .inl c_s))] H → va_D A [(h_this, .inr (7, [.int c_thrown, .ref h_s, .ref h_draft, .ref h_past, .int c_undos, .ref h_kept, .ref h_isKept, .ref h_facts, .int c_manyFacts, .ref h_text, .int c_typed, .int c_from, .int c_to, .int c_token, .int c_fault, .int c_hasHooks, .int c_hasTies, .int c_low, .int c_high])), (h_s, .inl (G.2 0, 24, .inl c_s))] → va_S A s.heap H locs → ∀ (ls : Array Slot), lv_has ls 3 [(0, .ref h_this), (1, .int v1)] → W p l e rmX7_mending s m args below meth c H locs 0 0 Q (F0 m 86 ls []) := by
  obtain ⟨hx, hb, hr, hlk, hml, hown, hts, hK⟩ := id C
  intro n
  induction n with
  | zero =>
    intro v1 c_low c_high c_s H locs hf
    cases hf
  | succ n ih =>
    intro v1 c_low c_high c_s H locs hf hP hD hS ls hl
    rw [fX7_mending_L86] at hf
    refine lv_iload_n hx hb dX7_mending_86 rfl (lv_at hl 1 rfl) ?_
    refine lv_aload_n hx hb dX7_mending_87 rfl (lv_at hl 0 rfl) ?_
    refine r_bind hf (fun u7 hu7 hf => ?_)
    refine cRiV (ci := 7) (rest := [.int v1]) ⟨hx, hb, hml, hown, hts⟩ hK (tX7_places l G h_this h_s h_draft h_past h_kept h_isKept h_facts h_text c_thrown c_undos c_manyFacts c_typed c_from c_to c_token c_fault c_hasHooks c_hasTies c_low c_high c_s u7 hu7) gX7_mending_X7_places rfl hdX7_places rfl rfl rfl ⟨Nat.le_of_ble_eq_true rfl, Nat.le_of_ble_eq_true rfl⟩ hP [0, 1] rfl 0 rfl rfl rfl hl.1 (Nat.le_of_ble_eq_true rfl) rfl dX7_mending_88 ⟨Nat.zero_le _, Nat.zero_le _⟩ ?_
    refine lv_icmp_ge (tgt := 192) hx hb dX7_mending_91 (by decide) (fun c9 => ?_) (fun c9 => ?_)
    · have hf := c_t hf c9
      exact hk192 c_low c_high c_s _ _ hf hP hD hS _ (lv_sub hl [0] rfl)
    · have hf := c_f hf c9
      refine lv_aload_n hx hb dX7_mending_94 rfl (lv_at hl 0 rfl) ?_
      refine va_get (D := G.1) (cl := CL) (ci := 7) (C := RX7) (T := TX7) (N := 19) hx hb hts iX7_mending_7 hown hK hP 0 rfl rfl 17 (by decide) (hts (.fieldLink RX7 164 "LoomCardsModel" "low" "I") (List.mem_of_getElem? (i := 1) rfl)) (fun _ h9 => h9) rfl dX7_mending_95 ?_
      refine lv_bipush (v := (-9 : Int32)) hx hb dX7_mending_98 (by decide) ?_
      refine lv_icmp_ne (tgt := 192) hx hb dX7_mending_100 (by decide) (fun c9 => ?_) (fun c9 => ?_)
      · have hf := c_f hf c9
        exact hk192 c_low c_high c_s _ _ hf hP hD hS _ (lv_sub hl [0] rfl)
      · have hf := c_t hf c9
        refine lv_aload_n hx hb dX7_mending_103 rfl (lv_at hl 0 rfl) ?_
        refine lv_iload_n hx hb dX7_mending_104 rfl (lv_at hl 1 rfl) ?_
        refine r_bind hf (fun u8 hu8 hf => ?_)
        refine cWvV (ci := 7) (rest := []) (wr := []) (wf := [(h_this, .inr (7, [.int c_thrown, .ref h_s, .ref h_draft, .ref h_past, .int c_undos, .ref h_kept, .ref h_isKept, .ref h_facts, .int c_manyFacts, .ref h_text, .int c_typed, .int c_from, .int c_to, .int c_token, .int c_fault, .int c_hasHooks, .int c_hasTies, .int c_low, .int c_high])), (h_s, .inl (G.2 0, 24, .inl u8))]) ⟨hx, hb, hml, hown, hts⟩ hK (tX7_turnsOver l G h_this h_s h_draft h_past h_kept h_isKept h_facts h_text c_thrown c_undos c_manyFacts c_typed c_from c_to c_token c_fault c_hasHooks c_hasTies c_low c_high c_s v1 u8 hu8) gX7_mending_X7_turnsOver rfl hdX7_turnsOver rfl rfl rfl ⟨Nat.le_of_ble_eq_true rfl, Nat.le_of_ble_eq_true rfl⟩ hP hD hS hA [0, 1] [] [0, 1] rfl rfl rfl (by decide) (by decide) (by decide) (by decide) 0 rfl rfl rfl hl.1 (Nat.le_of_ble_eq_true rfl) rfl dX7_mending_105 ⟨Nat.zero_le _, Nat.zero_le _⟩ (fun H locs hP hD hS => ?_)
        refine lv_iload_n hx hb dX7_mending_108 rfl (lv_at hl 1 rfl) ?_
        refine lv_iconst (v := (1 : Int32)) hx hb dX7_mending_109 (by decide) ?_
        refine lv_iadd hx hb dX7_mending_110 ?_
        refine lv_istore_n (lv' := [(2, .int (v1 + (1 : Int32))), (0, .ref h_this), (1, .int v1)]) hx hb dX7_mending_111 rfl hl (by decide) rfl (fun ls hl => ?_)
        refine kX7_mending_L112 h_this h_s h_draft h_past h_kept h_isKept h_facts h_text c_thrown c_undos c_manyFacts c_typed c_from c_to c_token c_fault c_hasHooks c_hasTies v1 C hA kr ?_ FU (v1 + (1 : Int32)) c_low c_high u8 _ _ hf hP hD hS _ (lv_sub hl [1, 2, 0] rfl)
        intro c_low_x13 c_high_x13 c_s_x13 H locs hf hP hD hS ls hl
        refine lv_aload_n hx hb dX7_mending_181 rfl (lv_at hl 0 rfl) ?_
        refine lv_iload_n hx hb dX7_mending_182 rfl (lv_at hl 1 rfl) ?_
        refine r_bind hf (fun u14 hu14 hf => ?_)
        refine cWvV (ci := 7) (rest := []) (wr := []) (wf := [(h_this, .inr (7, [.int c_thrown, .ref h_s, .ref h_draft, .ref h_past, .int c_undos, .ref h_kept, .ref h_isKept, .ref h_facts, .int c_manyFacts, .ref h_text, .int c_typed, .int c_from, .int c_to, .int c_token, .int c_fault, .int c_hasHooks, .int c_hasTies, .int c_low_x13, .int c_high_x13])), (h_s, .inl (G.2 0, 24, .inl u14))]) ⟨hx, hb, hml, hown, hts⟩ hK (tX7_turnsOver l G h_this h_s h_draft h_past h_kept h_isKept h_facts h_text c_thrown c_undos c_manyFacts c_typed c_from c_to c_token c_fault c_hasHooks c_hasTies c_low_x13 c_high_x13 c_s_x13 v1 u14 hu14) gX7_mending_X7_turnsOver rfl hdX7_turnsOver rfl rfl rfl ⟨Nat.le_of_ble_eq_true rfl, Nat.le_of_ble_eq_true rfl⟩ hP hD hS hA [0, 1] [] [0, 1] rfl rfl rfl (by decide) (by decide) (by decide) (by decide) 0 rfl rfl rfl hl.1 (Nat.le_of_ble_eq_true rfl) rfl dX7_mending_183 ⟨Nat.zero_le _, Nat.zero_le _⟩ (fun H locs hP hD hS => ?_)
        refine lv_iinc (v := (v1 + (1 : Int32))) (lv' := [(1, .int (v1 + (1 : Int32))), (0, .ref h_this)]) hx hb dX7_mending_186 hl (k := 1) rfl rfl (by decide) rfl (fun ls hl => ?_)
        refine lv_goto (tgt := 86) hx hb dX7_mending_189 (by decide) ?_
        exact ih (v1 + (1 : Int32)) c_low_x13 c_high_x13 u14 _ _ hf hP hD hS _ (lv_sub hl [1, 0] rfl)
set_option maxHeartbeats 4000000 in
set_option maxRecDepth 100000 in
theorem kX7_mending (h_this : Nat) (h_s : Nat) (h_draft : Nat) (h_past : Nat) (h_kept : Nat) (h_isKept : Nat) (h_facts : Nat) (h_text : Nat) (c_thrown : Int32) (c_undos : Int32) (c_manyFacts : Int32) (c_typed : Int32) (c_from : Int32) (c_to : Int32) (c_token : Int32) (c_fault : Int32) (c_hasHooks : Int32) (c_hasTies : Int32) (c_low : Int32) (c_high : Int32) (c_s : Nat → Int32) (C : Cx cX7_mending (some .int) 3 RX7 wsX7_mending G p s m args meth c) (hA : ∀ q : Nat, s.heap.size ≤ q → A q) (hP : va_P G.1 CL [(h_this, .inr (7, [.int c_thrown, .ref h_s, .ref h_draft, .ref h_past, .int c_undos, .ref h_kept, .ref h_isKept, .ref h_facts, .int c_manyFacts, .ref h_text, .int c_typed, .int c_from, .int c_to, .int c_token, .int c_fault, .int c_hasHooks, .int c_hasTies, .int c_low, .int c_high])), (h_s, .inl (G.2 0, 24, .inl c_s))] s.heap) (hD : va_D A [(h_this, .inr (7, [.int c_thrown, .ref h_s, .ref h_draft, .ref h_past, .int c_undos, .ref h_kept, .ref h_isKept, .ref h_facts, .int c_manyFacts, .ref h_text, .int c_typed, .int c_from, .int c_to, .int c_token, .int c_fault, .int c_hasHooks, .int c_hasTies, .int c_low, .int c_high])), (h_s, .inl (G.2 0, 24, .inl c_s))]) (hS : va_S A s.heap s.heap []) {res : Int32 × Int32 × Int32 × (Nat → Int32)} (kr : ∀ (pc : Nat) (ls : Array Slot) (H : Heap) (locs : List Loc), va_P G.1 CL [(h_this, .inr (7, [.int c_thrown, .ref h_s, .ref h_draft, .ref h_past, .int c_undos, .ref h_kept, .ref h_isKept, .ref h_facts, .int c_manyFacts, .ref h_text, .int c_typed, .int c_from, .int c_to, .int c_token, .int c_fault, .int c_hasHooks, .int c_hasTies, .int (res.2.1), .int (res.2.2.1)])), (h_s, .inl (G.2 0, 24, .inl (res.2.2.2)))] H → va_D A [(h_this, .inr (7, [.int c_thrown, .ref h_s, .ref h_draft, .ref h_past, .int c_undos, .ref h_kept, .ref h_isKept, .ref h_facts, .int c_manyFacts, .ref h_text, .int c_typed, .int c_from, .int c_to, .int c_token, .int c_fault, .int c_hasHooks, .int c_hasTies, .int (res.2.1), .int (res.2.2.1)])), (h_s, .inl (G.2 0, 24, .inl (res.2.2.2)))] → va_S A s.heap H locs → decode cX7_mending pc = .ok (.ireturn, 1) → W p l e rmX7_mending s m args below meth c H locs 0 0 Q (F0 m pc ls [.int res.1])) (hf : fX7_mending c_low c_high c_s = some res) {ls : Array Slot} (hl : lv_has ls 3 [(0, .ref h_this)]) : W p l e rmX7_mending s m args below meth c s.heap [] 0 0 Q (F0 m 0 ls []) := by
  obtain ⟨hx, hb, hr, hlk, hml, hown, hts, hK⟩ := id C
  rw [fX7_mending] at hf
  refine lv_aload_n hx hb dX7_mending_0 rfl (lv_at hl 0 rfl) ?_
  refine lv_bipush (v := (-9 : Int32)) hx hb dX7_mending_1 (by decide) ?_
  refine va_put (D := G.1) (cl := CL) (ci := 7) (v := .int (-9 : Int32)) (ty := .int) (C := RX7) (T := TX7) (N := 19) hx hb hts iX7_mending_7 tyX7 tyX7_ok nmX7 hown hK hP hD hS 0 rfl rfl 17 (by decide) (hts (.fieldLink RX7 164 "LoomCardsModel" "low" "I") (List.mem_of_getElem? (i := 1) rfl)) (fun _ h9 => h9) rfl (tyX7_ok 17 (by decide)) rfl rfl (Nat.le_of_ble_eq_true rfl) dX7_mending_3 (fun H locs hP hD hS => ?_)
  have hP : va_P G.1 CL [(h_this, .inr (7, [.int c_thrown, .ref h_s, .ref h_draft, .ref h_past, .int c_undos, .ref h_kept, .ref h_isKept, .ref h_facts, .int c_manyFacts, .ref h_text, .int c_typed, .int c_from, .int c_to, .int c_token, .int c_fault, .int c_hasHooks, .int c_hasTies, .int (-9 : Int32), .int c_high])), (h_s, .inl (G.2 0, 24, .inl c_s))] H := hP
  have hD : va_D A [(h_this, .inr (7, [.int c_thrown, .ref h_s, .ref h_draft, .ref h_past, .int c_undos, .ref h_kept, .ref h_isKept, .ref h_facts, .int c_manyFacts, .ref h_text, .int c_typed, .int c_from, .int c_to, .int c_token, .int c_fault, .int c_hasHooks, .int c_hasTies, .int (-9 : Int32), .int c_high])), (h_s, .inl (G.2 0, 24, .inl c_s))] := hD
  refine lv_aload_n hx hb dX7_mending_6 rfl (lv_at hl 0 rfl) ?_
  refine lv_bipush (v := (-9 : Int32)) hx hb dX7_mending_7 (by decide) ?_
  refine va_put (D := G.1) (cl := CL) (ci := 7) (v := .int (-9 : Int32)) (ty := .int) (C := RX7) (T := TX7) (N := 19) hx hb hts iX7_mending_7 tyX7 tyX7_ok nmX7 hown hK hP hD hS 0 rfl rfl 18 (by decide) (hts (.fieldLink RX7 167 "LoomCardsModel" "high" "I") (List.mem_of_getElem? (i := 2) rfl)) (fun _ h9 => h9) rfl (tyX7_ok 18 (by decide)) rfl rfl (Nat.le_of_ble_eq_true rfl) dX7_mending_9 (fun H locs hP hD hS => ?_)
  have hP : va_P G.1 CL [(h_this, .inr (7, [.int c_thrown, .ref h_s, .ref h_draft, .ref h_past, .int c_undos, .ref h_kept, .ref h_isKept, .ref h_facts, .int c_manyFacts, .ref h_text, .int c_typed, .int c_from, .int c_to, .int c_token, .int c_fault, .int c_hasHooks, .int c_hasTies, .int (-9 : Int32), .int (-9 : Int32)])), (h_s, .inl (G.2 0, 24, .inl c_s))] H := hP
  have hD : va_D A [(h_this, .inr (7, [.int c_thrown, .ref h_s, .ref h_draft, .ref h_past, .int c_undos, .ref h_kept, .ref h_isKept, .ref h_facts, .int c_manyFacts, .ref h_text, .int c_typed, .int c_from, .int c_to, .int c_token, .int c_fault, .int c_hasHooks, .int c_hasTies, .int (-9 : Int32), .int (-9 : Int32)])), (h_s, .inl (G.2 0, 24, .inl c_s))] := hD
  refine lv_aload_n hx hb dX7_mending_12 rfl (lv_at hl 0 rfl) ?_
  refine r_bind hf (fun u1 hu1 hf => ?_)
  refine cRiV (ci := 7) (rest := []) ⟨hx, hb, hml, hown, hts⟩ hK (tX7_isFine l G h_this h_s h_draft h_past h_kept h_isKept h_facts h_text c_thrown c_undos c_manyFacts c_typed c_from c_to c_token c_fault c_hasHooks c_hasTies (-9 : Int32) (-9 : Int32) c_s u1 hu1) gX7_mending_X7_isFine rfl hdX7_isFine rfl rfl rfl ⟨Nat.le_of_ble_eq_true rfl, Nat.le_of_ble_eq_true rfl⟩ hP [0, 1] rfl 0 rfl rfl rfl hl.1 (Nat.le_of_ble_eq_true rfl) rfl dX7_mending_13 ⟨Nat.zero_le _, Nat.zero_le _⟩ ?_
  refine lv_if_eq (tgt := 21) hx hb dX7_mending_16 (by decide) (fun c9 => ?_) (fun c9 => ?_)
  · have hf := c_t hf c9
    refine lv_iconst (v := (0 : Int32)) hx hb dX7_mending_21 (by decide) ?_
    refine lv_istore_n (lv' := [(1, .int (0 : Int32)), (0, .ref h_this)]) hx hb dX7_mending_22 rfl hl (by decide) rfl (fun ls hl => ?_)
    refine kX7_mending_L23 h_this h_s h_draft h_past h_kept h_isKept h_facts h_text c_thrown c_undos c_manyFacts c_typed c_from c_to c_token c_fault c_hasHooks c_hasTies (-9 : Int32) C hA kr ?_ FU (0 : Int32) (-9 : Int32) c_s _ _ hf hP hD hS _ (lv_sub hl [1, 0] rfl)
    intro c_low_x6 c_s_x6 H locs hf hP hD hS ls hl
    refine lv_aload_n hx hb dX7_mending_73 rfl (lv_at hl 0 rfl) ?_
    refine va_get (D := G.1) (cl := CL) (ci := 7) (C := RX7) (T := TX7) (N := 19) hx hb hts iX7_mending_7 hown hK hP 0 rfl rfl 17 (by decide) (hts (.fieldLink RX7 164 "LoomCardsModel" "low" "I") (List.mem_of_getElem? (i := 1) rfl)) (fun _ h9 => h9) rfl dX7_mending_74 ?_
    refine lv_bipush (v := (-9 : Int32)) hx hb dX7_mending_77 (by decide) ?_
    refine lv_icmp_eq (tgt := 84) hx hb dX7_mending_79 (by decide) (fun c9 => ?_) (fun c9 => ?_)
    · have hf := c_t hf c9
      refine lv_iconst (v := (0 : Int32)) hx hb dX7_mending_84 (by decide) ?_
      refine lv_istore_n (lv' := [(1, .int (0 : Int32)), (0, .ref h_this)]) hx hb dX7_mending_85 rfl hl (by decide) rfl (fun ls hl => ?_)
      refine kX7_mending_L86 h_this h_s h_draft h_past h_kept h_isKept h_facts h_text c_thrown c_undos c_manyFacts c_typed c_from c_to c_token c_fault c_hasHooks c_hasTies C hA kr ?_ FU (0 : Int32) c_low_x6 (-9 : Int32) c_s_x6 _ _ hf hP hD hS _ (lv_sub hl [1, 0] rfl)
      intro c_low_x15 c_high_x15 c_s_x15 H locs hf hP hD hS ls hl
      refine lv_aload_n hx hb dX7_mending_192 rfl (lv_at hl 0 rfl) ?_
      refine va_get (D := G.1) (cl := CL) (ci := 7) (C := RX7) (T := TX7) (N := 19) hx hb hts iX7_mending_7 hown hK hP 0 rfl rfl 17 (by decide) (hts (.fieldLink RX7 164 "LoomCardsModel" "low" "I") (List.mem_of_getElem? (i := 1) rfl)) (fun _ h9 => h9) rfl dX7_mending_193 ?_
      refine lv_bipush (v := (-9 : Int32)) hx hb dX7_mending_196 (by decide) ?_
      refine lv_icmp_ne (tgt := 206) hx hb dX7_mending_198 (by decide) (fun c9 => ?_) (fun c9 => ?_)
      · have hf := c_f hf c9
        refine lv_iconst (v := (2 : Int32)) hx hb dX7_mending_206 (by decide) ?_
        obtain rfl := Option.some.inj hf
        exact kr _ _ _ _ hP hD hS dX7_mending_207
      · have hf := c_t hf c9
        refine lv_bipush (v := (-9 : Int32)) hx hb dX7_mending_201 (by decide) ?_
        refine lv_goto (tgt := 207) hx hb dX7_mending_203 (by decide) ?_
        obtain rfl := Option.some.inj hf
        exact kr _ _ _ _ hP hD hS dX7_mending_207
    · have hf := c_f hf c9
      refine lv_iconst (v := (1 : Int32)) hx hb dX7_mending_82 (by decide) ?_
      obtain rfl := Option.some.inj hf
      exact kr _ _ _ _ hP hD hS dX7_mending_83
  · have hf := c_f hf c9
    refine lv_iconst (v := (0 : Int32)) hx hb dX7_mending_19 (by decide) ?_
    obtain rfl := Option.some.inj hf
    exact kr _ _ _ _ hP hD hS dX7_mending_20
end SX7_mending
set_option maxHeartbeats 4000000 in
set_option maxRecDepth 100000 in
theorem tX7_mending (l : Launch) (G : GG) (h_this : Nat) (h_s : Nat) (h_draft : Nat) (h_past : Nat) (h_kept : Nat) (h_isKept : Nat) (h_facts : Nat) (h_text : Nat) (c_thrown : Int32) (c_undos : Int32) (c_manyFacts : Int32) (c_typed : Int32) (c_from : Int32) (c_to : Int32) (c_token : Int32) (c_fault : Int32) (c_hasHooks : Int32) (c_hasTies : Int32) (c_low : Int32) (c_high : Int32) (c_s : Nat → Int32) (res : Int32 × Int32 × Int32 × (Nat → Int32)) (hf : fX7_mending c_low c_high c_s = some res) : MWi l yX7_mending wsX7_mending rmX7_mending G [.ref h_this] [(h_this, .inr (7, [.int c_thrown, .ref h_s, .ref h_draft, .ref h_past, .int c_undos, .ref h_kept, .ref h_isKept, .ref h_facts, .int c_manyFacts, .ref h_text, .int c_typed, .int c_from, .int c_to, .int c_token, .int c_fault, .int c_hasHooks, .int c_hasTies, .int c_low, .int c_high])), (h_s, .inl (G.2 0, 24, .inl c_s))] (res.1) [(h_this, .inr (7, [.int c_thrown, .ref h_s, .ref h_draft, .ref h_past, .int c_undos, .ref h_kept, .ref h_isKept, .ref h_facts, .int c_manyFacts, .ref h_text, .int c_typed, .int c_from, .int c_to, .int c_token, .int c_fault, .int c_hasHooks, .int c_hasTies, .int (res.2.1), .int (res.2.2.1)])), (h_s, .inl (G.2 0, 24, .inl (res.2.2.2)))] := MWi.of (plainFor_of_name (by decide +kernel)) rfl (Nat.le_of_ble_eq_true rfl) (fun p e s m below meth c A C hA hP hD hS ls hl => kX7_mending h_this h_s h_draft h_past h_kept h_isKept h_facts h_text c_thrown c_undos c_manyFacts c_typed c_from c_to c_token c_fault c_hasHooks c_hasTies c_low c_high c_s C hA hP hD hS (fun pc ls H locs hP hD hS d => rWi C hP hD hS d) hf hl)
def fX7_mends (c_thrown : Int32) (c_low : Int32) (c_high : Int32) (c_s : Nat → Int32) (v1 : Int32) : Option (Int32 × Int32 × Int32 × Int32 × (Nat → Int32)) := (fX7_in v1 (-1 : Int32) (1 : Int32)).bind (fun u1 => if u1 = 0 then some ((-1 : Int32), (0 : Int32), c_low, c_high, c_s) else (fX7_mending c_low c_high c_s).bind (fun u2 => if v1 = (-1 : Int32) then some (u2.1, (0 : Int32), u2.2.1, u2.2.2.1, u2.2.2.2) else if v1 = 0 then some (u2.2.1, (0 : Int32), u2.2.1, u2.2.2.1, u2.2.2.2) else some (u2.2.2.1, (0 : Int32), u2.2.1, u2.2.2.1, u2.2.2.2)))
theorem iX7_mends_7 : ∀ w ∈ wsX70, w ∈ wsX7_mends := fun w h => List.mem_cons_of_mem _ (List.mem_append_right _ (h))
theorem hdX7_mends : yX7_mends.cls = RX7 ∧ yX7_mends.cls ≠ "java/lang/invoke/MethodHandle" ∧ yX7_mends.cls ≠ "java/lang/invoke/VarHandle" ∧ (parseMethodDescriptor yX7_mends.desc).map (fun d => d.parameters.length) = some 1 := by decide +kernel
abbrev rmX7_mends : Room := { frames := 5, cells := 0, slots := 0, locals := 110 }
section SX7_mends
variable {p : Program} {l : Launch} {e : Env} {s : State} {m : MethodId} {args : Array Value} {below : List Frame} {meth : Method} {c : Code} {Q : State → Prop} {G : GG} {A : Nat → Prop}
set_option maxHeartbeats 4000000 in
set_option maxRecDepth 100000 in
theorem kX7_mends (h_this : Nat) (h_s : Nat) (h_draft : Nat) (h_past : Nat) (h_kept : Nat) (h_isKept : Nat) (h_facts : Nat) (h_text : Nat) (c_thrown : Int32) (c_undos : Int32) (c_manyFacts : Int32) (c_typed : Int32) (c_from : Int32) (c_to : Int32) (c_token : Int32) (c_fault : Int32) (c_hasHooks : Int32) (c_hasTies : Int32) (c_low : Int32) (c_high : Int32) (c_s : Nat → Int32) (v1 : Int32) (C : Cx cX7_mends (some .int) 3 RX7 wsX7_mends G p s m args meth c) (hA : ∀ q : Nat, s.heap.size ≤ q → A q) (hP : va_P G.1 CL [(h_this, .inr (7, [.int c_thrown, .ref h_s, .ref h_draft, .ref h_past, .int c_undos, .ref h_kept, .ref h_isKept, .ref h_facts, .int c_manyFacts, .ref h_text, .int c_typed, .int c_from, .int c_to, .int c_token, .int c_fault, .int c_hasHooks, .int c_hasTies, .int c_low, .int c_high])), (h_s, .inl (G.2 0, 24, .inl c_s))] s.heap) (hD : va_D A [(h_this, .inr (7, [.int c_thrown, .ref h_s, .ref h_draft, .ref h_past, .int c_undos, .ref h_kept, .ref h_isKept, .ref h_facts, .int c_manyFacts, .ref h_text, .int c_typed, .int c_from, .int c_to, .int c_token, .int c_fault, .int c_hasHooks, .int c_hasTies, .int c_low, .int c_high])), (h_s, .inl (G.2 0, 24, .inl c_s))]) (hS : va_S A s.heap s.heap []) {res : Int32 × Int32 × Int32 × Int32 × (Nat → Int32)} (kr : ∀ (pc : Nat) (ls : Array Slot) (H : Heap) (locs : List Loc), va_P G.1 CL [(h_this, .inr (7, [.int (res.2.1), .ref h_s, .ref h_draft, .ref h_past, .int c_undos, .ref h_kept, .ref h_isKept, .ref h_facts, .int c_manyFacts, .ref h_text, .int c_typed, .int c_from, .int c_to, .int c_token, .int c_fault, .int c_hasHooks, .int c_hasTies, .int (res.2.2.1), .int (res.2.2.2.1)])), (h_s, .inl (G.2 0, 24, .inl (res.2.2.2.2)))] H → va_D A [(h_this, .inr (7, [.int (res.2.1), .ref h_s, .ref h_draft, .ref h_past, .int c_undos, .ref h_kept, .ref h_isKept, .ref h_facts, .int c_manyFacts, .ref h_text, .int c_typed, .int c_from, .int c_to, .int c_token, .int c_fault, .int c_hasHooks, .int c_hasTies, .int (res.2.2.1), .int (res.2.2.2.1)])), (h_s, .inl (G.2 0, 24, .inl (res.2.2.2.2)))] → va_S A s.heap H locs → decode cX7_mends pc = .ok (.ireturn, 1) → W p l e rmX7_mends s m args below meth c H locs 0 0 Q (F0 m pc ls [.int res.1])) (hf : fX7_mends c_thrown c_low c_high c_s v1 = some res) {ls : Array Slot} (hl : lv_has ls 3 [(0, .ref h_this), (1, .int v1)]) : W p l e rmX7_mends s m args below meth c s.heap [] 0 0 Q (F0 m 0 ls []) := by
  obtain ⟨hx, hb, hr, hlk, hml, hown, hts, hK⟩ := id C
  rw [fX7_mends] at hf
  refine lv_aload_n hx hb dX7_mends_0 rfl (lv_at hl 0 rfl) ?_
  refine lv_iconst (v := (0 : Int32)) hx hb dX7_mends_1 (by decide) ?_
  refine va_put (D := G.1) (cl := CL) (ci := 7) (v := .int (0 : Int32)) (ty := .int) (C := RX7) (T := TX7) (N := 19) hx hb hts iX7_mends_7 tyX7 tyX7_ok nmX7 hown hK hP hD hS 0 rfl rfl 0 (by decide) (hts (.fieldLink RX7 37 "LoomCardsModel" "thrown" "I") (List.mem_of_getElem? (i := 1) rfl)) (fun _ h9 => h9) rfl (tyX7_ok 0 (by decide)) rfl rfl (Nat.le_of_ble_eq_true rfl) dX7_mends_2 (fun H locs hP hD hS => ?_)
  have hP : va_P G.1 CL [(h_this, .inr (7, [.int (0 : Int32), .ref h_s, .ref h_draft, .ref h_past, .int c_undos, .ref h_kept, .ref h_isKept, .ref h_facts, .int c_manyFacts, .ref h_text, .int c_typed, .int c_from, .int c_to, .int c_token, .int c_fault, .int c_hasHooks, .int c_hasTies, .int c_low, .int c_high])), (h_s, .inl (G.2 0, 24, .inl c_s))] H := hP
  have hD : va_D A [(h_this, .inr (7, [.int (0 : Int32), .ref h_s, .ref h_draft, .ref h_past, .int c_undos, .ref h_kept, .ref h_isKept, .ref h_facts, .int c_manyFacts, .ref h_text, .int c_typed, .int c_from, .int c_to, .int c_token, .int c_fault, .int c_hasHooks, .int c_hasTies, .int c_low, .int c_high])), (h_s, .inl (G.2 0, 24, .inl c_s))] := hD
  refine lv_iload_n hx hb dX7_mends_5 rfl (lv_at hl 1 rfl) ?_
  refine lv_iconst (v := (-1 : Int32)) hx hb dX7_mends_6 (by decide) ?_
  refine lv_iconst (v := (1 : Int32)) hx hb dX7_mends_7 (by decide) ?_
  refine r_bind hf (fun u1 hu1 hf => ?_)
  refine cRiS (rest := []) ⟨hx, hb, hml, hown, hts⟩ hK (tX7_in l G v1 (-1 : Int32) (1 : Int32) u1 hu1) gX7_mends_X7_in rfl hdX7_in rfl rfl rfl ⟨Nat.le_of_ble_eq_true rfl, Nat.le_of_ble_eq_true rfl⟩ hP [] rfl hl.1 (Nat.le_of_ble_eq_true rfl) rfl dX7_mends_8 ⟨Nat.zero_le _, Nat.zero_le _⟩ ?_
  refine lv_if_ne (tgt := 16) hx hb dX7_mends_11 (by decide) (fun c9 => ?_) (fun c9 => ?_)
  · have hf := c_f hf c9
    refine lv_aload_n hx hb dX7_mends_16 rfl (lv_at hl 0 rfl) ?_
    refine r_bind hf (fun u2 hu2 hf => ?_)
    refine cWiV (ci := 7) (rest := []) (wr := []) (wf := [(h_this, .inr (7, [.int (0 : Int32), .ref h_s, .ref h_draft, .ref h_past, .int c_undos, .ref h_kept, .ref h_isKept, .ref h_facts, .int c_manyFacts, .ref h_text, .int c_typed, .int c_from, .int c_to, .int c_token, .int c_fault, .int c_hasHooks, .int c_hasTies, .int u2.2.1, .int u2.2.2.1])), (h_s, .inl (G.2 0, 24, .inl u2.2.2.2))]) ⟨hx, hb, hml, hown, hts⟩ hK (tX7_mending l G h_this h_s h_draft h_past h_kept h_isKept h_facts h_text (0 : Int32) c_undos c_manyFacts c_typed c_from c_to c_token c_fault c_hasHooks c_hasTies c_low c_high c_s u2 hu2) gX7_mends_X7_mending rfl hdX7_mending rfl rfl rfl ⟨Nat.le_of_ble_eq_true rfl, Nat.le_of_ble_eq_true rfl⟩ hP hD hS hA [0, 1] [] [0, 1] rfl rfl rfl (by decide) (by decide) (by decide) (by decide) 0 rfl rfl rfl hl.1 (Nat.le_of_ble_eq_true rfl) rfl dX7_mends_17 ⟨Nat.zero_le _, Nat.zero_le _⟩ (fun H locs hP hD hS => ?_)
    refine lv_istore_n (lv' := [(2, .int u2.1), (0, .ref h_this), (1, .int v1)]) hx hb dX7_mends_20 rfl hl (by decide) rfl (fun ls hl => ?_)
    refine lv_iload_n hx hb dX7_mends_21 rfl (lv_at hl 2 rfl) ?_
    refine lv_iconst (v := (-1 : Int32)) hx hb dX7_mends_22 (by decide) ?_
    refine lv_icmp_ne (tgt := 30) hx hb dX7_mends_23 (by decide) (fun c9 => ?_) (fun c9 => ?_)
    · have hf := c_f hf c9
      refine lv_iload_n hx hb dX7_mends_30 rfl (lv_at hl 2 rfl) ?_
      refine lv_if_ne (tgt := 41) hx hb dX7_mends_31 (by decide) (fun c9 => ?_) (fun c9 => ?_)
      · have hf := c_f hf c9
        refine lv_aload_n hx hb dX7_mends_41 rfl (lv_at hl 1 rfl) ?_
        refine va_get (D := G.1) (cl := CL) (ci := 7) (C := RX7) (T := TX7) (N := 19) hx hb hts iX7_mends_7 hown hK hP 0 rfl rfl 18 (by decide) (hts (.fieldLink RX7 167 "LoomCardsModel" "high" "I") (List.mem_of_getElem? (i := 3) rfl)) (fun _ h9 => h9) rfl dX7_mends_42 ?_
        obtain rfl := Option.some.inj hf
        exact kr _ _ _ _ hP hD hS dX7_mends_45
      · have hf := c_t hf c9
        refine lv_aload_n hx hb dX7_mends_34 rfl (lv_at hl 1 rfl) ?_
        refine va_get (D := G.1) (cl := CL) (ci := 7) (C := RX7) (T := TX7) (N := 19) hx hb hts iX7_mends_7 hown hK hP 0 rfl rfl 17 (by decide) (hts (.fieldLink RX7 164 "LoomCardsModel" "low" "I") (List.mem_of_getElem? (i := 2) rfl)) (fun _ h9 => h9) rfl dX7_mends_35 ?_
        refine lv_goto (tgt := 45) hx hb dX7_mends_38 (by decide) ?_
        obtain rfl := Option.some.inj hf
        exact kr _ _ _ _ hP hD hS dX7_mends_45
    · have hf := c_t hf c9
      refine lv_iload_n hx hb dX7_mends_26 rfl (lv_at hl 0 rfl) ?_
      refine lv_goto (tgt := 45) hx hb dX7_mends_27 (by decide) ?_
      obtain rfl := Option.some.inj hf
      exact kr _ _ _ _ hP hD hS dX7_mends_45
  · have hf := c_t hf c9
    refine lv_iconst (v := (-1 : Int32)) hx hb dX7_mends_14 (by decide) ?_
    obtain rfl := Option.some.inj hf
    exact kr _ _ _ _ hP hD hS dX7_mends_15
end SX7_mends
set_option maxHeartbeats 4000000 in
set_option maxRecDepth 100000 in
theorem tX7_mends (l : Launch) (G : GG) (h_this : Nat) (h_s : Nat) (h_draft : Nat) (h_past : Nat) (h_kept : Nat) (h_isKept : Nat) (h_facts : Nat) (h_text : Nat) (c_thrown : Int32) (c_undos : Int32) (c_manyFacts : Int32) (c_typed : Int32) (c_from : Int32) (c_to : Int32) (c_token : Int32) (c_fault : Int32) (c_hasHooks : Int32) (c_hasTies : Int32) (c_low : Int32) (c_high : Int32) (c_s : Nat → Int32) (v1 : Int32) (res : Int32 × Int32 × Int32 × Int32 × (Nat → Int32)) (hf : fX7_mends c_thrown c_low c_high c_s v1 = some res) : MWi l yX7_mends wsX7_mends rmX7_mends G [.ref h_this, .int v1] [(h_this, .inr (7, [.int c_thrown, .ref h_s, .ref h_draft, .ref h_past, .int c_undos, .ref h_kept, .ref h_isKept, .ref h_facts, .int c_manyFacts, .ref h_text, .int c_typed, .int c_from, .int c_to, .int c_token, .int c_fault, .int c_hasHooks, .int c_hasTies, .int c_low, .int c_high])), (h_s, .inl (G.2 0, 24, .inl c_s))] (res.1) [(h_this, .inr (7, [.int (res.2.1), .ref h_s, .ref h_draft, .ref h_past, .int c_undos, .ref h_kept, .ref h_isKept, .ref h_facts, .int c_manyFacts, .ref h_text, .int c_typed, .int c_from, .int c_to, .int c_token, .int c_fault, .int c_hasHooks, .int c_hasTies, .int (res.2.2.1), .int (res.2.2.2.1)])), (h_s, .inl (G.2 0, 24, .inl (res.2.2.2.2)))] := MWi.of (plainFor_of_name (by decide +kernel)) rfl (Nat.le_of_ble_eq_true rfl) (fun p e s m below meth c A C hA hP hD hS ls hl => kX7_mends h_this h_s h_draft h_past h_kept h_isKept h_facts h_text c_thrown c_undos c_manyFacts c_typed c_from c_to c_token c_fault c_hasHooks c_hasTies c_low c_high c_s v1 C hA hP hD hS (fun pc ls H locs hP hD hS d => rWi C hP hD hS d) hf hl)
def fX7_sees (c_thrown : Int32) (c_manyFacts : Int32) (c_facts : Nat → Int32) (v1 : Int32) (v2 : Int32) (v3 : Int32) : Option (Int32 × Int32 × Int32 × (Nat → Int32)) := (fX7_in v1 (0 : Int32) (99 : Int32)).bind (fun u1 => if u1 = 0 then some ((-1 : Int32), (0 : Int32), c_manyFacts, c_facts) else (fX7_in v2 (0 : Int32) (11 : Int32)).bind (fun u2 => if u2 = 0 then some ((-1 : Int32), (0 : Int32), c_manyFacts, c_facts) else (fX7_in v3 (0 : Int32) (1 : Int32)).bind (fun u3 => if u3 = 0 then some ((-1 : Int32), (0 : Int32), c_manyFacts, c_facts) else if c_manyFacts = (8 : Int32) then some ((-3 : Int32), (0 : Int32), c_manyFacts, c_facts) else gd (ix ((3 : Int32) * c_manyFacts) 24) (gd (ix (((3 : Int32) * c_manyFacts) + (1 : Int32)) 24) (gd (ix (((3 : Int32) * c_manyFacts) + (2 : Int32)) 24) (some ((c_manyFacts + (1 : Int32)), (0 : Int32), (c_manyFacts + (1 : Int32)), (upd (upd (upd c_facts ((3 : Int32) * c_manyFacts).toNatClampNeg v1) (((3 : Int32) * c_manyFacts) + (1 : Int32)).toNatClampNeg v2) (((3 : Int32) * c_manyFacts) + (2 : Int32)).toNatClampNeg v3))))))))
theorem iX7_sees_7 : ∀ w ∈ wsX70, w ∈ wsX7_sees := fun w h => List.mem_cons_of_mem _ (List.mem_append_right _ (h))
theorem hdX7_sees : yX7_sees.cls = RX7 ∧ yX7_sees.cls ≠ "java/lang/invoke/MethodHandle" ∧ yX7_sees.cls ≠ "java/lang/invoke/VarHandle" ∧ (parseMethodDescriptor yX7_sees.desc).map (fun d => d.parameters.length) = some 3 := by decide +kernel
abbrev rmX7_sees : Room := { frames := 1, cells := 0, slots := 0, locals := 22 }
section SX7_sees
variable {p : Program} {l : Launch} {e : Env} {s : State} {m : MethodId} {args : Array Value} {below : List Frame} {meth : Method} {c : Code} {Q : State → Prop} {G : GG} {A : Nat → Prop}
set_option maxHeartbeats 4000000 in
set_option maxRecDepth 100000 in
theorem kX7_sees (h_this : Nat) (h_s : Nat) (h_draft : Nat) (h_past : Nat) (h_kept : Nat) (h_isKept : Nat) (h_facts : Nat) (h_text : Nat) (c_thrown : Int32) (c_undos : Int32) (c_manyFacts : Int32) (c_typed : Int32) (c_from : Int32) (c_to : Int32) (c_token : Int32) (c_fault : Int32) (c_hasHooks : Int32) (c_hasTies : Int32) (c_low : Int32) (c_high : Int32) (c_facts : Nat → Int32) (v1 : Int32) (v2 : Int32) (v3 : Int32) (C : Cx cX7_sees (some .int) 4 RX7 wsX7_sees G p s m args meth c) (hA : ∀ q : Nat, s.heap.size ≤ q → A q) (hP : va_P G.1 CL [(h_this, .inr (7, [.int c_thrown, .ref h_s, .ref h_draft, .ref h_past, .int c_undos, .ref h_kept, .ref h_isKept, .ref h_facts, .int c_manyFacts, .ref h_text, .int c_typed, .int c_from, .int c_to, .int c_token, .int c_fault, .int c_hasHooks, .int c_hasTies, .int c_low, .int c_high])), (h_facts, .inl (G.2 0, 24, .inl c_facts))] s.heap) (hD : va_D A [(h_this, .inr (7, [.int c_thrown, .ref h_s, .ref h_draft, .ref h_past, .int c_undos, .ref h_kept, .ref h_isKept, .ref h_facts, .int c_manyFacts, .ref h_text, .int c_typed, .int c_from, .int c_to, .int c_token, .int c_fault, .int c_hasHooks, .int c_hasTies, .int c_low, .int c_high])), (h_facts, .inl (G.2 0, 24, .inl c_facts))]) (hS : va_S A s.heap s.heap []) {res : Int32 × Int32 × Int32 × (Nat → Int32)} (kr : ∀ (pc : Nat) (ls : Array Slot) (H : Heap) (locs : List Loc), va_P G.1 CL [(h_this, .inr (7, [.int (res.2.1), .ref h_s, .ref h_draft, .ref h_past, .int c_undos, .ref h_kept, .ref h_isKept, .ref h_facts, .int (res.2.2.1), .ref h_text, .int c_typed, .int c_from, .int c_to, .int c_token, .int c_fault, .int c_hasHooks, .int c_hasTies, .int c_low, .int c_high])), (h_facts, .inl (G.2 0, 24, .inl (res.2.2.2)))] H → va_D A [(h_this, .inr (7, [.int (res.2.1), .ref h_s, .ref h_draft, .ref h_past, .int c_undos, .ref h_kept, .ref h_isKept, .ref h_facts, .int (res.2.2.1), .ref h_text, .int c_typed, .int c_from, .int c_to, .int c_token, .int c_fault, .int c_hasHooks, .int c_hasTies, .int c_low, .int c_high])), (h_facts, .inl (G.2 0, 24, .inl (res.2.2.2)))] → va_S A s.heap H locs → decode cX7_sees pc = .ok (.ireturn, 1) → W p l e rmX7_sees s m args below meth c H locs 0 0 Q (F0 m pc ls [.int res.1])) (hf : fX7_sees c_thrown c_manyFacts c_facts v1 v2 v3 = some res) {ls : Array Slot} (hl : lv_has ls 4 [(0, .ref h_this), (1, .int v1), (2, .int v2), (3, .int v3)]) : W p l e rmX7_sees s m args below meth c s.heap [] 0 0 Q (F0 m 0 ls []) := by
  obtain ⟨hx, hb, hr, hlk, hml, hown, hts, hK⟩ := id C
  rw [fX7_sees] at hf
  refine lv_aload_n hx hb dX7_sees_0 rfl (lv_at hl 0 rfl) ?_
  refine lv_iconst (v := (0 : Int32)) hx hb dX7_sees_1 (by decide) ?_
  refine va_put (D := G.1) (cl := CL) (ci := 7) (v := .int (0 : Int32)) (ty := .int) (C := RX7) (T := TX7) (N := 19) hx hb hts iX7_sees_7 tyX7 tyX7_ok nmX7 hown hK hP hD hS 0 rfl rfl 0 (by decide) (hts (.fieldLink RX7 37 "LoomCardsModel" "thrown" "I") (List.mem_of_getElem? (i := 1) rfl)) (fun _ h9 => h9) rfl (tyX7_ok 0 (by decide)) rfl rfl (Nat.le_of_ble_eq_true rfl) dX7_sees_2 (fun H locs hP hD hS => ?_)
  have hP : va_P G.1 CL [(h_this, .inr (7, [.int (0 : Int32), .ref h_s, .ref h_draft, .ref h_past, .int c_undos, .ref h_kept, .ref h_isKept, .ref h_facts, .int c_manyFacts, .ref h_text, .int c_typed, .int c_from, .int c_to, .int c_token, .int c_fault, .int c_hasHooks, .int c_hasTies, .int c_low, .int c_high])), (h_facts, .inl (G.2 0, 24, .inl c_facts))] H := hP
  have hD : va_D A [(h_this, .inr (7, [.int (0 : Int32), .ref h_s, .ref h_draft, .ref h_past, .int c_undos, .ref h_kept, .ref h_isKept, .ref h_facts, .int c_manyFacts, .ref h_text, .int c_typed, .int c_from, .int c_to, .int c_token, .int c_fault, .int c_hasHooks, .int c_hasTies, .int c_low, .int c_high])), (h_facts, .inl (G.2 0, 24, .inl c_facts))] := hD
  refine lv_iload_n hx hb dX7_sees_5 rfl (lv_at hl 1 rfl) ?_
  refine lv_iconst (v := (0 : Int32)) hx hb dX7_sees_6 (by decide) ?_
  refine lv_bipush (v := (99 : Int32)) hx hb dX7_sees_7 (by decide) ?_
  refine r_bind hf (fun u1 hu1 hf => ?_)
  refine cRiS (rest := []) ⟨hx, hb, hml, hown, hts⟩ hK (tX7_in l G v1 (0 : Int32) (99 : Int32) u1 hu1) gX7_sees_X7_in rfl hdX7_in rfl rfl rfl ⟨Nat.le_of_ble_eq_true rfl, Nat.le_of_ble_eq_true rfl⟩ hP [] rfl hl.1 (Nat.le_of_ble_eq_true rfl) rfl dX7_sees_9 ⟨Nat.zero_le _, Nat.zero_le _⟩ ?_
  refine lv_if_eq (tgt := 34) hx hb dX7_sees_12 (by decide) (fun c9 => ?_) (fun c9 => ?_)
  · have hf := c_t hf c9
    refine lv_iconst (v := (-1 : Int32)) hx hb dX7_sees_34 (by decide) ?_
    obtain rfl := Option.some.inj hf
    exact kr _ _ _ _ hP hD hS dX7_sees_35
  · have hf := c_f hf c9
    refine lv_iload_n hx hb dX7_sees_15 rfl (lv_at hl 2 rfl) ?_
    refine lv_iconst (v := (0 : Int32)) hx hb dX7_sees_16 (by decide) ?_
    refine lv_bipush (v := (11 : Int32)) hx hb dX7_sees_17 (by decide) ?_
    refine r_bind hf (fun u2 hu2 hf => ?_)
    refine cRiS (rest := []) ⟨hx, hb, hml, hown, hts⟩ hK (tX7_in l G v2 (0 : Int32) (11 : Int32) u2 hu2) gX7_sees_X7_in rfl hdX7_in rfl rfl rfl ⟨Nat.le_of_ble_eq_true rfl, Nat.le_of_ble_eq_true rfl⟩ hP [] rfl hl.1 (Nat.le_of_ble_eq_true rfl) rfl dX7_sees_19 ⟨Nat.zero_le _, Nat.zero_le _⟩ ?_
    refine lv_if_eq (tgt := 34) hx hb dX7_sees_22 (by decide) (fun c9 => ?_) (fun c9 => ?_)
    · have hf := c_t hf c9
      refine lv_iconst (v := (-1 : Int32)) hx hb dX7_sees_34 (by decide) ?_
      obtain rfl := Option.some.inj hf
      exact kr _ _ _ _ hP hD hS dX7_sees_35
    · have hf := c_f hf c9
      refine lv_iload_n hx hb dX7_sees_25 rfl (lv_at hl 3 rfl) ?_
      refine lv_iconst (v := (0 : Int32)) hx hb dX7_sees_26 (by decide) ?_
      refine lv_iconst (v := (1 : Int32)) hx hb dX7_sees_27 (by decide) ?_
      refine r_bind hf (fun u3 hu3 hf => ?_)
      refine cRiS (rest := []) ⟨hx, hb, hml, hown, hts⟩ hK (tX7_in l G v3 (0 : Int32) (1 : Int32) u3 hu3) gX7_sees_X7_in rfl hdX7_in rfl rfl rfl ⟨Nat.le_of_ble_eq_true rfl, Nat.le_of_ble_eq_true rfl⟩ hP [] rfl hl.1 (Nat.le_of_ble_eq_true rfl) rfl dX7_sees_28 ⟨Nat.zero_le _, Nat.zero_le _⟩ ?_
      refine lv_if_ne (tgt := 36) hx hb dX7_sees_31 (by decide) (fun c9 => ?_) (fun c9 => ?_)
      · have hf := c_f hf c9
        refine lv_aload_n hx hb dX7_sees_36 rfl (lv_at hl 0 rfl) ?_
        refine va_get (D := G.1) (cl := CL) (ci := 7) (C := RX7) (T := TX7) (N := 19) hx hb hts iX7_sees_7 hown hK hP 0 rfl rfl 8 (by decide) (hts (.fieldLink RX7 184 "LoomCardsModel" "manyFacts" "I") (List.mem_of_getElem? (i := 2) rfl)) (fun _ h9 => h9) rfl dX7_sees_37 ?_
        refine lv_bipush (v := (8 : Int32)) hx hb dX7_sees_40 (by decide) ?_
        refine lv_icmp_ne (tgt := 48) hx hb dX7_sees_42 (by decide) (fun c9 => ?_) (fun c9 => ?_)
        · have hf := c_f hf c9
          refine lv_aload_n hx hb dX7_sees_48 rfl (lv_at hl 0 rfl) ?_
          refine va_get (D := G.1) (cl := CL) (ci := 7) (C := RX7) (T := TX7) (N := 19) hx hb hts iX7_sees_7 hown hK hP 0 rfl rfl 7 (by decide) (hts (.fieldLink RX7 26 "LoomCardsModel" "facts" "[I") (List.mem_of_getElem? (i := 3) rfl)) (fun _ h9 => h9) rfl dX7_sees_49 ?_
          refine lv_iconst (v := (3 : Int32)) hx hb dX7_sees_52 (by decide) ?_
          refine lv_aload_n hx hb dX7_sees_53 rfl (lv_at hl 0 rfl) ?_
          refine va_get (D := G.1) (cl := CL) (ci := 7) (C := RX7) (T := TX7) (N := 19) hx hb hts iX7_sees_7 hown hK hP 0 rfl rfl 8 (by decide) (hts (.fieldLink RX7 184 "LoomCardsModel" "manyFacts" "I") (List.mem_of_getElem? (i := 2) rfl)) (fun _ h9 => h9) rfl dX7_sees_54 ?_
          refine lv_imul hx hb dX7_sees_57 ?_
          refine lv_iload_n hx hb dX7_sees_58 rfl (lv_at hl 1 rfl) ?_
          refine r_gd hf (fun g9 hf => ?_)
          refine r_iast hx hb hK hP hD hS 1 rfl (ix_in g9) rfl dX7_sees_59 (fun H locs hP hD hS => ?_)
          have hP : va_P G.1 CL [(h_this, .inr (7, [.int (0 : Int32), .ref h_s, .ref h_draft, .ref h_past, .int c_undos, .ref h_kept, .ref h_isKept, .ref h_facts, .int c_manyFacts, .ref h_text, .int c_typed, .int c_from, .int c_to, .int c_token, .int c_fault, .int c_hasHooks, .int c_hasTies, .int c_low, .int c_high])), (h_facts, .inl (G.2 0, 24, .inl (upd c_facts ((3 : Int32) * c_manyFacts).toNatClampNeg v1)))] H := hP
          have hD : va_D A [(h_this, .inr (7, [.int (0 : Int32), .ref h_s, .ref h_draft, .ref h_past, .int c_undos, .ref h_kept, .ref h_isKept, .ref h_facts, .int c_manyFacts, .ref h_text, .int c_typed, .int c_from, .int c_to, .int c_token, .int c_fault, .int c_hasHooks, .int c_hasTies, .int c_low, .int c_high])), (h_facts, .inl (G.2 0, 24, .inl (upd c_facts ((3 : Int32) * c_manyFacts).toNatClampNeg v1)))] := hD
          refine lv_aload_n hx hb dX7_sees_60 rfl (lv_at hl 0 rfl) ?_
          refine va_get (D := G.1) (cl := CL) (ci := 7) (C := RX7) (T := TX7) (N := 19) hx hb hts iX7_sees_7 hown hK hP 0 rfl rfl 7 (by decide) (hts (.fieldLink RX7 26 "LoomCardsModel" "facts" "[I") (List.mem_of_getElem? (i := 3) rfl)) (fun _ h9 => h9) rfl dX7_sees_61 ?_
          refine lv_iconst (v := (3 : Int32)) hx hb dX7_sees_64 (by decide) ?_
          refine lv_aload_n hx hb dX7_sees_65 rfl (lv_at hl 0 rfl) ?_
          refine va_get (D := G.1) (cl := CL) (ci := 7) (C := RX7) (T := TX7) (N := 19) hx hb hts iX7_sees_7 hown hK hP 0 rfl rfl 8 (by decide) (hts (.fieldLink RX7 184 "LoomCardsModel" "manyFacts" "I") (List.mem_of_getElem? (i := 2) rfl)) (fun _ h9 => h9) rfl dX7_sees_66 ?_
          refine lv_imul hx hb dX7_sees_69 ?_
          refine lv_iconst (v := (1 : Int32)) hx hb dX7_sees_70 (by decide) ?_
          refine lv_iadd hx hb dX7_sees_71 ?_
          refine lv_iload_n hx hb dX7_sees_72 rfl (lv_at hl 2 rfl) ?_
          refine r_gd hf (fun g9 hf => ?_)
          refine r_iast hx hb hK hP hD hS 1 rfl (ix_in g9) rfl dX7_sees_73 (fun H locs hP hD hS => ?_)
          have hP : va_P G.1 CL [(h_this, .inr (7, [.int (0 : Int32), .ref h_s, .ref h_draft, .ref h_past, .int c_undos, .ref h_kept, .ref h_isKept, .ref h_facts, .int c_manyFacts, .ref h_text, .int c_typed, .int c_from, .int c_to, .int c_token, .int c_fault, .int c_hasHooks, .int c_hasTies, .int c_low, .int c_high])), (h_facts, .inl (G.2 0, 24, .inl (upd (upd c_facts ((3 : Int32) * c_manyFacts).toNatClampNeg v1) (((3 : Int32) * c_manyFacts) + (1 : Int32)).toNatClampNeg v2)))] H := hP
          have hD : va_D A [(h_this, .inr (7, [.int (0 : Int32), .ref h_s, .ref h_draft, .ref h_past, .int c_undos, .ref h_kept, .ref h_isKept, .ref h_facts, .int c_manyFacts, .ref h_text, .int c_typed, .int c_from, .int c_to, .int c_token, .int c_fault, .int c_hasHooks, .int c_hasTies, .int c_low, .int c_high])), (h_facts, .inl (G.2 0, 24, .inl (upd (upd c_facts ((3 : Int32) * c_manyFacts).toNatClampNeg v1) (((3 : Int32) * c_manyFacts) + (1 : Int32)).toNatClampNeg v2)))] := hD
          refine lv_aload_n hx hb dX7_sees_74 rfl (lv_at hl 0 rfl) ?_
          refine va_get (D := G.1) (cl := CL) (ci := 7) (C := RX7) (T := TX7) (N := 19) hx hb hts iX7_sees_7 hown hK hP 0 rfl rfl 7 (by decide) (hts (.fieldLink RX7 26 "LoomCardsModel" "facts" "[I") (List.mem_of_getElem? (i := 3) rfl)) (fun _ h9 => h9) rfl dX7_sees_75 ?_
          refine lv_iconst (v := (3 : Int32)) hx hb dX7_sees_78 (by decide) ?_
          refine lv_aload_n hx hb dX7_sees_79 rfl (lv_at hl 0 rfl) ?_
          refine va_get (D := G.1) (cl := CL) (ci := 7) (C := RX7) (T := TX7) (N := 19) hx hb hts iX7_sees_7 hown hK hP 0 rfl rfl 8 (by decide) (hts (.fieldLink RX7 184 "LoomCardsModel" "manyFacts" "I") (List.mem_of_getElem? (i := 2) rfl)) (fun _ h9 => h9) rfl dX7_sees_80 ?_
          refine lv_imul hx hb dX7_sees_83 ?_
          refine lv_iconst (v := (2 : Int32)) hx hb dX7_sees_84 (by decide) ?_
          refine lv_iadd hx hb dX7_sees_85 ?_
          refine lv_iload_n hx hb dX7_sees_86 rfl (lv_at hl 3 rfl) ?_
          refine r_gd hf (fun g9 hf => ?_)
          refine r_iast hx hb hK hP hD hS 1 rfl (ix_in g9) rfl dX7_sees_87 (fun H locs hP hD hS => ?_)
          have hP : va_P G.1 CL [(h_this, .inr (7, [.int (0 : Int32), .ref h_s, .ref h_draft, .ref h_past, .int c_undos, .ref h_kept, .ref h_isKept, .ref h_facts, .int c_manyFacts, .ref h_text, .int c_typed, .int c_from, .int c_to, .int c_token, .int c_fault, .int c_hasHooks, .int c_hasTies, .int c_low, .int c_high])), (h_facts, .inl (G.2 0, 24, .inl (upd (upd (upd c_facts ((3 : Int32) * c_manyFacts).toNatClampNeg v1) (((3 : Int32) * c_manyFacts) + (1 : Int32)).toNatClampNeg v2) (((3 : Int32) * c_manyFacts) + (2 : Int32)).toNatClampNeg v3)))] H := hP
          have hD : va_D A [(h_this, .inr (7, [.int (0 : Int32), .ref h_s, .ref h_draft, .ref h_past, .int c_undos, .ref h_kept, .ref h_isKept, .ref h_facts, .int c_manyFacts, .ref h_text, .int c_typed, .int c_from, .int c_to, .int c_token, .int c_fault, .int c_hasHooks, .int c_hasTies, .int c_low, .int c_high])), (h_facts, .inl (G.2 0, 24, .inl (upd (upd (upd c_facts ((3 : Int32) * c_manyFacts).toNatClampNeg v1) (((3 : Int32) * c_manyFacts) + (1 : Int32)).toNatClampNeg v2) (((3 : Int32) * c_manyFacts) + (2 : Int32)).toNatClampNeg v3)))] := hD
          refine lv_aload_n hx hb dX7_sees_88 rfl (lv_at hl 0 rfl) ?_
          refine lv_dup hx hb dX7_sees_89 rfl ?_
          refine va_get (D := G.1) (cl := CL) (ci := 7) (C := RX7) (T := TX7) (N := 19) hx hb hts iX7_sees_7 hown hK hP 0 rfl rfl 8 (by decide) (hts (.fieldLink RX7 184 "LoomCardsModel" "manyFacts" "I") (List.mem_of_getElem? (i := 2) rfl)) (fun _ h9 => h9) rfl dX7_sees_90 ?_
          refine lv_iconst (v := (1 : Int32)) hx hb dX7_sees_93 (by decide) ?_
          refine lv_iadd hx hb dX7_sees_94 ?_
          refine va_put (D := G.1) (cl := CL) (ci := 7) (v := .int (c_manyFacts + (1 : Int32))) (ty := .int) (C := RX7) (T := TX7) (N := 19) hx hb hts iX7_sees_7 tyX7 tyX7_ok nmX7 hown hK hP hD hS 0 rfl rfl 8 (by decide) (hts (.fieldLink RX7 184 "LoomCardsModel" "manyFacts" "I") (List.mem_of_getElem? (i := 2) rfl)) (fun _ h9 => h9) rfl (tyX7_ok 8 (by decide)) rfl rfl (Nat.le_of_ble_eq_true rfl) dX7_sees_95 (fun H locs hP hD hS => ?_)
          have hP : va_P G.1 CL [(h_this, .inr (7, [.int (0 : Int32), .ref h_s, .ref h_draft, .ref h_past, .int c_undos, .ref h_kept, .ref h_isKept, .ref h_facts, .int (c_manyFacts + (1 : Int32)), .ref h_text, .int c_typed, .int c_from, .int c_to, .int c_token, .int c_fault, .int c_hasHooks, .int c_hasTies, .int c_low, .int c_high])), (h_facts, .inl (G.2 0, 24, .inl (upd (upd (upd c_facts ((3 : Int32) * c_manyFacts).toNatClampNeg v1) (((3 : Int32) * c_manyFacts) + (1 : Int32)).toNatClampNeg v2) (((3 : Int32) * c_manyFacts) + (2 : Int32)).toNatClampNeg v3)))] H := hP
          have hD : va_D A [(h_this, .inr (7, [.int (0 : Int32), .ref h_s, .ref h_draft, .ref h_past, .int c_undos, .ref h_kept, .ref h_isKept, .ref h_facts, .int (c_manyFacts + (1 : Int32)), .ref h_text, .int c_typed, .int c_from, .int c_to, .int c_token, .int c_fault, .int c_hasHooks, .int c_hasTies, .int c_low, .int c_high])), (h_facts, .inl (G.2 0, 24, .inl (upd (upd (upd c_facts ((3 : Int32) * c_manyFacts).toNatClampNeg v1) (((3 : Int32) * c_manyFacts) + (1 : Int32)).toNatClampNeg v2) (((3 : Int32) * c_manyFacts) + (2 : Int32)).toNatClampNeg v3)))] := hD
          refine lv_aload_n hx hb dX7_sees_98 rfl (lv_at hl 0 rfl) ?_
          refine va_get (D := G.1) (cl := CL) (ci := 7) (C := RX7) (T := TX7) (N := 19) hx hb hts iX7_sees_7 hown hK hP 0 rfl rfl 8 (by decide) (hts (.fieldLink RX7 184 "LoomCardsModel" "manyFacts" "I") (List.mem_of_getElem? (i := 2) rfl)) (fun _ h9 => h9) rfl dX7_sees_99 ?_
          obtain rfl := Option.some.inj hf
          exact kr _ _ _ _ hP hD hS dX7_sees_102
        · have hf := c_t hf c9
          refine lv_bipush (v := (-3 : Int32)) hx hb dX7_sees_45 (by decide) ?_
          obtain rfl := Option.some.inj hf
          exact kr _ _ _ _ hP hD hS dX7_sees_47
      · have hf := c_t hf c9
        refine lv_iconst (v := (-1 : Int32)) hx hb dX7_sees_34 (by decide) ?_
        obtain rfl := Option.some.inj hf
        exact kr _ _ _ _ hP hD hS dX7_sees_35
end SX7_sees
set_option maxHeartbeats 4000000 in
set_option maxRecDepth 100000 in
theorem tX7_sees (l : Launch) (G : GG) (h_this : Nat) (h_s : Nat) (h_draft : Nat) (h_past : Nat) (h_kept : Nat) (h_isKept : Nat) (h_facts : Nat) (h_text : Nat) (c_thrown : Int32) (c_undos : Int32) (c_manyFacts : Int32) (c_typed : Int32) (c_from : Int32) (c_to : Int32) (c_token : Int32) (c_fault : Int32) (c_hasHooks : Int32) (c_hasTies : Int32) (c_low : Int32) (c_high : Int32) (c_facts : Nat → Int32) (v1 : Int32) (v2 : Int32) (v3 : Int32) (res : Int32 × Int32 × Int32 × (Nat → Int32)) (hf : fX7_sees c_thrown c_manyFacts c_facts v1 v2 v3 = some res) : MWi l yX7_sees wsX7_sees rmX7_sees G [.ref h_this, .int v1, .int v2, .int v3] [(h_this, .inr (7, [.int c_thrown, .ref h_s, .ref h_draft, .ref h_past, .int c_undos, .ref h_kept, .ref h_isKept, .ref h_facts, .int c_manyFacts, .ref h_text, .int c_typed, .int c_from, .int c_to, .int c_token, .int c_fault, .int c_hasHooks, .int c_hasTies, .int c_low, .int c_high])), (h_facts, .inl (G.2 0, 24, .inl c_facts))] (res.1) [(h_this, .inr (7, [.int (res.2.1), .ref h_s, .ref h_draft, .ref h_past, .int c_undos, .ref h_kept, .ref h_isKept, .ref h_facts, .int (res.2.2.1), .ref h_text, .int c_typed, .int c_from, .int c_to, .int c_token, .int c_fault, .int c_hasHooks, .int c_hasTies, .int c_low, .int c_high])), (h_facts, .inl (G.2 0, 24, .inl (res.2.2.2)))] := MWi.of (plainFor_of_name (by decide +kernel)) rfl (Nat.le_of_ble_eq_true rfl) (fun p e s m below meth c A C hA hP hD hS ls hl => kX7_sees h_this h_s h_draft h_past h_kept h_isKept h_facts h_text c_thrown c_undos c_manyFacts c_typed c_from c_to c_token c_fault c_hasHooks c_hasTies c_low c_high c_facts v1 v2 v3 C hA hP hD hS (fun pc ls H locs hP hD hS d => rWi C hP hD hS d) hf hl)
def fX7_forget (c_thrown : Int32) (c_manyFacts : Int32)  : Option (Int32 × Int32 × Int32) := some (c_manyFacts, (0 : Int32), (0 : Int32))
theorem iX7_forget_7 : ∀ w ∈ wsX70, w ∈ wsX7_forget := fun w h => List.mem_cons_of_mem _ (List.mem_append_right _ (h))
theorem hdX7_forget : yX7_forget.cls = RX7 ∧ yX7_forget.cls ≠ "java/lang/invoke/MethodHandle" ∧ yX7_forget.cls ≠ "java/lang/invoke/VarHandle" ∧ (parseMethodDescriptor yX7_forget.desc).map (fun d => d.parameters.length) = some 0 := by decide +kernel
abbrev rmX7_forget : Room := { frames := 0, cells := 0, slots := 0, locals := 0 }
section SX7_forget
variable {p : Program} {l : Launch} {e : Env} {s : State} {m : MethodId} {args : Array Value} {below : List Frame} {meth : Method} {c : Code} {Q : State → Prop} {G : GG} {A : Nat → Prop}
set_option maxHeartbeats 4000000 in
set_option maxRecDepth 100000 in
theorem kX7_forget (h_this : Nat) (h_s : Nat) (h_draft : Nat) (h_past : Nat) (h_kept : Nat) (h_isKept : Nat) (h_facts : Nat) (h_text : Nat) (c_thrown : Int32) (c_undos : Int32) (c_manyFacts : Int32) (c_typed : Int32) (c_from : Int32) (c_to : Int32) (c_token : Int32) (c_fault : Int32) (c_hasHooks : Int32) (c_hasTies : Int32) (c_low : Int32) (c_high : Int32) (C : Cx cX7_forget (some .int) 2 RX7 wsX7_forget G p s m args meth c) (hA : ∀ q : Nat, s.heap.size ≤ q → A q) (hP : va_P G.1 CL [(h_this, .inr (7, [.int c_thrown, .ref h_s, .ref h_draft, .ref h_past, .int c_undos, .ref h_kept, .ref h_isKept, .ref h_facts, .int c_manyFacts, .ref h_text, .int c_typed, .int c_from, .int c_to, .int c_token, .int c_fault, .int c_hasHooks, .int c_hasTies, .int c_low, .int c_high]))] s.heap) (hD : va_D A [(h_this, .inr (7, [.int c_thrown, .ref h_s, .ref h_draft, .ref h_past, .int c_undos, .ref h_kept, .ref h_isKept, .ref h_facts, .int c_manyFacts, .ref h_text, .int c_typed, .int c_from, .int c_to, .int c_token, .int c_fault, .int c_hasHooks, .int c_hasTies, .int c_low, .int c_high]))]) (hS : va_S A s.heap s.heap []) {res : Int32 × Int32 × Int32} (kr : ∀ (pc : Nat) (ls : Array Slot) (H : Heap) (locs : List Loc), va_P G.1 CL [(h_this, .inr (7, [.int (res.2.1), .ref h_s, .ref h_draft, .ref h_past, .int c_undos, .ref h_kept, .ref h_isKept, .ref h_facts, .int (res.2.2), .ref h_text, .int c_typed, .int c_from, .int c_to, .int c_token, .int c_fault, .int c_hasHooks, .int c_hasTies, .int c_low, .int c_high]))] H → va_D A [(h_this, .inr (7, [.int (res.2.1), .ref h_s, .ref h_draft, .ref h_past, .int c_undos, .ref h_kept, .ref h_isKept, .ref h_facts, .int (res.2.2), .ref h_text, .int c_typed, .int c_from, .int c_to, .int c_token, .int c_fault, .int c_hasHooks, .int c_hasTies, .int c_low, .int c_high]))] → va_S A s.heap H locs → decode cX7_forget pc = .ok (.ireturn, 1) → W p l e rmX7_forget s m args below meth c H locs 0 0 Q (F0 m pc ls [.int res.1])) (hf : fX7_forget c_thrown c_manyFacts = some res) {ls : Array Slot} (hl : lv_has ls 2 [(0, .ref h_this)]) : W p l e rmX7_forget s m args below meth c s.heap [] 0 0 Q (F0 m 0 ls []) := by
  obtain ⟨hx, hb, hr, hlk, hml, hown, hts, hK⟩ := id C
  rw [fX7_forget] at hf
  refine lv_aload_n hx hb dX7_forget_0 rfl (lv_at hl 0 rfl) ?_
  refine lv_iconst (v := (0 : Int32)) hx hb dX7_forget_1 (by decide) ?_
  refine va_put (D := G.1) (cl := CL) (ci := 7) (v := .int (0 : Int32)) (ty := .int) (C := RX7) (T := TX7) (N := 19) hx hb hts iX7_forget_7 tyX7 tyX7_ok nmX7 hown hK hP hD hS 0 rfl rfl 0 (by decide) (hts (.fieldLink RX7 37 "LoomCardsModel" "thrown" "I") (List.mem_of_getElem? (i := 1) rfl)) (fun _ h9 => h9) rfl (tyX7_ok 0 (by decide)) rfl rfl (Nat.le_of_ble_eq_true rfl) dX7_forget_2 (fun H locs hP hD hS => ?_)
  have hP : va_P G.1 CL [(h_this, .inr (7, [.int (0 : Int32), .ref h_s, .ref h_draft, .ref h_past, .int c_undos, .ref h_kept, .ref h_isKept, .ref h_facts, .int c_manyFacts, .ref h_text, .int c_typed, .int c_from, .int c_to, .int c_token, .int c_fault, .int c_hasHooks, .int c_hasTies, .int c_low, .int c_high]))] H := hP
  have hD : va_D A [(h_this, .inr (7, [.int (0 : Int32), .ref h_s, .ref h_draft, .ref h_past, .int c_undos, .ref h_kept, .ref h_isKept, .ref h_facts, .int c_manyFacts, .ref h_text, .int c_typed, .int c_from, .int c_to, .int c_token, .int c_fault, .int c_hasHooks, .int c_hasTies, .int c_low, .int c_high]))] := hD
  refine lv_aload_n hx hb dX7_forget_5 rfl (lv_at hl 0 rfl) ?_
  refine va_get (D := G.1) (cl := CL) (ci := 7) (C := RX7) (T := TX7) (N := 19) hx hb hts iX7_forget_7 hown hK hP 0 rfl rfl 8 (by decide) (hts (.fieldLink RX7 184 "LoomCardsModel" "manyFacts" "I") (List.mem_of_getElem? (i := 2) rfl)) (fun _ h9 => h9) rfl dX7_forget_6 ?_
  refine lv_istore_n (lv' := [(1, .int c_manyFacts), (0, .ref h_this)]) hx hb dX7_forget_9 rfl hl (by decide) rfl (fun ls hl => ?_)
  refine lv_aload_n hx hb dX7_forget_10 rfl (lv_at hl 1 rfl) ?_
  refine lv_iconst (v := (0 : Int32)) hx hb dX7_forget_11 (by decide) ?_
  refine va_put (D := G.1) (cl := CL) (ci := 7) (v := .int (0 : Int32)) (ty := .int) (C := RX7) (T := TX7) (N := 19) hx hb hts iX7_forget_7 tyX7 tyX7_ok nmX7 hown hK hP hD hS 0 rfl rfl 8 (by decide) (hts (.fieldLink RX7 184 "LoomCardsModel" "manyFacts" "I") (List.mem_of_getElem? (i := 2) rfl)) (fun _ h9 => h9) rfl (tyX7_ok 8 (by decide)) rfl rfl (Nat.le_of_ble_eq_true rfl) dX7_forget_12 (fun H locs hP hD hS => ?_)
  have hP : va_P G.1 CL [(h_this, .inr (7, [.int (0 : Int32), .ref h_s, .ref h_draft, .ref h_past, .int c_undos, .ref h_kept, .ref h_isKept, .ref h_facts, .int (0 : Int32), .ref h_text, .int c_typed, .int c_from, .int c_to, .int c_token, .int c_fault, .int c_hasHooks, .int c_hasTies, .int c_low, .int c_high]))] H := hP
  have hD : va_D A [(h_this, .inr (7, [.int (0 : Int32), .ref h_s, .ref h_draft, .ref h_past, .int c_undos, .ref h_kept, .ref h_isKept, .ref h_facts, .int (0 : Int32), .ref h_text, .int c_typed, .int c_from, .int c_to, .int c_token, .int c_fault, .int c_hasHooks, .int c_hasTies, .int c_low, .int c_high]))] := hD
  refine lv_iload_n hx hb dX7_forget_15 rfl (lv_at hl 0 rfl) ?_
  obtain rfl := Option.some.inj hf
  exact kr _ _ _ _ hP hD hS dX7_forget_16
end SX7_forget
set_option maxHeartbeats 4000000 in
set_option maxRecDepth 100000 in
theorem tX7_forget (l : Launch) (G : GG) (h_this : Nat) (h_s : Nat) (h_draft : Nat) (h_past : Nat) (h_kept : Nat) (h_isKept : Nat) (h_facts : Nat) (h_text : Nat) (c_thrown : Int32) (c_undos : Int32) (c_manyFacts : Int32) (c_typed : Int32) (c_from : Int32) (c_to : Int32) (c_token : Int32) (c_fault : Int32) (c_hasHooks : Int32) (c_hasTies : Int32) (c_low : Int32) (c_high : Int32) (res : Int32 × Int32 × Int32) (hf : fX7_forget c_thrown c_manyFacts = some res) : MWi l yX7_forget wsX7_forget rmX7_forget G [.ref h_this] [(h_this, .inr (7, [.int c_thrown, .ref h_s, .ref h_draft, .ref h_past, .int c_undos, .ref h_kept, .ref h_isKept, .ref h_facts, .int c_manyFacts, .ref h_text, .int c_typed, .int c_from, .int c_to, .int c_token, .int c_fault, .int c_hasHooks, .int c_hasTies, .int c_low, .int c_high]))] (res.1) [(h_this, .inr (7, [.int (res.2.1), .ref h_s, .ref h_draft, .ref h_past, .int c_undos, .ref h_kept, .ref h_isKept, .ref h_facts, .int (res.2.2), .ref h_text, .int c_typed, .int c_from, .int c_to, .int c_token, .int c_fault, .int c_hasHooks, .int c_hasTies, .int c_low, .int c_high]))] := MWi.of (plainFor_of_name (by decide +kernel)) rfl (Nat.le_of_ble_eq_true rfl) (fun p e s m below meth c A C hA hP hD hS ls hl => kX7_forget h_this h_s h_draft h_past h_kept h_isKept h_facts h_text c_thrown c_undos c_manyFacts c_typed c_from c_to c_token c_fault c_hasHooks c_hasTies c_low c_high C hA hP hD hS (fun pc ls H locs hP hD hS d => rWi C hP hD hS d) hf hl)
def fX7_areSo_L4 (k82 : Int32 → Option (Int32)) (c_manyFacts : Int32) (c_s : Nat → Int32) (c_facts : Nat → Int32) : Nat → Int32 → Int32 → Option (Int32)
  | 0, _, _ => none
  | n + 1, v1, v2 => if c_manyFacts ≤ v2 then k82 v1 else if v1 = 0 then k82 v1 else gd (ix (((3 : Int32) * v2) + (1 : Int32)) 24) ((fX7_isEnd c_s (c_facts (((3 : Int32) * v2) + (1 : Int32)).toNatClampNeg)).bind (fun u1 => jn (fun (j75_0 : Int32) => fX7_areSo_L4 k82 c_manyFacts c_s c_facts n j75_0 (v2 + (1 : Int32))) (fun J75 => jn (J75 (0 : Int32)) (fun J74 => if u1 = 0 then J74 else gd (ix ((3 : Int32) * v2) 24) ((fX7_isUp c_s (c_facts ((3 : Int32) * v2).toNatClampNeg) (c_facts (((3 : Int32) * v2) + (1 : Int32)).toNatClampNeg)).bind (fun u2 => gd (ix (((3 : Int32) * v2) + (2 : Int32)) 24) (jn (fun (j67_0 : Int32) (j67_1 : Int32) => if j67_1 = j67_0 then J75 (1 : Int32) else J74) (fun J67 => if (c_facts (((3 : Int32) * v2) + (2 : Int32)).toNatClampNeg) = (1 : Int32) then J67 (1 : Int32) u2 else J67 (0 : Int32) u2))))))))
def fX7_areSo (c_manyFacts : Int32) (c_s : Nat → Int32) (c_facts : Nat → Int32)  : Option (Int32) := (fX7_areSo_L4 (fun (v1_x3 : Int32) => gd (tf v1_x3) (some (v1_x3))) c_manyFacts c_s c_facts FU (1 : Int32) (0 : Int32))
theorem iX7_areSo_7 : ∀ w ∈ wsX70, w ∈ wsX7_areSo := fun w h => List.mem_cons_of_mem _ (List.mem_append_right _ (h))
theorem hdX7_areSo : yX7_areSo.cls = RX7 ∧ yX7_areSo.cls ≠ "java/lang/invoke/MethodHandle" ∧ yX7_areSo.cls ≠ "java/lang/invoke/VarHandle" ∧ (parseMethodDescriptor yX7_areSo.desc).map (fun d => d.parameters.length) = some 0 := by decide +kernel
abbrev rmX7_areSo : Room := { frames := 2, cells := 0, slots := 0, locals := 43 }
section SX7_areSo
variable {p : Program} {l : Launch} {e : Env} {s : State} {m : MethodId} {args : Array Value} {below : List Frame} {meth : Method} {c : Code} {Q : State → Prop} {G : GG}
set_option maxHeartbeats 4000000 in
set_option maxRecDepth 100000 in
theorem kX7_areSo_L4 (h_this : Nat) (h_s : Nat) (h_draft : Nat) (h_past : Nat) (h_kept : Nat) (h_isKept : Nat) (h_facts : Nat) (h_text : Nat) (c_thrown : Int32) (c_undos : Int32) (c_manyFacts : Int32) (c_typed : Int32) (c_from : Int32) (c_to : Int32) (c_token : Int32) (c_fault : Int32) (c_hasHooks : Int32) (c_hasTies : Int32) (c_low : Int32) (c_high : Int32) (c_s : Nat → Int32) (c_facts : Nat → Int32) (C : Cx cX7_areSo (some .boolean) 4 RX7 wsX7_areSo G p s m args meth c) (hP : va_P G.1 CL [(h_this, .inr (7, [.int c_thrown, .ref h_s, .ref h_draft, .ref h_past, .int c_undos, .ref h_kept, .ref h_isKept, .ref h_facts, .int c_manyFacts, .ref h_text, .int c_typed, .int c_from, .int c_to, .int c_token, .int c_fault, .int c_hasHooks, .int c_hasTies, .int c_low, .int c_high])), (h_s, .inl (G.2 0, 24, .inl c_s)), (h_facts, .inl (G.2 0, 24, .inl c_facts))] s.heap) {res : Int32} (kr : ∀ (pc : Nat) (ls : Array Slot), narrow .boolean (.int res) = .int res → decode cX7_areSo pc = .ok (.ireturn, 1) → W p l e rmX7_areSo s m args below meth c s.heap [] 0 0 Q (F0 m pc ls [.int res])) {k82 : Int32 → Option (Int32)} (hk82 : ∀ (v1 : Int32) , k82 v1 = some res → ∀ (ls : Array Slot), lv_has ls 4 [(1, .int v1)] → W p l e rmX7_areSo s m args below meth c s.heap [] 0 0 Q (F0 m 82 ls [])) : ∀ (n : Nat) (v1 : Int32) (v2 : Int32), fX7_areSo_L4 k82 c_manyFacts c_s c_facts n v1 v2 = some res → ∀ (ls : Array Slot), lv_has ls 4 [(0, .ref h_this), (1, .int v1), (2, .int v2)] → W p l e rmX7_areSo s m args below meth c s.heap [] 0 0 Q (F0 m 4 ls []) := by
  obtain ⟨hx, hb, hr, hlk, hml, hown, hts, hK⟩ := id C
  intro n
  induction n with
  | zero =>
    intro v1 v2 hf
    cases hf
  | succ n ih =>
    intro v1 v2 hf ls hl
    rw [fX7_areSo_L4] at hf
    refine lv_iload_n hx hb dX7_areSo_4 rfl (lv_at hl 2 rfl) ?_
    refine lv_aload_n hx hb dX7_areSo_5 rfl (lv_at hl 0 rfl) ?_
    refine va_get (D := G.1) (cl := CL) (ci := 7) (C := RX7) (T := TX7) (N := 19) hx hb hts iX7_areSo_7 hown hK hP 0 rfl rfl 8 (by decide) (hts (.fieldLink RX7 184 "LoomCardsModel" "manyFacts" "I") (List.mem_of_getElem? (i := 1) rfl)) (fun _ h9 => h9) rfl dX7_areSo_6 ?_
    refine lv_icmp_ge (tgt := 82) hx hb dX7_areSo_9 (by decide) (fun c9 => ?_) (fun c9 => ?_)
    · have hf := c_t hf c9
      exact hk82 v1 hf _ (lv_sub hl [1] rfl)
    · have hf := c_f hf c9
      refine lv_iload_n hx hb dX7_areSo_12 rfl (lv_at hl 1 rfl) ?_
      refine lv_if_eq (tgt := 82) hx hb dX7_areSo_13 (by decide) (fun c9 => ?_) (fun c9 => ?_)
      · have hf := c_t hf c9
        exact hk82 v1 hf _ (lv_sub hl [1] rfl)
      · have hf := c_f hf c9
        refine lv_aload_n hx hb dX7_areSo_16 rfl (lv_at hl 0 rfl) ?_
        refine va_get (D := G.1) (cl := CL) (ci := 7) (C := RX7) (T := TX7) (N := 19) hx hb hts iX7_areSo_7 hown hK hP 0 rfl rfl 7 (by decide) (hts (.fieldLink RX7 26 "LoomCardsModel" "facts" "[I") (List.mem_of_getElem? (i := 2) rfl)) (fun _ h9 => h9) rfl dX7_areSo_17 ?_
        refine lv_iconst (v := (3 : Int32)) hx hb dX7_areSo_20 (by decide) ?_
        refine lv_iload_n hx hb dX7_areSo_21 rfl (lv_at hl 2 rfl) ?_
        refine lv_imul hx hb dX7_areSo_22 ?_
        refine lv_iconst (v := (1 : Int32)) hx hb dX7_areSo_23 (by decide) ?_
        refine lv_iadd hx hb dX7_areSo_24 ?_
        refine r_gd hf (fun g9 hf => ?_)
        refine r_iald hx hb hK hP 2 rfl (ix_in g9) rfl dX7_areSo_25 ?_
        refine lv_istore_n (lv' := [(3, .int (c_facts (((3 : Int32) * v2) + (1 : Int32)).toNatClampNeg)), (0, .ref h_this), (1, .int v1), (2, .int v2)]) hx hb dX7_areSo_26 rfl hl (by decide) rfl (fun ls hl => ?_)
        refine lv_aload_n hx hb dX7_areSo_27 rfl (lv_at hl 1 rfl) ?_
        refine lv_iload_n hx hb dX7_areSo_28 rfl (lv_at hl 0 rfl) ?_
        refine r_bind hf (fun u1 hu1 hf => ?_)
        refine cRiV (ci := 7) (rest := []) ⟨hx, hb, hml, hown, hts⟩ hK (tX7_isEnd l G h_this h_s h_draft h_past h_kept h_isKept h_facts h_text c_thrown c_undos c_manyFacts c_typed c_from c_to c_token c_fault c_hasHooks c_hasTies c_low c_high c_s (c_facts (((3 : Int32) * v2) + (1 : Int32)).toNatClampNeg) u1 hu1) gX7_areSo_X7_isEnd rfl hdX7_isEnd rfl rfl rfl ⟨Nat.le_of_ble_eq_true rfl, Nat.le_of_ble_eq_true rfl⟩ hP [0, 1] rfl 0 rfl rfl rfl hl.1 (Nat.le_of_ble_eq_true rfl) rfl dX7_areSo_29 ⟨Nat.zero_le _, Nat.zero_le _⟩ ?_
        refine r_jn1 hf (fun J75 eJ75 hf => ?_)
        have hJ75 : ∀ (j75_0 : Int32) , J75 j75_0 = some res → ∀ (ls : Array Slot), lv_has ls 4 [(0, .ref h_this), (2, .int v2)] → W p l e rmX7_areSo s m args below meth c s.heap [] 0 0 Q (F0 m 75 ls [.int j75_0]) := by
          intro j75_0 hf ls hl
          rw [eJ75] at hf
          refine lv_istore_n (lv' := [(1, .int j75_0), (0, .ref h_this), (2, .int v2)]) hx hb dX7_areSo_75 rfl hl (by decide) rfl (fun ls hl => ?_)
          refine lv_iinc (v := (v2 + (1 : Int32))) (lv' := [(2, .int (v2 + (1 : Int32))), (1, .int j75_0), (0, .ref h_this)]) hx hb dX7_areSo_76 hl (k := 2) rfl rfl (by decide) rfl (fun ls hl => ?_)
          refine lv_goto (tgt := 4) hx hb dX7_areSo_79 (by decide) ?_
          exact ih j75_0 (v2 + (1 : Int32)) hf _ (lv_sub hl [2, 1, 0] rfl)
        refine r_jn0 hf (fun J74 eJ74 hf => ?_)
        have hJ74 : J74 = some res → ∀ (ls : Array Slot), lv_has ls 4 [(0, .ref h_this), (2, .int v2)] → W p l e rmX7_areSo s m args below meth c s.heap [] 0 0 Q (F0 m 74 ls []) := by
          intro hf ls hl
          rw [eJ74] at hf
          refine lv_iconst (v := (0 : Int32)) hx hb dX7_areSo_74 (by decide) ?_
          exact hJ75 (0 : Int32) hf _ (lv_sub hl [0, 1] rfl)
        refine lv_if_eq (tgt := 74) hx hb dX7_areSo_32 (by decide) (fun c9 => ?_) (fun c9 => ?_)
        · have hf := c_t hf c9
          exact hJ74 hf _ (lv_sub hl [1, 3] rfl)
        · have hf := c_f hf c9
          refine lv_aload_n hx hb dX7_areSo_35 rfl (lv_at hl 1 rfl) ?_
          refine lv_aload_n hx hb dX7_areSo_36 rfl (lv_at hl 1 rfl) ?_
          refine va_get (D := G.1) (cl := CL) (ci := 7) (C := RX7) (T := TX7) (N := 19) hx hb hts iX7_areSo_7 hown hK hP 0 rfl rfl 7 (by decide) (hts (.fieldLink RX7 26 "LoomCardsModel" "facts" "[I") (List.mem_of_getElem? (i := 2) rfl)) (fun _ h9 => h9) rfl dX7_areSo_37 ?_
          refine lv_iconst (v := (3 : Int32)) hx hb dX7_areSo_40 (by decide) ?_
          refine lv_iload_n hx hb dX7_areSo_41 rfl (lv_at hl 3 rfl) ?_
          refine lv_imul hx hb dX7_areSo_42 ?_
          refine r_gd hf (fun g9 hf => ?_)
          refine r_iald hx hb hK hP 2 rfl (ix_in g9) rfl dX7_areSo_43 ?_
          refine lv_iload_n hx hb dX7_areSo_44 rfl (lv_at hl 0 rfl) ?_
          refine r_bind hf (fun u2 hu2 hf => ?_)
          refine cRiV (ci := 7) (rest := []) ⟨hx, hb, hml, hown, hts⟩ hK (tX7_isUp l G h_this h_s h_draft h_past h_kept h_isKept h_facts h_text c_thrown c_undos c_manyFacts c_typed c_from c_to c_token c_fault c_hasHooks c_hasTies c_low c_high c_s (c_facts ((3 : Int32) * v2).toNatClampNeg) (c_facts (((3 : Int32) * v2) + (1 : Int32)).toNatClampNeg) u2 hu2) gX7_areSo_X7_isUp rfl hdX7_isUp rfl rfl rfl ⟨Nat.le_of_ble_eq_true rfl, Nat.le_of_ble_eq_true rfl⟩ hP [0, 1] rfl 0 rfl rfl rfl hl.1 (Nat.le_of_ble_eq_true rfl) rfl dX7_areSo_45 ⟨Nat.zero_le _, Nat.zero_le _⟩ ?_
          refine lv_aload_n hx hb dX7_areSo_48 rfl (lv_at hl 1 rfl) ?_
          refine va_get (D := G.1) (cl := CL) (ci := 7) (C := RX7) (T := TX7) (N := 19) hx hb hts iX7_areSo_7 hown hK hP 0 rfl rfl 7 (by decide) (hts (.fieldLink RX7 26 "LoomCardsModel" "facts" "[I") (List.mem_of_getElem? (i := 2) rfl)) (fun _ h9 => h9) rfl dX7_areSo_49 ?_
          refine lv_iconst (v := (3 : Int32)) hx hb dX7_areSo_52 (by decide) ?_
          refine lv_iload_n hx hb dX7_areSo_53 rfl (lv_at hl 3 rfl) ?_
          refine lv_imul hx hb dX7_areSo_54 ?_
          refine lv_iconst (v := (2 : Int32)) hx hb dX7_areSo_55 (by decide) ?_
          refine lv_iadd hx hb dX7_areSo_56 ?_
          refine r_gd hf (fun g9 hf => ?_)
          refine r_iald hx hb hK hP 2 rfl (ix_in g9) rfl dX7_areSo_57 ?_
          refine lv_iconst (v := (1 : Int32)) hx hb dX7_areSo_58 (by decide) ?_
          refine r_jn2 hf (fun J67 eJ67 hf => ?_)
          have hJ67 : ∀ (j67_0 : Int32) (j67_1 : Int32) , J67 j67_0 j67_1 = some res → ∀ (ls : Array Slot), lv_has ls 4 [(0, .ref h_this), (2, .int v2)] → W p l e rmX7_areSo s m args below meth c s.heap [] 0 0 Q (F0 m 67 ls [.int j67_0, .int j67_1]) := by
            intro j67_0 j67_1 hf ls hl
            rw [eJ67] at hf
            refine lv_icmp_ne (tgt := 74) hx hb dX7_areSo_67 (by decide) (fun c9 => ?_) (fun c9 => ?_)
            · have hf := c_f hf c9
              exact hJ74 hf _ (lv_sub hl [0, 1] rfl)
            · have hf := c_t hf c9
              refine lv_iconst (v := (1 : Int32)) hx hb dX7_areSo_70 (by decide) ?_
              refine lv_goto (tgt := 75) hx hb dX7_areSo_71 (by decide) ?_
              exact hJ75 (1 : Int32) hf _ (lv_sub hl [0, 1] rfl)
          refine lv_icmp_ne (tgt := 66) hx hb dX7_areSo_59 (by decide) (fun c9 => ?_) (fun c9 => ?_)
          · have hf := c_f hf c9
            refine lv_iconst (v := (0 : Int32)) hx hb dX7_areSo_66 (by decide) ?_
            exact hJ67 (0 : Int32) u2 hf _ (lv_sub hl [1, 3] rfl)
          · have hf := c_t hf c9
            refine lv_iconst (v := (1 : Int32)) hx hb dX7_areSo_62 (by decide) ?_
            refine lv_goto (tgt := 67) hx hb dX7_areSo_63 (by decide) ?_
            exact hJ67 (1 : Int32) u2 hf _ (lv_sub hl [1, 3] rfl)
set_option maxHeartbeats 4000000 in
set_option maxRecDepth 100000 in
theorem kX7_areSo (h_this : Nat) (h_s : Nat) (h_draft : Nat) (h_past : Nat) (h_kept : Nat) (h_isKept : Nat) (h_facts : Nat) (h_text : Nat) (c_thrown : Int32) (c_undos : Int32) (c_manyFacts : Int32) (c_typed : Int32) (c_from : Int32) (c_to : Int32) (c_token : Int32) (c_fault : Int32) (c_hasHooks : Int32) (c_hasTies : Int32) (c_low : Int32) (c_high : Int32) (c_s : Nat → Int32) (c_facts : Nat → Int32) (C : Cx cX7_areSo (some .boolean) 4 RX7 wsX7_areSo G p s m args meth c) (hP : va_P G.1 CL [(h_this, .inr (7, [.int c_thrown, .ref h_s, .ref h_draft, .ref h_past, .int c_undos, .ref h_kept, .ref h_isKept, .ref h_facts, .int c_manyFacts, .ref h_text, .int c_typed, .int c_from, .int c_to, .int c_token, .int c_fault, .int c_hasHooks, .int c_hasTies, .int c_low, .int c_high])), (h_s, .inl (G.2 0, 24, .inl c_s)), (h_facts, .inl (G.2 0, 24, .inl c_facts))] s.heap) {res : Int32} (kr : ∀ (pc : Nat) (ls : Array Slot), narrow .boolean (.int res) = .int res → decode cX7_areSo pc = .ok (.ireturn, 1) → W p l e rmX7_areSo s m args below meth c s.heap [] 0 0 Q (F0 m pc ls [.int res])) (hf : fX7_areSo c_manyFacts c_s c_facts = some res) {ls : Array Slot} (hl : lv_has ls 4 [(0, .ref h_this)]) : W p l e rmX7_areSo s m args below meth c s.heap [] 0 0 Q (F0 m 0 ls []) := by
  obtain ⟨hx, hb, hr, hlk, hml, hown, hts, hK⟩ := id C
  rw [fX7_areSo] at hf
  refine lv_iconst (v := (1 : Int32)) hx hb dX7_areSo_0 (by decide) ?_
  refine lv_istore_n (lv' := [(1, .int (1 : Int32)), (0, .ref h_this)]) hx hb dX7_areSo_1 rfl hl (by decide) rfl (fun ls hl => ?_)
  refine lv_iconst (v := (0 : Int32)) hx hb dX7_areSo_2 (by decide) ?_
  refine lv_istore_n (lv' := [(2, .int (0 : Int32)), (1, .int (1 : Int32)), (0, .ref h_this)]) hx hb dX7_areSo_3 rfl hl (by decide) rfl (fun ls hl => ?_)
  refine kX7_areSo_L4 h_this h_s h_draft h_past h_kept h_isKept h_facts h_text c_thrown c_undos c_manyFacts c_typed c_from c_to c_token c_fault c_hasHooks c_hasTies c_low c_high c_s c_facts C hP kr ?_ FU (1 : Int32) (0 : Int32) hf _ (lv_sub hl [2, 1, 0] rfl)
  intro v1_x3 hf ls hl
  refine lv_iload_n hx hb dX7_areSo_82 rfl (lv_at hl 0 rfl) ?_
  refine r_gd hf (fun g9 hf => ?_)
  obtain rfl := Option.some.inj hf
  exact kr _ _ (tf_nar g9) dX7_areSo_83
end SX7_areSo
set_option maxHeartbeats 4000000 in
set_option maxRecDepth 100000 in
theorem tX7_areSo (l : Launch) (G : GG) (h_this : Nat) (h_s : Nat) (h_draft : Nat) (h_past : Nat) (h_kept : Nat) (h_isKept : Nat) (h_facts : Nat) (h_text : Nat) (c_thrown : Int32) (c_undos : Int32) (c_manyFacts : Int32) (c_typed : Int32) (c_from : Int32) (c_to : Int32) (c_token : Int32) (c_fault : Int32) (c_hasHooks : Int32) (c_hasTies : Int32) (c_low : Int32) (c_high : Int32) (c_s : Nat → Int32) (c_facts : Nat → Int32) (res : Int32) (hf : fX7_areSo c_manyFacts c_s c_facts = some res) : MRi l yX7_areSo wsX7_areSo rmX7_areSo G [.ref h_this] [(h_this, .inr (7, [.int c_thrown, .ref h_s, .ref h_draft, .ref h_past, .int c_undos, .ref h_kept, .ref h_isKept, .ref h_facts, .int c_manyFacts, .ref h_text, .int c_typed, .int c_from, .int c_to, .int c_token, .int c_fault, .int c_hasHooks, .int c_hasTies, .int c_low, .int c_high])), (h_s, .inl (G.2 0, 24, .inl c_s)), (h_facts, .inl (G.2 0, 24, .inl c_facts))] (res) := MRi.of (plainFor_of_name (by decide +kernel)) rfl (Nat.le_of_ble_eq_true rfl) (fun p e s m below meth c C hP ls hl => kX7_areSo h_this h_s h_draft h_past h_kept h_isKept h_facts h_text c_thrown c_undos c_manyFacts c_typed c_from c_to c_token c_fault c_hasHooks c_hasTies c_low c_high c_s c_facts C hP (fun pc ls hn d => rRz C hn d) hf hl)
def fX7_isSuspect (c_manyFacts : Int32) (c_s : Nat → Int32) (c_facts : Nat → Int32) (v1 : Int32) : Option (Int32 × (Nat → Int32)) := jn (fun (j9_c_s : Nat → Int32) => (fX7_areSo c_manyFacts j9_c_s c_facts).bind (fun u1 => if v1 < 0 then gd (tf u1) (some (u1, j9_c_s)) else (fX7_turnsOver j9_c_s v1).bind (fun u2 => gd (tf u1) (some (u1, u2))))) (fun J9 => if v1 < 0 then J9 c_s else (fX7_turnsOver c_s v1).bind (fun u3 => J9 u3))
theorem iX7_isSuspect_7 : ∀ w ∈ wsX70, w ∈ wsX7_isSuspect := fun w h => List.mem_cons_of_mem _ (List.mem_append_right _ (h))
theorem hdX7_isSuspect : yX7_isSuspect.cls = RX7 ∧ yX7_isSuspect.cls ≠ "java/lang/invoke/MethodHandle" ∧ yX7_isSuspect.cls ≠ "java/lang/invoke/VarHandle" ∧ (parseMethodDescriptor yX7_isSuspect.desc).map (fun d => d.parameters.length) = some 1 := by decide +kernel
abbrev rmX7_isSuspect : Room := { frames := 3, cells := 0, slots := 0, locals := 66 }
section SX7_isSuspect
variable {p : Program} {l : Launch} {e : Env} {s : State} {m : MethodId} {args : Array Value} {below : List Frame} {meth : Method} {c : Code} {Q : State → Prop} {G : GG} {A : Nat → Prop}
set_option maxHeartbeats 4000000 in
set_option maxRecDepth 100000 in
theorem kX7_isSuspect (h_this : Nat) (h_s : Nat) (h_draft : Nat) (h_past : Nat) (h_kept : Nat) (h_isKept : Nat) (h_facts : Nat) (h_text : Nat) (c_thrown : Int32) (c_undos : Int32) (c_manyFacts : Int32) (c_typed : Int32) (c_from : Int32) (c_to : Int32) (c_token : Int32) (c_fault : Int32) (c_hasHooks : Int32) (c_hasTies : Int32) (c_low : Int32) (c_high : Int32) (c_s : Nat → Int32) (c_facts : Nat → Int32) (v1 : Int32) (C : Cx cX7_isSuspect (some .boolean) 3 RX7 wsX7_isSuspect G p s m args meth c) (hA : ∀ q : Nat, s.heap.size ≤ q → A q) (hP : va_P G.1 CL [(h_this, .inr (7, [.int c_thrown, .ref h_s, .ref h_draft, .ref h_past, .int c_undos, .ref h_kept, .ref h_isKept, .ref h_facts, .int c_manyFacts, .ref h_text, .int c_typed, .int c_from, .int c_to, .int c_token, .int c_fault, .int c_hasHooks, .int c_hasTies, .int c_low, .int c_high])), (h_s, .inl (G.2 0, 24, .inl c_s)), (h_facts, .inl (G.2 0, 24, .inl c_facts))] s.heap) (hD : va_D A [(h_this, .inr (7, [.int c_thrown, .ref h_s, .ref h_draft, .ref h_past, .int c_undos, .ref h_kept, .ref h_isKept, .ref h_facts, .int c_manyFacts, .ref h_text, .int c_typed, .int c_from, .int c_to, .int c_token, .int c_fault, .int c_hasHooks, .int c_hasTies, .int c_low, .int c_high])), (h_s, .inl (G.2 0, 24, .inl c_s)), (h_facts, .inl (G.2 0, 24, .inl c_facts))]) (hS : va_S A s.heap s.heap []) {res : Int32 × (Nat → Int32)} (kr : ∀ (pc : Nat) (ls : Array Slot) (H : Heap) (locs : List Loc), narrow .boolean (.int res.1) = .int res.1 → va_P G.1 CL [(h_this, .inr (7, [.int c_thrown, .ref h_s, .ref h_draft, .ref h_past, .int c_undos, .ref h_kept, .ref h_isKept, .ref h_facts, .int c_manyFacts, .ref h_text, .int c_typed, .int c_from, .int c_to, .int c_token, .int c_fault, .int c_hasHooks, .int c_hasTies, .int c_low, .int c_high])), (h_s, .inl (G.2 0, 24, .inl (res.2))), (h_facts, .inl (G.2 0, 24, .inl c_facts))] H → va_D A [(h_this, .inr (7, [.int c_thrown, .ref h_s, .ref h_draft, .ref h_past, .int c_undos, .ref h_kept, .ref h_isKept, .ref h_facts, .int c_manyFacts, .ref h_text, .int c_typed, .int c_from, .int c_to, .int c_token, .int c_fault, .int c_hasHooks, .int c_hasTies, .int c_low, .int c_high])), (h_s, .inl (G.2 0, 24, .inl (res.2))), (h_facts, .inl (G.2 0, 24, .inl c_facts))] → va_S A s.heap H locs → decode cX7_isSuspect pc = .ok (.ireturn, 1) → W p l e rmX7_isSuspect s m args below meth c H locs 0 0 Q (F0 m pc ls [.int res.1])) (hf : fX7_isSuspect c_manyFacts c_s c_facts v1 = some res) {ls : Array Slot} (hl : lv_has ls 3 [(0, .ref h_this), (1, .int v1)]) : W p l e rmX7_isSuspect s m args below meth c s.heap [] 0 0 Q (F0 m 0 ls []) := by
  obtain ⟨hx, hb, hr, hlk, hml, hown, hts, hK⟩ := id C
  rw [fX7_isSuspect] at hf
  refine lv_iload_n hx hb dX7_isSuspect_0 rfl (lv_at hl 1 rfl) ?_
  refine r_jn1 hf (fun J9 eJ9 hf => ?_)
  have hJ9 : ∀ (j9_c_s : Nat → Int32) (H : Heap) (locs : List Loc), J9 j9_c_s = some res → va_P G.1 CL [(h_this, .inr (7, [.int c_thrown, .ref h_s, .ref h_draft, .ref h_past, .int c_undos, .ref h_kept, .ref h_isKept, .ref h_facts, .int c_manyFacts, .ref h_text, .int c_typed, .int c_from, .int c_to, .int c_token, .int c_fault, .int c_hasHooks, .int c_hasTies, .int c_low, .int c_high])), (h_s, .inl (G.2 0, 24, .inl j9_c_s)), (h_facts, .inl (G.2 0, 24, .inl c_facts))] H → va_D A [(h_this, .inr (7, [.int c_thrown, .ref h_s, .ref h_draft, .ref h_past, .int c_undos, .ref h_kept, .ref h_isKept, .ref h_facts, .int c_manyFacts, .ref h_text, .int c_typed, .int c_from, .int c_to, .int c_token, .int c_fault, .int c_hasHooks, .int c_hasTies, .int c_low, .int c_high])), (h_s, .inl (G.2 0, 24, .inl j9_c_s)), (h_facts, .inl (G.2 0, 24, .inl c_facts))] → va_S A s.heap H locs → ∀ (ls : Array Slot), lv_has ls 3 [(0, .ref h_this), (1, .int v1)] → W p l e rmX7_isSuspect s m args below meth c H locs 0 0 Q (F0 m 9 ls []) := by
    intro j9_c_s H locs hf hP hD hS ls hl
    rw [eJ9] at hf
    refine lv_aload_n hx hb dX7_isSuspect_9 rfl (lv_at hl 0 rfl) ?_
    refine r_bind hf (fun u1 hu1 hf => ?_)
    refine cRiV (ci := 7) (rest := []) ⟨hx, hb, hml, hown, hts⟩ hK (tX7_areSo l G h_this h_s h_draft h_past h_kept h_isKept h_facts h_text c_thrown c_undos c_manyFacts c_typed c_from c_to c_token c_fault c_hasHooks c_hasTies c_low c_high j9_c_s c_facts u1 hu1) gX7_isSuspect_X7_areSo rfl hdX7_areSo rfl rfl rfl ⟨Nat.le_of_ble_eq_true rfl, Nat.le_of_ble_eq_true rfl⟩ hP [0, 1, 2] rfl 0 rfl rfl rfl hl.1 (Nat.le_of_ble_eq_true rfl) rfl dX7_isSuspect_10 ⟨Nat.zero_le _, Nat.zero_le _⟩ ?_
    refine lv_istore_n (lv' := [(2, .int u1), (0, .ref h_this), (1, .int v1)]) hx hb dX7_isSuspect_13 rfl hl (by decide) rfl (fun ls hl => ?_)
    refine lv_iload_n hx hb dX7_isSuspect_14 rfl (lv_at hl 2 rfl) ?_
    refine lv_if_lt (tgt := 23) hx hb dX7_isSuspect_15 (by decide) (fun c9 => ?_) (fun c9 => ?_)
    · have hf := c_t hf c9
      refine lv_iload_n hx hb dX7_isSuspect_23 rfl (lv_at hl 0 rfl) ?_
      refine r_gd hf (fun g9 hf => ?_)
      obtain rfl := Option.some.inj hf
      exact kr _ _ _ _ (tf_nar g9) hP hD hS dX7_isSuspect_24
    · have hf := c_f hf c9
      refine lv_aload_n hx hb dX7_isSuspect_18 rfl (lv_at hl 1 rfl) ?_
      refine lv_iload_n hx hb dX7_isSuspect_19 rfl (lv_at hl 2 rfl) ?_
      refine r_bind hf (fun u2 hu2 hf => ?_)
      refine cWvV (ci := 7) (rest := []) (wr := [(h_facts, .inl (G.2 0, 24, .inl c_facts))]) (wf := [(h_this, .inr (7, [.int c_thrown, .ref h_s, .ref h_draft, .ref h_past, .int c_undos, .ref h_kept, .ref h_isKept, .ref h_facts, .int c_manyFacts, .ref h_text, .int c_typed, .int c_from, .int c_to, .int c_token, .int c_fault, .int c_hasHooks, .int c_hasTies, .int c_low, .int c_high])), (h_s, .inl (G.2 0, 24, .inl u2)), (h_facts, .inl (G.2 0, 24, .inl c_facts))]) ⟨hx, hb, hml, hown, hts⟩ hK (tX7_turnsOver l G h_this h_s h_draft h_past h_kept h_isKept h_facts h_text c_thrown c_undos c_manyFacts c_typed c_from c_to c_token c_fault c_hasHooks c_hasTies c_low c_high j9_c_s v1 u2 hu2) gX7_isSuspect_X7_turnsOver rfl hdX7_turnsOver rfl rfl rfl ⟨Nat.le_of_ble_eq_true rfl, Nat.le_of_ble_eq_true rfl⟩ hP hD hS hA [0, 1] [2] [1, 2, 0] rfl rfl rfl (by decide) (by decide) (by decide) (by decide) 0 rfl rfl rfl hl.1 (Nat.le_of_ble_eq_true rfl) rfl dX7_isSuspect_20 ⟨Nat.zero_le _, Nat.zero_le _⟩ (fun H locs hP hD hS => ?_)
      refine lv_iload_n hx hb dX7_isSuspect_23 rfl (lv_at hl 0 rfl) ?_
      refine r_gd hf (fun g9 hf => ?_)
      obtain rfl := Option.some.inj hf
      exact kr _ _ _ _ (tf_nar g9) hP hD hS dX7_isSuspect_24
  refine lv_if_lt (tgt := 9) hx hb dX7_isSuspect_1 (by decide) (fun c9 => ?_) (fun c9 => ?_)
  · have hf := c_t hf c9
    exact hJ9 c_s _ _ hf hP hD hS _ (lv_sub hl [0, 1] rfl)
  · have hf := c_f hf c9
    refine lv_aload_n hx hb dX7_isSuspect_4 rfl (lv_at hl 0 rfl) ?_
    refine lv_iload_n hx hb dX7_isSuspect_5 rfl (lv_at hl 1 rfl) ?_
    refine r_bind hf (fun u3 hu3 hf => ?_)
    refine cWvV (ci := 7) (rest := []) (wr := [(h_facts, .inl (G.2 0, 24, .inl c_facts))]) (wf := [(h_this, .inr (7, [.int c_thrown, .ref h_s, .ref h_draft, .ref h_past, .int c_undos, .ref h_kept, .ref h_isKept, .ref h_facts, .int c_manyFacts, .ref h_text, .int c_typed, .int c_from, .int c_to, .int c_token, .int c_fault, .int c_hasHooks, .int c_hasTies, .int c_low, .int c_high])), (h_s, .inl (G.2 0, 24, .inl u3)), (h_facts, .inl (G.2 0, 24, .inl c_facts))]) ⟨hx, hb, hml, hown, hts⟩ hK (tX7_turnsOver l G h_this h_s h_draft h_past h_kept h_isKept h_facts h_text c_thrown c_undos c_manyFacts c_typed c_from c_to c_token c_fault c_hasHooks c_hasTies c_low c_high c_s v1 u3 hu3) gX7_isSuspect_X7_turnsOver rfl hdX7_turnsOver rfl rfl rfl ⟨Nat.le_of_ble_eq_true rfl, Nat.le_of_ble_eq_true rfl⟩ hP hD hS hA [0, 1] [2] [1, 2, 0] rfl rfl rfl (by decide) (by decide) (by decide) (by decide) 0 rfl rfl rfl hl.1 (Nat.le_of_ble_eq_true rfl) rfl dX7_isSuspect_6 ⟨Nat.zero_le _, Nat.zero_le _⟩ (fun H locs hP hD hS => ?_)
    exact hJ9 u3 _ _ hf hP hD hS _ (lv_sub hl [0, 1] rfl)
end SX7_isSuspect
set_option maxHeartbeats 4000000 in
set_option maxRecDepth 100000 in
theorem tX7_isSuspect (l : Launch) (G : GG) (h_this : Nat) (h_s : Nat) (h_draft : Nat) (h_past : Nat) (h_kept : Nat) (h_isKept : Nat) (h_facts : Nat) (h_text : Nat) (c_thrown : Int32) (c_undos : Int32) (c_manyFacts : Int32) (c_typed : Int32) (c_from : Int32) (c_to : Int32) (c_token : Int32) (c_fault : Int32) (c_hasHooks : Int32) (c_hasTies : Int32) (c_low : Int32) (c_high : Int32) (c_s : Nat → Int32) (c_facts : Nat → Int32) (v1 : Int32) (res : Int32 × (Nat → Int32)) (hf : fX7_isSuspect c_manyFacts c_s c_facts v1 = some res) : MWi l yX7_isSuspect wsX7_isSuspect rmX7_isSuspect G [.ref h_this, .int v1] [(h_this, .inr (7, [.int c_thrown, .ref h_s, .ref h_draft, .ref h_past, .int c_undos, .ref h_kept, .ref h_isKept, .ref h_facts, .int c_manyFacts, .ref h_text, .int c_typed, .int c_from, .int c_to, .int c_token, .int c_fault, .int c_hasHooks, .int c_hasTies, .int c_low, .int c_high])), (h_s, .inl (G.2 0, 24, .inl c_s)), (h_facts, .inl (G.2 0, 24, .inl c_facts))] (res.1) [(h_this, .inr (7, [.int c_thrown, .ref h_s, .ref h_draft, .ref h_past, .int c_undos, .ref h_kept, .ref h_isKept, .ref h_facts, .int c_manyFacts, .ref h_text, .int c_typed, .int c_from, .int c_to, .int c_token, .int c_fault, .int c_hasHooks, .int c_hasTies, .int c_low, .int c_high])), (h_s, .inl (G.2 0, 24, .inl (res.2))), (h_facts, .inl (G.2 0, 24, .inl c_facts))] := MWi.of (plainFor_of_name (by decide +kernel)) rfl (Nat.le_of_ble_eq_true rfl) (fun p e s m below meth c A C hA hP hD hS ls hl => kX7_isSuspect h_this h_s h_draft h_past h_kept h_isKept h_facts h_text c_thrown c_undos c_manyFacts c_typed c_from c_to c_token c_fault c_hasHooks c_hasTies c_low c_high c_s c_facts v1 C hA hP hD hS (fun pc ls H locs hn hP hD hS d => rWz C hn hP hD hS d) hf hl)
def fX7_suspects_L25 (k63 : Int32 → Int32 → (Nat → Int32) → Option (Int32 × Int32 × (Nat → Int32))) (c_manyFacts : Int32) (c_facts : Nat → Int32) : Nat → Int32 → Int32 → Int32 → (Nat → Int32) → Option (Int32 × Int32 × (Nat → Int32))
  | 0, _, _, _, _ => none
  | n + 1, v2, v3, v4, c_s => (fX7_places c_s).bind (fun u2 => if u2 ≤ v4 then k63 v2 v3 c_s else (fX7_isSuspect c_manyFacts c_s c_facts v4).bind (fun u3 => jn (fun (j57_v2 : Int32) (j57_v3 : Int32) => fX7_suspects_L25 k63 c_manyFacts c_facts n j57_v2 j57_v3 (v4 + (1 : Int32)) u3.2) (fun J57 => if u3.1 = 0 then J57 v2 v3 else jn (fun (j53_0 : Int32) => J57 (v2 + (1 : Int32)) j53_0) (fun J53 => if v2 = 0 then J53 v4 else J53 v3))))
def fX7_suspects (c_thrown : Int32) (c_manyFacts : Int32) (c_s : Nat → Int32) (c_facts : Nat → Int32) (v1 : Int32) : Option (Int32 × Int32 × (Nat → Int32)) := (fX7_in v1 (0 : Int32) (1 : Int32)).bind (fun u1 => if u1 = 0 then some ((-1000000 : Int32), (0 : Int32), c_s) else (fX7_suspects_L25 (fun (v2_x4 : Int32) (v3_x4 : Int32) (c_s_x4 : Nat → Int32) => if v1 = 0 then some (v2_x4, (0 : Int32), c_s_x4) else some (v3_x4, (0 : Int32), c_s_x4)) c_manyFacts c_facts FU (0 : Int32) (-9 : Int32) (-1 : Int32) c_s))
theorem iX7_suspects_7 : ∀ w ∈ wsX70, w ∈ wsX7_suspects := fun w h => List.mem_cons_of_mem _ (List.mem_append_right _ (h))
theorem hdX7_suspects : yX7_suspects.cls = RX7 ∧ yX7_suspects.cls ≠ "java/lang/invoke/MethodHandle" ∧ yX7_suspects.cls ≠ "java/lang/invoke/VarHandle" ∧ (parseMethodDescriptor yX7_suspects.desc).map (fun d => d.parameters.length) = some 1 := by decide +kernel
abbrev rmX7_suspects : Room := { frames := 4, cells := 0, slots := 0, locals := 88 }
section SX7_suspects
variable {p : Program} {l : Launch} {e : Env} {s : State} {m : MethodId} {args : Array Value} {below : List Frame} {meth : Method} {c : Code} {Q : State → Prop} {G : GG} {A : Nat → Prop}
set_option maxHeartbeats 4000000 in
set_option maxRecDepth 100000 in
theorem kX7_suspects_L25 (h_this : Nat) (h_s : Nat) (h_draft : Nat) (h_past : Nat) (h_kept : Nat) (h_isKept : Nat) (h_facts : Nat) (h_text : Nat) (c_thrown : Int32) (c_undos : Int32) (c_manyFacts : Int32) (c_typed : Int32) (c_from : Int32) (c_to : Int32) (c_token : Int32) (c_fault : Int32) (c_hasHooks : Int32) (c_hasTies : Int32) (c_low : Int32) (c_high : Int32) (c_facts : Nat → Int32) (v1 : Int32) (C : Cx cX7_suspects (some .int) 5 RX7 wsX7_suspects G p s m args meth c) (hA : ∀ q : Nat, s.heap.size ≤ q → A q) {res : Int32 × Int32 × (Nat → Int32)} (kr : ∀ (pc : Nat) (ls : Array Slot) (H : Heap) (locs : List Loc), va_P G.1 CL [(h_this, .inr (7, [.int (res.2.1), .ref h_s, .ref h_draft, .ref h_past, .int c_undos, .ref h_kept, .ref h_isKept, .ref h_facts, .int c_manyFacts, .ref h_text, .int c_typed, .int c_from, .int c_to, .int c_token, .int c_fault, .int c_hasHooks, .int c_hasTies, .int c_low, .int c_high])), (h_s, .inl (G.2 0, 24, .inl (res.2.2))), (h_facts, .inl (G.2 0, 24, .inl c_facts))] H → va_D A [(h_this, .inr (7, [.int (res.2.1), .ref h_s, .ref h_draft, .ref h_past, .int c_undos, .ref h_kept, .ref h_isKept, .ref h_facts, .int c_manyFacts, .ref h_text, .int c_typed, .int c_from, .int c_to, .int c_token, .int c_fault, .int c_hasHooks, .int c_hasTies, .int c_low, .int c_high])), (h_s, .inl (G.2 0, 24, .inl (res.2.2))), (h_facts, .inl (G.2 0, 24, .inl c_facts))] → va_S A s.heap H locs → decode cX7_suspects pc = .ok (.ireturn, 1) → W p l e rmX7_suspects s m args below meth c H locs 0 0 Q (F0 m pc ls [.int res.1])) {k63 : Int32 → Int32 → (Nat → Int32) → Option (Int32 × Int32 × (Nat → Int32))} (hk63 : ∀ (v2 : Int32) (v3 : Int32) (c_s : Nat → Int32) (H : Heap) (locs : List Loc), k63 v2 v3 c_s = some res → va_P G.1 CL [(h_this, .inr (7, [.int c_thrown, .ref h_s, .ref h_draft, .ref h_past, .int c_undos, .ref h_kept, .ref h_isKept, .ref h_facts, .int c_manyFacts, .ref h_text, .int c_typed, .int c_from, .int c_to, .int c_token, .int c_fault, .int c_hasHooks, .int c_hasTies, .int c_low, .int c_high])), (h_s, .inl (G.2 0, 24, .inl c_s)), (h_facts, .inl (G.2 0, 24, .inl c_facts))] H → va_D A [(h_this, .inr (7, [.int c_thrown, .ref h_s, .ref h_draft, .ref h_past, .int c_undos, .ref h_kept, .ref h_isKept, .ref h_facts, .int c_manyFacts, .ref h_text, .int c_typed, .int c_from, .int c_to, .int c_token, .int c_fault, .int c_hasHooks, .int c_hasTies, .int c_low, .int c_high])), (h_s, .inl (G.2 0, 24, .inl c_s)), (h_facts, .inl (G.2 0, 24, .inl c_facts))] → va_S A s.heap H locs → ∀ (ls : Array Slot), lv_has ls 5 [(1, .int v1), (2, .int v2), (3, .int v3)] → W p l e rmX7_suspects s m args below meth c H locs 0 0 Q (F0 m 63 ls [])) : ∀ (n : Nat) (v2 : Int32) (v3 : Int32) (v4 : Int32) (c_s : Nat → Int32) (H : Heap) (locs : List Loc), fX7_suspects_L25 k63 c_manyFacts c_facts n v2 v3 v4 c_s = some res → va_P G.1 CL [(h_this, .inr (7, [.int c_thrown, .ref h_s, .ref h_draft, .ref h_past, .int c_undos, .ref h_kept, .ref h_isKept, .ref h_facts, .int c_manyFacts, .ref h_text, .int c_typed, .int c_from, .int c_to, .int c_token, .int c_fault, .int c_hasHooks, .int c_hasTies, .int c_low, .int c_high])), (h_s, .inl (G.2 0, 24, .inl c_s)), (h_facts, .inl (G.2 0, 24, .inl c_facts))] H → va_D A [(h_this, .inr (7, [.int c_thrown, .ref h_s, .ref h_draft, .ref h_past, .int c_undos, .ref h_kept, .ref h_isKept, .ref h_facts, .int c_manyFacts, .ref h_text, .int c_typed, .int c_from, .int c_to, .int c_token, .int c_fault, .int c_hasHooks, .int c_hasTies, .int c_low, .int c_high])), (h_s, .inl (G.2 0, 24, .inl c_s)), (h_facts, .inl (G.2 0, 24, .inl c_facts))] → va_S A s.heap H locs → ∀ (ls : Array Slot), lv_has ls 5 [(0, .ref h_this), (1, .int v1), (2, .int v2), (3, .int v3), (4, .int v4)] → W p l e rmX7_suspects s m args below meth c H locs 0 0 Q (F0 m 25 ls []) := by
  obtain ⟨hx, hb, hr, hlk, hml, hown, hts, hK⟩ := id C
  intro n
  induction n with
  | zero =>
    intro v2 v3 v4 c_s H locs hf
    cases hf
  | succ n ih =>
    intro v2 v3 v4 c_s H locs hf hP hD hS ls hl
    rw [fX7_suspects_L25] at hf
    refine lv_iload hx hb dX7_suspects_25 (lv_at hl 4 rfl) ?_
    refine lv_aload_n hx hb dX7_suspects_27 rfl (lv_at hl 0 rfl) ?_
    refine r_bind hf (fun u2 hu2 hf => ?_)
    refine cRiV (ci := 7) (rest := [.int v4]) ⟨hx, hb, hml, hown, hts⟩ hK (tX7_places l G h_this h_s h_draft h_past h_kept h_isKept h_facts h_text c_thrown c_undos c_manyFacts c_typed c_from c_to c_token c_fault c_hasHooks c_hasTies c_low c_high c_s u2 hu2) gX7_suspects_X7_places rfl hdX7_places rfl rfl rfl ⟨Nat.le_of_ble_eq_true rfl, Nat.le_of_ble_eq_true rfl⟩ hP [0, 1] rfl 0 rfl rfl rfl hl.1 (Nat.le_of_ble_eq_true rfl) rfl dX7_suspects_28 ⟨Nat.zero_le _, Nat.zero_le _⟩ ?_
    refine lv_icmp_ge (tgt := 63) hx hb dX7_suspects_31 (by decide) (fun c9 => ?_) (fun c9 => ?_)
    · have hf := c_t hf c9
      exact hk63 v2 v3 c_s _ _ hf hP hD hS _ (lv_sub hl [1, 2, 3] rfl)
    · have hf := c_f hf c9
      refine lv_aload_n hx hb dX7_suspects_34 rfl (lv_at hl 0 rfl) ?_
      refine lv_iload hx hb dX7_suspects_35 (lv_at hl 4 rfl) ?_
      refine r_bind hf (fun u3 hu3 hf => ?_)
      refine cWiV (ci := 7) (rest := []) (wr := []) (wf := [(h_this, .inr (7, [.int c_thrown, .ref h_s, .ref h_draft, .ref h_past, .int c_undos, .ref h_kept, .ref h_isKept, .ref h_facts, .int c_manyFacts, .ref h_text, .int c_typed, .int c_from, .int c_to, .int c_token, .int c_fault, .int c_hasHooks, .int c_hasTies, .int c_low, .int c_high])), (h_s, .inl (G.2 0, 24, .inl u3.2)), (h_facts, .inl (G.2 0, 24, .inl c_facts))]) ⟨hx, hb, hml, hown, hts⟩ hK (tX7_isSuspect l G h_this h_s h_draft h_past h_kept h_isKept h_facts h_text c_thrown c_undos c_manyFacts c_typed c_from c_to c_token c_fault c_hasHooks c_hasTies c_low c_high c_s c_facts v4 u3 hu3) gX7_suspects_X7_isSuspect rfl hdX7_isSuspect rfl rfl rfl ⟨Nat.le_of_ble_eq_true rfl, Nat.le_of_ble_eq_true rfl⟩ hP hD hS hA [0, 1, 2] [] [0, 1, 2] rfl rfl rfl (by decide) (by decide) (by decide) (by decide) 0 rfl rfl rfl hl.1 (Nat.le_of_ble_eq_true rfl) rfl dX7_suspects_37 ⟨Nat.zero_le _, Nat.zero_le _⟩ (fun H locs hP hD hS => ?_)
      refine r_jn2 hf (fun J57 eJ57 hf => ?_)
      have hJ57 : ∀ (j57_v2 : Int32) (j57_v3 : Int32) (H : Heap) (locs : List Loc), J57 j57_v2 j57_v3 = some res → va_P G.1 CL [(h_this, .inr (7, [.int c_thrown, .ref h_s, .ref h_draft, .ref h_past, .int c_undos, .ref h_kept, .ref h_isKept, .ref h_facts, .int c_manyFacts, .ref h_text, .int c_typed, .int c_from, .int c_to, .int c_token, .int c_fault, .int c_hasHooks, .int c_hasTies, .int c_low, .int c_high])), (h_s, .inl (G.2 0, 24, .inl u3.2)), (h_facts, .inl (G.2 0, 24, .inl c_facts))] H → va_D A [(h_this, .inr (7, [.int c_thrown, .ref h_s, .ref h_draft, .ref h_past, .int c_undos, .ref h_kept, .ref h_isKept, .ref h_facts, .int c_manyFacts, .ref h_text, .int c_typed, .int c_from, .int c_to, .int c_token, .int c_fault, .int c_hasHooks, .int c_hasTies, .int c_low, .int c_high])), (h_s, .inl (G.2 0, 24, .inl u3.2)), (h_facts, .inl (G.2 0, 24, .inl c_facts))] → va_S A s.heap H locs → ∀ (ls : Array Slot), lv_has ls 5 [(0, .ref h_this), (1, .int v1), (2, .int j57_v2), (3, .int j57_v3), (4, .int v4)] → W p l e rmX7_suspects s m args below meth c H locs 0 0 Q (F0 m 57 ls []) := by
        intro j57_v2 j57_v3 H locs hf hP hD hS ls hl
        rw [eJ57] at hf
        refine lv_iinc (v := (v4 + (1 : Int32))) (lv' := [(4, .int (v4 + (1 : Int32))), (0, .ref h_this), (1, .int v1), (2, .int j57_v2), (3, .int j57_v3)]) hx hb dX7_suspects_57 hl (k := 4) rfl rfl (by decide) rfl (fun ls hl => ?_)
        refine lv_goto (tgt := 25) hx hb dX7_suspects_60 (by decide) ?_
        exact ih j57_v2 j57_v3 (v4 + (1 : Int32)) u3.2 _ _ hf hP hD hS _ (lv_sub hl [1, 2, 3, 4, 0] rfl)
      refine lv_if_eq (tgt := 57) hx hb dX7_suspects_40 (by decide) (fun c9 => ?_) (fun c9 => ?_)
      · have hf := c_t hf c9
        exact hJ57 v2 v3 _ _ hf hP hD hS _ (lv_sub hl [0, 1, 2, 3, 4] rfl)
      · have hf := c_f hf c9
        refine lv_iload_n hx hb dX7_suspects_43 rfl (lv_at hl 2 rfl) ?_
        refine r_jn1 hf (fun J53 eJ53 hf => ?_)
        have hJ53 : ∀ (j53_0 : Int32) (H : Heap) (locs : List Loc), J53 j53_0 = some res → va_P G.1 CL [(h_this, .inr (7, [.int c_thrown, .ref h_s, .ref h_draft, .ref h_past, .int c_undos, .ref h_kept, .ref h_isKept, .ref h_facts, .int c_manyFacts, .ref h_text, .int c_typed, .int c_from, .int c_to, .int c_token, .int c_fault, .int c_hasHooks, .int c_hasTies, .int c_low, .int c_high])), (h_s, .inl (G.2 0, 24, .inl u3.2)), (h_facts, .inl (G.2 0, 24, .inl c_facts))] H → va_D A [(h_this, .inr (7, [.int c_thrown, .ref h_s, .ref h_draft, .ref h_past, .int c_undos, .ref h_kept, .ref h_isKept, .ref h_facts, .int c_manyFacts, .ref h_text, .int c_typed, .int c_from, .int c_to, .int c_token, .int c_fault, .int c_hasHooks, .int c_hasTies, .int c_low, .int c_high])), (h_s, .inl (G.2 0, 24, .inl u3.2)), (h_facts, .inl (G.2 0, 24, .inl c_facts))] → va_S A s.heap H locs → ∀ (ls : Array Slot), lv_has ls 5 [(0, .ref h_this), (1, .int v1), (2, .int v2), (4, .int v4)] → W p l e rmX7_suspects s m args below meth c H locs 0 0 Q (F0 m 53 ls [.int j53_0]) := by
          intro j53_0 H locs hf hP hD hS ls hl
          rw [eJ53] at hf
          refine lv_istore_n (lv' := [(3, .int j53_0), (0, .ref h_this), (1, .int v1), (2, .int v2), (4, .int v4)]) hx hb dX7_suspects_53 rfl hl (by decide) rfl (fun ls hl => ?_)
          refine lv_iinc (v := (v2 + (1 : Int32))) (lv' := [(2, .int (v2 + (1 : Int32))), (3, .int j53_0), (0, .ref h_this), (1, .int v1), (4, .int v4)]) hx hb dX7_suspects_54 hl (k := 3) rfl rfl (by decide) rfl (fun ls hl => ?_)
          exact hJ57 (v2 + (1 : Int32)) j53_0 _ _ hf hP hD hS _ (lv_sub hl [2, 3, 0, 1, 4] rfl)
        refine lv_if_ne (tgt := 52) hx hb dX7_suspects_44 (by decide) (fun c9 => ?_) (fun c9 => ?_)
        · have hf := c_f hf c9
          refine lv_iload_n hx hb dX7_suspects_52 rfl (lv_at hl 3 rfl) ?_
          exact hJ53 v3 _ _ hf hP hD hS _ (lv_sub hl [0, 1, 2, 4] rfl)
        · have hf := c_t hf c9
          refine lv_iload hx hb dX7_suspects_47 (lv_at hl 4 rfl) ?_
          refine lv_goto (tgt := 53) hx hb dX7_suspects_49 (by decide) ?_
          exact hJ53 v4 _ _ hf hP hD hS _ (lv_sub hl [0, 1, 2, 4] rfl)
set_option maxHeartbeats 4000000 in
set_option maxRecDepth 100000 in
theorem kX7_suspects (h_this : Nat) (h_s : Nat) (h_draft : Nat) (h_past : Nat) (h_kept : Nat) (h_isKept : Nat) (h_facts : Nat) (h_text : Nat) (c_thrown : Int32) (c_undos : Int32) (c_manyFacts : Int32) (c_typed : Int32) (c_from : Int32) (c_to : Int32) (c_token : Int32) (c_fault : Int32) (c_hasHooks : Int32) (c_hasTies : Int32) (c_low : Int32) (c_high : Int32) (c_s : Nat → Int32) (c_facts : Nat → Int32) (v1 : Int32) (C : Cx cX7_suspects (some .int) 5 RX7 wsX7_suspects G p s m args meth c) (hA : ∀ q : Nat, s.heap.size ≤ q → A q) (hP : va_P G.1 CL [(h_this, .inr (7, [.int c_thrown, .ref h_s, .ref h_draft, .ref h_past, .int c_undos, .ref h_kept, .ref h_isKept, .ref h_facts, .int c_manyFacts, .ref h_text, .int c_typed, .int c_from, .int c_to, .int c_token, .int c_fault, .int c_hasHooks, .int c_hasTies, .int c_low, .int c_high])), (h_s, .inl (G.2 0, 24, .inl c_s)), (h_facts, .inl (G.2 0, 24, .inl c_facts))] s.heap) (hD : va_D A [(h_this, .inr (7, [.int c_thrown, .ref h_s, .ref h_draft, .ref h_past, .int c_undos, .ref h_kept, .ref h_isKept, .ref h_facts, .int c_manyFacts, .ref h_text, .int c_typed, .int c_from, .int c_to, .int c_token, .int c_fault, .int c_hasHooks, .int c_hasTies, .int c_low, .int c_high])), (h_s, .inl (G.2 0, 24, .inl c_s)), (h_facts, .inl (G.2 0, 24, .inl c_facts))]) (hS : va_S A s.heap s.heap []) {res : Int32 × Int32 × (Nat → Int32)} (kr : ∀ (pc : Nat) (ls : Array Slot) (H : Heap) (locs : List Loc), va_P G.1 CL [(h_this, .inr (7, [.int (res.2.1), .ref h_s, .ref h_draft, .ref h_past, .int c_undos, .ref h_kept, .ref h_isKept, .ref h_facts, .int c_manyFacts, .ref h_text, .int c_typed, .int c_from, .int c_to, .int c_token, .int c_fault, .int c_hasHooks, .int c_hasTies, .int c_low, .int c_high])), (h_s, .inl (G.2 0, 24, .inl (res.2.2))), (h_facts, .inl (G.2 0, 24, .inl c_facts))] H → va_D A [(h_this, .inr (7, [.int (res.2.1), .ref h_s, .ref h_draft, .ref h_past, .int c_undos, .ref h_kept, .ref h_isKept, .ref h_facts, .int c_manyFacts, .ref h_text, .int c_typed, .int c_from, .int c_to, .int c_token, .int c_fault, .int c_hasHooks, .int c_hasTies, .int c_low, .int c_high])), (h_s, .inl (G.2 0, 24, .inl (res.2.2))), (h_facts, .inl (G.2 0, 24, .inl c_facts))] → va_S A s.heap H locs → decode cX7_suspects pc = .ok (.ireturn, 1) → W p l e rmX7_suspects s m args below meth c H locs 0 0 Q (F0 m pc ls [.int res.1])) (hf : fX7_suspects c_thrown c_manyFacts c_s c_facts v1 = some res) {ls : Array Slot} (hl : lv_has ls 5 [(0, .ref h_this), (1, .int v1)]) : W p l e rmX7_suspects s m args below meth c s.heap [] 0 0 Q (F0 m 0 ls []) := by
  obtain ⟨hx, hb, hr, hlk, hml, hown, hts, hK⟩ := id C
  rw [fX7_suspects] at hf
  refine lv_aload_n hx hb dX7_suspects_0 rfl (lv_at hl 0 rfl) ?_
  refine lv_iconst (v := (0 : Int32)) hx hb dX7_suspects_1 (by decide) ?_
  refine va_put (D := G.1) (cl := CL) (ci := 7) (v := .int (0 : Int32)) (ty := .int) (C := RX7) (T := TX7) (N := 19) hx hb hts iX7_suspects_7 tyX7 tyX7_ok nmX7 hown hK hP hD hS 0 rfl rfl 0 (by decide) (hts (.fieldLink RX7 37 "LoomCardsModel" "thrown" "I") (List.mem_of_getElem? (i := 1) rfl)) (fun _ h9 => h9) rfl (tyX7_ok 0 (by decide)) rfl rfl (Nat.le_of_ble_eq_true rfl) dX7_suspects_2 (fun H locs hP hD hS => ?_)
  have hP : va_P G.1 CL [(h_this, .inr (7, [.int (0 : Int32), .ref h_s, .ref h_draft, .ref h_past, .int c_undos, .ref h_kept, .ref h_isKept, .ref h_facts, .int c_manyFacts, .ref h_text, .int c_typed, .int c_from, .int c_to, .int c_token, .int c_fault, .int c_hasHooks, .int c_hasTies, .int c_low, .int c_high])), (h_s, .inl (G.2 0, 24, .inl c_s)), (h_facts, .inl (G.2 0, 24, .inl c_facts))] H := hP
  have hD : va_D A [(h_this, .inr (7, [.int (0 : Int32), .ref h_s, .ref h_draft, .ref h_past, .int c_undos, .ref h_kept, .ref h_isKept, .ref h_facts, .int c_manyFacts, .ref h_text, .int c_typed, .int c_from, .int c_to, .int c_token, .int c_fault, .int c_hasHooks, .int c_hasTies, .int c_low, .int c_high])), (h_s, .inl (G.2 0, 24, .inl c_s)), (h_facts, .inl (G.2 0, 24, .inl c_facts))] := hD
  refine lv_iload_n hx hb dX7_suspects_5 rfl (lv_at hl 1 rfl) ?_
  refine lv_iconst (v := (0 : Int32)) hx hb dX7_suspects_6 (by decide) ?_
  refine lv_iconst (v := (1 : Int32)) hx hb dX7_suspects_7 (by decide) ?_
  refine r_bind hf (fun u1 hu1 hf => ?_)
  refine cRiS (rest := []) ⟨hx, hb, hml, hown, hts⟩ hK (tX7_in l G v1 (0 : Int32) (1 : Int32) u1 hu1) gX7_suspects_X7_in rfl hdX7_in rfl rfl rfl ⟨Nat.le_of_ble_eq_true rfl, Nat.le_of_ble_eq_true rfl⟩ hP [] rfl hl.1 (Nat.le_of_ble_eq_true rfl) rfl dX7_suspects_8 ⟨Nat.zero_le _, Nat.zero_le _⟩ ?_
  refine lv_if_ne (tgt := 17) hx hb dX7_suspects_11 (by decide) (fun c9 => ?_) (fun c9 => ?_)
  · have hf := c_f hf c9
    refine lv_iconst (v := (0 : Int32)) hx hb dX7_suspects_17 (by decide) ?_
    refine lv_istore_n (lv' := [(2, .int (0 : Int32)), (0, .ref h_this), (1, .int v1)]) hx hb dX7_suspects_18 rfl hl (by decide) rfl (fun ls hl => ?_)
    refine lv_bipush (v := (-9 : Int32)) hx hb dX7_suspects_19 (by decide) ?_
    refine lv_istore_n (lv' := [(3, .int (-9 : Int32)), (2, .int (0 : Int32)), (0, .ref h_this), (1, .int v1)]) hx hb dX7_suspects_21 rfl hl (by decide) rfl (fun ls hl => ?_)
    refine lv_iconst (v := (-1 : Int32)) hx hb dX7_suspects_22 (by decide) ?_
    refine lv_istore (lv' := [(4, .int (-1 : Int32)), (3, .int (-9 : Int32)), (2, .int (0 : Int32)), (0, .ref h_this), (1, .int v1)]) hx hb dX7_suspects_23 hl (by decide) rfl (fun ls hl => ?_)
    refine kX7_suspects_L25 h_this h_s h_draft h_past h_kept h_isKept h_facts h_text (0 : Int32) c_undos c_manyFacts c_typed c_from c_to c_token c_fault c_hasHooks c_hasTies c_low c_high c_facts v1 C hA kr ?_ FU (0 : Int32) (-9 : Int32) (-1 : Int32) c_s _ _ hf hP hD hS _ (lv_sub hl [3, 4, 2, 1, 0] rfl)
    intro v2_x4 v3_x4 c_s_x4 H locs hf hP hD hS ls hl
    refine lv_iload_n hx hb dX7_suspects_63 rfl (lv_at hl 0 rfl) ?_
    refine lv_if_ne (tgt := 71) hx hb dX7_suspects_64 (by decide) (fun c9 => ?_) (fun c9 => ?_)
    · have hf := c_f hf c9
      refine lv_iload_n hx hb dX7_suspects_71 rfl (lv_at hl 2 rfl) ?_
      obtain rfl := Option.some.inj hf
      exact kr _ _ _ _ hP hD hS dX7_suspects_72
    · have hf := c_t hf c9
      refine lv_iload_n hx hb dX7_suspects_67 rfl (lv_at hl 1 rfl) ?_
      refine lv_goto (tgt := 72) hx hb dX7_suspects_68 (by decide) ?_
      obtain rfl := Option.some.inj hf
      exact kr _ _ _ _ hP hD hS dX7_suspects_72
  · have hf := c_t hf c9
    refine lv_ldc (v := (-1000000 : Int32)) hx hb hown (hts (.constant RX7 190 (-1000000)) (List.mem_of_getElem? (i := 2) rfl)) dX7_suspects_14 ?_
    obtain rfl := Option.some.inj hf
    exact kr _ _ _ _ hP hD hS dX7_suspects_16
end SX7_suspects
set_option maxHeartbeats 4000000 in
set_option maxRecDepth 100000 in
theorem tX7_suspects (l : Launch) (G : GG) (h_this : Nat) (h_s : Nat) (h_draft : Nat) (h_past : Nat) (h_kept : Nat) (h_isKept : Nat) (h_facts : Nat) (h_text : Nat) (c_thrown : Int32) (c_undos : Int32) (c_manyFacts : Int32) (c_typed : Int32) (c_from : Int32) (c_to : Int32) (c_token : Int32) (c_fault : Int32) (c_hasHooks : Int32) (c_hasTies : Int32) (c_low : Int32) (c_high : Int32) (c_s : Nat → Int32) (c_facts : Nat → Int32) (v1 : Int32) (res : Int32 × Int32 × (Nat → Int32)) (hf : fX7_suspects c_thrown c_manyFacts c_s c_facts v1 = some res) : MWi l yX7_suspects wsX7_suspects rmX7_suspects G [.ref h_this, .int v1] [(h_this, .inr (7, [.int c_thrown, .ref h_s, .ref h_draft, .ref h_past, .int c_undos, .ref h_kept, .ref h_isKept, .ref h_facts, .int c_manyFacts, .ref h_text, .int c_typed, .int c_from, .int c_to, .int c_token, .int c_fault, .int c_hasHooks, .int c_hasTies, .int c_low, .int c_high])), (h_s, .inl (G.2 0, 24, .inl c_s)), (h_facts, .inl (G.2 0, 24, .inl c_facts))] (res.1) [(h_this, .inr (7, [.int (res.2.1), .ref h_s, .ref h_draft, .ref h_past, .int c_undos, .ref h_kept, .ref h_isKept, .ref h_facts, .int c_manyFacts, .ref h_text, .int c_typed, .int c_from, .int c_to, .int c_token, .int c_fault, .int c_hasHooks, .int c_hasTies, .int c_low, .int c_high])), (h_s, .inl (G.2 0, 24, .inl (res.2.2))), (h_facts, .inl (G.2 0, 24, .inl c_facts))] := MWi.of (plainFor_of_name (by decide +kernel)) rfl (Nat.le_of_ble_eq_true rfl) (fun p e s m below meth c A C hA hP hD hS ls hl => kX7_suspects h_this h_s h_draft h_past h_kept h_isKept h_facts h_text c_thrown c_undos c_manyFacts c_typed c_from c_to c_token c_fault c_hasHooks c_hasTies c_low c_high c_s c_facts v1 C hA hP hD hS (fun pc ls H locs hP hD hS d => rWi C hP hD hS d) hf hl)

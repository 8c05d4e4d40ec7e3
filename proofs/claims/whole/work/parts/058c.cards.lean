def fX6_count (c_loom_hooks : Int32) (c_loom_ends : Int32) (c_loom_cards : Int32) (c_loom_limit : Int32) (c_loom_holesOfCard : Nat → Int32) (c_teller_text_length : Int32) (c_history_known : Int32) (c_sightings_seen : Int32) (v1 : Int32) : Option (Int32) := if v1 = (0 : Int32) then some (c_loom_hooks) else if v1 = (1 : Int32) then some (c_loom_ends) else if v1 = (2 : Int32) then some (c_loom_cards) else if v1 = (3 : Int32) then some (c_loom_limit) else if v1 = (4 : Int32) then (fX2_allHoles c_loom_cards c_loom_holesOfCard).bind (fun u1 => some (u1)) else if v1 = (5 : Int32) then some (c_sightings_seen) else if v1 = (6 : Int32) then some (c_teller_text_length) else if v1 = (7 : Int32) then some (c_history_known) else some ((-1 : Int32))
theorem iX6_count_0 : ∀ w ∈ wsX00, w ∈ wsX6_count := fun w h => List.mem_cons_of_mem _ (List.mem_append_right _ (h))
theorem iX6_count_1 : ∀ w ∈ wsX10, w ∈ wsX6_count := fun w h => List.mem_cons_of_mem _ (List.mem_append_left _ (List.mem_append_right _ (h)))
theorem iX6_count_2 : ∀ w ∈ wsX20, w ∈ wsX6_count := fun w h => List.mem_cons_of_mem _ (List.mem_append_left _ (List.mem_append_left _ (List.mem_append_left _ (List.mem_append_left _ (List.mem_append_right _ (h))))))
theorem iX6_count_4 : ∀ w ∈ wsX40, w ∈ wsX6_count := fun w h => List.mem_cons_of_mem _ (List.mem_append_left _ (List.mem_append_left _ (List.mem_append_left _ (List.mem_append_right _ (h)))))
theorem iX6_count_5 : ∀ w ∈ wsX50, w ∈ wsX6_count := fun w h => List.mem_cons_of_mem _ (List.mem_append_left _ (List.mem_append_left _ (List.mem_append_right _ (h))))
theorem iX6_count_6 : ∀ w ∈ wsX60, w ∈ wsX6_count := fun w h => List.mem_cons_of_mem _ (List.mem_append_left _ (List.mem_append_left _ (List.mem_append_left _ (List.mem_append_left _ (List.mem_append_left _ (List.mem_append_right _ (h)))))))
theorem hdX6_count : yX6_count.cls = RX6 ∧ yX6_count.cls ≠ "java/lang/invoke/MethodHandle" ∧ yX6_count.cls ≠ "java/lang/invoke/VarHandle" ∧ (parseMethodDescriptor yX6_count.desc).map (fun d => d.parameters.length) = some 1 := by decide +kernel
abbrev rmX6_count : Room := { frames := 3, cells := 0, slots := 0, locals := 64 }
section SX6_count
variable {p : Program} {l : Launch} {e : Env} {s : State} {m : MethodId} {args : Array Value} {below : List Frame} {meth : Method} {c : Code} {Q : State → Prop} {G : GG}
set_option maxHeartbeats 4000000 in
set_option maxRecDepth 100000 in
theorem kX6_count (h_this : Nat) (h_loom : Nat) (h_teller : Nat) (h_history : Nat) (h_mender : Nat) (h_sightings : Nat) (h_images : Nat) (h_isKept : Nat) (h_loom_hookOfEnd : Nat) (h_loom_holesOfCard : Nat) (h_teller_text : Nat) (h_teller_draft : Nat) (h_teller_text_letters : Nat) (h_history_looms : Nat) (h_sightings_rows : Nat) (h_sightings_ends : Nat) (h_sightings_wasUp : Nat) (c_loom_hooks : Int32) (c_loom_ends : Int32) (c_loom_cards : Int32) (c_loom_limit : Int32) (c_loom_holesOfCard : Nat → Int32) (c_teller_kind : Int32) (c_teller_from : Int32) (c_teller_to : Int32) (c_teller_hasHooks : Int32) (c_teller_hasTies : Int32) (c_teller_cardsTold : Int32) (c_teller_text_length : Int32) (c_history_known : Int32) (c_history_next : Int32) (c_sightings_seen : Int32) (v1 : Int32) (C : Cx cX6_count (some .int) 2 RX6 wsX6_count G p s m args meth c) (hP : va_P G.1 CL [(h_this, .inr (6, [.ref h_loom, .ref h_teller, .ref h_history, .ref h_mender, .ref h_sightings, .ref h_images, .ref h_isKept])), (h_loom, .inr (2, [.int c_loom_hooks, .int c_loom_ends, .int c_loom_cards, .int c_loom_limit, .ref h_loom_hookOfEnd, .ref h_loom_holesOfCard])), (h_loom_holesOfCard, .inl (G.2 0, 8, .inl c_loom_holesOfCard)), (h_teller, .inr (5, [.ref h_teller_text, .ref h_teller_draft, .int c_teller_kind, .int c_teller_from, .int c_teller_to, .int c_teller_hasHooks, .int c_teller_hasTies, .int c_teller_cardsTold])), (h_teller_text, .inr (1, [.int c_teller_text_length, .ref h_teller_text_letters])), (h_history, .inr (0, [.int c_history_known, .int c_history_next, .ref h_history_looms])), (h_sightings, .inr (4, [.int c_sightings_seen, .ref h_sightings_rows, .ref h_sightings_ends, .ref h_sightings_wasUp]))] s.heap) {res : Int32} (kr : ∀ (pc : Nat) (ls : Array Slot), decode cX6_count pc = .ok (.ireturn, 1) → W p l e rmX6_count s m args below meth c s.heap [] 0 0 Q (F0 m pc ls [.int res])) (hf : fX6_count c_loom_hooks c_loom_ends c_loom_cards c_loom_limit c_loom_holesOfCard c_teller_text_length c_history_known c_sightings_seen v1 = some res) {ls : Array Slot} (hl : lv_has ls 2 [(0, .ref h_this), (1, .int v1)]) : W p l e rmX6_count s m args below meth c s.heap [] 0 0 Q (F0 m 0 ls []) := by
  obtain ⟨hx, hb, hr, hlk, hml, hown, hts, hK⟩ := id C
  rw [fX6_count] at hf
  refine lv_iload_n hx hb dX6_count_0 rfl (lv_at hl 1 rfl) ?_
  refine r_if hf (fun e9 hf => ?_) (fun n0 hf => ?_)
  · refine sw_in (off := 47) (tgt := 48) e9 hx hb dX6_count_1 (by decide) (by decide) (by decide) (by decide) ?_
    refine lv_aload_n hx hb dX6_count_48 rfl (lv_at hl 0 rfl) ?_
    refine va_get (D := G.1) (cl := CL) (ci := 6) (C := RX6) (T := TX6) (N := 7) hx hb hts iX6_count_6 hown hK hP 0 rfl rfl 0 (by decide) (hts (.fieldLink RX6 10 "LoomCards" "loom" "LLoomCards$Loom;") (List.mem_of_getElem? (i := 1) rfl)) (fun _ h9 => h9) rfl dX6_count_49 ?_
    refine va_get (D := G.1) (cl := CL) (ci := 2) (C := RX2) (T := TX2) (N := 6) hx hb hts iX6_count_2 hown hK hP 1 rfl rfl 0 (by decide) (hts (.fieldLink RX6 208 "LoomCards$Loom" "hooks" "I") (List.mem_of_getElem? (i := 2) rfl)) (fun _ h9 => h9) rfl dX6_count_52 ?_
    obtain rfl := Option.some.inj hf
    exact kr _ _ dX6_count_55
  · refine r_if hf (fun e9 hf => ?_) (fun n1 hf => ?_)
    · refine sw_in (off := 55) (tgt := 56) e9 hx hb dX6_count_1 (by decide) (by decide) (by decide) (by decide) ?_
      refine lv_aload_n hx hb dX6_count_56 rfl (lv_at hl 0 rfl) ?_
      refine va_get (D := G.1) (cl := CL) (ci := 6) (C := RX6) (T := TX6) (N := 7) hx hb hts iX6_count_6 hown hK hP 0 rfl rfl 0 (by decide) (hts (.fieldLink RX6 10 "LoomCards" "loom" "LLoomCards$Loom;") (List.mem_of_getElem? (i := 1) rfl)) (fun _ h9 => h9) rfl dX6_count_57 ?_
      refine va_get (D := G.1) (cl := CL) (ci := 2) (C := RX2) (T := TX2) (N := 6) hx hb hts iX6_count_2 hown hK hP 1 rfl rfl 1 (by decide) (hts (.fieldLink RX6 211 "LoomCards$Loom" "ends" "I") (List.mem_of_getElem? (i := 3) rfl)) (fun _ h9 => h9) rfl dX6_count_60 ?_
      obtain rfl := Option.some.inj hf
      exact kr _ _ dX6_count_63
    · refine r_if hf (fun e9 hf => ?_) (fun n2 hf => ?_)
      · refine sw_in (off := 63) (tgt := 64) e9 hx hb dX6_count_1 (by decide) (by decide) (by decide) (by decide) ?_
        refine lv_aload_n hx hb dX6_count_64 rfl (lv_at hl 0 rfl) ?_
        refine va_get (D := G.1) (cl := CL) (ci := 6) (C := RX6) (T := TX6) (N := 7) hx hb hts iX6_count_6 hown hK hP 0 rfl rfl 0 (by decide) (hts (.fieldLink RX6 10 "LoomCards" "loom" "LLoomCards$Loom;") (List.mem_of_getElem? (i := 1) rfl)) (fun _ h9 => h9) rfl dX6_count_65 ?_
        refine va_get (D := G.1) (cl := CL) (ci := 2) (C := RX2) (T := TX2) (N := 6) hx hb hts iX6_count_2 hown hK hP 1 rfl rfl 2 (by decide) (hts (.fieldLink RX6 114 "LoomCards$Loom" "cards" "I") (List.mem_of_getElem? (i := 4) rfl)) (fun _ h9 => h9) rfl dX6_count_68 ?_
        obtain rfl := Option.some.inj hf
        exact kr _ _ dX6_count_71
      · refine r_if hf (fun e9 hf => ?_) (fun n3 hf => ?_)
        · refine sw_in (off := 71) (tgt := 72) e9 hx hb dX6_count_1 (by decide) (by decide) (by decide) (by decide) ?_
          refine lv_aload_n hx hb dX6_count_72 rfl (lv_at hl 0 rfl) ?_
          refine va_get (D := G.1) (cl := CL) (ci := 6) (C := RX6) (T := TX6) (N := 7) hx hb hts iX6_count_6 hown hK hP 0 rfl rfl 0 (by decide) (hts (.fieldLink RX6 10 "LoomCards" "loom" "LLoomCards$Loom;") (List.mem_of_getElem? (i := 1) rfl)) (fun _ h9 => h9) rfl dX6_count_73 ?_
          refine va_get (D := G.1) (cl := CL) (ci := 2) (C := RX2) (T := TX2) (N := 6) hx hb hts iX6_count_2 hown hK hP 1 rfl rfl 3 (by decide) (hts (.fieldLink RX6 134 "LoomCards$Loom" "limit" "I") (List.mem_of_getElem? (i := 5) rfl)) (fun _ h9 => h9) rfl dX6_count_76 ?_
          obtain rfl := Option.some.inj hf
          exact kr _ _ dX6_count_79
        · refine r_if hf (fun e9 hf => ?_) (fun n4 hf => ?_)
          · refine sw_in (off := 79) (tgt := 80) e9 hx hb dX6_count_1 (by decide) (by decide) (by decide) (by decide) ?_
            refine lv_aload_n hx hb dX6_count_80 rfl (lv_at hl 0 rfl) ?_
            refine va_get (D := G.1) (cl := CL) (ci := 6) (C := RX6) (T := TX6) (N := 7) hx hb hts iX6_count_6 hown hK hP 0 rfl rfl 0 (by decide) (hts (.fieldLink RX6 10 "LoomCards" "loom" "LLoomCards$Loom;") (List.mem_of_getElem? (i := 1) rfl)) (fun _ h9 => h9) rfl dX6_count_81 ?_
            refine r_bind hf (fun u1 hu1 hf => ?_)
            refine cRiV (ci := 2) (rest := []) ⟨hx, hb, hml, hown, hts⟩ hK (tX2_allHoles l G h_loom h_loom_hookOfEnd h_loom_holesOfCard c_loom_hooks c_loom_ends c_loom_cards c_loom_limit c_loom_holesOfCard u1 hu1) gX6_count_X2_allHoles rfl hdX2_allHoles rfl rfl rfl ⟨Nat.le_of_ble_eq_true rfl, Nat.le_of_ble_eq_true rfl⟩ hP [1, 2] rfl 1 rfl rfl rfl hl.1 (Nat.le_of_ble_eq_true rfl) rfl dX6_count_84 ⟨Nat.zero_le _, Nat.zero_le _⟩ ?_
            obtain rfl := Option.some.inj hf
            exact kr _ _ dX6_count_87
          · refine r_if hf (fun e9 hf => ?_) (fun n5 hf => ?_)
            · refine sw_in (off := 87) (tgt := 88) e9 hx hb dX6_count_1 (by decide) (by decide) (by decide) (by decide) ?_
              refine lv_aload_n hx hb dX6_count_88 rfl (lv_at hl 0 rfl) ?_
              refine va_get (D := G.1) (cl := CL) (ci := 6) (C := RX6) (T := TX6) (N := 7) hx hb hts iX6_count_6 hown hK hP 0 rfl rfl 4 (by decide) (hts (.fieldLink RX6 40 "LoomCards" "sightings" "LLoomCards$Sightings;") (List.mem_of_getElem? (i := 6) rfl)) (fun _ h9 => h9) rfl dX6_count_89 ?_
              refine va_get (D := G.1) (cl := CL) (ci := 4) (C := RX4) (T := TX4) (N := 4) hx hb hts iX6_count_4 hown hK hP 6 rfl rfl 0 (by decide) (hts (.fieldLink RX6 191 "LoomCards$Sightings" "seen" "I") (List.mem_of_getElem? (i := 7) rfl)) (fun _ h9 => h9) rfl dX6_count_92 ?_
              obtain rfl := Option.some.inj hf
              exact kr _ _ dX6_count_95
            · refine r_if hf (fun e9 hf => ?_) (fun n6 hf => ?_)
              · refine sw_in (off := 95) (tgt := 96) e9 hx hb dX6_count_1 (by decide) (by decide) (by decide) (by decide) ?_
                refine lv_aload_n hx hb dX6_count_96 rfl (lv_at hl 0 rfl) ?_
                refine va_get (D := G.1) (cl := CL) (ci := 6) (C := RX6) (T := TX6) (N := 7) hx hb hts iX6_count_6 hown hK hP 0 rfl rfl 1 (by decide) (hts (.fieldLink RX6 19 "LoomCards" "teller" "LLoomCards$Teller;") (List.mem_of_getElem? (i := 8) rfl)) (fun _ h9 => h9) rfl dX6_count_97 ?_
                refine va_get (D := G.1) (cl := CL) (ci := 5) (C := RX5) (T := TX5) (N := 8) hx hb hts iX6_count_5 hown hK hP 3 rfl rfl 0 (by decide) (hts (.fieldLink RX6 52 "LoomCards$Teller" "text" "LLoomCards$Letters;") (List.mem_of_getElem? (i := 9) rfl)) (fun _ h9 => h9) rfl dX6_count_100 ?_
                refine va_get (D := G.1) (cl := CL) (ci := 1) (C := RX1) (T := TX1) (N := 2) hx hb hts iX6_count_1 hown hK hP 4 rfl rfl 0 (by decide) (hts (.fieldLink RX6 62 "LoomCards$Letters" "length" "I") (List.mem_of_getElem? (i := 10) rfl)) (fun _ h9 => h9) rfl dX6_count_103 ?_
                obtain rfl := Option.some.inj hf
                exact kr _ _ dX6_count_106
              · refine r_if hf (fun e9 hf => ?_) (fun n7 hf => ?_)
                · refine sw_in (off := 106) (tgt := 107) e9 hx hb dX6_count_1 (by decide) (by decide) (by decide) (by decide) ?_
                  refine lv_aload_n hx hb dX6_count_107 rfl (lv_at hl 0 rfl) ?_
                  refine va_get (D := G.1) (cl := CL) (ci := 6) (C := RX6) (T := TX6) (N := 7) hx hb hts iX6_count_6 hown hK hP 0 rfl rfl 2 (by decide) (hts (.fieldLink RX6 26 "LoomCards" "history" "LLoomCards$History;") (List.mem_of_getElem? (i := 11) rfl)) (fun _ h9 => h9) rfl dX6_count_108 ?_
                  refine va_get (D := G.1) (cl := CL) (ci := 0) (C := RX0) (T := TX0) (N := 3) hx hb hts iX6_count_0 hown hK hP 5 rfl rfl 0 (by decide) (hts (.fieldLink RX6 141 "LoomCards$History" "known" "I") (List.mem_of_getElem? (i := 12) rfl)) (fun _ h9 => h9) rfl dX6_count_111 ?_
                  obtain rfl := Option.some.inj hf
                  exact kr _ _ dX6_count_114
                · refine sw_out (lo := 0) (N := 8) (tgt := 115) hx hb dX6_count_1 (fun j hj => by match j, hj with | 0, _ => exact n0 | 1, _ => exact n1 | 2, _ => exact n2 | 3, _ => exact n3 | 4, _ => exact n4 | 5, _ => exact n5 | 6, _ => exact n6 | 7, _ => exact n7 | j + 8, hj => omega) (by decide) (by decide) ?_
                  refine lv_iconst (v := (-1 : Int32)) hx hb dX6_count_115 (by decide) ?_
                  obtain rfl := Option.some.inj hf
                  exact kr _ _ dX6_count_116
end SX6_count
set_option maxHeartbeats 4000000 in
set_option maxRecDepth 100000 in
theorem tX6_count (l : Launch) (G : GG) (h_this : Nat) (h_loom : Nat) (h_teller : Nat) (h_history : Nat) (h_mender : Nat) (h_sightings : Nat) (h_images : Nat) (h_isKept : Nat) (h_loom_hookOfEnd : Nat) (h_loom_holesOfCard : Nat) (h_teller_text : Nat) (h_teller_draft : Nat) (h_teller_text_letters : Nat) (h_history_looms : Nat) (h_sightings_rows : Nat) (h_sightings_ends : Nat) (h_sightings_wasUp : Nat) (c_loom_hooks : Int32) (c_loom_ends : Int32) (c_loom_cards : Int32) (c_loom_limit : Int32) (c_loom_holesOfCard : Nat → Int32) (c_teller_kind : Int32) (c_teller_from : Int32) (c_teller_to : Int32) (c_teller_hasHooks : Int32) (c_teller_hasTies : Int32) (c_teller_cardsTold : Int32) (c_teller_text_length : Int32) (c_history_known : Int32) (c_history_next : Int32) (c_sightings_seen : Int32) (v1 : Int32) (res : Int32) (hf : fX6_count c_loom_hooks c_loom_ends c_loom_cards c_loom_limit c_loom_holesOfCard c_teller_text_length c_history_known c_sightings_seen v1 = some res) : MRi l yX6_count wsX6_count rmX6_count G [.ref h_this, .int v1] [(h_this, .inr (6, [.ref h_loom, .ref h_teller, .ref h_history, .ref h_mender, .ref h_sightings, .ref h_images, .ref h_isKept])), (h_loom, .inr (2, [.int c_loom_hooks, .int c_loom_ends, .int c_loom_cards, .int c_loom_limit, .ref h_loom_hookOfEnd, .ref h_loom_holesOfCard])), (h_loom_holesOfCard, .inl (G.2 0, 8, .inl c_loom_holesOfCard)), (h_teller, .inr (5, [.ref h_teller_text, .ref h_teller_draft, .int c_teller_kind, .int c_teller_from, .int c_teller_to, .int c_teller_hasHooks, .int c_teller_hasTies, .int c_teller_cardsTold])), (h_teller_text, .inr (1, [.int c_teller_text_length, .ref h_teller_text_letters])), (h_history, .inr (0, [.int c_history_known, .int c_history_next, .ref h_history_looms])), (h_sightings, .inr (4, [.int c_sightings_seen, .ref h_sightings_rows, .ref h_sightings_ends, .ref h_sightings_wasUp]))] (res) := MRi.of (plainFor_of_name (by decide +kernel)) rfl (Nat.le_of_ble_eq_true rfl) (fun p e s m below meth c C hP ls hl => kX6_count h_this h_loom h_teller h_history h_mender h_sightings h_images h_isKept h_loom_hookOfEnd h_loom_holesOfCard h_teller_text h_teller_draft h_teller_text_letters h_history_looms h_sightings_rows h_sightings_ends h_sightings_wasUp c_loom_hooks c_loom_ends c_loom_cards c_loom_limit c_loom_holesOfCard c_teller_kind c_teller_from c_teller_to c_teller_hasHooks c_teller_hasTies c_teller_cardsTold c_teller_text_length c_history_known c_history_next c_sightings_seen v1 C hP (fun pc ls d => rRi C d) hf hl)

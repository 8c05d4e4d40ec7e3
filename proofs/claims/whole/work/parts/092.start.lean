theorem iL_0 : ∀ w ∈ wsX00, w ∈ lw_tbl := fun w h => (goodIn_2 wsX00 [(1, 135), (1, 137), (1, 139)] rfl (by decide +kernel) w h).1
theorem iL_1 : ∀ w ∈ wsX10, w ∈ lw_tbl := fun w h => (goodIn_2 wsX10 [(1, 88), (1, 90)] rfl (by decide +kernel) w h).1
theorem iL_2 : ∀ w ∈ wsX20, w ∈ lw_tbl := fun w h => (goodIn_2 wsX20 [(1, 58), (1, 60), (1, 62), (1, 64), (1, 66), (1, 68)] rfl (by decide +kernel) w h).1
theorem iL_3 : ∀ w ∈ wsX30, w ∈ lw_tbl := fun w h => (goodIn_2 wsX30 [(1, 157), (1, 159), (1, 161), (1, 163)] rfl (by decide +kernel) w h).1
theorem iL_4 : ∀ w ∈ wsX40, w ∈ lw_tbl := fun w h => (goodIn_2 wsX40 [(1, 177), (1, 179), (1, 181), (1, 183)] rfl (by decide +kernel) w h).1
theorem iL_5 : ∀ w ∈ wsX50, w ∈ lw_tbl := fun w h => (goodIn_2 wsX50 [(1, 105), (1, 107), (1, 109), (1, 111), (1, 113), (1, 115), (1, 117), (1, 119)] rfl (by decide +kernel) w h).1
theorem iL_6 : ∀ w ∈ wsX60, w ∈ lw_tbl := fun w h => (goodIn_2 wsX60 [(1, 194), (1, 196), (1, 198), (1, 200), (1, 202), (1, 204), (1, 206)] rfl (by decide +kernel) w h).1
theorem iL_7 : ∀ w ∈ wsX70, w ∈ lw_tbl := fun w h => (goodIn_2 wsX70 [(3, 230), (3, 232), (3, 234), (3, 236), (3, 238), (4, 0), (4, 2), (4, 4), (4, 6), (4, 8), (4, 10), (4, 12), (4, 14), (4, 16), (4, 18), (4, 20), (4, 22), (4, 24), (4, 26)] rfl (by decide +kernel) w h).1
theorem oarr_eq {c : ClassId} {n : Nat} {f g : Nat → Option Nat} (h : ∀ j : Nat, j < n → f j = g j) : vp_cell c (n, .inr (.inr (.inr (.inr f)))) = vp_cell c (n, .inr (.inr (.inr (.inr g)))) := by
  rw [vp_cell_q, vp_cell_q]
  unfold arrV
  congr 1
  apply Array.ext
  · simp
  · intro i h1 h2
    simp only [Array.getElem_ofFn]
    rw [h i (by simpa using h1)]
theorem va_P.oarr {D : va_G} {cl : List vw_C} {w : va_W} {H : Heap} {A : Nat → Prop} (hP : va_P D cl w H) (hD : va_D A w) (k : Nat) {a n : Nat} {c : ClassId} {f : Nat → Option Nat} (g : Nat → Option Nat) (hk : w[k]? = some (a, .inl (c, n, .inr (.inr (.inr (.inr f)))))) (h : ∀ j : Nat, j < n → f j = g j) : va_P D cl (w.set k (a, .inl (c, n, .inr (.inr (.inr (.inr g)))))) H := by
  refine hP.set hD hk ?_ (fun q _ => rfl)
  have h1 : H[a]? = some (vp_cell c (n, .inr (.inr (.inr (.inr f))))) := hP k _ hk
  show H[a]? = some (vp_cell c (n, .inr (.inr (.inr (.inr g)))))
  rw [h1, oarr_eq h]
theorem aclass {ty : FieldType} {args : Array Value} {s : State} (h : (Cond.arrayClass ty).before args s = true) : ∃ (c : ClassId) (k : Class) (comp : ClassId), s.vm.findClass ("[" ++ ty.toString) = some c ∧ s.vm.classes[c]? = some k ∧ k.kind = .array comp ty := by
  simp only [Cond.before, Cond.holds, Cond.value] at h
  cases e1 : s.vm.findClass ("[" ++ ty.toString) with
  | none => simp [e1] at h
  | some c =>
    cases e2 : s.vm.classes[c]? with
    | none => simp [e1, e2] at h
    | some k =>
      simp [e1, e2] at h
      cases e3 : k.kind with
      | array comp ty2 =>
        rw [e3] at h
        simp at h
        exact ⟨c, k, comp, rfl, e2, by rw [e3, h]⟩
      | _ => rw [e3] at h; simp at h
def tmW : Nat → Term := fun i => match i with
  | 0 => .string "LoomCards$Teller" 139
  | 1 => .string "LoomCards$Teller" 144
  | 2 => .string "LoomCards$Teller" 146
  | 3 => .string "LoomCards$Teller" 148
  | _ => .string "LoomCards$Teller" 150
theorem five {P : Nat → Prop} (h0 : P 0) (h1 : P 1) (h2 : P 2) (h3 : P 3) (h4 : P 4) : ∀ i, i < 5 → P i := by
  intro i hi
  rcases (by omega : i = 0 ∨ i = 1 ∨ i = 2 ∨ i = 3 ∨ i = 4) with rfl | rfl | rfl | rfl | rfl <;> assumption
set_option maxHeartbeats 4000000 in
set_option maxRecDepth 100000 in
theorem sf_start {args : Array Value} {s : State} (hts : ∀ w ∈ lw_tbl, w.before args s = true) (hgv : (Jvm.Cond.and given_1 narrow_1).before args s = true) : ∃ z : ZZ, SF z (fun q => s.heap.size ≤ q) s := by
  have hs := flat_of_before _ hgv
  have hA : ∀ a : Nat, a < s.heap.size → ¬ (fun q => s.heap.size ≤ q) a := fun a h1 h2 => absurd h2 (Nat.not_le.mpr h1)
  have el0 : ∀ j : Nat, j < lenW.getD 0 0 → (Cond.eq (.elem (.field (tmW 0) "java/lang/String" "value" "[B") (.int (Int32.ofNat j))) (.int ((bytW.getD 0 []).getD j 0))).before args s = true := by
    intro j hj
    rcases (show j = 0 ∨ j = 1 ∨ j = 2 ∨ j = 3 ∨ j = 4 by have h9 : j < 5 := hj; omega) with rfl | rfl | rfl | rfl | rfl
    · exact hs (.eq (.elem (.field (.string "LoomCards$Teller" 139) "java/lang/String" "value" "[B") (.int 0)) (.int 104)) (by decide +kernel)
    · exact hs (.eq (.elem (.field (.string "LoomCards$Teller" 139) "java/lang/String" "value" "[B") (.int 1)) (.int 111)) (by decide +kernel)
    · exact hs (.eq (.elem (.field (.string "LoomCards$Teller" 139) "java/lang/String" "value" "[B") (.int 2)) (.int 111)) (by decide +kernel)
    · exact hs (.eq (.elem (.field (.string "LoomCards$Teller" 139) "java/lang/String" "value" "[B") (.int 3)) (.int 107)) (by decide +kernel)
    · exact hs (.eq (.elem (.field (.string "LoomCards$Teller" 139) "java/lang/String" "value" "[B") (.int 4)) (.int 115)) (by decide +kernel)
  have el1 : ∀ j : Nat, j < lenW.getD 1 0 → (Cond.eq (.elem (.field (tmW 1) "java/lang/String" "value" "[B") (.int (Int32.ofNat j))) (.int ((bytW.getD 1 []).getD j 0))).before args s = true := by
    intro j hj
    rcases (show j = 0 ∨ j = 1 ∨ j = 2 ∨ j = 3 by have h9 : j < 4 := hj; omega) with rfl | rfl | rfl | rfl
    · exact hs (.eq (.elem (.field (.string "LoomCards$Teller" 144) "java/lang/String" "value" "[B") (.int 0)) (.int 116)) (by decide +kernel)
    · exact hs (.eq (.elem (.field (.string "LoomCards$Teller" 144) "java/lang/String" "value" "[B") (.int 1)) (.int 105)) (by decide +kernel)
    · exact hs (.eq (.elem (.field (.string "LoomCards$Teller" 144) "java/lang/String" "value" "[B") (.int 2)) (.int 101)) (by decide +kernel)
    · exact hs (.eq (.elem (.field (.string "LoomCards$Teller" 144) "java/lang/String" "value" "[B") (.int 3)) (.int 115)) (by decide +kernel)
  have el2 : ∀ j : Nat, j < lenW.getD 2 0 → (Cond.eq (.elem (.field (tmW 2) "java/lang/String" "value" "[B") (.int (Int32.ofNat j))) (.int ((bytW.getD 2 []).getD j 0))).before args s = true := by
    intro j hj
    rcases (show j = 0 ∨ j = 1 ∨ j = 2 ∨ j = 3 by have h9 : j < 4 := hj; omega) with rfl | rfl | rfl | rfl
    · exact hs (.eq (.elem (.field (.string "LoomCards$Teller" 146) "java/lang/String" "value" "[B") (.int 0)) (.int 99)) (by decide +kernel)
    · exact hs (.eq (.elem (.field (.string "LoomCards$Teller" 146) "java/lang/String" "value" "[B") (.int 1)) (.int 97)) (by decide +kernel)
    · exact hs (.eq (.elem (.field (.string "LoomCards$Teller" 146) "java/lang/String" "value" "[B") (.int 2)) (.int 114)) (by decide +kernel)
    · exact hs (.eq (.elem (.field (.string "LoomCards$Teller" 146) "java/lang/String" "value" "[B") (.int 3)) (.int 100)) (by decide +kernel)
  have el3 : ∀ j : Nat, j < lenW.getD 3 0 → (Cond.eq (.elem (.field (tmW 3) "java/lang/String" "value" "[B") (.int (Int32.ofNat j))) (.int ((bytW.getD 3 []).getD j 0))).before args s = true := by
    intro j hj
    rcases (show j = 0 ∨ j = 1 ∨ j = 2 ∨ j = 3 ∨ j = 4 by have h9 : j < 5 := hj; omega) with rfl | rfl | rfl | rfl | rfl
    · exact hs (.eq (.elem (.field (.string "LoomCards$Teller" 148) "java/lang/String" "value" "[B") (.int 0)) (.int 99)) (by decide +kernel)
    · exact hs (.eq (.elem (.field (.string "LoomCards$Teller" 148) "java/lang/String" "value" "[B") (.int 1)) (.int 108)) (by decide +kernel)
    · exact hs (.eq (.elem (.field (.string "LoomCards$Teller" 148) "java/lang/String" "value" "[B") (.int 2)) (.int 111)) (by decide +kernel)
    · exact hs (.eq (.elem (.field (.string "LoomCards$Teller" 148) "java/lang/String" "value" "[B") (.int 3)) (.int 116)) (by decide +kernel)
    · exact hs (.eq (.elem (.field (.string "LoomCards$Teller" 148) "java/lang/String" "value" "[B") (.int 4)) (.int 104)) (by decide +kernel)
  have el4 : ∀ j : Nat, j < lenW.getD 4 0 → (Cond.eq (.elem (.field (tmW 4) "java/lang/String" "value" "[B") (.int (Int32.ofNat j))) (.int ((bytW.getD 4 []).getD j 0))).before args s = true := by
    intro j hj
    rcases (show j = 0 ∨ j = 1 ∨ j = 2 ∨ j = 3 ∨ j = 4 by have h9 : j < 5 := hj; omega) with rfl | rfl | rfl | rfl | rfl
    · exact hs (.eq (.elem (.field (.string "LoomCards$Teller" 150) "java/lang/String" "value" "[B") (.int 0)) (.int 108)) (by decide +kernel)
    · exact hs (.eq (.elem (.field (.string "LoomCards$Teller" 150) "java/lang/String" "value" "[B") (.int 1)) (.int 105)) (by decide +kernel)
    · exact hs (.eq (.elem (.field (.string "LoomCards$Teller" 150) "java/lang/String" "value" "[B") (.int 2)) (.int 109)) (by decide +kernel)
    · exact hs (.eq (.elem (.field (.string "LoomCards$Teller" 150) "java/lang/String" "value" "[B") (.int 3)) (.int 105)) (by decide +kernel)
    · exact hs (.eq (.elem (.field (.string "LoomCards$Teller" 150) "java/lang/String" "value" "[B") (.int 4)) (.int 116)) (by decide +kernel)
  obtain ⟨adK, adV, hS, hev⟩ := vk_Sof (args := args) (s := s) (N := 5) (tm := tmW) (len := lenW) (byt := bytW) (A := fun q => s.heap.size ≤ q) (fun i _ => wLen_lt i)
    (five (hs (.exactly (.string "LoomCards$Teller" 139) "java/lang/String") (by decide +kernel)) (hs (.exactly (.string "LoomCards$Teller" 144) "java/lang/String") (by decide +kernel)) (hs (.exactly (.string "LoomCards$Teller" 146) "java/lang/String") (by decide +kernel)) (hs (.exactly (.string "LoomCards$Teller" 148) "java/lang/String") (by decide +kernel)) (hs (.exactly (.string "LoomCards$Teller" 150) "java/lang/String") (by decide +kernel)))
    (five (hs (.eq (.field (.string "LoomCards$Teller" 139) "java/lang/String" "coder" "B") (.int 0)) (by decide +kernel)) (hs (.eq (.field (.string "LoomCards$Teller" 144) "java/lang/String" "coder" "B") (.int 0)) (by decide +kernel)) (hs (.eq (.field (.string "LoomCards$Teller" 146) "java/lang/String" "coder" "B") (.int 0)) (by decide +kernel)) (hs (.eq (.field (.string "LoomCards$Teller" 148) "java/lang/String" "coder" "B") (.int 0)) (by decide +kernel)) (hs (.eq (.field (.string "LoomCards$Teller" 150) "java/lang/String" "coder" "B") (.int 0)) (by decide +kernel)))
    (five (hs (.arrayOf (.field (.string "LoomCards$Teller" 139) "java/lang/String" "value" "[B") .byte) (by decide +kernel)) (hs (.arrayOf (.field (.string "LoomCards$Teller" 144) "java/lang/String" "value" "[B") .byte) (by decide +kernel)) (hs (.arrayOf (.field (.string "LoomCards$Teller" 146) "java/lang/String" "value" "[B") .byte) (by decide +kernel)) (hs (.arrayOf (.field (.string "LoomCards$Teller" 148) "java/lang/String" "value" "[B") .byte) (by decide +kernel)) (hs (.arrayOf (.field (.string "LoomCards$Teller" 150) "java/lang/String" "value" "[B") .byte) (by decide +kernel)))
    (five (hs (.eq (.length (.field (.string "LoomCards$Teller" 139) "java/lang/String" "value" "[B")) (.int 5)) (by decide +kernel)) (hs (.eq (.length (.field (.string "LoomCards$Teller" 144) "java/lang/String" "value" "[B")) (.int 4)) (by decide +kernel)) (hs (.eq (.length (.field (.string "LoomCards$Teller" 146) "java/lang/String" "value" "[B")) (.int 4)) (by decide +kernel)) (hs (.eq (.length (.field (.string "LoomCards$Teller" 148) "java/lang/String" "value" "[B")) (.int 5)) (by decide +kernel)) (hs (.eq (.length (.field (.string "LoomCards$Teller" 150) "java/lang/String" "value" "[B")) (.int 5)) (by decide +kernel)))
    (five el0 el1 el2 el3 el4)
    (fun i j hi hj => five (P := fun i => ∀ j, j < 5 → i ≠ j → (Cond.not (Cond.eq (tmW i) (tmW j))).before args s = true ∨ (Cond.not (Cond.eq (tmW j) (tmW i))).before args s = true) (five (P := fun j => 0 ≠ j → (Cond.not (Cond.eq (tmW 0) (tmW j))).before args s = true ∨ (Cond.not (Cond.eq (tmW j) (tmW 0))).before args s = true) (fun h => absurd rfl h) (fun _ => Or.inl (hs (.not (.eq (.string "LoomCards$Teller" 139) (.string "LoomCards$Teller" 144))) (by decide +kernel))) (fun _ => Or.inl (hs (.not (.eq (.string "LoomCards$Teller" 139) (.string "LoomCards$Teller" 146))) (by decide +kernel))) (fun _ => Or.inl (hs (.not (.eq (.string "LoomCards$Teller" 139) (.string "LoomCards$Teller" 148))) (by decide +kernel))) (fun _ => Or.inl (hs (.not (.eq (.string "LoomCards$Teller" 139) (.string "LoomCards$Teller" 150))) (by decide +kernel)))) (five (P := fun j => 1 ≠ j → (Cond.not (Cond.eq (tmW 1) (tmW j))).before args s = true ∨ (Cond.not (Cond.eq (tmW j) (tmW 1))).before args s = true) (fun _ => Or.inr (hs (.not (.eq (.string "LoomCards$Teller" 139) (.string "LoomCards$Teller" 144))) (by decide +kernel))) (fun h => absurd rfl h) (fun _ => Or.inl (hs (.not (.eq (.string "LoomCards$Teller" 144) (.string "LoomCards$Teller" 146))) (by decide +kernel))) (fun _ => Or.inl (hs (.not (.eq (.string "LoomCards$Teller" 144) (.string "LoomCards$Teller" 148))) (by decide +kernel))) (fun _ => Or.inl (hs (.not (.eq (.string "LoomCards$Teller" 144) (.string "LoomCards$Teller" 150))) (by decide +kernel)))) (five (P := fun j => 2 ≠ j → (Cond.not (Cond.eq (tmW 2) (tmW j))).before args s = true ∨ (Cond.not (Cond.eq (tmW j) (tmW 2))).before args s = true) (fun _ => Or.inr (hs (.not (.eq (.string "LoomCards$Teller" 139) (.string "LoomCards$Teller" 146))) (by decide +kernel))) (fun _ => Or.inr (hs (.not (.eq (.string "LoomCards$Teller" 144) (.string "LoomCards$Teller" 146))) (by decide +kernel))) (fun h => absurd rfl h) (fun _ => Or.inl (hs (.not (.eq (.string "LoomCards$Teller" 146) (.string "LoomCards$Teller" 148))) (by decide +kernel))) (fun _ => Or.inl (hs (.not (.eq (.string "LoomCards$Teller" 146) (.string "LoomCards$Teller" 150))) (by decide +kernel)))) (five (P := fun j => 3 ≠ j → (Cond.not (Cond.eq (tmW 3) (tmW j))).before args s = true ∨ (Cond.not (Cond.eq (tmW j) (tmW 3))).before args s = true) (fun _ => Or.inr (hs (.not (.eq (.string "LoomCards$Teller" 139) (.string "LoomCards$Teller" 148))) (by decide +kernel))) (fun _ => Or.inr (hs (.not (.eq (.string "LoomCards$Teller" 144) (.string "LoomCards$Teller" 148))) (by decide +kernel))) (fun _ => Or.inr (hs (.not (.eq (.string "LoomCards$Teller" 146) (.string "LoomCards$Teller" 148))) (by decide +kernel))) (fun h => absurd rfl h) (fun _ => Or.inl (hs (.not (.eq (.string "LoomCards$Teller" 148) (.string "LoomCards$Teller" 150))) (by decide +kernel)))) (five (P := fun j => 4 ≠ j → (Cond.not (Cond.eq (tmW 4) (tmW j))).before args s = true ∨ (Cond.not (Cond.eq (tmW j) (tmW 4))).before args s = true) (fun _ => Or.inr (hs (.not (.eq (.string "LoomCards$Teller" 139) (.string "LoomCards$Teller" 150))) (by decide +kernel))) (fun _ => Or.inr (hs (.not (.eq (.string "LoomCards$Teller" 144) (.string "LoomCards$Teller" 150))) (by decide +kernel))) (fun _ => Or.inr (hs (.not (.eq (.string "LoomCards$Teller" 146) (.string "LoomCards$Teller" 150))) (by decide +kernel))) (fun _ => Or.inr (hs (.not (.eq (.string "LoomCards$Teller" 148) (.string "LoomCards$Teller" 150))) (by decide +kernel))) (fun h => absurd rfl h)) i hi j hj) hA
  refine ⟨fun i => (adK i, adV i), hS, va_Zof (hts (.laysStatic "java/lang/String" "COMPACT_STRINGS" "Z") (tb_in (a := 2) (i := 42) rfl)) (hts (.initialized "java/lang/String") (tb_in (a := 1) (i := 9) rfl)) (va_eqi (hs (.eq (.static "java/lang/String" "COMPACT_STRINGS" "Z") (.int 1)) (by decide +kernel))) hA, va_Zqof (hts (.laysStatic "jdk/internal/util/Preconditions" "SIOOBE_FORMATTER" "Ljava/util/function/BiFunction;") (tb_in (a := 2) (i := 59) rfl)) (hts (.initialized "jdk/internal/util/Preconditions") (tb_in (a := 1) (i := 11) rfl)) (hs (.isRef (.static "jdk/internal/util/Preconditions" "SIOOBE_FORMATTER" "Ljava/util/function/BiFunction;")) (by decide +kernel)) hA, vk_R.of (hts (.stringRef "LoomCards$Teller" 139 "hooks") (tb_in (a := 2) (i := 28) rfl)) (hev 0 (by decide)), vk_R.of (hts (.stringRef "LoomCards$Teller" 144 "ties") (tb_in (a := 2) (i := 82) rfl)) (hev 1 (by decide)), vk_R.of (hts (.stringRef "LoomCards$Teller" 146 "card") (tb_in (a := 2) (i := 83) rfl)) (hev 2 (by decide)), vk_R.of (hts (.stringRef "LoomCards$Teller" 148 "cloth") (tb_in (a := 2) (i := 84) rfl)) (hev 3 (by decide)), vk_R.of (hts (.stringRef "LoomCards$Teller" 150 "limit") (tb_in (a := 2) (i := 85) rfl)) (hev 4 (by decide))⟩
theorem nl_start {args : Array Value} {s : State} (hts : ∀ w ∈ lw_tbl, w.before args s = true) : NL s := ⟨(va_Nw.of rfl (hts (.methodLinkNest RX6 18 yX5_init "LoomCards") (tb_in (a := 1) (i := 74) rfl))), (va_Nw.of rfl (hts (.methodLinkNest RX6 32 yX3_init "LoomCards") (tb_in (a := 1) (i := 144) rfl))), (va_Nw.of rfl (hts (.methodLinkNest RX6 39 yX4_init "LoomCards") (tb_in (a := 1) (i := 168) rfl))), (va_Nw.of rfl (hts (.methodLinkNest RX5 11 yX1_init "LoomCards") (tb_in (a := 1) (i := 80) rfl))), va_AO.of (hts (.arrayOver (.object "LoomCards$Loom")) (tb_in (a := 1) (i := 129) rfl))⟩
set_option maxHeartbeats 4000000 in
theorem k_start {args : Array Value} {s : State} (hts : ∀ w ∈ lw_tbl, w.before args s = true) : ∃ G : GG, va_K G.1 CL (tyG G) s := by
  obtain ⟨c0, s0, hn0⟩ := u_known (C := RX0) (T := TX0) (N := 3) (n := 3) hts iL_0 (hts (.instantiable RX0 3) (tb_in (a := 1) (i := 123) rfl))
  obtain ⟨c1, s1, hn1⟩ := u_known (C := RX1) (T := TX1) (N := 2) (n := 2) hts iL_1 (hts (.instantiable RX1 2) (tb_in (a := 1) (i := 79) rfl))
  obtain ⟨c2, s2, hn2⟩ := u_known (C := RX2) (T := TX2) (N := 6) (n := 6) hts iL_2 (hts (.instantiable RX2 6) (tb_in (a := 1) (i := 26) rfl))
  obtain ⟨c3, s3, hn3⟩ := u_known (C := RX3) (T := TX3) (N := 4) (n := 4) hts iL_3 (hts (.instantiable RX3 4) (tb_in (a := 1) (i := 143) rfl))
  obtain ⟨c4, s4, hn4⟩ := u_known (C := RX4) (T := TX4) (N := 4) (n := 4) hts iL_4 (hts (.instantiable RX4 4) (tb_in (a := 1) (i := 167) rfl))
  obtain ⟨c5, s5, hn5⟩ := u_known (C := RX5) (T := TX5) (N := 8) (n := 8) hts iL_5 (hts (.instantiable RX5 8) (tb_in (a := 1) (i := 73) rfl))
  obtain ⟨c6, s6, hn6⟩ := u_known (C := RX6) (T := TX6) (N := 7) (n := 7) hts iL_6 (hts (.instantiable RX6 7) (tb_in (a := 1) (i := 18) rfl))
  obtain ⟨c7, s7, hn7⟩ := u_known (C := RX7) (T := TX7) (N := 19) (n := 19) hts iL_7 (hts (.instantiable RX7 19) (tb_in (a := 3) (i := 203) rfl))
  obtain ⟨a0, ka0, co0, ha0, hb0, hc0⟩ := aclass (ty := .int) (hts (.arrayClass .int) (tb_in (a := 1) (i := 71) rfl))
  obtain ⟨a1, ka1, co1, ha1, hb1, hc1⟩ := aclass (ty := .byte) (hts (.arrayClass .byte) (tb_in (a := 2) (i := 163) rfl))
  obtain ⟨a2, ka2, co2, ha2, hb2, hc2⟩ := aclass (ty := .boolean) (hts (.arrayClass .boolean) (tb_in (a := 1) (i := 186) rfl))
  obtain ⟨co3, a3, ka3, hf3, -, hb3, hc3, hd3⟩ := Cond.arrayOver_spec (n := "LoomCards$Loom") (hts (.arrayOver (.object "LoomCards$Loom")) (tb_in (a := 1) (i := 129) rfl))
  refine ⟨((fun k => ([c0, c1, c2, c3, c4, c5, c6, c7] : List ClassId).getD k 0, fun k => ([s0, s1, s2, s3, s4, s5, s6, s7] : List (Nat → Nat)).getD k s0), fun k => ([a0, a1, a2, a3] : List ClassId).getD k 0), ?_, ?_⟩
  · intro k q hq
    match k, hq with
    | 0, hq => cases hq; exact hn0
    | 1, hq => cases hq; exact hn1
    | 2, hq => cases hq; exact hn2
    | 3, hq => cases hq; exact hn3
    | 4, hq => cases hq; exact hn4
    | 5, hq => cases hq; exact hn5
    | 6, hq => cases hq; exact hn6
    | 7, hq => cases hq; exact hn7
    | k + 8, hq => simp [CL] at hq
  · intro k q hq
    match k, hq with
    | 0, hq => cases hq; exact ⟨fun n z => ⟨fun k h => (by cases h), ka0, hb0, co0, hc0⟩, ha0⟩
    | 1, hq => cases hq; exact ⟨fun n z => ⟨fun k h => (by cases h), ka1, hb1, co1, hc1⟩, ha1⟩
    | 2, hq => cases hq; exact ⟨fun n z => ⟨fun k h => (by cases h), ka2, hb2, co2, hc2⟩, ha2⟩
    | 3, hq => cases hq; exact ⟨fun n z => ⟨fun k h => (by cases h), ka3, hb3, co3, hc3⟩, ka3, co3, hb3, hc3, hf3, hd3⟩
    | k + 4, hq => simp [tyG] at hq
set_option maxHeartbeats 8000000 in
set_option maxRecDepth 100000 in
theorem whole_start {p : Program} {e : Env} {s : State} {m : MethodId} {below : List Frame} {meth : Method} {c : Code} (l : Launch) (hflags : l.flags = flags0) {b L : Nat} {xs : Nat → Int32} (hL : L ≤ 2048) (C0 : lw_At p s m meth c b L xs) : W p l e room_1 s m #[Value.ref b] below meth c s.heap [] 0 0 (lw_Z below #[Value.ref b] s) (entryFrame m ([Value.ref b] : List Value).toArray 4) := by
  obtain ⟨hx, hb, hr, hml, hown, hts, hX, hbl, hlocks, hgv⟩ := id C0
  have hA : ∀ q : Nat, s.heap.size ≤ q → (fun q : Nat => s.heap.size ≤ q) q := fun _ h => h
  have hbA : ¬ (fun q : Nat => s.heap.size ≤ q) b := Nat.not_le.mpr hbl
  obtain ⟨G, hK⟩ := k_start hts
  obtain ⟨z, hZ⟩ := sf_start hts hgv
  have hN := nl_start hts
  have hS : va_S (fun q : Nat => s.heap.size ≤ q) s.heap s.heap [] := va_S.rf
  have hP : va_P G.1 CL [] s.heap := fun k q h => by simp at h
  have hD : va_D (fun q : Nat => s.heap.size ≤ q) [] := ⟨fun i j p q h => by simp at h, fun k q h => by simp at h⟩
  have hl := lv_entry ([.ref b]) (n := 4) (Nat.le_of_ble_eq_true rfl)
  rw [lg_entry_eq]
  generalize (lg_sl ([.ref b]) ++ List.replicate (4 - (lg_sl ([.ref b])).length) Slot.unset).toArray = ls at hl ⊢
  have hl : lv_has ls 4 [(0, .ref b)] := hl
  refine va_new (D := G.1) (cl := CL) (ci := 6) (fs := [.null, .null, .null, .null, .null, .null, .null]) (C := RX6) (T := TX6) (N := 7) hx hb hts iL_6 tyX6 tyX6_ok hown (hts (.classLink RL 7 RX6) (tb_in (a := 1) (i := 17) rfl)) (hts (.instantiable RX6 7) (tb_in (a := 1) (i := 18) rfl)) (hts (.initialized RX6) (tb_in (a := 1) (i := 1) rfl)) hK hP hD hS hA rfl (fun j hj => by rcases (show j = 0 ∨ j = 1 ∨ j = 2 ∨ j = 3 ∨ j = 4 ∨ j = 5 ∨ j = 6 by omega) with rfl | rfl | rfl | rfl | rfl | rfl | rfl <;> rfl) (Nat.le_of_ble_eq_true rfl) (Nat.le_of_ble_eq_true rfl) dL_law_0 (fun q1 H hP hD hS => ?_)
  have hP : va_P G.1 CL [(q1, .inr (6, [.null, .null, .null, .null, .null, .null, .null]))] H := hP
  have hD : va_D (fun q : Nat => s.heap.size ≤ q) [(q1, .inr (6, [.null, .null, .null, .null, .null, .null, .null]))] := hD
  refine lv_dup hx hb dL_law_3 rfl ?_
  refine cNI (wr := []) (rest := [.ref q1]) ⟨hx, hb, hml, hown, hts⟩ hK hN (tX6_init l G q1) gw_X6_init rfl (hts (.initialized RX6) (tb_in (a := 1) (i := 1) rfl)) (hts (.methodLink RL 9 yX6_init) (tb_in (a := 1) (i := 19) rfl)) (hts (.instanceMethod yX6_init) (tb_in (a := 1) (i := 20) rfl)) rfl hdX6_init ⟨Nat.le_of_ble_eq_true rfl, Nat.le_of_ble_eq_true rfl⟩ hP hD hS hA 0 [] rfl rfl (by decide) (by decide) hl.1 (Nat.le_of_ble_eq_true rfl) rfl dL_law_4 ⟨Nat.le_of_ble_eq_true rfl, Nat.le_of_ble_eq_true rfl⟩ (fun u1 H locs hP hD hS => ?_)
  refine lv_astore_n (lv' := [(1, .ref q1), (0, .ref b)]) hx hb dL_law_7 rfl hl (by decide) rfl (fun ls hl => ?_)
  refine va_new (D := G.1) (cl := CL) (ci := 7) (fs := [.int 0, .null, .null, .null, .int 0, .null, .null, .null, .int 0, .null, .int 0, .int 0, .int 0, .int 0, .int 0, .int 0, .int 0, .int 0, .int 0]) (C := RX7) (T := TX7) (N := 19) hx hb hts iL_7 tyX7 tyX7_ok hown (hts (.classLink RL 10 RX7) (tb_in (a := 3) (i := 202) rfl)) (hts (.instantiable RX7 19) (tb_in (a := 3) (i := 203) rfl)) (hts (.initialized RX7) (tb_in (a := 1) (i := 8) rfl)) hK hP hD hS hA rfl (fun j hj => by rcases (show j = 0 ∨ j = 1 ∨ j = 2 ∨ j = 3 ∨ j = 4 ∨ j = 5 ∨ j = 6 ∨ j = 7 ∨ j = 8 ∨ j = 9 ∨ j = 10 ∨ j = 11 ∨ j = 12 ∨ j = 13 ∨ j = 14 ∨ j = 15 ∨ j = 16 ∨ j = 17 ∨ j = 18 by omega) with rfl | rfl | rfl | rfl | rfl | rfl | rfl | rfl | rfl | rfl | rfl | rfl | rfl | rfl | rfl | rfl | rfl | rfl | rfl <;> rfl) (Nat.le_of_ble_eq_true rfl) (Nat.le_of_ble_eq_true rfl) dL_law_8 (fun q2 H hP hD hS => ?_)
  refine lv_dup hx hb dL_law_11 rfl ?_
  refine cNI (wr := wfX6_init G q1 u1) (rest := [.ref q2]) ⟨hx, hb, hml, hown, hts⟩ hK hN (tX7_init l G q2) gw_X7_init rfl (hts (.initialized RX7) (tb_in (a := 1) (i := 8) rfl)) (hts (.methodLink RL 12 yX7_init) (tb_in (a := 3) (i := 204) rfl)) (hts (.instanceMethod yX7_init) (tb_in (a := 3) (i := 205) rfl)) rfl hdX7_init ⟨Nat.le_of_ble_eq_true rfl, Nat.le_of_ble_eq_true rfl⟩ hP hD hS hA 46 [0, 1, 2, 3, 4, 5, 6, 7, 8, 9, 10, 11, 12, 13, 14, 15, 16, 17, 18, 19, 20, 21, 22, 23, 24, 25, 26, 27, 28, 29, 30, 31, 32, 33, 34, 35, 36, 37, 38, 39, 40, 41, 42, 43, 44, 45] rfl rfl (by decide +kernel) (by decide +kernel) hl.1 (Nat.le_of_ble_eq_true rfl) rfl dL_law_12 ⟨Nat.le_of_ble_eq_true rfl, Nat.le_of_ble_eq_true rfl⟩ (fun u2 H locs hP hD hS => ?_)
  have hP9 := hP.oarr hD 11 (fun i => some ((fun i => ([(u1 11), (u1 14), (u1 17), (u1 20), (u1 23), (u1 26)] : List Nat).getD i 0) i)) rfl (fun j hj => by rcases (show j = 0 ∨ j = 1 ∨ j = 2 ∨ j = 3 ∨ j = 4 ∨ j = 5 by omega) with rfl | rfl | rfl | rfl | rfl | rfl <;> rfl)
  have hD9 := hD.set (p := 11) (a := (u1 10)) (e := .inl (G.2 3, 6, .inr (.inr (.inr (.inr (fun i => some ((fun i => ([(u1 11), (u1 14), (u1 17), (u1 20), (u1 23), (u1 26)] : List Nat).getD i 0) i))))))) rfl
  clear hP hD
  have hP := hP9
  have hD := hD9
  clear hP9 hD9
  have hP9 := hP.oarr hD 38 (fun i => some ((fun i => ([(u1 39), (u1 42)] : List Nat).getD i 0) i)) rfl (fun j hj => by rcases (show j = 0 ∨ j = 1 by omega) with rfl | rfl <;> rfl)
  have hD9 := hD.set (p := 38) (a := (u1 37)) (e := .inl (G.2 3, 2, .inr (.inr (.inr (.inr (fun i => some ((fun i => ([(u1 39), (u1 42)] : List Nat).getD i 0) i))))))) rfl
  clear hP hD
  have hP := hP9
  have hD := hD9
  clear hP9 hD9
  have hP : va_P G.1 CL (wL G q1 q2 (u1 0) (u1 3) (u1 9) (u1 29) (u1 33) (u1 37) (u1 38) (u1 1) (u1 2) (u1 4) (u1 6) (u1 5) (u1 7) (u1 8) (u1 10) (fun i => ([(u1 11), (u1 14), (u1 17), (u1 20), (u1 23), (u1 26)] : List Nat).getD i 0) (fun i => ([(u1 12), (u1 15), (u1 18), (u1 21), (u1 24), (u1 27)] : List Nat).getD i 0) (fun i => ([(u1 13), (u1 16), (u1 19), (u1 22), (u1 25), (u1 28)] : List Nat).getD i 0) (u1 30) (u1 31) (u1 32) (u1 34) (u1 35) (u1 36) (fun i => ([(u1 39), (u1 42)] : List Nat).getD i 0) (fun i => ([(u1 40), (u1 43)] : List Nat).getD i 0) (fun i => ([(u1 41), (u1 44)] : List Nat).getD i 0) (u2 0) (u2 1) (u2 2) (u2 3) (u2 4) (u2 5) (u2 6) 2 2 1 12 hoe0 hoc0 0 0 0 0 0 0 0 (fun _ => 0) 2 2 1 12 hoe0 hoc0 0 0 (fun _ => 2) (fun _ => 2) (fun _ => 1) (fun _ => 12) (fun _ => hoe0) (fun _ => hoc0) 0 0 0 2 2 1 12 hoe0 hoc0 0 (fun _ => 0) (fun _ => 0) (fun _ => 0) (fun _ => 2) (fun _ => 2) (fun _ => 1) (fun _ => 12) (fun _ => hoe0) (fun _ => hoc0) (fun _ => 0) 0 0 0 0 0 0 0 0 0 0 0 0 (upd s00 2 (1 : Int32)) (fun _ => 0) (fun _ => 0) (fun _ => 0) (fun _ => 0) (fun _ => 0) (fun _ => 0)) H := hP.sub [0, 1, 2, 3, 4, 5, 6, 7, 8, 9, 10, 11, 12, 13, 14, 15, 16, 17, 18, 19, 20, 21, 22, 23, 24, 25, 26, 27, 28, 29, 30, 31, 32, 33, 34, 35, 36, 37, 38, 40, 41, 42, 43, 44, 45, 39, 46, 47, 48, 49, 50, 51, 52, 53] rfl
  have hD : va_D (fun q : Nat => s.heap.size ≤ q) (wL G q1 q2 (u1 0) (u1 3) (u1 9) (u1 29) (u1 33) (u1 37) (u1 38) (u1 1) (u1 2) (u1 4) (u1 6) (u1 5) (u1 7) (u1 8) (u1 10) (fun i => ([(u1 11), (u1 14), (u1 17), (u1 20), (u1 23), (u1 26)] : List Nat).getD i 0) (fun i => ([(u1 12), (u1 15), (u1 18), (u1 21), (u1 24), (u1 27)] : List Nat).getD i 0) (fun i => ([(u1 13), (u1 16), (u1 19), (u1 22), (u1 25), (u1 28)] : List Nat).getD i 0) (u1 30) (u1 31) (u1 32) (u1 34) (u1 35) (u1 36) (fun i => ([(u1 39), (u1 42)] : List Nat).getD i 0) (fun i => ([(u1 40), (u1 43)] : List Nat).getD i 0) (fun i => ([(u1 41), (u1 44)] : List Nat).getD i 0) (u2 0) (u2 1) (u2 2) (u2 3) (u2 4) (u2 5) (u2 6) 2 2 1 12 hoe0 hoc0 0 0 0 0 0 0 0 (fun _ => 0) 2 2 1 12 hoe0 hoc0 0 0 (fun _ => 2) (fun _ => 2) (fun _ => 1) (fun _ => 12) (fun _ => hoe0) (fun _ => hoc0) 0 0 0 2 2 1 12 hoe0 hoc0 0 (fun _ => 0) (fun _ => 0) (fun _ => 0) (fun _ => 2) (fun _ => 2) (fun _ => 1) (fun _ => 12) (fun _ => hoe0) (fun _ => hoc0) (fun _ => 0) 0 0 0 0 0 0 0 0 0 0 0 0 (upd s00 2 (1 : Int32)) (fun _ => 0) (fun _ => 0) (fun _ => 0) (fun _ => 0) (fun _ => 0) (fun _ => 0)) := hD.sub [0, 1, 2, 3, 4, 5, 6, 7, 8, 9, 10, 11, 12, 13, 14, 15, 16, 17, 18, 19, 20, 21, 22, 23, 24, 25, 26, 27, 28, 29, 30, 31, 32, 33, 34, 35, 36, 37, 38, 40, 41, 42, 43, 44, 45, 39, 46, 47, 48, 49, 50, 51, 52, 53] (by decide +kernel) rfl
  refine lv_astore_n (lv' := [(2, .ref q2), (1, .ref q1), (0, .ref b)]) hx hb dL_law_15 rfl hl (by decide) rfl (fun ls hl => ?_)
  refine lv_iconst (v := 0) hx hb dL_law_16 (by decide) ?_
  refine lv_istore_n (lv' := [(3, .int 0), (2, .ref q2), (1, .ref q1), (0, .ref b)]) hx hb dL_law_17 rfl hl (by decide) rfl (fun ls hl => ?_)
  refine kL_law_L18 z b L xs q1 q2 (u1 0) (u1 3) (u1 9) (u1 29) (u1 33) (u1 37) (u1 38) (u1 1) (u1 2) (u1 4) (u1 6) (u1 5) (u1 7) (u1 8) (u1 10) (fun i => ([(u1 11), (u1 14), (u1 17), (u1 20), (u1 23), (u1 26)] : List Nat).getD i 0) (fun i => ([(u1 12), (u1 15), (u1 18), (u1 21), (u1 24), (u1 27)] : List Nat).getD i 0) (fun i => ([(u1 13), (u1 16), (u1 19), (u1 22), (u1 25), (u1 28)] : List Nat).getD i 0) (u1 30) (u1 31) (u1 32) (u1 34) (u1 35) (u1 36) (fun i => ([(u1 39), (u1 42)] : List Nat).getD i 0) (fun i => ([(u1 40), (u1 43)] : List Nat).getD i 0) (fun i => ([(u1 41), (u1 44)] : List Nat).getD i 0) (u2 0) (u2 1) (u2 2) (u2 3) (u2 4) (u2 5) (u2 6) ⟨hx, hb, hr, hlocks, hml, hown, hts, hK⟩ hZ hA hX hbl hbA (res := 1) ?_ FU 0 2 2 1 12 hoe0 hoc0 0 0 0 0 0 0 0 (fun _ => 0) 2 2 1 12 hoe0 hoc0 0 0 (fun _ => 2) (fun _ => 2) (fun _ => 1) (fun _ => 12) (fun _ => hoe0) (fun _ => hoc0) 0 0 0 2 2 1 12 hoe0 hoc0 0 (fun _ => 0) (fun _ => 0) (fun _ => 0) (fun _ => 2) (fun _ => 2) (fun _ => 1) (fun _ => 12) (fun _ => hoe0) (fun _ => hoc0) (fun _ => 0) 0 0 0 0 0 0 0 0 0 0 0 0 (upd s00 2 (1 : Int32)) (fun _ => 0) (fun _ => 0) (fun _ => 0) (fun _ => 0) (fun _ => 0) (fun _ => 0) _ _ (law_pure L xs hL) hP hD hS _ (lv_sub hl [3, 2, 1, 0] rfl)
  intro pc ls H locs _ hS hdg
  refine va_forget (fun q hq => hS.2.2 q hq) ?_
  refine W.widen (k := 600000) (n := 7302250) (Nat.le_of_ble_eq_true rfl) (Nat.le_of_ble_eq_true rfl) ?_
  exact lw_ret hx hb hr hlocks hdg

def lenW : List Nat := [5, 4, 4, 5, 5]
def bytW : List (List Int32) := [[104, 111, 111, 107, 115], [116, 105, 101, 115], [99, 97, 114, 100], [99, 108, 111, 116, 104], [108, 105, 109, 105, 116]]
def wLen (i : Nat) : Nat := lenW.getD i 0
def wLenI (i : Nat) : Int32 := Int32.ofNat (wLen i) >>> ((0 : Int32) &&& 31)
def wCh (i k : Nat) : Int32 := (((bytW.getD i []).getD k 0 &&& 255).toUInt32 % 65536).toInt32
abbrev ZZ : Type := Nat → Nat × Nat
def SF (z : ZZ) (A : Nat → Prop) (U : State) : Prop :=
  vk_S 5 lenW bytW (fun i => (z i).1) (fun i => (z i).2) A U U.heap ∧ va_Z "java/lang/String" "COMPACT_STRINGS" "Z" (.int 1) A U U.heap ∧ va_Zq "jdk/internal/util/Preconditions" "SIOOBE_FORMATTER" "Ljava/util/function/BiFunction;" A U U.heap ∧ vk_R RX5 139 "hooks" (z 0).1 U ∧ vk_R RX5 144 "ties" (z 1).1 U ∧ vk_R RX5 146 "card" (z 2).1 U ∧ vk_R RX5 148 "cloth" (z 3).1 U ∧ vk_R RX5 150 "limit" (z 4).1 U
theorem SF.go {z : ZZ} {A B : Nat → Prop} {s U : State} (hW : s.WarmedH U.vm) (hh : ∀ a : Nat, a < s.heap.size → ¬ A a → U.heap[a]? = s.heap[a]?) (hB : ∀ q, B q → A q) (h : SF z A s) : SF z B U := by
  obtain ⟨h1, h2, h3, r0, r1, r2, r3, r4⟩ := h
  exact ⟨((vk_S.moved hW.alike h1).kept hh).narrow hB, ((va_Z.moved hW.alike h2).kept hh).narrow hB, ((va_Zq.moved hW.alike h3).kept hh).narrow hB, vk_R.warm hW r0, vk_R.warm hW r1, vk_R.warm hW r2, vk_R.warm hW r3, vk_R.warm hW r4⟩
theorem SF.blind {z : ZZ} {A : Nat → Prop} {U : State} {g : JFrame} {mk : MethodId} {a : Array Value} (h : SF z A U) : SF z A (U.calling g mk a) := by
  obtain ⟨h1, h2, h3, r0, r1, r2, r3, r4⟩ := h
  exact ⟨vk_S.moved (u := U) (Vm.Alike.refl U.vm) h1, va_Z.moved (u := U) (Vm.Alike.refl U.vm) h2, va_Zq.moved (u := U) (Vm.Alike.refl U.vm) h3, vk_R.same (u := U) rfl r0, vk_R.same (u := U) rfl r1, vk_R.same (u := U) rfl r2, vk_R.same (u := U) rfl r3, vk_R.same (u := U) rfl r4⟩
abbrev NoA : Nat → Prop := fun _ => False
def MRiZ (l : Launch) (y : MethodName) (ws : List Cond) (rm : Room) (G : GG) (z : ZZ) (av : List Value) (w : va_W) (r : Int32) : Prop :=
  Met l y ws rm (va_Pc av (fun U => (va_P G.1 CL w U.heap ∧ va_K G.1 CL (tyG G) U) ∧ SF z NoA U)) (vp_Si (fun x => x = r)) 0 0 (fun _ => False)
def MRvZ (l : Launch) (y : MethodName) (ws : List Cond) (rm : Room) (G : GG) (z : ZZ) (av : List Value) (w : va_W) : Prop :=
  Met l y ws rm (va_Pc av (fun U => (va_P G.1 CL w U.heap ∧ va_K G.1 CL (tyG G) U) ∧ SF z NoA U)) (va_Sv (fun _ => True)) 0 0 (fun _ => False)
def MWiZ (l : Launch) (y : MethodName) (ws : List Cond) (rm : Room) (G : GG) (z : ZZ) (av : List Value) (w : va_W) (r : Int32) (w2 : va_W) : Prop :=
  ∀ sz : Nat, Met l y ws rm (va_Pc av (fun U => (U.heap.size = sz ∧ va_P G.1 CL w U.heap ∧ va_K G.1 CL (tyG G) U ∧ va_D (fun _ => True) w) ∧ SF z (va_A w sz) U)) (va_Qi (fun x (_ : Unit) => x = r) (fun _ t => va_P G.1 CL w2 t.heap ∧ va_D (va_A w sz) w2) (va_A w sz)) 0 0 (va_A w sz)
def MWvZ (l : Launch) (y : MethodName) (ws : List Cond) (rm : Room) (G : GG) (z : ZZ) (av : List Value) (w : va_W) (w2 : va_W) : Prop :=
  ∀ sz : Nat, Met l y ws rm (va_Pc av (fun U => (U.heap.size = sz ∧ va_P G.1 CL w U.heap ∧ va_K G.1 CL (tyG G) U ∧ va_D (fun _ => True) w) ∧ SF z (va_A w sz) U)) (va_Qv (fun (_ : Unit) => True) (fun _ t => va_P G.1 CL w2 t.heap ∧ va_D (va_A w sz) w2) (va_A w sz)) 0 0 (va_A w sz)
section OWNZ
variable {p : Program} {l : Launch} {e : Env} {R : Room} {s : State} {m : MethodId} {args : Array Value} {below : List Frame} {meth : Method} {c : Code} {H : Heap} {locs : List Loc} {cells slots : Nat} {Q : State → Prop} {G : GG} {A : Nat → Prop} {z : ZZ}
variable {cc bytes : ByteArray} {nL maxL idx pc n : Nat} {own C : String} {y : MethodName} {ret : Option FieldType} {ws ws' Ts : List Cond} {rm : Room} {av As rest st0 : List Value} {w wc wr w1 wf w2 : va_W} {ls : Array Slot} {b q0 ci : Nat} {q : vw_C} {fs : List Value}
theorem MRiZ.of {r : Int32} (hy : plainFor y = true) (hw : ws = Cond.code y cc maxL ret :: ws') (hn : (lg_sl av).length ≤ maxL)
    (k : ∀ (p : Program) (e : Env) (s : State) (m : MethodId) (below : List Frame) (meth : Method) (c : Code), Cx cc ret maxL y.cls ws G p s m av.toArray meth c → SF z NoA s → va_P G.1 CL w s.heap → ∀ ls : Array Slot, lv_has ls maxL (lv_args 0 av) → W p l e rm s m av.toArray below meth c s.heap [] 0 0 (MQ below (vp_Si (fun x => x = r)) av.toArray s 0 0 (fun _ => False)) (F0 m 0 ls [])) : MRiZ l y ws rm G z av w r := by
  refine va_MetF (cc := cc) (maxL := maxL) (ret := ret) hy hw ?_
  intro p e s m args below meth c s₁ B hml hv
  obtain ⟨rfl, ⟨hP, hK⟩, hZ⟩ := hv
  have hl := lv_entry av (n := maxL) hn
  rw [lg_entry_eq]
  exact k p e s m below meth c ⟨B.exec, B.bytes, B.returns, B.notSynchronized, hml, findClass_of_methodNamed B.named, atoms_spec (ws := ws) B.pre, hK⟩ hZ hP _ hl
theorem MRvZ.of (hy : plainFor y = true) (hw : ws = Cond.code y cc maxL ret :: ws') (hn : (lg_sl av).length ≤ maxL)
    (k : ∀ (p : Program) (e : Env) (s : State) (m : MethodId) (below : List Frame) (meth : Method) (c : Code), Cx cc ret maxL y.cls ws G p s m av.toArray meth c → SF z NoA s → va_P G.1 CL w s.heap → ∀ ls : Array Slot, lv_has ls maxL (lv_args 0 av) → W p l e rm s m av.toArray below meth c s.heap [] 0 0 (MQ below (va_Sv (fun _ => True)) av.toArray s 0 0 (fun _ => False)) (F0 m 0 ls [])) : MRvZ l y ws rm G z av w := by
  refine va_MetF (cc := cc) (maxL := maxL) (ret := ret) hy hw ?_
  intro p e s m args below meth c s₁ B hml hv
  obtain ⟨rfl, ⟨hP, hK⟩, hZ⟩ := hv
  have hl := lv_entry av (n := maxL) hn
  rw [lg_entry_eq]
  exact k p e s m below meth c ⟨B.exec, B.bytes, B.returns, B.notSynchronized, hml, findClass_of_methodNamed B.named, atoms_spec (ws := ws) B.pre, hK⟩ hZ hP _ hl
theorem MWiZ.of {r : Int32} (hy : plainFor y = true) (hw : ws = Cond.code y cc maxL ret :: ws') (hn : (lg_sl av).length ≤ maxL)
    (k : ∀ (p : Program) (e : Env) (s : State) (m : MethodId) (below : List Frame) (meth : Method) (c : Code) (A : Nat → Prop), Cx cc ret maxL y.cls ws G p s m av.toArray meth c → SF z A s → (∀ q : Nat, s.heap.size ≤ q → A q) → va_P G.1 CL w s.heap → va_D A w → va_S A s.heap s.heap [] → ∀ ls : Array Slot, lv_has ls maxL (lv_args 0 av) → W p l e rm s m av.toArray below meth c s.heap [] 0 0 (MQ below (va_Qi (fun x (_ : Unit) => x = r) (fun _ t => va_P G.1 CL w2 t.heap ∧ va_D A w2) A) av.toArray s 0 0 A) (F0 m 0 ls [])) : MWiZ l y ws rm G z av w r w2 := by
  intro sz
  refine va_MetF (cc := cc) (maxL := maxL) (ret := ret) hy hw ?_
  intro p e s m args below meth c s₁ B hml hv
  obtain ⟨rfl, ⟨rfl, hP, hK, hD⟩, hZ⟩ := hv
  have hl := lv_entry av (n := maxL) hn
  rw [lg_entry_eq]
  exact k p e s m below meth c (va_A w s.heap.size) ⟨B.exec, B.bytes, B.returns, B.notSynchronized, hml, findClass_of_methodNamed B.named, atoms_spec (ws := ws) B.pre, hK⟩ hZ (fun q h => Or.inr h) hP (hD.self (sz := s.heap.size)) va_S.rf _ hl
theorem MWvZ.of (hy : plainFor y = true) (hw : ws = Cond.code y cc maxL ret :: ws') (hn : (lg_sl av).length ≤ maxL)
    (k : ∀ (p : Program) (e : Env) (s : State) (m : MethodId) (below : List Frame) (meth : Method) (c : Code) (A : Nat → Prop), Cx cc ret maxL y.cls ws G p s m av.toArray meth c → SF z A s → (∀ q : Nat, s.heap.size ≤ q → A q) → va_P G.1 CL w s.heap → va_D A w → va_S A s.heap s.heap [] → ∀ ls : Array Slot, lv_has ls maxL (lv_args 0 av) → W p l e rm s m av.toArray below meth c s.heap [] 0 0 (MQ below (va_Qv (fun (_ : Unit) => True) (fun _ t => va_P G.1 CL w2 t.heap ∧ va_D A w2) A) av.toArray s 0 0 A) (F0 m 0 ls [])) : MWvZ l y ws rm G z av w w2 := by
  intro sz
  refine va_MetF (cc := cc) (maxL := maxL) (ret := ret) hy hw ?_
  intro p e s m args below meth c s₁ B hml hv
  obtain ⟨rfl, ⟨rfl, hP, hK, hD⟩, hZ⟩ := hv
  have hl := lv_entry av (n := maxL) hn
  rw [lg_entry_eq]
  exact k p e s m below meth c (va_A w s.heap.size) ⟨B.exec, B.bytes, B.returns, B.notSynchronized, hml, findClass_of_methodNamed B.named, atoms_spec (ws := ws) B.pre, hK⟩ hZ (fun q h => Or.inr h) hP (hD.self (sz := s.heap.size)) va_S.rf _ hl
theorem rRv (C0 : Cx cc none nL own Ts G p s m args meth c) (hdg : decode cc pc = .ok (.return_, 1)) : W p l e R s m args below meth c s.heap [] 0 0 (MQ below (va_Sv (fun _ => True)) args s 0 0 (fun _ => False)) (F0 m pc ls []) :=
  W.vret C0.1 C0.2.1 C0.2.2.1 (fun _ ht _ => ⟨rfl, trivial, ht⟩) (fun _ h => by cases h) hdg C0.2.2.2.1
theorem blindRZ : FrameBlind (va_Pc av (fun U => (va_P G.1 CL w U.heap ∧ va_K G.1 CL (tyG G) U) ∧ SF z NoA U)) := fun a U g mk h => ⟨h.1, ⟨h.2.1.1, va_K.moved (u := U) (U := U.calling g mk a) (Vm.Alike.refl U.vm) h.2.1.2⟩, h.2.2.blind⟩
theorem blindWZ {sz : Nat} : FrameBlind (va_Pc av (fun U => (U.heap.size = sz ∧ va_P G.1 CL w U.heap ∧ va_K G.1 CL (tyG G) U ∧ va_D (fun _ => True) w) ∧ SF z (va_A w sz) U)) := fun a U g mk h => ⟨h.1, ⟨h.2.1.1, h.2.1.2.1, va_K.moved (u := U) (U := U.calling g mk a) (Vm.Alike.refl U.vm) h.2.1.2.2.1, h.2.1.2.2.2⟩, h.2.2.blind⟩
theorem cRiVZ {r : Int32} (S : CallFix p m c cc nL s args Ts own) (hK : va_K G.1 CL (tyG G) s) (hZ : SF z A s) (hS : va_S A s.heap H locs) (M : MRiZ l y ws rm G z (.ref b :: As) wc r) (gd : GoodIn Ts (wsV own idx C y ws)) (hw : ws = Cond.code y bytes maxL ret :: ws') (hd : y.cls = C ∧ y.cls ≠ "java/lang/invoke/MethodHandle" ∧ y.cls ≠ "java/lang/invoke/VarHandle" ∧ (parseMethodDescriptor y.desc).map (fun d => d.parameters.length) = some n) (hn : As.length = n)
    (hc0 : rm.cells = 0) (hs0 : rm.slots = 0) (hR : rm.frames + 1 ≤ R.frames ∧ 8 + (maxL + 11) + rm.locals ≤ R.locals) (hP : va_P G.1 CL w H) (is : List Nat) (hs : is.filterMap (fun i => w[i]?) = wc) (hrecv : ∃ cell : Cell, H[b]? = some cell ∧ cell.vm.isStatics = false ∧ s.vm.findClass C = some cell.cls) (hls : ls.size = nL) (hcat : (rest.map fun v => v.category).sum ≤ 8) (hst : st0 = As.reverse ++ .ref b :: rest) (hdg : decode cc pc = .ok (.invokevirtual idx, 3)) (hcs : cells ≤ R.cells ∧ slots ≤ R.slots)
    (kk : W p l e R s m args below meth c H locs cells slots Q (F0 m (pc + 3) ls (.int r :: rest))) : W p l e R s m args below meth c H locs cells slots Q (F0 m pc ls st0) := by
  refine vp_callSi (W.runV (As := As) (rest := rest) S M (cwV n S.2.2.2.2 gd hw hc0 hs0 hd hR) ⟨blindRZ, hrecv, fun U hU hW => ⟨rfl, ⟨by rw [hU]; exact hP.sub is hs, va_K.moved hW.alike hK⟩, hZ.go hW (fun a h1 h2 => by rw [hU]; exact hS.2.1 a h1 h2) (fun q h => h.elim)⟩⟩ rfl hn hls hst (lv_room hcat) hdg hcs) (fun x hx => ?_)
  rw [hx]; exact kk
theorem cRiSZ {r : Int32} (S : CallFix p m c cc nL s args Ts own) (hK : va_K G.1 CL (tyG G) s) (hZ : SF z A s) (hS : va_S A s.heap H locs) (M : MRiZ l y ws rm G z As wc r) (gd : GoodIn Ts (va_wsS own idx y ws)) (hw : ws = Cond.code y bytes maxL ret :: ws') (hd : y.cls ≠ "java/lang/invoke/MethodHandle" ∧ y.cls ≠ "java/lang/invoke/VarHandle" ∧ (parseMethodDescriptor y.desc).map (fun d => d.parameters.length) = some n) (hn : As.length = n)
    (hc0 : rm.cells = 0) (hs0 : rm.slots = 0) (hR : rm.frames + 1 ≤ R.frames ∧ 8 + (maxL + 11) + rm.locals ≤ R.locals) (hP : va_P G.1 CL w H) (is : List Nat) (hs : is.filterMap (fun i => w[i]?) = wc) (hls : ls.size = nL) (hcat : (rest.map fun v => v.category).sum ≤ 8) (hst : st0 = As.reverse ++ rest) (hdg : decode cc pc = .ok (.invokestatic idx, 3)) (hcs : cells ≤ R.cells ∧ slots ≤ R.slots)
    (kk : W p l e R s m args below meth c H locs cells slots Q (F0 m (pc + 3) ls (.int r :: rest))) : W p l e R s m args below meth c H locs cells slots Q (F0 m pc ls st0) := by
  refine vp_callSi (W.runS (As := As) (rest := rest) S M (va_cwS n S.2.2.2.2 gd hw hc0 hs0 hd hR) ⟨blindRZ, fun U hU hW => ⟨rfl, ⟨by rw [hU]; exact hP.sub is hs, va_K.moved hW.alike hK⟩, hZ.go hW (fun a h1 h2 => by rw [hU]; exact hS.2.1 a h1 h2) (fun q h => h.elim)⟩⟩ rfl hn hls hst (lv_room hcat) hdg hcs) (fun x hx => ?_)
  rw [hx]; exact kk
theorem cRvSZ (S : CallFix p m c cc nL s args Ts own) (hK : va_K G.1 CL (tyG G) s) (hZ : SF z A s) (hS : va_S A s.heap H locs) (M : MRvZ l y ws rm G z As wc) (gd : GoodIn Ts (va_wsS own idx y ws)) (hw : ws = Cond.code y bytes maxL ret :: ws') (hd : y.cls ≠ "java/lang/invoke/MethodHandle" ∧ y.cls ≠ "java/lang/invoke/VarHandle" ∧ (parseMethodDescriptor y.desc).map (fun d => d.parameters.length) = some n) (hn : As.length = n)
    (hc0 : rm.cells = 0) (hs0 : rm.slots = 0) (hR : rm.frames + 1 ≤ R.frames ∧ 8 + (maxL + 11) + rm.locals ≤ R.locals) (hP : va_P G.1 CL w H) (is : List Nat) (hs : is.filterMap (fun i => w[i]?) = wc) (hls : ls.size = nL) (hcat : (rest.map fun v => v.category).sum ≤ 8) (hst : st0 = As.reverse ++ rest) (hdg : decode cc pc = .ok (.invokestatic idx, 3)) (hcs : cells ≤ R.cells ∧ slots ≤ R.slots)
    (kk : W p l e R s m args below meth c H locs cells slots Q (F0 m (pc + 3) ls rest)) : W p l e R s m args below meth c H locs cells slots Q (F0 m pc ls st0) := by
  exact va_csv (W.runS (As := As) (rest := rest) S M (va_cwS n S.2.2.2.2 gd hw hc0 hs0 hd hR) ⟨blindRZ, fun U hU hW => ⟨rfl, ⟨by rw [hU]; exact hP.sub is hs, va_K.moved hW.alike hK⟩, hZ.go hW (fun a h1 h2 => by rw [hU]; exact hS.2.1 a h1 h2) (fun q h => h.elim)⟩⟩ rfl hn hls hst (lv_room hcat) hdg hcs) (fun _ => kk)
theorem cWiVZ {r : Int32} (S : CallFix p m c cc nL s args Ts own) (hK : va_K G.1 CL (tyG G) s) (hZ : SF z A s) (M : MWiZ l y ws rm G z (.ref b :: As) wc r w1) (gd : GoodIn Ts (wsV own idx C y ws)) (hw : ws = Cond.code y bytes maxL ret :: ws') (hd : y.cls = C ∧ y.cls ≠ "java/lang/invoke/MethodHandle" ∧ y.cls ≠ "java/lang/invoke/VarHandle" ∧ (parseMethodDescriptor y.desc).map (fun d => d.parameters.length) = some n) (hn : As.length = n)
    (hc0 : rm.cells = 0) (hs0 : rm.slots = 0) (hR : rm.frames + 1 ≤ R.frames ∧ 8 + (maxL + 11) + rm.locals ≤ R.locals) (hP : va_P G.1 CL w H) (hD : va_D A w) (hS : va_S A s.heap H locs) (hA : ∀ q : Nat, s.heap.size ≤ q → A q) (isC isR isF : List Nat) (hC : isC.map (fun i => w[i]?) = wc.map some) (hRr : isR.map (fun i => w[i]?) = wr.map some) (hF : isF.map (fun i => (wr ++ w1)[i]?) = wf.map some) (ndC : va_nd isC = true) (ndR : va_nd isR = true) (ndF : va_nd isF = true) (hdis : ∀ i ∈ isR, i ∉ isC)
    (q0 : Nat) (hc : CL[ci]? = some q) (he : w[q0]? = some (b, .inr (ci, fs))) (hq : q.1 = C) (hls : ls.size = nL) (hcat : (rest.map fun v => v.category).sum ≤ 8) (hst : st0 = As.reverse ++ .ref b :: rest) (hdg : decode cc pc = .ok (.invokevirtual idx, 3)) (hcs : cells ≤ R.cells ∧ slots ≤ R.slots)
    (kk : ∀ (H1 : Heap) (locs1 : List Loc), va_P G.1 CL wf H1 → va_D A wf → va_S A s.heap H1 locs1 → W p l e R s m args below meth c H1 locs1 cells slots Q (F0 m (pc + 3) ls (.int r :: rest))) : W p l e R s m args below meth c H locs cells slots Q (F0 m pc ls st0) := by
  have hFc := va_free (wc := wc) hD hS hA isC hC
  refine va_calli (va_runV (As := As) (rest := rest) S (M H.size) (cwV n S.2.2.2.2 gd hw hc0 hs0 hd hR) ⟨blindWZ, by rw [← hq]; exact va_recv hK hP hc he, fun U hU hW => ⟨rfl, ⟨by rw [hU], by rw [hU]; exact hP.sub isC (sub_of_map hC), va_K.moved hW.alike hK, (hD.sub isC ndC hC).weaken (fun _ _ _ _ => trivial)⟩, hZ.go hW (fun a h1 h2 => by rw [hU]; exact hS.2.1 a h1 h2) hFc⟩⟩ rfl hn hls hst (lv_room hcat) hdg hcs) hS (fun q _ h => hFc q h) hFc (fun x u t H1 locs1 ht hvm hw2 hB hz1 hk1 hS1 => ?_)
  obtain ⟨hP1, hD1⟩ := hB
  rw [ht] at hP1
  obtain ⟨hP2, hD2⟩ := va_join (wr := wr) (w1 := w1) hP hD isC isR hC hRr ndR hdis hk1 hFc hP1 hD1
  rw [hw2]
  exact kk H1 locs1 (hP2.sub isF (sub_of_map hF)) (hD2.sub isF ndF hF) hS1
theorem cWvVZ (S : CallFix p m c cc nL s args Ts own) (hK : va_K G.1 CL (tyG G) s) (hZ : SF z A s) (M : MWvZ l y ws rm G z (.ref b :: As) wc w1) (gd : GoodIn Ts (wsV own idx C y ws)) (hw : ws = Cond.code y bytes maxL ret :: ws') (hd : y.cls = C ∧ y.cls ≠ "java/lang/invoke/MethodHandle" ∧ y.cls ≠ "java/lang/invoke/VarHandle" ∧ (parseMethodDescriptor y.desc).map (fun d => d.parameters.length) = some n) (hn : As.length = n)
    (hc0 : rm.cells = 0) (hs0 : rm.slots = 0) (hR : rm.frames + 1 ≤ R.frames ∧ 8 + (maxL + 11) + rm.locals ≤ R.locals) (hP : va_P G.1 CL w H) (hD : va_D A w) (hS : va_S A s.heap H locs) (hA : ∀ q : Nat, s.heap.size ≤ q → A q) (isC isR isF : List Nat) (hC : isC.map (fun i => w[i]?) = wc.map some) (hRr : isR.map (fun i => w[i]?) = wr.map some) (hF : isF.map (fun i => (wr ++ w1)[i]?) = wf.map some) (ndC : va_nd isC = true) (ndR : va_nd isR = true) (ndF : va_nd isF = true) (hdis : ∀ i ∈ isR, i ∉ isC)
    (q0 : Nat) (hc : CL[ci]? = some q) (he : w[q0]? = some (b, .inr (ci, fs))) (hq : q.1 = C) (hls : ls.size = nL) (hcat : (rest.map fun v => v.category).sum ≤ 8) (hst : st0 = As.reverse ++ .ref b :: rest) (hdg : decode cc pc = .ok (.invokevirtual idx, 3)) (hcs : cells ≤ R.cells ∧ slots ≤ R.slots)
    (kk : ∀ (H1 : Heap) (locs1 : List Loc), va_P G.1 CL wf H1 → va_D A wf → va_S A s.heap H1 locs1 → W p l e R s m args below meth c H1 locs1 cells slots Q (F0 m (pc + 3) ls (rest))) : W p l e R s m args below meth c H locs cells slots Q (F0 m pc ls st0) := by
  have hFc := va_free (wc := wc) hD hS hA isC hC
  refine va_callv (va_runV (As := As) (rest := rest) S (M H.size) (cwV n S.2.2.2.2 gd hw hc0 hs0 hd hR) ⟨blindWZ, by rw [← hq]; exact va_recv hK hP hc he, fun U hU hW => ⟨rfl, ⟨by rw [hU], by rw [hU]; exact hP.sub isC (sub_of_map hC), va_K.moved hW.alike hK, (hD.sub isC ndC hC).weaken (fun _ _ _ _ => trivial)⟩, hZ.go hW (fun a h1 h2 => by rw [hU]; exact hS.2.1 a h1 h2) hFc⟩⟩ rfl hn hls hst (lv_room hcat) hdg hcs) hS (fun q _ h => hFc q h) hFc (fun u t H1 locs1 ht hvm hw2 hB hz1 hk1 hS1 => ?_)
  obtain ⟨hP1, hD1⟩ := hB
  rw [ht] at hP1
  obtain ⟨hP2, hD2⟩ := va_join (wr := wr) (w1 := w1) hP hD isC isR hC hRr ndR hdis hk1 hFc hP1 hD1
  exact kk H1 locs1 (hP2.sub isF (sub_of_map hF)) (hD2.sub isF ndF hF) hS1
end OWNZ
theorem hdJ0_coder_7d493 : yJ0_coder_7d493.cls = RJ0 ∧ yJ0_coder_7d493.cls ≠ "java/lang/invoke/MethodHandle" ∧ yJ0_coder_7d493.cls ≠ "java/lang/invoke/VarHandle" ∧ (parseMethodDescriptor yJ0_coder_7d493.desc).map (fun d => d.parameters.length) = some 0 := by decide +kernel
theorem hdJ0_length_8abf5 : yJ0_length_8abf5.cls = RJ0 ∧ yJ0_length_8abf5.cls ≠ "java/lang/invoke/MethodHandle" ∧ yJ0_length_8abf5.cls ≠ "java/lang/invoke/VarHandle" ∧ (parseMethodDescriptor yJ0_length_8abf5.desc).map (fun d => d.parameters.length) = some 0 := by decide +kernel
theorem hdJ0_isLatin1_aae02 : yJ0_isLatin1_aae02.cls = RJ0 ∧ yJ0_isLatin1_aae02.cls ≠ "java/lang/invoke/MethodHandle" ∧ yJ0_isLatin1_aae02.cls ≠ "java/lang/invoke/VarHandle" ∧ (parseMethodDescriptor yJ0_isLatin1_aae02.desc).map (fun d => d.parameters.length) = some 0 := by decide +kernel
theorem hdJ3_checkIndex_8e157 : yJ3_checkIndex_8e157.cls ≠ "java/lang/invoke/MethodHandle" ∧ yJ3_checkIndex_8e157.cls ≠ "java/lang/invoke/VarHandle" ∧ (parseMethodDescriptor yJ3_checkIndex_8e157.desc).map (fun d => d.parameters.length) = some 3 := by decide +kernel
theorem hdJ0_checkIndex_df160 : yJ0_checkIndex_df160.cls ≠ "java/lang/invoke/MethodHandle" ∧ yJ0_checkIndex_df160.cls ≠ "java/lang/invoke/VarHandle" ∧ (parseMethodDescriptor yJ0_checkIndex_df160.desc).map (fun d => d.parameters.length) = some 2 := by decide +kernel
theorem hdJ1_charAt_3b067 : yJ1_charAt_3b067.cls ≠ "java/lang/invoke/MethodHandle" ∧ yJ1_charAt_3b067.cls ≠ "java/lang/invoke/VarHandle" ∧ (parseMethodDescriptor yJ1_charAt_3b067.desc).map (fun d => d.parameters.length) = some 2 := by decide +kernel
theorem hdJ0_charAt_5068e : yJ0_charAt_5068e.cls = RJ0 ∧ yJ0_charAt_5068e.cls ≠ "java/lang/invoke/MethodHandle" ∧ yJ0_charAt_5068e.cls ≠ "java/lang/invoke/VarHandle" ∧ (parseMethodDescriptor yJ0_charAt_5068e.desc).map (fun d => d.parameters.length) = some 1 := by decide +kernel
abbrev rmJ0_coder_7d493 : Room := { frames := 0, cells := 0, slots := 0, locals := 0 }
abbrev rmJ0_isLatin1_aae02 : Room := { frames := 0, cells := 0, slots := 0, locals := 0 }
abbrev rmJ3_checkIndex_8e157 : Room := { frames := 0, cells := 0, slots := 0, locals := 0 }
abbrev rmJ0_length_8abf5 : Room := { frames := 1, cells := 0, slots := 0, locals := 20 }
abbrev rmJ0_checkIndex_df160 : Room := { frames := 1, cells := 0, slots := 0, locals := 22 }
abbrev rmJ1_charAt_3b067 : Room := { frames := 2, cells := 0, slots := 0, locals := 43 }
abbrev rmJ0_charAt_5068e : Room := { frames := 3, cells := 0, slots := 0, locals := 64 }
set_option maxHeartbeats 4000000 in
theorem tJ0_coder_7d493 (l : Launch) (G : GG) (z : ZZ) (i : Nat) (hi : i < 5) : MRiZ l yJ0_coder_7d493 wsJ0_coder_7d493 rmJ0_coder_7d493 G z [.ref (z i).1] [] 0 := by
  refine MRiZ.of (by decide +kernel) rfl (Nat.le_of_ble_eq_true rfl) (fun p e s m below meth c C hZ hP ls hl => ?_)
  obtain ⟨hx, hb, hr, hlk, hml, hown, hts, hK⟩ := id C
  refine va_gets hx hb hZ.2.1 va_S.rf hown (hts (.fieldLink RJ0 38 "java/lang/String" "COMPACT_STRINGS" "Z") (List.mem_of_getElem? (i := 1) rfl)) (fun _ h => h) dJ0_coder_7d493_0 ?_
  refine lv_if_eq (tgt := 13) hx hb dJ0_coder_7d493_3 (by decide) (fun c9 => absurd c9 (by decide)) (fun c9 => ?_)
  refine lv_aload_n hx hb dJ0_coder_7d493_6 rfl (lv_at hl 0 rfl) ?_
  refine vk_getf hx hb (hZ.1.1 i hi).2.1 va_S.rf hown (hts (.fieldLink RJ0 15 "java/lang/String" "coder" "B") (List.mem_of_getElem? (i := 2) rfl)) (fun _ h => h) dJ0_coder_7d493_7 ?_
  refine lv_goto (tgt := 14) hx hb dJ0_coder_7d493_10 (by decide) ?_
  exact rRz C rfl dJ0_coder_7d493_14
set_option maxHeartbeats 4000000 in
theorem tJ0_isLatin1_aae02 (l : Launch) (G : GG) (z : ZZ) (i : Nat) (hi : i < 5) : MRiZ l yJ0_isLatin1_aae02 wsJ0_isLatin1_aae02 rmJ0_isLatin1_aae02 G z [.ref (z i).1] [] 1 := by
  refine MRiZ.of (by decide +kernel) rfl (Nat.le_of_ble_eq_true rfl) (fun p e s m below meth c C hZ hP ls hl => ?_)
  obtain ⟨hx, hb, hr, hlk, hml, hown, hts, hK⟩ := id C
  refine va_gets hx hb hZ.2.1 va_S.rf hown (hts (.fieldLink RJ0 38 "java/lang/String" "COMPACT_STRINGS" "Z") (List.mem_of_getElem? (i := 1) rfl)) (fun _ h => h) dJ0_isLatin1_aae02_0 ?_
  refine lv_if_eq (tgt := 17) hx hb dJ0_isLatin1_aae02_3 (by decide) (fun c9 => absurd c9 (by decide)) (fun c9 => ?_)
  refine lv_aload_n hx hb dJ0_isLatin1_aae02_6 rfl (lv_at hl 0 rfl) ?_
  refine vk_getf hx hb (hZ.1.1 i hi).2.1 va_S.rf hown (hts (.fieldLink RJ0 15 "java/lang/String" "coder" "B") (List.mem_of_getElem? (i := 2) rfl)) (fun _ h => h) dJ0_isLatin1_aae02_7 ?_
  refine lv_if_ne (tgt := 17) hx hb dJ0_isLatin1_aae02_10 (by decide) (fun c9 => absurd rfl c9) (fun c9 => ?_)
  refine lv_iconst (v := 1) hx hb dJ0_isLatin1_aae02_13 (by decide) ?_
  refine lv_goto (tgt := 18) hx hb dJ0_isLatin1_aae02_14 (by decide) ?_
  exact rRz C rfl dJ0_isLatin1_aae02_18
set_option maxHeartbeats 4000000 in
theorem tJ0_length_8abf5 (l : Launch) (G : GG) (z : ZZ) (i : Nat) (hi : i < 5) : MRiZ l yJ0_length_8abf5 wsJ0_length_8abf5 rmJ0_length_8abf5 G z [.ref (z i).1] [] (wLenI i) := by
  refine MRiZ.of (by decide +kernel) rfl (Nat.le_of_ble_eq_true rfl) (fun p e s m below meth c C hZ hP ls hl => ?_)
  obtain ⟨hx, hb, hr, hlk, hml, hown, hts, hK⟩ := id C
  refine lv_aload_n hx hb dJ0_length_8abf5_0 rfl (lv_at hl 0 rfl) ?_
  refine vk_getf hx hb (hZ.1.1 i hi).2.2.1 va_S.rf hown (hts (.fieldLink RJ0 9 "java/lang/String" "value" "[B") (List.mem_of_getElem? (i := 1) rfl)) (fun _ h => h) dJ0_length_8abf5_1 ?_
  refine va_tlen (v := Int32.ofNat (wLen i)) hx hb (hZ.1.1 i hi).2.2.2 va_S.rf rfl dJ0_length_8abf5_4 ?_
  refine lv_aload_n hx hb dJ0_length_8abf5_5 rfl (lv_at hl 0 rfl) ?_
  refine cRiVZ (C := RJ0) (rest := [.int (Int32.ofNat (wLen i))]) ⟨hx, hb, hml, hown, hts⟩ hK hZ va_S.rf (tJ0_coder_7d493 l G z i hi) gJ0_length_8abf5_J0_coder_7d493 rfl hdJ0_coder_7d493 rfl rfl rfl ⟨Nat.le_of_ble_eq_true rfl, Nat.le_of_ble_eq_true rfl⟩ hP [] rfl (vk_recv hZ.1 hi va_S.rf) hl.1 (Nat.le_of_ble_eq_true rfl) rfl dJ0_length_8abf5_6 ⟨Nat.zero_le _, Nat.zero_le _⟩ ?_
  refine lv_ishr hx hb dJ0_length_8abf5_9 ?_
  exact rRi C dJ0_length_8abf5_10
set_option maxHeartbeats 4000000 in
theorem tJ3_checkIndex_8e157 (l : Launch) (G : GG) (z : ZZ) (k n : Int32) (fv : Option Nat) (h0 : ¬ k < 0) (h1 : k < n) : MRiZ l yJ3_checkIndex_8e157 wsJ3_checkIndex_8e157 rmJ3_checkIndex_8e157 G z [.int k, .int n, va_rf fv] [] k := by
  have go : ∀ v : Value, (lg_sl [.int k, .int n, v]).length ≤ 3 → lv_args 0 [.int k, .int n, v] = [(0, .int k), (1, .int n), (2, v)] → MRiZ l yJ3_checkIndex_8e157 wsJ3_checkIndex_8e157 rmJ3_checkIndex_8e157 G z [.int k, .int n, v] [] k := by
    intro v hv hv2
    refine MRiZ.of (by decide +kernel) rfl hv (fun p e s m below meth c C hZ hP ls hl => ?_)
    obtain ⟨hx, hb, hr, hlk, hml, hown, hts, hK⟩ := id C
    rw [hv2] at hl
    refine lv_iload_n hx hb dJ3_checkIndex_8e157_0 rfl (lv_at hl 0 rfl) ?_
    refine lv_if_lt (tgt := 9) hx hb dJ3_checkIndex_8e157_1 (by decide) (fun c9 => absurd c9 h0) (fun c9 => ?_)
    refine lv_iload_n hx hb dJ3_checkIndex_8e157_4 rfl (lv_at hl 0 rfl) ?_
    refine lv_iload_n hx hb dJ3_checkIndex_8e157_5 rfl (lv_at hl 1 rfl) ?_
    refine lv_icmp_lt (tgt := 16) hx hb dJ3_checkIndex_8e157_6 (by decide) (fun c9 => ?_) (fun c9 => absurd h1 c9)
    refine lv_iload_n hx hb dJ3_checkIndex_8e157_16 rfl (lv_at hl 0 rfl) ?_
    exact rRi C dJ3_checkIndex_8e157_17
  cases fv with
  | none => exact go .null (Nat.le_of_ble_eq_true rfl) rfl
  | some t => exact go (.ref t) (Nat.le_of_ble_eq_true rfl) rfl
set_option maxHeartbeats 4000000 in
theorem tJ0_checkIndex_df160 (l : Launch) (G : GG) (z : ZZ) (k n : Int32) (h0 : ¬ k < 0) (h1 : k < n) : MRvZ l yJ0_checkIndex_df160 wsJ0_checkIndex_df160 rmJ0_checkIndex_df160 G z [.int k, .int n] [] := by
  refine MRvZ.of (by decide +kernel) rfl (Nat.le_of_ble_eq_true rfl) (fun p e s m below meth c C hZ hP ls hl => ?_)
  obtain ⟨hx, hb, hr, hlk, hml, hown, hts, hK⟩ := id C
  refine lv_iload_n hx hb dJ0_checkIndex_df160_0 rfl (lv_at hl 0 rfl) ?_
  refine lv_iload_n hx hb dJ0_checkIndex_df160_1 rfl (lv_at hl 1 rfl) ?_
  have go : ∀ fv : Option Nat, va_Z "jdk/internal/util/Preconditions" "SIOOBE_FORMATTER" "Ljava/util/function/BiFunction;" (va_rf fv) NoA s s.heap → W p l e rmJ0_checkIndex_df160 s m [Value.int k, Value.int n].toArray below meth c s.heap [] 0 0 (MQ below (va_Sv (fun _ => True)) [Value.int k, Value.int n].toArray s 0 0 (fun _ => False)) (F0 m 2 ls [.int n, .int k]) := by
    intro fv hq
    refine va_gets hx hb hq va_S.rf hown (hts (.fieldLink RJ0 1053 "jdk/internal/util/Preconditions" "SIOOBE_FORMATTER" "Ljava/util/function/BiFunction;") (List.mem_of_getElem? (i := 1) rfl)) (fun _ h => h) dJ0_checkIndex_df160_2 ?_
    refine cRiSZ (rest := []) ⟨hx, hb, hml, hown, hts⟩ hK hZ va_S.rf (tJ3_checkIndex_8e157 l G z k n fv h0 h1) gJ0_checkIndex_df160_J3_checkIndex_8e157 rfl hdJ3_checkIndex_8e157 rfl rfl rfl ⟨Nat.le_of_ble_eq_true rfl, Nat.le_of_ble_eq_true rfl⟩ hP [] rfl hl.1 (Nat.le_of_ble_eq_true rfl) rfl dJ0_checkIndex_df160_5 ⟨Nat.zero_le _, Nat.zero_le _⟩ ?_
    refine lv_pop hx hb dJ0_checkIndex_df160_8 rfl ?_
    exact rRv C dJ0_checkIndex_df160_9
  rcases hZ.2.2.1 with h | ⟨t, h⟩
  · exact go none h
  · exact go (some t) h
theorem ixN {k : Int32} {N : Nat} (h : ix k N = true) (hN : N < 2 ^ 31) : ¬ k < 0 ∧ k < Int32.ofNat N := by
  obtain ⟨j, hj, rfl⟩ := vp_in_of (ix_in h) hN
  exact ⟨nI_pos (by omega), nI_lt hj hN⟩
set_option maxHeartbeats 4000000 in
theorem tJ1_charAt_3b067 (l : Launch) (G : GG) (z : ZZ) (i : Nat) (hi : i < 5) (k : Int32) (hk : ix k (wLen i) = true) (hN : wLen i < 2 ^ 31) : MRiZ l yJ1_charAt_3b067 wsJ1_charAt_3b067 rmJ1_charAt_3b067 G z [.ref (z i).2, .int k] [] (wCh i k.toNatClampNeg) := by
  refine MRiZ.of (by decide +kernel) rfl (Nat.le_of_ble_eq_true rfl) (fun p e s m below meth c C hZ hP ls hl => ?_)
  obtain ⟨hx, hb, hr, hlk, hml, hown, hts, hK⟩ := id C
  refine lv_iload_n hx hb dJ1_charAt_3b067_0 rfl (lv_at hl 1 rfl) ?_
  refine lv_aload_n hx hb dJ1_charAt_3b067_1 rfl (lv_at hl 0 rfl) ?_
  refine va_tlen (v := Int32.ofNat (wLen i)) hx hb (hZ.1.1 i hi).2.2.2 va_S.rf rfl dJ1_charAt_3b067_2 ?_
  refine cRvSZ (rest := []) ⟨hx, hb, hml, hown, hts⟩ hK hZ va_S.rf (tJ0_checkIndex_df160 l G z k (Int32.ofNat (wLen i)) (ixN hk hN).1 (ixN hk hN).2) gJ1_charAt_3b067_J0_checkIndex_df160 rfl hdJ0_checkIndex_df160 rfl rfl rfl ⟨Nat.le_of_ble_eq_true rfl, Nat.le_of_ble_eq_true rfl⟩ hP [] rfl hl.1 (Nat.le_of_ble_eq_true rfl) rfl dJ1_charAt_3b067_3 ⟨Nat.zero_le _, Nat.zero_le _⟩ ?_
  refine lv_aload_n hx hb dJ1_charAt_3b067_6 rfl (lv_at hl 0 rfl) ?_
  refine lv_iload_n hx hb dJ1_charAt_3b067_7 rfl (lv_at hl 1 rfl) ?_
  refine va_tb hx hb (hZ.1.1 i hi).2.2.2 va_S.rf (ix_in hk) rfl dJ1_charAt_3b067_8 ?_
  refine lv_sipush (v := 255) hx hb dJ1_charAt_3b067_9 (by decide) ?_
  refine lv_iand hx hb dJ1_charAt_3b067_12 ?_
  refine lv_i2c hx hb dJ1_charAt_3b067_13 rfl ?_
  exact rRz C (pk_nc _) dJ1_charAt_3b067_14
set_option maxHeartbeats 4000000 in
theorem tJ0_charAt_5068e (l : Launch) (G : GG) (z : ZZ) (i : Nat) (hi : i < 5) (k : Int32) (hk : ix k (wLen i) = true) (hN : wLen i < 2 ^ 31) : MRiZ l yJ0_charAt_5068e wsJ0_charAt_5068e rmJ0_charAt_5068e G z [.ref (z i).1, .int k] [] (wCh i k.toNatClampNeg) := by
  refine MRiZ.of (by decide +kernel) rfl (Nat.le_of_ble_eq_true rfl) (fun p e s m below meth c C hZ hP ls hl => ?_)
  obtain ⟨hx, hb, hr, hlk, hml, hown, hts, hK⟩ := id C
  refine lv_aload_n hx hb dJ0_charAt_5068e_0 rfl (lv_at hl 0 rfl) ?_
  refine cRiVZ (C := RJ0) (rest := []) ⟨hx, hb, hml, hown, hts⟩ hK hZ va_S.rf (tJ0_isLatin1_aae02 l G z i hi) gJ0_charAt_5068e_J0_isLatin1_aae02 rfl hdJ0_isLatin1_aae02 rfl rfl rfl ⟨Nat.le_of_ble_eq_true rfl, Nat.le_of_ble_eq_true rfl⟩ hP [] rfl (vk_recv hZ.1 hi va_S.rf) hl.1 (Nat.le_of_ble_eq_true rfl) rfl dJ0_charAt_5068e_1 ⟨Nat.zero_le _, Nat.zero_le _⟩ ?_
  refine lv_if_eq (tgt := 16) hx hb dJ0_charAt_5068e_4 (by decide) (fun c9 => absurd c9 (by decide)) (fun c9 => ?_)
  refine lv_aload_n hx hb dJ0_charAt_5068e_7 rfl (lv_at hl 0 rfl) ?_
  refine vk_getf hx hb (hZ.1.1 i hi).2.2.1 va_S.rf hown (hts (.fieldLink RJ0 9 "java/lang/String" "value" "[B") (List.mem_of_getElem? (i := 1) rfl)) (fun _ h => h) dJ0_charAt_5068e_8 ?_
  refine lv_iload_n hx hb dJ0_charAt_5068e_11 rfl (lv_at hl 1 rfl) ?_
  refine cRiSZ (rest := []) ⟨hx, hb, hml, hown, hts⟩ hK hZ va_S.rf (tJ1_charAt_3b067 l G z i hi k hk hN) gJ0_charAt_5068e_J1_charAt_3b067 rfl hdJ1_charAt_3b067 rfl rfl rfl ⟨Nat.le_of_ble_eq_true rfl, Nat.le_of_ble_eq_true rfl⟩ hP [] rfl hl.1 (Nat.le_of_ble_eq_true rfl) rfl dJ0_charAt_5068e_12 ⟨Nat.zero_le _, Nat.zero_le _⟩ ?_
  exact rRz C (pk_nc _) dJ0_charAt_5068e_15
theorem wLen_lt (i : Nat) : wLen i < 2 ^ 31 := by
  unfold wLen lenW
  match i with
  | 0 => decide
  | 1 => decide
  | 2 => decide
  | 3 => decide
  | 4 => decide
  | i + 5 => simp [List.getD]

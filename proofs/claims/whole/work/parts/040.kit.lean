/-! own kit: one world of cells, contracts over pure functions that answer 'some' -/
abbrev GG : Type := va_G × (Nat → ClassId)
abbrev CL : List vw_C := [(RX0, TX0, 3), (RX1, TX1, 2), (RX2, TX2, 6), (RX3, TX3, 4), (RX4, TX4, 4), (RX5, TX5, 8), (RX6, TX6, 7), (RX7, TX7, 19)]
abbrev tyG (G : GG) : List (ClassId × FieldType) := [(G.2 0, .int), (G.2 1, .byte), (G.2 2, .boolean), (G.2 3, .object "LoomCards$Loom")]
abbrev Cx (cc : ByteArray) (ret : Option FieldType) (nL : Nat) (own : String) (Ts : List Cond) (G : GG) (p : Program) (s : State) (m : MethodId) (args : Array Value) (meth : Method) (c : Code) : Prop :=
  p.tables.exec = Jvm.exec ∧ c.code = cc ∧ meth.sig.returnType = ret ∧ meth.locks = false ∧ c.maxLocals = nL ∧ s.vm.findClass own = some m.cls ∧ (∀ w ∈ Ts, w.before args s = true) ∧ va_K G.1 CL (tyG G) s
/-- how often a loop may go round -/
def FU : Nat := 3000
def ix (i : Int32) (n : Nat) : Bool := decide (¬ (i < 0 ∨ n ≤ i.toNatClampNeg))
theorem ix_in {i : Int32} {n : Nat} (h : ix i n = true) : vp_in i n := by
  have h2 : ¬ (i < 0 ∨ n ≤ i.toNatClampNeg) := of_decide_eq_true h
  exact h2
theorem ix_lt {i : Int32} {n : Nat} (h : ix i n = true) : i.toNatClampNeg < n := by
  have h2 : ¬ (i < 0 ∨ n ≤ i.toNatClampNeg) := of_decide_eq_true h
  exact Nat.not_le.mp (fun q => h2 (Or.inr q))
/-- what must hold before one goes on -/
def gd {α : Type} (b : Bool) (a : Option α) : Option α := match b with
  | true => a
  | false => none
theorem r_gd {α : Type} {b : Bool} {a : Option α} {r : α} {P : Prop} (h : gd b a = some r) (k : b = true → a = some r → P) : P := by
  cases b with
  | true => exact k rfl h
  | false => cases h
/-- what is gone on with from several places -/
def jn {α β : Type} (f : α) (g : α → β) : β := g f
theorem r_jn0 {β R : Type} {f : β} {g : β → R} {r : R} {P : Prop} (h : jn f g = r) (k : ∀ J : β, J = f → g J = r → P) : P := k f rfl h
theorem r_jn1 {A1 β R : Type} {f : A1 → β} {g : (A1 → β) → R} {r : R} {P : Prop} (h : jn f g = r) (k : ∀ J : A1 → β, (∀ a1, J a1 = f a1) → g J = r → P) : P := k f (fun _ => rfl) h
theorem r_jn2 {A1 A2 β R : Type} {f : A1 → A2 → β} {g : (A1 → A2 → β) → R} {r : R} {P : Prop} (h : jn f g = r) (k : ∀ J : A1 → A2 → β, (∀ a1 a2, J a1 a2 = f a1 a2) → g J = r → P) : P := k f (fun _ _ => rfl) h
theorem r_jn3 {A1 A2 A3 β R : Type} {f : A1 → A2 → A3 → β} {g : (A1 → A2 → A3 → β) → R} {r : R} {P : Prop} (h : jn f g = r) (k : ∀ J : A1 → A2 → A3 → β, (∀ a1 a2 a3, J a1 a2 a3 = f a1 a2 a3) → g J = r → P) : P := k f (fun _ _ _ => rfl) h
theorem r_jn4 {A1 A2 A3 A4 β R : Type} {f : A1 → A2 → A3 → A4 → β} {g : (A1 → A2 → A3 → A4 → β) → R} {r : R} {P : Prop} (h : jn f g = r) (k : ∀ J : A1 → A2 → A3 → A4 → β, (∀ a1 a2 a3 a4, J a1 a2 a3 a4 = f a1 a2 a3 a4) → g J = r → P) : P := k f (fun _ _ _ _ => rfl) h
theorem r_jn5 {A1 A2 A3 A4 A5 β R : Type} {f : A1 → A2 → A3 → A4 → A5 → β} {g : (A1 → A2 → A3 → A4 → A5 → β) → R} {r : R} {P : Prop} (h : jn f g = r) (k : ∀ J : A1 → A2 → A3 → A4 → A5 → β, (∀ a1 a2 a3 a4 a5, J a1 a2 a3 a4 a5 = f a1 a2 a3 a4 a5) → g J = r → P) : P := k f (fun _ _ _ _ _ => rfl) h
theorem r_jn6 {A1 A2 A3 A4 A5 A6 β R : Type} {f : A1 → A2 → A3 → A4 → A5 → A6 → β} {g : (A1 → A2 → A3 → A4 → A5 → A6 → β) → R} {r : R} {P : Prop} (h : jn f g = r) (k : ∀ J : A1 → A2 → A3 → A4 → A5 → A6 → β, (∀ a1 a2 a3 a4 a5 a6, J a1 a2 a3 a4 a5 a6 = f a1 a2 a3 a4 a5 a6) → g J = r → P) : P := k f (fun _ _ _ _ _ _ => rfl) h
theorem r_jn7 {A1 A2 A3 A4 A5 A6 A7 β R : Type} {f : A1 → A2 → A3 → A4 → A5 → A6 → A7 → β} {g : (A1 → A2 → A3 → A4 → A5 → A6 → A7 → β) → R} {r : R} {P : Prop} (h : jn f g = r) (k : ∀ J : A1 → A2 → A3 → A4 → A5 → A6 → A7 → β, (∀ a1 a2 a3 a4 a5 a6 a7, J a1 a2 a3 a4 a5 a6 a7 = f a1 a2 a3 a4 a5 a6 a7) → g J = r → P) : P := k f (fun _ _ _ _ _ _ _ => rfl) h
theorem r_jn8 {A1 A2 A3 A4 A5 A6 A7 A8 β R : Type} {f : A1 → A2 → A3 → A4 → A5 → A6 → A7 → A8 → β} {g : (A1 → A2 → A3 → A4 → A5 → A6 → A7 → A8 → β) → R} {r : R} {P : Prop} (h : jn f g = r) (k : ∀ J : A1 → A2 → A3 → A4 → A5 → A6 → A7 → A8 → β, (∀ a1 a2 a3 a4 a5 a6 a7 a8, J a1 a2 a3 a4 a5 a6 a7 a8 = f a1 a2 a3 a4 a5 a6 a7 a8) → g J = r → P) : P := k f (fun _ _ _ _ _ _ _ _ => rfl) h
theorem r_bind {α β : Type} {o : Option α} {g : α → Option β} {r : β} {P : Prop} (h : o.bind g = some r) (k : ∀ u, o = some u → g u = some r → P) : P := by
  cases o with
  | none => cases h
  | some u => exact k u rfl h
theorem r_if {α : Type} {q : Prop} [Decidable q] {a b r : α} {P : Prop} (h : (if q then a else b) = r) (k1 : q → a = r → P) (k2 : ¬ q → b = r → P) : P := by
  by_cases hq : q
  · rw [if_pos hq] at h; exact k1 hq h
  · rw [if_neg hq] at h; exact k2 hq h
theorem c_t {α : Type} {q : Prop} [Decidable q] {a b r : α} (h : (if q then a else b) = r) (hq : q) : a = r := by rw [if_pos hq] at h; exact h
theorem c_f {α : Type} {q : Prop} [Decidable q] {a b r : α} (h : (if q then a else b) = r) (hq : ¬ q) : b = r := by rw [if_neg hq] at h; exact h
/-- a truth: 0 or 1 -/
def tf (v : Int32) : Bool := decide (v = 0 ∨ v = 1)
theorem tf_nar {v : Int32} (h : tf v = true) : narrow .boolean (.int v) = .int v := by
  rcases of_decide_eq_true h with rfl | rfl <;> rfl
theorem tf_fit {v : Int32} (h : tf v = true) : fits .boolean (.int v) = true := by
  rcases of_decide_eq_true h with rfl | rfl <;> rfl
def MRi (l : Launch) (y : MethodName) (ws : List Cond) (rm : Room) (G : GG) (av : List Value) (w : va_W) (r : Int32) : Prop :=
  Met l y ws rm (va_Pc av (fun U => va_P G.1 CL w U.heap ∧ va_K G.1 CL (tyG G) U)) (vp_Si (fun x => x = r)) 0 0 (fun _ => False)
def MRl (l : Launch) (y : MethodName) (ws : List Cond) (rm : Room) (G : GG) (av : List Value) (w : va_W) (r : Int64) : Prop :=
  Met l y ws rm (va_Pc av (fun U => va_P G.1 CL w U.heap ∧ va_K G.1 CL (tyG G) U)) (vp_Sl (fun x => x = r)) 0 0 (fun _ => False)
def MWi (l : Launch) (y : MethodName) (ws : List Cond) (rm : Room) (G : GG) (av : List Value) (w : va_W) (r : Int32) (w2 : va_W) : Prop :=
  ∀ sz : Nat, Met l y ws rm (va_Pc av (fun U => U.heap.size = sz ∧ va_P G.1 CL w U.heap ∧ va_K G.1 CL (tyG G) U ∧ va_D (fun _ => True) w)) (va_Qi (fun x (_ : Unit) => x = r) (fun _ t => va_P G.1 CL w2 t.heap ∧ va_D (va_A w sz) w2) (va_A w sz)) 0 0 (va_A w sz)
def MWv (l : Launch) (y : MethodName) (ws : List Cond) (rm : Room) (G : GG) (av : List Value) (w : va_W) (w2 : va_W) : Prop :=
  ∀ sz : Nat, Met l y ws rm (va_Pc av (fun U => U.heap.size = sz ∧ va_P G.1 CL w U.heap ∧ va_K G.1 CL (tyG G) U ∧ va_D (fun _ => True) w)) (va_Qv (fun (_ : Unit) => True) (fun _ t => va_P G.1 CL w2 t.heap ∧ va_D (va_A w sz) w2) (va_A w sz)) 0 0 (va_A w sz)
section OWNK
variable {p : Program} {l : Launch} {e : Env} {R : Room} {s : State} {m : MethodId} {args : Array Value} {below : List Frame} {meth : Method} {c : Code} {H : Heap} {locs : List Loc} {cells slots : Nat} {Q : State → Prop} {G : GG} {A : Nat → Prop}
variable {cc bytes : ByteArray} {nL maxL idx pc n : Nat} {own C : String} {y : MethodName} {ret : Option FieldType} {ws ws' Ts : List Cond} {rm : Room} {av As rest st0 : List Value} {w wc wr w1 wf w2 : va_W} {ls : Array Slot} {b q0 ci : Nat} {q : vw_C} {fs : List Value}
theorem MRi.of {r : Int32} (hy : plainFor y = true) (hw : ws = Cond.code y cc maxL ret :: ws') (hn : (lg_sl av).length ≤ maxL)
    (k : ∀ (p : Program) (e : Env) (s : State) (m : MethodId) (below : List Frame) (meth : Method) (c : Code), Cx cc ret maxL y.cls ws G p s m av.toArray meth c → va_P G.1 CL w s.heap → ∀ ls : Array Slot, lv_has ls maxL (lv_args 0 av) → W p l e rm s m av.toArray below meth c s.heap [] 0 0 (MQ below (vp_Si (fun x => x = r)) av.toArray s 0 0 (fun _ => False)) (F0 m 0 ls [])) : MRi l y ws rm G av w r := by
  refine va_MetF (cc := cc) (maxL := maxL) (ret := ret) hy hw ?_
  intro p e s m args below meth c s₁ B hml hv
  obtain ⟨rfl, hP, hK⟩ := hv
  have hl := lv_entry av (n := maxL) hn
  rw [lg_entry_eq]
  exact k p e s m below meth c ⟨B.exec, B.bytes, B.returns, B.notSynchronized, hml, findClass_of_methodNamed B.named, atoms_spec (ws := ws) B.pre, hK⟩ hP _ hl
theorem MRl.of {r : Int64} (hy : plainFor y = true) (hw : ws = Cond.code y cc maxL ret :: ws') (hn : (lg_sl av).length ≤ maxL)
    (k : ∀ (p : Program) (e : Env) (s : State) (m : MethodId) (below : List Frame) (meth : Method) (c : Code), Cx cc ret maxL y.cls ws G p s m av.toArray meth c → va_P G.1 CL w s.heap → ∀ ls : Array Slot, lv_has ls maxL (lv_args 0 av) → W p l e rm s m av.toArray below meth c s.heap [] 0 0 (MQ below (vp_Sl (fun x => x = r)) av.toArray s 0 0 (fun _ => False)) (F0 m 0 ls [])) : MRl l y ws rm G av w r := by
  refine va_MetF (cc := cc) (maxL := maxL) (ret := ret) hy hw ?_
  intro p e s m args below meth c s₁ B hml hv
  obtain ⟨rfl, hP, hK⟩ := hv
  have hl := lv_entry av (n := maxL) hn
  rw [lg_entry_eq]
  exact k p e s m below meth c ⟨B.exec, B.bytes, B.returns, B.notSynchronized, hml, findClass_of_methodNamed B.named, atoms_spec (ws := ws) B.pre, hK⟩ hP _ hl
theorem MWi.of {r : Int32} (hy : plainFor y = true) (hw : ws = Cond.code y cc maxL ret :: ws') (hn : (lg_sl av).length ≤ maxL)
    (k : ∀ (p : Program) (e : Env) (s : State) (m : MethodId) (below : List Frame) (meth : Method) (c : Code) (A : Nat → Prop), Cx cc ret maxL y.cls ws G p s m av.toArray meth c → (∀ q : Nat, s.heap.size ≤ q → A q) → va_P G.1 CL w s.heap → va_D A w → va_S A s.heap s.heap [] → ∀ ls : Array Slot, lv_has ls maxL (lv_args 0 av) → W p l e rm s m av.toArray below meth c s.heap [] 0 0 (MQ below (va_Qi (fun x (_ : Unit) => x = r) (fun _ t => va_P G.1 CL w2 t.heap ∧ va_D A w2) A) av.toArray s 0 0 A) (F0 m 0 ls [])) : MWi l y ws rm G av w r w2 := by
  intro sz
  refine va_MetF (cc := cc) (maxL := maxL) (ret := ret) hy hw ?_
  intro p e s m args below meth c s₁ B hml hv
  obtain ⟨rfl, rfl, hP, hK, hD⟩ := hv
  have hl := lv_entry av (n := maxL) hn
  rw [lg_entry_eq]
  exact k p e s m below meth c (va_A w s.heap.size) ⟨B.exec, B.bytes, B.returns, B.notSynchronized, hml, findClass_of_methodNamed B.named, atoms_spec (ws := ws) B.pre, hK⟩ (fun q h => Or.inr h) hP (hD.self (sz := s.heap.size)) va_S.rf _ hl
theorem MWv.of (hy : plainFor y = true) (hw : ws = Cond.code y cc maxL ret :: ws') (hn : (lg_sl av).length ≤ maxL)
    (k : ∀ (p : Program) (e : Env) (s : State) (m : MethodId) (below : List Frame) (meth : Method) (c : Code) (A : Nat → Prop), Cx cc ret maxL y.cls ws G p s m av.toArray meth c → (∀ q : Nat, s.heap.size ≤ q → A q) → va_P G.1 CL w s.heap → va_D A w → va_S A s.heap s.heap [] → ∀ ls : Array Slot, lv_has ls maxL (lv_args 0 av) → W p l e rm s m av.toArray below meth c s.heap [] 0 0 (MQ below (va_Qv (fun (_ : Unit) => True) (fun _ t => va_P G.1 CL w2 t.heap ∧ va_D A w2) A) av.toArray s 0 0 A) (F0 m 0 ls [])) : MWv l y ws rm G av w w2 := by
  intro sz
  refine va_MetF (cc := cc) (maxL := maxL) (ret := ret) hy hw ?_
  intro p e s m args below meth c s₁ B hml hv
  obtain ⟨rfl, rfl, hP, hK, hD⟩ := hv
  have hl := lv_entry av (n := maxL) hn
  rw [lg_entry_eq]
  exact k p e s m below meth c (va_A w s.heap.size) ⟨B.exec, B.bytes, B.returns, B.notSynchronized, hml, findClass_of_methodNamed B.named, atoms_spec (ws := ws) B.pre, hK⟩ (fun q h => Or.inr h) hP (hD.self (sz := s.heap.size)) va_S.rf _ hl
/-! the ends -/
theorem rRi {v : Int32} (C0 : Cx cc (some .int) nL own Ts G p s m args meth c) (hdg : decode cc pc = .ok (.ireturn, 1)) : W p l e R s m args below meth c s.heap [] 0 0 (MQ below (vp_Si (fun x => x = v)) args s 0 0 (fun _ => False)) (F0 m pc ls [.int v]) :=
  W.iret C0.1 C0.2.1 C0.2.2.1 (fun _ ht _ => ⟨v, rfl, rfl, ht⟩) (fun _ h => by cases h) hdg C0.2.2.2.1
theorem rRz {v : Int32} {ty : FieldType} (C0 : Cx cc (some ty) nL own Ts G p s m args meth c) (hn : narrow ty (.int v) = .int v) (hdg : decode cc pc = .ok (.ireturn, 1)) : W p l e R s m args below meth c s.heap [] 0 0 (MQ below (vp_Si (fun x => x = v)) args s 0 0 (fun _ => False)) (F0 m pc ls [.int v]) :=
  W.zret C0.1 C0.2.1 C0.2.2.1 hn (fun _ ht _ => ⟨v, rfl, rfl, ht⟩) (fun _ h => by cases h) hdg C0.2.2.2.1
theorem rRl {v : Int64} (C0 : Cx cc (some .long) nL own Ts G p s m args meth c) (hdg : decode cc pc = .ok (.lreturn, 1)) : W p l e R s m args below meth c s.heap [] 0 0 (MQ below (vp_Sl (fun x => x = v)) args s 0 0 (fun _ => False)) (F0 m pc ls [.long v]) :=
  W.lret C0.1 C0.2.1 C0.2.2.1 (fun _ ht _ => ⟨v, rfl, rfl, ht⟩) (fun _ h => by cases h) hdg C0.2.2.2.1
theorem rWi {v : Int32} (C0 : Cx cc (some .int) nL own Ts G p s m args meth c) (hP : va_P G.1 CL w H) (hD : va_D A w) (hS : va_S A s.heap H locs) (hdg : decode cc pc = .ok (.ireturn, 1)) : W p l e R s m args below meth c H locs 0 0 (MQ below (va_Qi (fun x (_ : Unit) => x = v) (fun _ t => va_P G.1 CL w t.heap ∧ va_D A w) A) args s 0 0 A) (F0 m pc ls [.int v]) :=
  W.iret C0.1 C0.2.1 C0.2.2.1 (fun t ht _ => ⟨⟨v, (), rfl, rfl, by rw [ht]; exact hP, hD⟩, hS.F ht⟩) hS.2.2 hdg C0.2.2.2.1
theorem rWz {v : Int32} {ty : FieldType} (C0 : Cx cc (some ty) nL own Ts G p s m args meth c) (hn : narrow ty (.int v) = .int v) (hP : va_P G.1 CL w H) (hD : va_D A w) (hS : va_S A s.heap H locs) (hdg : decode cc pc = .ok (.ireturn, 1)) : W p l e R s m args below meth c H locs 0 0 (MQ below (va_Qi (fun x (_ : Unit) => x = v) (fun _ t => va_P G.1 CL w t.heap ∧ va_D A w) A) args s 0 0 A) (F0 m pc ls [.int v]) :=
  W.zret C0.1 C0.2.1 C0.2.2.1 hn (fun t ht _ => ⟨⟨v, (), rfl, rfl, by rw [ht]; exact hP, hD⟩, hS.F ht⟩) hS.2.2 hdg C0.2.2.2.1
theorem rWv (C0 : Cx cc none nL own Ts G p s m args meth c) (hP : va_P G.1 CL w H) (hD : va_D A w) (hS : va_S A s.heap H locs) (hdg : decode cc pc = .ok (.return_, 1)) : W p l e R s m args below meth c H locs 0 0 (MQ below (va_Qv (fun (_ : Unit) => True) (fun _ t => va_P G.1 CL w t.heap ∧ va_D A w) A) args s 0 0 A) (F0 m pc ls []) :=
  W.vret C0.1 C0.2.1 C0.2.2.1 (fun t ht _ => ⟨⟨(), rfl, trivial, by rw [ht]; exact hP, hD⟩, hS.F ht⟩) hS.2.2 hdg C0.2.2.2.1
/-! calls -/
theorem blindR : FrameBlind (va_Pc av (fun U => va_P G.1 CL w U.heap ∧ va_K G.1 CL (tyG G) U)) := fun a U g mk h => ⟨h.1, h.2.1, va_K.moved (u := U) (U := U.calling g mk a) (Vm.Alike.refl U.vm) h.2.2⟩
theorem blindW {sz : Nat} : FrameBlind (va_Pc av (fun U => U.heap.size = sz ∧ va_P G.1 CL w U.heap ∧ va_K G.1 CL (tyG G) U ∧ va_D (fun _ => True) w)) := fun a U g mk h => ⟨h.1, h.2.1, h.2.2.1, va_K.moved (u := U) (U := U.calling g mk a) (Vm.Alike.refl U.vm) h.2.2.2.1, h.2.2.2.2⟩
theorem cRiV {r : Int32} (S : CallFix p m c cc nL s args Ts own) (hK : va_K G.1 CL (tyG G) s) (M : MRi l y ws rm G (.ref b :: As) wc r) (gd : GoodIn Ts (wsV own idx C y ws)) (hw : ws = Cond.code y bytes maxL ret :: ws') (hd : y.cls = C ∧ y.cls ≠ "java/lang/invoke/MethodHandle" ∧ y.cls ≠ "java/lang/invoke/VarHandle" ∧ (parseMethodDescriptor y.desc).map (fun d => d.parameters.length) = some n) (hn : As.length = n)
    (hc0 : rm.cells = 0) (hs0 : rm.slots = 0) (hR : rm.frames + 1 ≤ R.frames ∧ 8 + (maxL + 11) + rm.locals ≤ R.locals) (hP : va_P G.1 CL w H) (is : List Nat) (hs : is.filterMap (fun i => w[i]?) = wc) (q0 : Nat) (hc : CL[ci]? = some q) (he : w[q0]? = some (b, .inr (ci, fs))) (hq : q.1 = C) (hls : ls.size = nL) (hcat : (rest.map fun v => v.category).sum ≤ 8) (hst : st0 = As.reverse ++ .ref b :: rest) (hdg : decode cc pc = .ok (.invokevirtual idx, 3)) (hcs : cells ≤ R.cells ∧ slots ≤ R.slots)
    (kk : W p l e R s m args below meth c H locs cells slots Q (F0 m (pc + 3) ls (.int r :: rest))) : W p l e R s m args below meth c H locs cells slots Q (F0 m pc ls st0) := by
  refine vp_callSi (W.runV (As := As) (rest := rest) S M (cwV n S.2.2.2.2 gd hw hc0 hs0 hd hR) ⟨blindR, by rw [← hq]; exact va_recv hK hP hc he, fun U hU hW => ⟨rfl, by rw [hU]; exact hP.sub is hs, va_K.moved hW.alike hK⟩⟩ rfl hn hls hst (lv_room hcat) hdg hcs) (fun x hx => ?_)
  rw [hx]; exact kk
theorem cRlV {r : Int64} (S : CallFix p m c cc nL s args Ts own) (hK : va_K G.1 CL (tyG G) s) (M : MRl l y ws rm G (.ref b :: As) wc r) (gd : GoodIn Ts (wsV own idx C y ws)) (hw : ws = Cond.code y bytes maxL ret :: ws') (hd : y.cls = C ∧ y.cls ≠ "java/lang/invoke/MethodHandle" ∧ y.cls ≠ "java/lang/invoke/VarHandle" ∧ (parseMethodDescriptor y.desc).map (fun d => d.parameters.length) = some n) (hn : As.length = n)
    (hc0 : rm.cells = 0) (hs0 : rm.slots = 0) (hR : rm.frames + 1 ≤ R.frames ∧ 8 + (maxL + 11) + rm.locals ≤ R.locals) (hP : va_P G.1 CL w H) (is : List Nat) (hs : is.filterMap (fun i => w[i]?) = wc) (q0 : Nat) (hc : CL[ci]? = some q) (he : w[q0]? = some (b, .inr (ci, fs))) (hq : q.1 = C) (hls : ls.size = nL) (hcat : (rest.map fun v => v.category).sum ≤ 8) (hst : st0 = As.reverse ++ .ref b :: rest) (hdg : decode cc pc = .ok (.invokevirtual idx, 3)) (hcs : cells ≤ R.cells ∧ slots ≤ R.slots)
    (kk : W p l e R s m args below meth c H locs cells slots Q (F0 m (pc + 3) ls (.long r :: rest))) : W p l e R s m args below meth c H locs cells slots Q (F0 m pc ls st0) := by
  refine vp_callSl (W.runV (As := As) (rest := rest) S M (cwV n S.2.2.2.2 gd hw hc0 hs0 hd hR) ⟨blindR, by rw [← hq]; exact va_recv hK hP hc he, fun U hU hW => ⟨rfl, by rw [hU]; exact hP.sub is hs, va_K.moved hW.alike hK⟩⟩ rfl hn hls hst (lv_room hcat) hdg hcs) (fun x hx => ?_)
  rw [hx]; exact kk
theorem cRiS {r : Int32} (S : CallFix p m c cc nL s args Ts own) (hK : va_K G.1 CL (tyG G) s) (M : MRi l y ws rm G As wc r) (gd : GoodIn Ts (va_wsS own idx y ws)) (hw : ws = Cond.code y bytes maxL ret :: ws') (hd : y.cls ≠ "java/lang/invoke/MethodHandle" ∧ y.cls ≠ "java/lang/invoke/VarHandle" ∧ (parseMethodDescriptor y.desc).map (fun d => d.parameters.length) = some n) (hn : As.length = n)
    (hc0 : rm.cells = 0) (hs0 : rm.slots = 0) (hR : rm.frames + 1 ≤ R.frames ∧ 8 + (maxL + 11) + rm.locals ≤ R.locals) (hP : va_P G.1 CL w H) (is : List Nat) (hs : is.filterMap (fun i => w[i]?) = wc) (hls : ls.size = nL) (hcat : (rest.map fun v => v.category).sum ≤ 8) (hst : st0 = As.reverse ++ rest) (hdg : decode cc pc = .ok (.invokestatic idx, 3)) (hcs : cells ≤ R.cells ∧ slots ≤ R.slots)
    (kk : W p l e R s m args below meth c H locs cells slots Q (F0 m (pc + 3) ls (.int r :: rest))) : W p l e R s m args below meth c H locs cells slots Q (F0 m pc ls st0) := by
  refine vp_callSi (W.runS (As := As) (rest := rest) S M (va_cwS n S.2.2.2.2 gd hw hc0 hs0 hd hR) ⟨blindR, fun U hU hW => ⟨rfl, by rw [hU]; exact hP.sub is hs, va_K.moved hW.alike hK⟩⟩ rfl hn hls hst (lv_room hcat) hdg hcs) (fun x hx => ?_)
  rw [hx]; exact kk
theorem cRlS {r : Int64} (S : CallFix p m c cc nL s args Ts own) (hK : va_K G.1 CL (tyG G) s) (M : MRl l y ws rm G As wc r) (gd : GoodIn Ts (va_wsS own idx y ws)) (hw : ws = Cond.code y bytes maxL ret :: ws') (hd : y.cls ≠ "java/lang/invoke/MethodHandle" ∧ y.cls ≠ "java/lang/invoke/VarHandle" ∧ (parseMethodDescriptor y.desc).map (fun d => d.parameters.length) = some n) (hn : As.length = n)
    (hc0 : rm.cells = 0) (hs0 : rm.slots = 0) (hR : rm.frames + 1 ≤ R.frames ∧ 8 + (maxL + 11) + rm.locals ≤ R.locals) (hP : va_P G.1 CL w H) (is : List Nat) (hs : is.filterMap (fun i => w[i]?) = wc) (hls : ls.size = nL) (hcat : (rest.map fun v => v.category).sum ≤ 8) (hst : st0 = As.reverse ++ rest) (hdg : decode cc pc = .ok (.invokestatic idx, 3)) (hcs : cells ≤ R.cells ∧ slots ≤ R.slots)
    (kk : W p l e R s m args below meth c H locs cells slots Q (F0 m (pc + 3) ls (.long r :: rest))) : W p l e R s m args below meth c H locs cells slots Q (F0 m pc ls st0) := by
  refine vp_callSl (W.runS (As := As) (rest := rest) S M (va_cwS n S.2.2.2.2 gd hw hc0 hs0 hd hR) ⟨blindR, fun U hU hW => ⟨rfl, by rw [hU]; exact hP.sub is hs, va_K.moved hW.alike hK⟩⟩ rfl hn hls hst (lv_room hcat) hdg hcs) (fun x hx => ?_)
  rw [hx]; exact kk
theorem sub_of_map {w wc : va_W} {is : List Nat} (h : is.map (fun i => w[i]?) = wc.map some) : is.filterMap (fun i => w[i]?) = wc := by
  induction is generalizing wc with
  | nil => cases wc with
    | nil => rfl
    | cons a t => simp at h
  | cons i is ih => cases wc with
    | nil => simp at h
    | cons a t =>
      simp only [List.map_cons, List.cons.injEq] at h
      rw [List.filterMap_cons, h.1]
      simp only [ih h.2]
theorem cWiV {r : Int32} (S : CallFix p m c cc nL s args Ts own) (hK : va_K G.1 CL (tyG G) s) (M : MWi l y ws rm G (.ref b :: As) wc r w1) (gd : GoodIn Ts (wsV own idx C y ws)) (hw : ws = Cond.code y bytes maxL ret :: ws') (hd : y.cls = C ∧ y.cls ≠ "java/lang/invoke/MethodHandle" ∧ y.cls ≠ "java/lang/invoke/VarHandle" ∧ (parseMethodDescriptor y.desc).map (fun d => d.parameters.length) = some n) (hn : As.length = n)
    (hc0 : rm.cells = 0) (hs0 : rm.slots = 0) (hR : rm.frames + 1 ≤ R.frames ∧ 8 + (maxL + 11) + rm.locals ≤ R.locals) (hP : va_P G.1 CL w H) (hD : va_D A w) (hS : va_S A s.heap H locs) (hA : ∀ q : Nat, s.heap.size ≤ q → A q) (isC isR isF : List Nat) (hC : isC.map (fun i => w[i]?) = wc.map some) (hRr : isR.map (fun i => w[i]?) = wr.map some) (hF : isF.map (fun i => (wr ++ w1)[i]?) = wf.map some) (ndC : va_nd isC = true) (ndR : va_nd isR = true) (ndF : va_nd isF = true) (hdis : ∀ i ∈ isR, i ∉ isC)
    (q0 : Nat) (hc : CL[ci]? = some q) (he : w[q0]? = some (b, .inr (ci, fs))) (hq : q.1 = C) (hls : ls.size = nL) (hcat : (rest.map fun v => v.category).sum ≤ 8) (hst : st0 = As.reverse ++ .ref b :: rest) (hdg : decode cc pc = .ok (.invokevirtual idx, 3)) (hcs : cells ≤ R.cells ∧ slots ≤ R.slots)
    (kk : ∀ (H1 : Heap) (locs1 : List Loc), va_P G.1 CL wf H1 → va_D A wf → va_S A s.heap H1 locs1 → W p l e R s m args below meth c H1 locs1 cells slots Q (F0 m (pc + 3) ls (.int r :: rest))) : W p l e R s m args below meth c H locs cells slots Q (F0 m pc ls st0) := by
  have hFc := va_free (wc := wc) hD hS hA isC hC
  refine va_calli (va_runV (As := As) (rest := rest) S (M H.size) (cwV n S.2.2.2.2 gd hw hc0 hs0 hd hR) ⟨blindW, by rw [← hq]; exact va_recv hK hP hc he, fun U hU hW => ⟨rfl, by rw [hU], by rw [hU]; exact hP.sub isC (sub_of_map hC), va_K.moved hW.alike hK, (hD.sub isC ndC hC).weaken (fun _ _ _ _ => trivial)⟩⟩ rfl hn hls hst (lv_room hcat) hdg hcs) hS (fun q _ h => hFc q h) hFc (fun x u t H1 locs1 ht hvm hw2 hB hz1 hk1 hS1 => ?_)
  obtain ⟨hP1, hD1⟩ := hB
  rw [ht] at hP1
  obtain ⟨hP2, hD2⟩ := va_join (wr := wr) (w1 := w1) hP hD isC isR hC hRr ndR hdis hk1 hFc hP1 hD1
  rw [hw2]
  exact kk H1 locs1 (hP2.sub isF (sub_of_map hF)) (hD2.sub isF ndF hF) hS1
theorem cWvV (S : CallFix p m c cc nL s args Ts own) (hK : va_K G.1 CL (tyG G) s) (M : MWv l y ws rm G (.ref b :: As) wc w1) (gd : GoodIn Ts (wsV own idx C y ws)) (hw : ws = Cond.code y bytes maxL ret :: ws') (hd : y.cls = C ∧ y.cls ≠ "java/lang/invoke/MethodHandle" ∧ y.cls ≠ "java/lang/invoke/VarHandle" ∧ (parseMethodDescriptor y.desc).map (fun d => d.parameters.length) = some n) (hn : As.length = n)
    (hc0 : rm.cells = 0) (hs0 : rm.slots = 0) (hR : rm.frames + 1 ≤ R.frames ∧ 8 + (maxL + 11) + rm.locals ≤ R.locals) (hP : va_P G.1 CL w H) (hD : va_D A w) (hS : va_S A s.heap H locs) (hA : ∀ q : Nat, s.heap.size ≤ q → A q) (isC isR isF : List Nat) (hC : isC.map (fun i => w[i]?) = wc.map some) (hRr : isR.map (fun i => w[i]?) = wr.map some) (hF : isF.map (fun i => (wr ++ w1)[i]?) = wf.map some) (ndC : va_nd isC = true) (ndR : va_nd isR = true) (ndF : va_nd isF = true) (hdis : ∀ i ∈ isR, i ∉ isC)
    (q0 : Nat) (hc : CL[ci]? = some q) (he : w[q0]? = some (b, .inr (ci, fs))) (hq : q.1 = C) (hls : ls.size = nL) (hcat : (rest.map fun v => v.category).sum ≤ 8) (hst : st0 = As.reverse ++ .ref b :: rest) (hdg : decode cc pc = .ok (.invokevirtual idx, 3)) (hcs : cells ≤ R.cells ∧ slots ≤ R.slots)
    (kk : ∀ (H1 : Heap) (locs1 : List Loc), va_P G.1 CL wf H1 → va_D A wf → va_S A s.heap H1 locs1 → W p l e R s m args below meth c H1 locs1 cells slots Q (F0 m (pc + 3) ls rest)) : W p l e R s m args below meth c H locs cells slots Q (F0 m pc ls st0) := by
  have hFc := va_free (wc := wc) hD hS hA isC hC
  refine va_callv (va_runV (As := As) (rest := rest) S (M H.size) (cwV n S.2.2.2.2 gd hw hc0 hs0 hd hR) ⟨blindW, by rw [← hq]; exact va_recv hK hP hc he, fun U hU hW => ⟨rfl, by rw [hU], by rw [hU]; exact hP.sub isC (sub_of_map hC), va_K.moved hW.alike hK, (hD.sub isC ndC hC).weaken (fun _ _ _ _ => trivial)⟩⟩ rfl hn hls hst (lv_room hcat) hdg hcs) hS (fun q _ h => hFc q h) hFc (fun u t H1 locs1 ht hvm hw2 hB hz1 hk1 hS1 => ?_)
  obtain ⟨hP1, hD1⟩ := hB
  rw [ht] at hP1
  obtain ⟨hP2, hD2⟩ := va_join (wr := wr) (w1 := w1) hP hD isC isR hC hRr ndR hdis hk1 hFc hP1 hD1
  exact kk H1 locs1 (hP2.sub isF (sub_of_map hF)) (hD2.sub isF ndF hF) hS1
theorem cWvS (S : CallFix p m c cc nL s args Ts own) (hK : va_K G.1 CL (tyG G) s) (M : MWv l y ws rm G As wc w1) (gd : GoodIn Ts (va_wsS own idx y ws)) (hw : ws = Cond.code y bytes maxL ret :: ws') (hd : y.cls ≠ "java/lang/invoke/MethodHandle" ∧ y.cls ≠ "java/lang/invoke/VarHandle" ∧ (parseMethodDescriptor y.desc).map (fun d => d.parameters.length) = some n) (hn : As.length = n)
    (hc0 : rm.cells = 0) (hs0 : rm.slots = 0) (hR : rm.frames + 1 ≤ R.frames ∧ 8 + (maxL + 11) + rm.locals ≤ R.locals) (hP : va_P G.1 CL w H) (hD : va_D A w) (hS : va_S A s.heap H locs) (hA : ∀ q : Nat, s.heap.size ≤ q → A q) (isC isR isF : List Nat) (hC : isC.map (fun i => w[i]?) = wc.map some) (hRr : isR.map (fun i => w[i]?) = wr.map some) (hF : isF.map (fun i => (wr ++ w1)[i]?) = wf.map some) (ndC : va_nd isC = true) (ndR : va_nd isR = true) (ndF : va_nd isF = true) (hdis : ∀ i ∈ isR, i ∉ isC)
    (hls : ls.size = nL) (hcat : (rest.map fun v => v.category).sum ≤ 8) (hst : st0 = As.reverse ++ rest) (hdg : decode cc pc = .ok (.invokestatic idx, 3)) (hcs : cells ≤ R.cells ∧ slots ≤ R.slots)
    (kk : ∀ (H1 : Heap) (locs1 : List Loc), va_P G.1 CL wf H1 → va_D A wf → va_S A s.heap H1 locs1 → W p l e R s m args below meth c H1 locs1 cells slots Q (F0 m (pc + 3) ls rest)) : W p l e R s m args below meth c H locs cells slots Q (F0 m pc ls st0) := by
  have hFc := va_free (wc := wc) hD hS hA isC hC
  refine va_callv (va_runS (As := As) (rest := rest) S (M H.size) (va_cwS n S.2.2.2.2 gd hw hc0 hs0 hd hR) ⟨blindW, fun U hU hW => ⟨rfl, by rw [hU], by rw [hU]; exact hP.sub isC (sub_of_map hC), va_K.moved hW.alike hK, (hD.sub isC ndC hC).weaken (fun _ _ _ _ => trivial)⟩⟩ rfl hn hls hst (lv_room hcat) hdg hcs) hS (fun q _ h => hFc q h) hFc (fun u t H1 locs1 ht hvm hw2 hB hz1 hk1 hS1 => ?_)
  obtain ⟨hP1, hD1⟩ := hB
  rw [ht] at hP1
  obtain ⟨hP2, hD2⟩ := va_join (wr := wr) (w1 := w1) hP hD isC isR hC hRr ndR hdis hk1 hFc hP1 hD1
  exact kk H1 locs1 (hP2.sub isF (sub_of_map hF)) (hD2.sub isF ndF hF) hS1
/-! array places by a number -/
theorem r_iald (hexec : p.tables.exec = Jvm.exec) (hb : c.code = cc) (hK : va_K G.1 CL (tyG G) s) (hP : va_P G.1 CL w H) (q0 : Nat) {a n j : Nat} {f : Nat → Int32} (ha : w[q0]? = some (a, .inl (G.2 0, n, .inl f))) {i : Int32} (hin : vp_in i n) (hj : i.toNatClampNeg = j) (hdg : decode cc pc = .ok (.iaload, 1))
    (kk : W p l e R s m args below meth c H locs cells slots Q (F0 m (pc + 1) ls (.int (f j) :: rest))) : W p l e R s m args below meth c H locs cells slots Q (F0 m pc ls (.int i :: .ref a :: rest)) := by
  subst hj; exact va_iald hexec hb hK hP q0 0 ha rfl hin hdg kk
theorem r_bald (hexec : p.tables.exec = Jvm.exec) (hb : c.code = cc) (hK : va_K G.1 CL (tyG G) s) (hP : va_P G.1 CL w H) (q0 : Nat) {a n j : Nat} {f : Nat → Int32} (ha : w[q0]? = some (a, .inl (G.2 1, n, .inl f))) {i : Int32} (hin : vp_in i n) (hj : i.toNatClampNeg = j) (hdg : decode cc pc = .ok (.baload, 1))
    (kk : W p l e R s m args below meth c H locs cells slots Q (F0 m (pc + 1) ls (.int (f j) :: rest))) : W p l e R s m args below meth c H locs cells slots Q (F0 m pc ls (.int i :: .ref a :: rest)) := by
  subst hj; exact va_bald hexec hb hK hP q0 1 ha rfl hin hdg kk
theorem r_zald (hexec : p.tables.exec = Jvm.exec) (hb : c.code = cc) (hK : va_K G.1 CL (tyG G) s) (hP : va_P G.1 CL w H) (q0 : Nat) {a n j : Nat} {f : Nat → Int32} (ha : w[q0]? = some (a, .inl (G.2 2, n, .inl f))) {i : Int32} (hin : vp_in i n) (hj : i.toNatClampNeg = j) (hdg : decode cc pc = .ok (.baload, 1))
    (kk : W p l e R s m args below meth c H locs cells slots Q (F0 m (pc + 1) ls (.int (f j) :: rest))) : W p l e R s m args below meth c H locs cells slots Q (F0 m pc ls (.int i :: .ref a :: rest)) := by
  subst hj; exact va_zald hexec hb hK hP q0 2 ha rfl hin hdg kk
theorem r_iast (hexec : p.tables.exec = Jvm.exec) (hb : c.code = cc) (hK : va_K G.1 CL (tyG G) s) (hP : va_P G.1 CL w H) (hD : va_D A w) (hS : va_S A s.heap H locs) (q0 : Nat) {a n j : Nat} {f : Nat → Int32} (ha : w[q0]? = some (a, .inl (G.2 0, n, .inl f))) {i x : Int32} (hin : vp_in i n) (hj : i.toNatClampNeg = j) (hdg : decode cc pc = .ok (.iastore, 1))
    (kk : ∀ (H1 : Heap) (locs1 : List Loc), va_P G.1 CL (w.set q0 (a, .inl (G.2 0, n, .inl (upd f j x)))) H1 → va_D A (w.set q0 (a, .inl (G.2 0, n, .inl (upd f j x)))) → va_S A s.heap H1 locs1 → W p l e R s m args below meth c H1 locs1 cells slots Q (F0 m (pc + 1) ls rest)) : W p l e R s m args below meth c H locs cells slots Q (F0 m pc ls (.int x :: .int i :: .ref a :: rest)) := by
  subst hj; exact va_iast hexec hb hK hP hD hS q0 0 ha rfl hin hdg kk
theorem r_bast (hexec : p.tables.exec = Jvm.exec) (hb : c.code = cc) (hK : va_K G.1 CL (tyG G) s) (hP : va_P G.1 CL w H) (hD : va_D A w) (hS : va_S A s.heap H locs) (q0 : Nat) {a n j : Nat} {f : Nat → Int32} (ha : w[q0]? = some (a, .inl (G.2 1, n, .inl f))) {i x : Int32} (hin : vp_in i n) (hj : i.toNatClampNeg = j) (hdg : decode cc pc = .ok (.bastore, 1))
    (kk : ∀ (H1 : Heap) (locs1 : List Loc), va_P G.1 CL (w.set q0 (a, .inl (G.2 1, n, .inl (upd f j (vp_nar .byte x))))) H1 → va_D A (w.set q0 (a, .inl (G.2 1, n, .inl (upd f j (vp_nar .byte x))))) → va_S A s.heap H1 locs1 → W p l e R s m args below meth c H1 locs1 cells slots Q (F0 m (pc + 1) ls rest)) : W p l e R s m args below meth c H locs cells slots Q (F0 m pc ls (.int x :: .int i :: .ref a :: rest)) := by
  subst hj; exact va_bast hexec hb hK hP hD hS q0 1 ha rfl hin hdg kk
theorem r_zast (hexec : p.tables.exec = Jvm.exec) (hb : c.code = cc) (hK : va_K G.1 CL (tyG G) s) (hP : va_P G.1 CL w H) (hD : va_D A w) (hS : va_S A s.heap H locs) (q0 : Nat) {a n j : Nat} {f : Nat → Int32} (ha : w[q0]? = some (a, .inl (G.2 2, n, .inl f))) {i x : Int32} (hin : vp_in i n) (hj : i.toNatClampNeg = j) (hdg : decode cc pc = .ok (.bastore, 1))
    (kk : ∀ (H1 : Heap) (locs1 : List Loc), va_P G.1 CL (w.set q0 (a, .inl (G.2 2, n, .inl (upd f j (vp_nar .boolean x))))) H1 → va_D A (w.set q0 (a, .inl (G.2 2, n, .inl (upd f j (vp_nar .boolean x))))) → va_S A s.heap H1 locs1 → W p l e R s m args below meth c H1 locs1 cells slots Q (F0 m (pc + 1) ls rest)) : W p l e R s m args below meth c H locs cells slots Q (F0 m pc ls (.int x :: .int i :: .ref a :: rest)) := by
  subst hj; exact va_zast hexec hb hK hP hD hS q0 2 ha rfl hin hdg kk
theorem r_aald (hexec : p.tables.exec = Jvm.exec) (hb : c.code = cc) (hK : va_K G.1 CL (tyG G) s) (hP : va_P G.1 CL w H) (q0 : Nat) {a n j : Nat} {f : Nat → Nat} (ha : w[q0]? = some (a, .inl (G.2 3, n, .inr (.inr (.inr (.inr (fun i => some (f i)))))))) {i : Int32} (hin : vp_in i n) (hj : i.toNatClampNeg = j) (hdg : decode cc pc = .ok (.aaload, 1))
    (kk : W p l e R s m args below meth c H locs cells slots Q (F0 m (pc + 1) ls (.ref (f j) :: rest))) : W p l e R s m args below meth c H locs cells slots Q (F0 m pc ls (.int i :: .ref a :: rest)) := by
  subst hj; exact va_aldq hexec hb hK hP q0 3 ha rfl hin hdg kk
end OWNK

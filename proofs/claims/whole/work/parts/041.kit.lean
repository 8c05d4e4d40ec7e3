theorem nz {y : Int32} (h : (!decide (y = 0)) = true) : ¬ y = 0 := by simpa using h
def cpo (sp dp n : Int32) (n0 n1 : Nat) : Bool := decide (¬ sp < 0 ∧ ¬ dp < 0 ∧ ¬ n < 0 ∧ sp.toNatClampNeg + n.toNatClampNeg ≤ n0 ∧ dp.toNatClampNeg + n.toNatClampNeg ≤ n1)
theorem cpo_ok {sp dp n : Int32} {n0 n1 : Nat} (h : cpo sp dp n n0 n1 = true) : ¬ sp < 0 ∧ ¬ dp < 0 ∧ ¬ n < 0 ∧ sp.toNatClampNeg + n.toNatClampNeg ≤ n0 ∧ dp.toNatClampNeg + n.toNatClampNeg ≤ n1 := of_decide_eq_true h
theorem six6 {j : Nat} {P : Prop} (h : j < 6) (k0 : j = 0 → P) (k1 : j = 1 → P) (k2 : j = 2 → P) (k3 : j = 3 → P) (k4 : j = 4 → P) (k5 : j = 5 → P) : P := by
  rcases (by omega : j = 0 ∨ j = 1 ∨ j = 2 ∨ j = 3 ∨ j = 4 ∨ j = 5) with z | z | z | z | z | z
  · exact k0 z
  · exact k1 z
  · exact k2 z
  · exact k3 z
  · exact k4 z
  · exact k5 z
theorem six2 {j : Nat} {P : Prop} (h : j < 2) (k0 : j = 0 → P) (k1 : j = 1 → P) : P := by
  rcases (by omega : j = 0 ∨ j = 1) with z | z
  · exact k0 z
  · exact k1 z
section OWNS
variable {p : Program} {l : Launch} {e : Env} {R : Room} {s : State} {m : MethodId} {args : Array Value} {below : List Frame} {meth : Method} {c : Code} {H : Heap} {locs : List Loc} {cells slots : Nat} {Q : State → Prop}
variable {cc : ByteArray} {pc tgt : Nat} {ls : Array Slot} {rest : List Value} {x k : Int32}
theorem sw_in {dflt lo hi off : Int} {offs : Array Int} {len : Nat} (e9 : x = k) (hx : p.tables.exec = Jvm.exec) (hb : c.code = cc) (hdg : decode cc pc = .ok (.tableswitch dflt lo hi offs, len)) (h1 : ¬ k.toInt < lo) (h2 : ¬ hi < k.toInt) (ho : offs[(k.toInt - lo).toNat]? = some off) (ht : (pc : Int) + off = (tgt : Int))
    (kk : W p l e R s m args below meth c H locs cells slots Q (F0 m tgt ls rest)) : W p l e R s m args below meth c H locs cells slots Q (F0 m pc ls (.int x :: rest)) := by
  subst e9; exact lv_tableIn hx hb hdg h1 h2 ho ht kk
theorem sl_in {dflt off : Int} {ps : Array (Int × Int)} {len : Nat} (e9 : x = k) (hx : p.tables.exec = Jvm.exec) (hb : c.code = cc) (hdg : decode cc pc = .ok (.lookupswitch dflt ps, len)) (hp : (ps.toList.zip (ps.toList.drop 1)).all (fun (a, next) => a.1 < next.1) = true) (ho : Op.lookupswitch.offset ps.toList dflt k.toInt = off) (ht : (pc : Int) + off = (tgt : Int))
    (kk : W p l e R s m args below meth c H locs cells slots Q (F0 m tgt ls rest)) : W p l e R s m args below meth c H locs cells slots Q (F0 m pc ls (.int x :: rest)) := by
  subst e9; exact lv_lookup hx hb hdg hp ho ht kk
theorem sw_out {dflt lo hi : Int} {offs : Array Int} {len N : Nat} (hx : p.tables.exec = Jvm.exec) (hb : c.code = cc) (hdg : decode cc pc = .ok (.tableswitch dflt lo hi offs, len)) (h : ∀ j : Nat, j < N → ¬ x = Int32.ofInt (lo + j)) (hh : hi < lo + N) (ht : (pc : Int) + dflt = (tgt : Int))
    (kk : W p l e R s m args below meth c H locs cells slots Q (F0 m tgt ls rest)) : W p l e R s m args below meth c H locs cells slots Q (F0 m pc ls (.int x :: rest)) := by
  refine lv_tableOut hx hb hdg ?_ ht kk
  by_cases h1 : x.toInt < lo
  · exact Or.inl h1
  · by_cases h2 : hi < x.toInt
    · exact Or.inr h2
    · refine absurd ?_ (h (x.toInt - lo).toNat (by omega))
      have e1 : lo + (((x.toInt - lo).toNat : Nat) : Int) = x.toInt := by omega
      rw [e1, Int32.ofInt_toInt]
end OWNS
theorem nb0 : narrow .boolean (.int 0) = .int 0 := rfl
theorem nb1 : narrow .boolean (.int 1) = .int 1 := rfl

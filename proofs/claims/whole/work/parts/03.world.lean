/-! 03: the memory, the two worlds (the bench's 98 cells, the model's 9), rows over them -/
abbrev Mem : Type := (Nat → Nat → Int32) × (Nat → Nat → Int64)
abbrev En : Type := va_G × (Nat → ClassId) × (Nat → Nat)
def ui (M : Mem) (i k : Nat) (v : Int32) : Mem := (fun j => if j = i then upd (M.1 i) k v else M.1 j, M.2)
def ul (M : Mem) (i k : Nat) (v : Int64) : Mem := (M.1, fun j => if j = i then vp_updL (M.2 i) k v else M.2 j)
def bnd {α β : Type} (v : α) (b : α → β) : β := b v
def oc {β : Type} (o : Option Nat) (a : β) (b : Nat → β) : β := match o with
  | none => a
  | some i => b i
theorem ui_same {M : Mem} {i k : Nat} {v : Int32} : (ui M i k v).1 i = upd (M.1 i) k v := if_pos rfl
theorem ui_ne {M : Mem} {i k j : Nat} {v : Int32} (h : j ≠ i) : (ui M i k v).1 j = M.1 j := if_neg h
theorem ui_l {M : Mem} {i k : Nat} {v : Int32} : (ui M i k v).2 = M.2 := rfl
theorem ul_same {M : Mem} {i k : Nat} {v : Int64} : (ul M i k v).2 i = vp_updL (M.2 i) k v := if_pos rfl
theorem ul_ne {M : Mem} {i k j : Nat} {v : Int64} (h : j ≠ i) : (ul M i k v).2 j = M.2 j := if_neg h
theorem ul_i {M : Mem} {i k : Nat} {v : Int64} : (ul M i k v).1 = M.1 := rfl
/-- the cells of the bench, by number: 0 the bench, 1 its questions, 2 board, 3 value, 4 total, 5 contest, 6 its differences, 7 mix, 8 its documents, 9 fromSecond, 10.. questions, 18.. grades, 26.. rows' places, 34.. rows, 66.. rows' documents -/
def celK (E : Nat → ClassId) (ad : Nat → Nat) (i : Nat) (u : Nat → Int32) (w : Nat → Int64) : va_E :=
  if i = 0 then .inr (5, [.ref (ad 1), .ref (ad 2), .ref (ad 3), .ref (ad 4), .ref (ad 5), .ref (ad 7)])
  else if i = 1 then .inl (E 4, 8, .inr (.inr (.inr (.inr (fun j => some (ad (10 + j)))))))
  else if i < 5 then .inr (1, [.long (w 0), .long (w 1)])
  else if i = 5 then .inr (0, [.ref (ad 6), .long (w 1), .int (u 2)])
  else if i = 6 then .inl (E 1, 8, .inr (.inl w))
  else if i = 7 then .inr (2, [.ref (ad 8), .ref (ad 9), .int (u 2), .int (u 3), .int (u 4), .int (u 5), .int (u 6)])
  else if i = 8 then .inl (E 0, 16, .inl u)
  else if i = 9 then .inl (E 2, 16, .inl u)
  else if i < 18 then .inr (3, [.ref (ad (i + 8)), .ref (ad (i + 16))])
  else if i < 26 then .inl (E 0, 24, .inl u)
  else if i < 34 then .inl (E 3, 4, .inr (.inr (.inr (.inr (fun j => some (ad (34 + 4 * (i - 26) + j)))))))
  else if i < 66 then .inr (4, [.ref (ad (i + 32)), .int (u 1), .int (u 2)])
  else .inl (E 0, 16, .inl u)
/-- the cells of the model: 0 itself, 1 grades, 2 rows, 3 sizes, 4 there, 5 tops, 6 bottoms, 7 laid, 8 bySecond -/
def celM (E : Nat → ClassId) (ad : Nat → Nat) (i : Nat) (u : Nat → Int32) (w : Nat → Int64) : va_E :=
  if i = 0 then .inr (6, [.ref (ad 1), .ref (ad 2), .ref (ad 3), .ref (ad 4), .long (w 4), .long (w 5), .long (w 6), .long (w 7), .ref (ad 5), .ref (ad 6), .int (u 10), .ref (ad 7), .ref (ad 8), .int (u 13)])
  else if i = 1 then .inl (E 0, 192, .inl u)
  else if i = 2 then .inl (E 0, 512, .inl u)
  else if i = 3 then .inl (E 0, 32, .inl u)
  else if i = 4 then .inl (E 2, 32, .inl u)
  else if i = 5 then .inl (E 1, 8, .inr (.inl w))
  else if i = 6 then .inl (E 1, 8, .inr (.inl w))
  else if i = 7 then .inl (E 0, 16, .inl u)
  else .inl (E 2, 16, .inl u)
def tysE (E : Nat → ClassId) : List (ClassId × FieldType) := [(E 0, .int), (E 1, .long), (E 2, .boolean), (E 3, .object RX7), (E 4, .object RX6)]
def cfB (b : Bool) : (Nat → ClassId) → (Nat → Nat) → Nat → (Nat → Int32) → (Nat → Int64) → va_E := if b then celK else celM
def nB (b : Bool) : Nat := if b then 98 else 9
def wsB (b : Bool) (G : En) (M : Mem) : va_W := (List.range (nB b)).map fun i => (G.2.2 i, cfB b G.2.1 G.2.2 i (M.1 i) (M.2 i))
theorem wsB_at {b : Bool} {G : En} {M : Mem} {i : Nat} (h : i < nB b) : (wsB b G M)[i]? = some (G.2.2 i, cfB b G.2.1 G.2.2 i (M.1 i) (M.2 i)) := by
  simp [wsB, h]
theorem wsB_set {b : Bool} {G : En} {M M' : Mem} {i : Nat} {e : va_E} (hi : i < nB b) (he : e = cfB b G.2.1 G.2.2 i (M'.1 i) (M'.2 i)) (h1 : ∀ j, j ≠ i → M'.1 j = M.1 j) (h2 : ∀ j, j ≠ i → M'.2 j = M.2 j) : (wsB b G M).set i (G.2.2 i, e) = wsB b G M' := by
  apply List.ext_getElem?
  intro j
  by_cases hj : j = i
  · subst hj
    rw [List.getElem?_set_self (by simp [wsB, hi]), wsB_at hi, he]
  · rw [List.getElem?_set_ne (Ne.symm hj)]
    by_cases hn : j < nB b
    · rw [wsB_at hn, wsB_at hn, h1 j hj, h2 j hj]
    · simp [wsB, hn]
/-- the clicks' table -/
def clI (j : Nat) : Int32 := if j = 0 then 20 else if j = 1 then 10 else if j = 2 then 30 else if j = 3 then 60 else 90
def clF (j : Nat) : Value := .int (clI j)
def nestK (U : State) : Prop := va_Nw (.methodLinkNest RX0 29 yX8_commonMultiple RX8) U ∧ va_Nw (.methodLinkNest RX1 16 yX8_commonDivisor RX8) U ∧ va_Nw (.methodLinkNest RX1 22 yX8_commonMultiple RX8) U ∧ va_Nw (.fieldLinkNest RX4 56 RX8 "CLICK_CHANCES" "[I" RX8) U
def clickK (A : Nat → Prop) (U : State) (H : Heap) : Prop := ∃ t : Nat, va_Z RX8 "CLICK_CHANCES" "[I" (.ref t) A U H ∧ va_T .int t 5 clF A U H
def okK (M : Mem) : Prop := ∀ i, 34 ≤ i → i < 66 → (M.1 i 2 = 0 ∨ M.1 i 2 = 1) ∧ 0 ≤ (M.1 i 1).toInt ∧ (M.1 i 1).toInt ≤ 16
def okM (M : Mem) : Prop := (∀ k, k < 32 → 0 ≤ (M.1 3 k).toInt ∧ (M.1 3 k).toInt ≤ 16) ∧ (∀ j, j < 512 → 0 ≤ (M.1 2 j).toInt ∧ (M.1 2 j).toInt ≤ 23) ∧ (∀ j, j < 16 → 0 ≤ (M.1 7 j).toInt ∧ (M.1 7 j).toInt ≤ 23) ∧ (0 ≤ (M.1 0 13).toInt ∧ (M.1 0 13).toInt ≤ 16) ∧ ¬ M.2 0 7 = 0
def okB (b : Bool) (M : Mem) : Prop := if b then okK M else okM M
def exB (b : Bool) (A : Nat → Prop) (U : State) (H : Heap) : Prop := b = true → nestK U ∧ clickK A U H
def WD (b : Bool) (G : En) (A : Nat → Prop) (M : Mem) (s : State) (H : Heap) : Prop := va_P G.1 vwCl (wsB b G M) H ∧ va_K G.1 vwCl (tysE G.2.1) s ∧ va_D A (wsB b G M) ∧ exB b A s H ∧ okB b M
theorem nestK.warm {s U : State} (hW : s.WarmedH U.vm) (h : nestK s) : nestK U := ⟨va_Nw.warmM hW h.1, va_Nw.warmM hW h.2.1, va_Nw.warmM hW h.2.2.1, va_Nw.warmF hW h.2.2.2⟩
theorem nestK.same {s U : State} (hv : s.vm = U.vm) (h : nestK s) : nestK U := ⟨va_Nw.same rfl hv h.1, va_Nw.same rfl hv h.2.1, va_Nw.same rfl hv h.2.2.1, va_Nw.same rfl hv h.2.2.2⟩
theorem clickK.moved {A : Nat → Prop} {u U : State} {H : Heap} (hvm : u.vm.Alike U.vm) (h : clickK A u H) : clickK A U H := by
  obtain ⟨t, h1, h2⟩ := h
  exact ⟨t, h1.moved hvm, h2.moved hvm⟩
theorem clickK.kept {A : Nat → Prop} {U : State} {H H1 : Heap} (h : clickK A U H) (hq : ∀ a : Nat, a < H.size → ¬ A a → H1[a]? = H[a]?) : clickK A U H1 := by
  obtain ⟨t, h1, h2⟩ := h
  exact ⟨t, h1.kept hq, h2.kept hq⟩
theorem WD.warm {b : Bool} {G : En} {A : Nat → Prop} {M : Mem} {s U : State} {H : Heap} (h : WD b G A M s H) (hU : U.heap = H) (hW : s.WarmedH U.vm) : WD b G A M U U.heap := by
  obtain ⟨h1, h2, h3, h4, h5⟩ := h
  subst hU
  exact ⟨h1, va_K.moved hW.alike h2, h3, fun e => ⟨(h4 e).1.warm hW, (h4 e).2.moved hW.alike⟩, h5⟩
theorem WD.calling {b : Bool} {G : En} {A : Nat → Prop} {M : Mem} {U : State} {g : JFrame} {mk : MethodId} {a : Array Value} (h : WD b G A M U U.heap) : WD b G A M (U.calling g mk a) (U.calling g mk a).heap := by
  obtain ⟨h1, h2, h3, h4, h5⟩ := h
  exact ⟨h1, va_K.moved (u := U) (U := U.calling g mk a) (Vm.Alike.refl U.vm) h2, h3, fun e => ⟨(h4 e).1.same (U := U.calling g mk a) rfl, (h4 e).2.moved (u := U) (U := U.calling g mk a) (Vm.Alike.refl U.vm)⟩, h5⟩
/-- behind a call: what came back, seen from the caller's tables -/
theorem WD.back {b : Bool} {G : En} {A : Nat → Prop} {M M' : Mem} {s t : State} {H H1 : Heap} (h : WD b G A M s H) (h' : WD b G A M' t t.heap) (ht : t.heap = H1) (hvm : s.vm.Alike t.vm) (hq : ∀ q : Nat, q < H.size → ¬ A q → H1[q]? = H[q]?) : WD b G A M' s H1 := by
  subst ht
  exact ⟨h'.1, va_K.moved hvm.symm h'.2.1, h'.2.2.1, fun e => ⟨(h.2.2.2.1 e).1, (h.2.2.2.1 e).2.kept hq⟩, h'.2.2.2.2⟩
abbrev PCw (b : Bool) (G : En) (A : Nat → Prop) (M : Mem) (av : List Value) : Array Value → State → Prop := va_Pc av (fun U => WD b G A M U U.heap)
theorem PCw.blind {b : Bool} {G : En} {A : Nat → Prop} {M : Mem} {av : List Value} : FrameBlind (PCw b G A M av) := fun _ _ _ _ h => ⟨h.1, h.2.calling⟩
/-- contracts of methods that only read: an int (a boolean), a long, a cell or null -/
def RdI (b : Bool) (l : Launch) (y : MethodName) (ws : List Cond) (rm : Room) (G : En) (A : Nat → Prop) (M : Mem) (av : List Value) (r : Int32) : Prop := Met l y ws rm (PCw b G A M av) (vp_Si (fun z => z = r)) 0 0 (fun _ => False)
def RdL (b : Bool) (l : Launch) (y : MethodName) (ws : List Cond) (rm : Room) (G : En) (A : Nat → Prop) (M : Mem) (av : List Value) (r : Int64) : Prop := Met l y ws rm (PCw b G A M av) (vp_Sl (fun z => z = r)) 0 0 (fun _ => False)
def RdO (b : Bool) (l : Launch) (y : MethodName) (ws : List Cond) (rm : Room) (G : En) (A : Nat → Prop) (M : Mem) (av : List Value) (r : Option Nat) : Prop := Met l y ws rm (PCw b G A M av) (va_Se G.2.2 (fun z => z = r)) 0 0 (fun _ => False)
/-- and of methods that write: nothing, an int, a long comes back, and the new memory -/
def WrV (b : Bool) (l : Launch) (y : MethodName) (ws : List Cond) (rm : Room) (G : En) (A : Nat → Prop) (M : Mem) (av : List Value) (r : Mem) : Prop := Met l y ws rm (PCw b G A M av) (va_Qv (fun u => u = r) (fun (u : Mem) t => WD b G A u t t.heap) A) 0 0 A
def WrI (b : Bool) (l : Launch) (y : MethodName) (ws : List Cond) (rm : Room) (G : En) (A : Nat → Prop) (M : Mem) (av : List Value) (r : Int32 × Mem) : Prop := Met l y ws rm (PCw b G A M av) (va_Qi (fun z u => (z, u) = r) (fun (u : Mem) t => WD b G A u t t.heap) A) 0 0 A
/-- the same, as what is to be reached in a walk -/
def TSi (below : List Frame) (args : Array Value) (s : State) (r : Int32) : State → Prop := MQ below (vp_Si (fun z => z = r)) args s 0 0 (fun _ => False)
def TSl (below : List Frame) (args : Array Value) (s : State) (r : Int64) : State → Prop := MQ below (vp_Sl (fun z => z = r)) args s 0 0 (fun _ => False)
def TSo (ad : Nat → Nat) (below : List Frame) (args : Array Value) (s : State) (r : Option Nat) : State → Prop := MQ below (va_Se ad (fun z => z = r)) args s 0 0 (fun _ => False)
def TQv (b : Bool) (G : En) (A : Nat → Prop) (below : List Frame) (args : Array Value) (s : State) (r : Mem) : State → Prop := MQ below (va_Qv (fun u => u = r) (fun (u : Mem) t => WD b G A u t t.heap) A) args s 0 0 A
def TQi (b : Bool) (G : En) (A : Nat → Prop) (below : List Frame) (args : Array Value) (s : State) (r : Int32 × Mem) : State → Prop := MQ below (va_Qi (fun z u => (z, u) = r) (fun (u : Mem) t => WD b G A u t t.heap) A) args s 0 0 A
section BODY
variable {b : Bool} {l : Launch} {y : MethodName} {ws ws' : List Cond} {rm : Room} {G : En} {A : Nat → Prop} {M : Mem} {av : List Value} {cc : ByteArray} {maxL : Nat} {ret : Option FieldType} {own : String}
theorem bodyW {Qc : Array Value → State → Outcome → State → Prop} {free : Addr → Prop} (hy : plainName y.cls = true) (hw : ws = Cond.code y cc maxL ret :: ws') (ho : y.cls = own) (hL : (lg_sl av).length ≤ maxL)
    (body : ∀ (p : Program) (e : Env) (s : State) (m : MethodId) (below : List Frame) (meth : Method) (c : Code), CallFix p m c cc maxL s av.toArray ws own → WD b G A M s s.heap → meth.sig.returnType = ret → meth.locks = false → ∀ ls : Array Slot, lv_has ls maxL (lv_args 0 av) → W p l e rm s m av.toArray below meth c s.heap [] 0 0 (MQ below Qc av.toArray s 0 0 free) (F0 m 0 ls [])) :
    Met l y ws rm (PCw b G A M av) Qc 0 0 free := by
  refine Met.ofW (cc := cc) (maxL := maxL) (ret := ret) hy hw ?_
  intro p e s m args below meth c s₁ B hml hv
  obtain ⟨rfl, hv⟩ := hv
  have hown : s.vm.findClass own = some m.cls := by rw [← ho]; exact findClass_of_methodNamed B.named
  have hl := lv_entry av (n := maxL) hL
  rw [lg_entry_eq]
  exact body p e s m below meth c ⟨B.exec, B.bytes, hml, hown, atoms_spec (ws := ws) B.pre⟩ hv B.returns B.notSynchronized _ hl
theorem RdI.of {r : Int32} (hy : plainName y.cls = true) (hw : ws = Cond.code y cc maxL ret :: ws') (ho : y.cls = own) (hL : (lg_sl av).length ≤ maxL)
    (body : ∀ (p : Program) (e : Env) (s : State) (m : MethodId) (below : List Frame) (meth : Method) (c : Code), CallFix p m c cc maxL s av.toArray ws own → WD b G A M s s.heap → meth.sig.returnType = ret → meth.locks = false → ∀ ls : Array Slot, lv_has ls maxL (lv_args 0 av) → W p l e rm s m av.toArray below meth c s.heap [] 0 0 (TSi below av.toArray s r) (F0 m 0 ls [])) :
    RdI b l y ws rm G A M av r := bodyW hy hw ho hL body
theorem RdL.of {r : Int64} (hy : plainName y.cls = true) (hw : ws = Cond.code y cc maxL ret :: ws') (ho : y.cls = own) (hL : (lg_sl av).length ≤ maxL)
    (body : ∀ (p : Program) (e : Env) (s : State) (m : MethodId) (below : List Frame) (meth : Method) (c : Code), CallFix p m c cc maxL s av.toArray ws own → WD b G A M s s.heap → meth.sig.returnType = ret → meth.locks = false → ∀ ls : Array Slot, lv_has ls maxL (lv_args 0 av) → W p l e rm s m av.toArray below meth c s.heap [] 0 0 (TSl below av.toArray s r) (F0 m 0 ls [])) :
    RdL b l y ws rm G A M av r := bodyW hy hw ho hL body
theorem RdO.of {r : Option Nat} (hy : plainName y.cls = true) (hw : ws = Cond.code y cc maxL ret :: ws') (ho : y.cls = own) (hL : (lg_sl av).length ≤ maxL)
    (body : ∀ (p : Program) (e : Env) (s : State) (m : MethodId) (below : List Frame) (meth : Method) (c : Code), CallFix p m c cc maxL s av.toArray ws own → WD b G A M s s.heap → meth.sig.returnType = ret → meth.locks = false → ∀ ls : Array Slot, lv_has ls maxL (lv_args 0 av) → W p l e rm s m av.toArray below meth c s.heap [] 0 0 (TSo G.2.2 below av.toArray s r) (F0 m 0 ls [])) :
    RdO b l y ws rm G A M av r := bodyW hy hw ho hL body
theorem WrV.of {r : Mem} (hy : plainName y.cls = true) (hw : ws = Cond.code y cc maxL ret :: ws') (ho : y.cls = own) (hL : (lg_sl av).length ≤ maxL)
    (body : ∀ (p : Program) (e : Env) (s : State) (m : MethodId) (below : List Frame) (meth : Method) (c : Code), CallFix p m c cc maxL s av.toArray ws own → WD b G A M s s.heap → meth.sig.returnType = ret → meth.locks = false → ∀ ls : Array Slot, lv_has ls maxL (lv_args 0 av) → va_S A s.heap s.heap [] → W p l e rm s m av.toArray below meth c s.heap [] 0 0 (TQv b G A below av.toArray s r) (F0 m 0 ls [])) :
    WrV b l y ws rm G A M av r := bodyW hy hw ho hL (fun p e s m below meth c X hw hr hk ls hl => body p e s m below meth c X hw hr hk ls hl va_S.rf)
theorem WrI.of {r : Int32 × Mem} (hy : plainName y.cls = true) (hw : ws = Cond.code y cc maxL ret :: ws') (ho : y.cls = own) (hL : (lg_sl av).length ≤ maxL)
    (body : ∀ (p : Program) (e : Env) (s : State) (m : MethodId) (below : List Frame) (meth : Method) (c : Code), CallFix p m c cc maxL s av.toArray ws own → WD b G A M s s.heap → meth.sig.returnType = ret → meth.locks = false → ∀ ls : Array Slot, lv_has ls maxL (lv_args 0 av) → va_S A s.heap s.heap [] → W p l e rm s m av.toArray below meth c s.heap [] 0 0 (TQi b G A below av.toArray s r) (F0 m 0 ls [])) :
    WrI b l y ws rm G A M av r := bodyW hy hw ho hL (fun p e s m below meth c X hw hr hk ls hl => body p e s m below meth c X hw hr hk ls hl va_S.rf)
end BODY
section STEPS
variable {p : Program} {l : Launch} {e : Env} {R : Room} {s : State} {m : MethodId} {args : Array Value} {below : List Frame} {meth : Method} {c : Code} {H : Heap} {locs : List Loc} {cells slots : Nat} {g : JFrame}
variable {cc : ByteArray} {nL pc : Nat} {Ts : List Cond} {own : String} {ls : Array Slot} {rest : List Value} {b : Bool} {G : En} {A : Nat → Prop} {M : Mem}
theorem tpp {τ : Type} {Q : τ → State → Prop} {q : Prop} {d : Decidable q} {u v : τ} (h : q) (k : W p l e R s m args below meth c H locs cells slots (Q u) g) : W p l e R s m args below meth c H locs cells slots (Q (if q then u else v)) g := by rw [if_pos h]; exact k
theorem tpn {τ : Type} {Q : τ → State → Prop} {q : Prop} {d : Decidable q} {u v : τ} (h : ¬ q) (k : W p l e R s m args below meth c H locs cells slots (Q v) g) : W p l e R s m args below meth c H locs cells slots (Q (if q then u else v)) g := by rw [if_neg h]; exact k
theorem tpb {τ α : Type} {Q : τ → State → Prop} {v : α} {f : α → τ} (k : ∀ x, x = v → W p l e R s m args below meth c H locs cells slots (Q (f x)) g) : W p l e R s m args below meth c H locs cells slots (Q (bnd v f)) g := k v rfl
/-- a name for the int (the long) on top, in the frame and in what is to be reached -/
theorem tni {τ : Type} {Q : τ → State → Prop} {v : Int32} {f : Int32 → τ} (k : ∀ x, x = v → W p l e R s m args below meth c H locs cells slots (Q (f x)) (F0 m pc ls (.int x :: rest))) : W p l e R s m args below meth c H locs cells slots (Q (bnd v f)) (F0 m pc ls (.int v :: rest)) := k v rfl
theorem tnl {τ : Type} {Q : τ → State → Prop} {v : Int64} {f : Int64 → τ} (k : ∀ x, x = v → W p l e R s m args below meth c H locs cells slots (Q (f x)) (F0 m pc ls (.long x :: rest))) : W p l e R s m args below meth c H locs cells slots (Q (bnd v f)) (F0 m pc ls (.long v :: rest)) := k v rfl
/-- a cell or null on top: two ways -/
theorem tno {τ : Type} {Q : τ → State → Prop} {ad : Nat → Nat} {v : Option Nat} {u : τ} {f : Nat → τ} (kn : v = none → W p l e R s m args below meth c H locs cells slots (Q u) (F0 m pc ls (.null :: rest))) (ks : ∀ i, v = some i → W p l e R s m args below meth c H locs cells slots (Q (f i)) (F0 m pc ls (.ref (ad i) :: rest))) : W p l e R s m args below meth c H locs cells slots (Q (oc v u f)) (F0 m pc ls (va_re ad v :: rest)) := by
  cases v with
  | none => exact kn rfl
  | some i => exact ks i rfl
end STEPS

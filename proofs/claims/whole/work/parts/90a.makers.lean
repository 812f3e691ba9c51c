/-! 90a: what makes an object: contracts over lists of cells -/
theorem va_RA.nm {U : State} {cA : ClassId} {ty : FieldType} (h : va_RA U cA ty) : U.vm.findClass ("[" ++ ty.toString) = some cA := by
  cases ty with
  | object C => obtain ⟨kA, comp, -, -, -, h4⟩ := h; exact h4
  | _ => exact h
theorem va_K.one {D : va_G} {cl : List vw_C} {tys : List (ClassId × FieldType)} {s : State} {cA cB : ClassId} {ty : FieldType} {t0 : Nat} (hK : va_K D cl (tys ++ [(cB, ty)]) s) (ht : tys[t0]? = some (cA, ty)) : cB = cA := by
  have h1 := (hK.2 tys.length (cB, ty) (by simp)).2.nm
  have hl : t0 < tys.length := (List.getElem?_eq_some_iff.mp ht).1
  have h2 := (hK.2 t0 (cA, ty) (by rw [List.getElem?_append_left hl]; exact ht)).2.nm
  rw [h1] at h2
  exact Option.some.inj h2
theorem arrV_congr (cA : ClassId) {n : Nat} {f g : Nat → Value} (h : ∀ j, j < n → f j = g j) : arrV cA n f = arrV cA n g := by
  unfold arrV
  congr 1
  congr 1
  funext j
  exact h j.val j.isLt
theorem va_joinA {A0 : Nat → Prop} {D : va_G} {cl : List vw_C} {wr w0 w1 : va_W} {H H1 : Heap} (hP : va_P D cl (wr ++ w0) H) (hD : va_D A0 (wr ++ w0)) (hk : ∀ q : Nat, q < H.size → ¬ va_A w0 H.size q → H1[q]? = H[q]?) (hF : ∀ q, va_A w0 H.size q → A0 q) (hP1 : va_P D cl w1 H1) (hD1 : va_D (va_A w0 H.size) w1) : va_P D cl (wr ++ w1) H1 ∧ va_D A0 (wr ++ w1) := by
  have hr : ∀ (k : Nat) (q : Nat × va_E), wr[k]? = some q → (wr ++ w0)[k]? = some q := fun k q hq => by
    rw [List.getElem?_append_left (List.getElem?_eq_some_iff.mp hq).1]; exact hq
  have hPr : va_P D cl wr H := fun k q hq => hP k q (hr k q hq)
  have hDr : va_D A0 wr := ⟨fun i j p q h1 h2 h3 => hD.1 i j p q (hr i p h1) (hr j q h2) h3, fun k q h => hD.2 k q (hr k q h)⟩
  have hout : ∀ (k : Nat) (q : Nat × va_E), wr[k]? = some q → ¬ va_A w0 H.size q.1 := by
    intro k q hq hz
    rcases hz with ⟨j, e, hj⟩ | hz
    · have h1 : (wr ++ w0)[wr.length + j]? = some (q.1, e) := by
        rw [List.getElem?_append_right (by omega), show wr.length + j - wr.length = j by omega]; exact hj
      have h2 := hD.1 k (wr.length + j) q (q.1, e) (hr k q hq) h1 rfl
      have h3 := (List.getElem?_eq_some_iff.mp hq).1
      omega
    · have := (hPr k q hq).lt
      omega
  refine ⟨(hPr.kept (fun k q hq => hk q.1 ((hPr k q hq).lt) (hout k q hq))).app hP1, hDr.app (hD1.weaken (fun _ _ _ h => hF _ h)) ?_⟩
  intro i j p q h1 h2 h3
  exact hout i p h1 (by rw [h3]; exact hD1.2 j q h2)
/-- a maker's contract: of the cells w0 (the new object itself) come the cells wf u -/
def Mk {S : Type} (l : Launch) (y : MethodName) (ws : List Cond) (rm : Room) (D : va_G) (E : Nat → ClassId) (X : State → Prop) (w0 : va_W) (av : List Value) (post : S → Prop) (wf : S → va_W) (mc ms : Nat) : Prop :=
  ∀ sz : Nat, Met l y ws rm (va_Pc av (fun U => U.heap.size = sz ∧ va_P D vwCl w0 U.heap ∧ va_K D vwCl (tysE E) U ∧ va_D (fun _ => True) w0 ∧ X U)) (va_Qv post (fun u t => va_P D vwCl (wf u) t.heap ∧ va_D (va_A w0 sz) (wf u)) (va_A w0 sz)) mc ms (va_A w0 sz)
def TM {S : Type} (D : va_G) (below : List Frame) (av : List Value) (s : State) (A : Nat → Prop) (post : S → Prop) (wf : S → va_W) (mc ms : Nat) : State → Prop := MQ below (va_Qv post (fun u t => va_P D vwCl (wf u) t.heap ∧ va_D A (wf u)) A) av.toArray s mc ms A
theorem Mk.of {S : Type} {l : Launch} {y : MethodName} {ws ws' : List Cond} {rm : Room} {D : va_G} {E : Nat → ClassId} {X : State → Prop} {w0 : va_W} {av : List Value} {post : S → Prop} {wf : S → va_W} {mc ms : Nat} {cc : ByteArray} {maxL : Nat} {own : String} (hy : plainName y.cls = true) (hw : ws = Cond.code y cc maxL none :: ws') (ho : y.cls = own) (hL : (lg_sl av).length ≤ maxL)
    (body : ∀ (p : Program) (e : Env) (s : State) (m : MethodId) (below : List Frame) (meth : Method) (c : Code) (A : Nat → Prop), CallFix p m c cc maxL s av.toArray ws own → meth.sig.returnType = none → meth.locks = false → meth.name = y.name → va_K D vwCl (tysE E) s → X s → va_P D vwCl w0 s.heap → va_D A w0 → (∀ q, s.heap.size ≤ q → A q) → va_S A s.heap s.heap [] → ∀ ls : Array Slot, lv_has ls maxL (lv_args 0 av) → W p l e rm s m av.toArray below meth c s.heap [] 0 0 (TM D below av s A post wf mc ms) (F0 m 0 ls [])) :
    Mk l y ws rm D E X w0 av post wf mc ms := by
  intro sz
  refine Met.ofW (cc := cc) (maxL := maxL) (ret := none) hy hw ?_
  intro p e s m args below meth c s₁ B hml hv
  obtain ⟨rfl, hsz, hP, hK, hD0, hX⟩ := hv
  have hown : s.vm.findClass own = some m.cls := by rw [← ho]; exact findClass_of_methodNamed B.named
  have hin : meth.name = y.name := (name_of_methodNamed B.named B.method).1
  subst hsz
  have hl := lv_entry av (n := maxL) hL
  rw [lg_entry_eq]
  exact body p e s m below meth c (va_A w0 s.heap.size) ⟨B.exec, B.bytes, hml, hown, atoms_spec (ws := ws) B.pre⟩ B.returns B.notSynchronized hin hK hX hP hD0.self (fun q h => Or.inr h) va_S.rf _ hl
section MK
variable {p : Program} {l : Launch} {e : Env} {R : Room} {s : State} {m : MethodId} {args : Array Value} {below : List Frame} {meth : Method} {c : Code} {H : Heap} {locs : List Loc} {cells slots : Nat} {Q : State → Prop}
variable {cc : ByteArray} {pc nL : Nat} {ls : Array Slot} {rest : List Value} {D : va_G} {cl : List vw_C} {A : Nat → Prop} {a : Nat} {tys : List (ClassId × FieldType)} {ws wr w0 : va_W} {H0 : Heap} {Ts : List Cond} {own : String} {E : Nat → ClassId}
theorem mk_ret {S : Type} {post : S → Prop} {wf : S → va_W} {av : List Value} (u : S) (hx : p.tables.exec = Jvm.exec) (hb : c.code = cc) (hr : meth.sig.returnType = none) (hlocks : meth.locks = false) (hu : post u) (hP : va_P D vwCl (wf u) H) (hD : va_D A (wf u)) (hS : va_S A s.heap H locs) (hdg : decode cc pc = .ok (.return_, 1)) : W p l e R s m av.toArray below meth c H locs cells slots (TM D below av s A post wf cells slots) (F0 m pc ls []) :=
  W.vret hx hb hr (fun t ht hW => ⟨⟨u, rfl, hu, by rw [ht]; exact hP, hD⟩, hS.F ht⟩) hS.2.2 hdg hlocks
/-- a new row of numbers, of the type's one class -/
theorem mk_newa (t0 : Nat) {cA : ClassId} (hx : p.tables.exec = Jvm.exec) (hb : c.code = cc) {atype : ArrayType} (harr : (Cond.arrayClass (newarray.typeOf atype)).before args s = true) {ty : FieldType} (hty : newarray.typeOf atype = ty) (ht : tys[t0]? = some (cA, ty)) (hK : va_K D cl tys s) (hP : va_P D cl ws H) (hD : va_D A ws) (hS : va_S A H0 H locs) (hA : ∀ q, H0.size ≤ q → A q)
    {n : Int32} {N' : Nat} {a0 : vp_A} (ha : ∀ cA : ClassId, vp_cell cA a0 = arrV cA N' (fun _ => defaultValue ty)) (hn : ¬ n < 0) (hN : n.toNatClampNeg = N') (hbytes : N' * componentBytes ty ≤ 536870912) (hcells : cells + 1 ≤ R.cells) (hslots : slots + N' ≤ R.slots) (hdg : decode cc pc = .ok (.newarray atype, 2))
    (kk : ∀ (q : Nat) (H1 : Heap), va_P D cl (ws ++ [(q, .inl (cA, a0))]) H1 → va_D A (ws ++ [(q, .inl (cA, a0))]) → va_S A H0 H1 locs → W p l e R s m args below meth c H1 locs (cells + 1) (slots + N') Q (F0 m (pc + 2) ls (.ref q :: rest))) : W p l e R s m args below meth c H locs cells slots Q (F0 m pc ls (.int n :: rest)) := by
  refine va_newa hx hb harr hty hK hP hD hS hA ha hn hN hbytes hcells hslots hdg (fun q cB H1 hK1 hP1 hD1 hS1 => ?_)
  have z := hK1.one ht
  subst z
  exact kk q H1 hP1 hD1 hS1
theorem mk_newq (t0 : Nat) {cA : ClassId} (hx : p.tables.exec = Jvm.exec) (hb : c.code = cc) {C : String} {index : Nat} (hown : s.vm.findClass own = some m.cls) (hclink : (Cond.classLink own index C).before args s = true) (hover : va_AO C s) (ht : tys[t0]? = some (cA, .object C)) (hK : va_K D cl tys s) (hP : va_P D cl ws H) (hD : va_D A ws) (hS : va_S A H0 H locs) (hA : ∀ q, H0.size ≤ q → A q)
    {n : Int32} {N' : Nat} (hn : ¬ n < 0) (hN : n.toNatClampNeg = N') (hbytes : N' * 4 ≤ 536870912) (hcells : cells + 1 ≤ R.cells) (hslots : slots + N' ≤ R.slots) (hdg : decode cc pc = .ok (.anewarray index, 3))
    (kk : ∀ (q : Nat) (H1 : Heap), va_P D cl (ws ++ [(q, .inl (cA, N', .inr (.inr (.inr (.inr (fun _ => none))))))]) H1 → va_D A (ws ++ [(q, .inl (cA, N', .inr (.inr (.inr (.inr (fun _ => none))))))]) → va_S A H0 H1 locs → W p l e R s m args below meth c H1 locs (cells + 1) (slots + N') Q (F0 m (pc + 3) ls (.ref q :: rest))) : W p l e R s m args below meth c H locs cells slots Q (F0 m pc ls (.int n :: rest)) := by
  refine va_newq hx hb hown hclink hover hK hP hD hS hA hn hN hbytes hcells hslots hdg (fun q cB H1 hK1 hP1 hD1 hS1 => ?_)
  have z := hK1.one ht
  subst z
  exact kk q H1 hP1 hD1 hS1
/-- behind a maker's call: its cells beside the rest -/
theorem mk_call {S : Type} {post : S → Prop} {wf : S → va_W} {mc ms : Nat} {st0 : List Value} {av : Array Value} (hrun : va_Run p l e R s m args below meth c H locs cells slots mc ms (F0 m pc ls st0) rest (va_Qv post (fun u t => va_P D vwCl (wf u) t.heap ∧ va_D (va_A w0 H.size) (wf u)) (va_A w0 H.size) av) (va_A w0 H.size)) (hP : va_P D vwCl (wr ++ w0) H) (hD : va_D A (wr ++ w0)) (hS : va_S A H0 H locs) (hA : ∀ q, H0.size ≤ q → A q)
    (kk : ∀ (u : S) (H1 : Heap) (locs1 : List Loc), post u → va_P D vwCl (wr ++ wf u) H1 → va_D A (wr ++ wf u) → va_S A H0 H1 locs1 → W p l e R s m args below meth c H1 locs1 (cells + mc) (slots + ms) Q (F0 m (pc + 3) ls rest)) : W p l e R s m args below meth c H locs cells slots Q (F0 m pc ls st0) := by
  have hF : ∀ q, va_A w0 H.size q → A q := by
    intro q hq
    rcases hq with ⟨k, e, hk⟩ | hq
    · exact hD.2 (wr.length + k) (q, e) (by rw [List.getElem?_append_right (by omega), show wr.length + k - wr.length = k by omega]; exact hk)
    · exact hA q (Nat.le_trans hS.1 hq)
  refine va_callv hrun hS (fun q _ h => hF q h) hF (fun u t H1 locs1 ht hvm hp hB hz hk hS1 => ?_)
  obtain ⟨hP1, hD1⟩ := hB
  rw [ht] at hP1
  obtain ⟨hP2, hD2⟩ := va_joinA hP hD hk hF hP1 hD1
  exact kk u H1 locs1 hp hP2 hD2 hS1
theorem mk_pre {av : List Value} {X : State → Prop} (hP : va_P D vwCl (wr ++ w0) H) (hD : va_D A (wr ++ w0)) (hK : va_K D vwCl (tysE E) s) (hX : X s) (hXc : ∀ (U : State) (g : JFrame) (mk : MethodId) (a : Array Value), X U → X (U.calling g mk a)) (hXw : ∀ U : State, s.WarmedH U.vm → X U) : PreS s H (va_Pc av (fun U => U.heap.size = H.size ∧ va_P D vwCl w0 U.heap ∧ va_K D vwCl (tysE E) U ∧ va_D (fun _ => True) w0 ∧ X U)) av := by
  have hr : ∀ (k : Nat) (q : Nat × va_E), w0[k]? = some q → (wr ++ w0)[wr.length + k]? = some q := fun k q hk => by
    rw [List.getElem?_append_right (by omega), show wr.length + k - wr.length = k by omega]; exact hk
  have hP0 : va_P D vwCl w0 H := fun k q hk => hP _ q (hr k q hk)
  have hD0 : va_D (fun _ => True) w0 := ⟨fun i j p q h1 h2 h3 => by have := hD.1 _ _ p q (hr i p h1) (hr j q h2) h3; omega, fun _ _ _ => trivial⟩
  refine ⟨fun a U g mk q => ?_, fun U hU hW => ?_⟩
  · obtain ⟨q0, q1, qP, qK, qD, qX⟩ := q
    exact ⟨q0, q1, qP, va_K.moved (u := U) (U := U.calling g mk a) (Vm.Alike.refl U.vm) qK, qD, hXc U g mk a qX⟩
  · exact ⟨rfl, by rw [hU], by rw [hU]; exact hP0, va_K.moved hW.alike hK, hD0, hXw U hW⟩
end MK
theorem va_P.arr {D : va_G} {cl : List vw_C} {ws : va_W} {H : Heap} {a : Nat} {cA : ClassId} {x y : vp_A} (hP : va_P D cl ws H) (q0 : Nat) (he : ws[q0]? = some (a, .inl (cA, x))) (hxy : vp_cell cA x = vp_cell cA y) : va_P D cl (ws.set q0 (a, .inl (cA, y))) H := by
  intro k q hk
  by_cases h : k = q0
  · subst h
    rw [List.getElem?_set_self (List.getElem?_eq_some_iff.mp he).1] at hk
    cases hk
    have h1 : H[a]? = some (vp_cell cA x) := hP _ _ he
    show H[a]? = some (vp_cell cA y)
    rw [← hxy]; exact h1
  · rw [List.getElem?_set_ne (Ne.symm h)] at hk
    exact hP k q hk
theorem cell_refs (cA : ClassId) {n : Nat} {f g : Nat → Option Nat} (h : ∀ j, j < n → f j = g j) : vp_cell cA (n, .inr (.inr (.inr (.inr f)))) = vp_cell cA (n, .inr (.inr (.inr (.inr g)))) := by
  rw [vp_cell_q, vp_cell_q]
  exact arrV_congr cA (fun j hj => by rw [h j hj])
theorem cell_ints (cA : ClassId) {n : Nat} {f g : Nat → Int32} (h : ∀ j, j < n → f j = g j) : vp_cell cA (n, .inl f) = vp_cell cA (n, .inl g) := by
  rw [vp_cell_i, vp_cell_i]
  exact arrV_congr cA (fun j hj => by rw [h j hj])

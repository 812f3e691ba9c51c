/-! 96a: the law's two worlds side by side -/
def W3 (b : Bool) (G : En) (A : Nat → Prop) (M : Mem) (H : Heap) : Prop := va_P G.1 vwCl (wsB b G M) H ∧ va_D A (wsB b G M) ∧ okB b M
def oldC (s : State) : Nat → Prop := fun q => s.heap.size ≤ q
theorem W3.kept {b : Bool} {G : En} {A B : Nat → Prop} {M : Mem} {H H1 : Heap} (h : W3 b G A M H) (hd : ∀ q, A q → ¬ B q) (hk : ∀ q : Nat, q < H.size → ¬ B q → H1[q]? = H[q]?) : W3 b G A M H1 := ⟨h.1.kept (fun k q hq => hk q.1 ((h.1 k q hq).lt) (hd _ (h.2.1.2 k q hq))), h.2⟩
theorem click_now {s : State} {A : Nat → Prop} {H : Heap} {locs : List Loc} (h : clickK (oldC s) s s.heap) (hS : va_S (oldC s) s.heap H locs) (hA : ∀ q, A q → oldC s q) : clickK A s H := by
  obtain ⟨t, ⟨cf, kf, fi, f, a, cell, h1, h2, h3, h4, h5, h6, h7, h8⟩, ⟨cl2, g1, g2, g3, g4, g5, g6, g7⟩⟩ := h
  have ha : H[a]? = s.heap[a]? := hS.2.1 a (Nat.not_le.mp h8) h8
  have ht : H[t]? = s.heap[t]? := hS.2.1 t (Nat.not_le.mp g7) g7
  exact ⟨t, ⟨cf, kf, fi, f, a, cell, h1, h2, h3, h4, by rw [ha]; exact h5, h6, h7, fun z => h8 (hA a z)⟩, ⟨cl2, by rw [ht]; exact g1, g2, g3, g4, g5, g6, fun z => g7 (hA t z)⟩⟩
/-- what holds at every place of the law's body -/
def LX (p : Program) (s : State) (m : MethodId) (c : Code) (b L : Nat) (xs : Nat → Int32) (D : va_G) (E : Nat → ClassId) (A1 A2 : Nat → Prop) : Prop :=
  CallFix p m c cL_law 4 s #[Value.ref b] wsL_law RL ∧ va_K D vwCl (tysE E) s ∧ (nestK s ∧ clickK (oldC s) s s.heap) ∧ (∀ q, A1 q → oldC s q) ∧ (∀ q, A2 q → oldC s q) ∧ (∀ q, A1 q → ¬ A2 q) ∧ va_X b L xs s s.heap ∧ b < s.heap.size ∧ L ≤ 3072
theorem LX.e1 {p : Program} {s : State} {m : MethodId} {c : Code} {b L : Nat} {xs : Nat → Int32} {D : va_G} {E : Nat → ClassId} {A1 A2 : Nat → Prop} {H : Heap} {locs : List Loc} (X : LX p s m c b L xs D E A1 A2) (hS : va_S (oldC s) s.heap H locs) : exB true A1 s H := fun _ => ⟨X.2.2.1.1, click_now X.2.2.1.2 hS X.2.2.2.1⟩
theorem ex0 {A : Nat → Prop} {s : State} {H : Heap} : exB false A s H := fun h => by cases h
theorem lwin {x : Int32} {L : Nat} (k : Int32) (hk : 0 ≤ k.toInt ∧ k.toInt ≤ 5) (hx : 0 ≤ x.toInt ∧ x.toInt + 6 ≤ L) (hL : L ≤ 3072) : vp_in (x + k) L := by
  have e := i_add (x := x) (y := k) (by omega) (by omega)
  intro z
  rcases z with z | z
  · have t : (x + k).toInt < 0 := i_lt z
    omega
  · have t := clampI (x := x + k) (by omega)
    omega
section LAWROWS
variable {p : Program} {l : Launch} {e : Env} {R : Room} {s : State} {m : MethodId} {args : Array Value} {below : List Frame} {meth : Method} {c : Code} {H : Heap} {locs : List Loc} {cells slots : Nat}
variable {cc bytes : ByteArray} {nL pc index maxL n : Nat} {Ts ws ws' : List Cond} {own C : String} {ls : Array Slot} {st : List Value} {b b' : Bool} {G G' : En} {A A' A0 : Nat → Prop} {M M' : Mem} {y : MethodName} {rm : Room} {ret : Option FieldType} {a : Nat} {Q : State → Prop}
theorem W3.wd (h : W3 b G A M H) (hK : va_K G.1 vwCl (tysE G.2.1) s) (hex : exB b A s H) : WD b G A M s H := ⟨h.1, hK, h.2.1, hex, h.2.2⟩
theorem lwW {r : Int32 × Mem} (As rest : List Value) (X : CallFix p m c cc nL s args Ts own) (hK : va_K G.1 vwCl (tysE G.2.1) s) (hex : exB b A s H) (h1 : W3 b G A M H) (h2 : W3 b' G' A' M' H) (hd : ∀ q, A' q → ¬ A q) (hS : va_S A0 s.heap H locs) (hA : ∀ q, A q → A0 q) (hM : WrI b l y ws rm G A M (.ref a :: As) r) (cw : CallW R s args own C index y bytes maxL ret ws rm 0 0 n) (hrec : ∃ cell : Cell, H[a]? = some cell ∧ cell.vm.isStatics = false ∧ s.vm.findClass C = some cell.cls) (hst : st = (As.reverse ++ .ref a :: rest)) (hn : As.length = n) (hsz : ls.size = nL) (hr : (rest.map fun v => v.category).sum ≤ 8) (hdg : decode cc pc = .ok (.invokevirtual index, 3)) (hc : cells ≤ R.cells ∧ slots ≤ R.slots) (kk : ∀ (H : Heap) (locs : List Loc), W3 b G A r.2 H → W3 b' G' A' M' H → va_S A0 s.heap H locs → W p l e R s m args below meth c H locs cells slots Q (F0 m (pc + 3) ls (.int r.1 :: rest))) : W p l e R s m args below meth c H locs cells slots Q (F0 m pc ls st) :=
  va_calli (va_runV (As := As) (rest := rest) X hM cw ⟨PCw.blind, hrec, (h1.wd hK hex).pre⟩ rfl hn hsz hst (lv_room hr) hdg hc) hS (fun q _ h => hA q h) (fun q h => hA q h) (fun z u t H1 locs1 ht hvm hp hB _ hk hS1 => by
    subst hp
    subst ht
    exact kk t.heap locs1 ⟨hB.1, hB.2.2.1, hB.2.2.2.2⟩ (h2.kept hd hk) hS1)
theorem lwI {r : Int32} (As rest : List Value) (X : CallFix p m c cc nL s args Ts own) (hK : va_K G.1 vwCl (tysE G.2.1) s) (hex : exB b A s H) (h1 : W3 b G A M H) (hM : RdI b l y ws rm G A M (.ref a :: As) r) (cw : CallW R s args own C index y bytes maxL ret ws rm 0 0 n) (hrec : ∃ cell : Cell, H[a]? = some cell ∧ cell.vm.isStatics = false ∧ s.vm.findClass C = some cell.cls) (hst : st = (As.reverse ++ .ref a :: rest)) (hn : As.length = n) (hsz : ls.size = nL) (hr : (rest.map fun v => v.category).sum ≤ 8) (hdg : decode cc pc = .ok (.invokevirtual index, 3)) (hc : cells ≤ R.cells ∧ slots ≤ R.slots) (kk : W p l e R s m args below meth c H locs cells slots Q (F0 m (pc + 3) ls (.int r :: rest))) : W p l e R s m args below meth c H locs cells slots Q (F0 m pc ls st) :=
  vp_callSi (va_Run.run (va_runV (As := As) (rest := rest) X hM cw ⟨PCw.blind, hrec, (h1.wd hK hex).pre⟩ rfl hn hsz hst (lv_room hr) hdg hc)) (fun z hz => by rw [hz]; exact kk)
theorem lwL {r : Int64} (As rest : List Value) (X : CallFix p m c cc nL s args Ts own) (hK : va_K G.1 vwCl (tysE G.2.1) s) (hex : exB b A s H) (h1 : W3 b G A M H) (hM : RdL b l y ws rm G A M (.ref a :: As) r) (cw : CallW R s args own C index y bytes maxL ret ws rm 0 0 n) (hrec : ∃ cell : Cell, H[a]? = some cell ∧ cell.vm.isStatics = false ∧ s.vm.findClass C = some cell.cls) (hst : st = (As.reverse ++ .ref a :: rest)) (hn : As.length = n) (hsz : ls.size = nL) (hr : (rest.map fun v => v.category).sum ≤ 8) (hdg : decode cc pc = .ok (.invokevirtual index, 3)) (hc : cells ≤ R.cells ∧ slots ≤ R.slots) (kk : W p l e R s m args below meth c H locs cells slots Q (F0 m (pc + 3) ls (.long r :: rest))) : W p l e R s m args below meth c H locs cells slots Q (F0 m pc ls st) :=
  vp_callSl (va_Run.run (va_runV (As := As) (rest := rest) X hM cw ⟨PCw.blind, hrec, (h1.wd hK hex).pre⟩ rfl hn hsz hst (lv_room hr) hdg hc)) (fun z hz => by rw [hz]; exact kk)
theorem W3.r1 {D : va_G} {E : Nat → ClassId} {d : Nat → Nat} (h : W3 true (D, E, d) A M H) (hK : va_K D vwCl (tysE E) s) : ∃ cell : Cell, H[d 0]? = some cell ∧ cell.vm.isStatics = false ∧ s.vm.findClass RX8 = some cell.cls := va_recv (ci := 5) (q := (RX8, TX8, 6)) hK h.1 rfl (wsB_at (b := true) (i := 0) (by decide))
theorem W3.r2 {D : va_G} {E : Nat → ClassId} {d : Nat → Nat} (h : W3 false (D, E, d) A M H) (hK : va_K D vwCl (tysE E) s) : ∃ cell : Cell, H[d 0]? = some cell ∧ cell.vm.isStatics = false ∧ s.vm.findClass RX9 = some cell.cls := va_recv (ci := 6) (q := (RX9, TX9, 14)) hK h.1 rfl (wsB_at (b := false) (i := 0) (by decide))
end LAWROWS

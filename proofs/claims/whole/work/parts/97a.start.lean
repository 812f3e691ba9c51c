/-! THE CLAIM OUT OF ONE WALK OF THE LAW'S BODY. Your part is whole_start (and what it stands on); all else here is the same for every law, but numbers. -/
def R_law : String := "RankBenchLaw"
def lw_P (b : Addr) (xs : List Int32) (args : Array Value) (s : State) : Prop := args = #[.ref b] ∧ s.IntsAt b xs ∧ xs.length ≤ 3072 ∧ (Jvm.Cond.and given_1 narrow_1).before args s = true
def lw_Q (_ : Array Value) (s : State) (o : Outcome) (t : State) : Prop := o = .returned (some (.int 1)) ∧ Framed s o t [] 600000 7302250
def lw_Z (below : List Frame) (a : Array Value) (s : State) : State → Prop := fun t => ∃ o, t.status = .running ∧ Ended t below o ∧ lw_Q a s o t
/-- the law's own end, with 1 on the stack, nothing written that was there before, its room as the claim has it -/
theorem lw_ret {p : Program} {l : Launch} {e : Env} {s : State} {m : MethodId} {below : List Frame} {meth : Method} {c : Code} {b : Nat} (hx : p.tables.exec = Jvm.exec) (hb : c.code = code) (hr : meth.sig.returnType = ret) (hlocks : meth.locks = false) {pc : Nat} {H : Heap} {ls : Array Slot} (hdg : decode code pc = .ok (.ireturn, 1)) : W p l e room_1 s m #[Value.ref b] below meth c H [] 600000 7302250 (lw_Z below #[Value.ref b] s) (F0 m pc ls [.int 1]) := by
  intro T hT X
  obtain ⟨fs, hret, hrun, hended, hW, hframe⟩ := X.leave (v := some (.int 1)) (hlocks := hlocks) (fun h => by rw [hr] at h; cases h)
  have hmeth' : T.vm.method? m = some meth := X.method'
  refine ⟨T.setFrames fs, ?_, .returned (some (.int 1)), hrun, hended, rfl, ⟨_, rfl⟩, hW, hframe⟩
  jvm_step X.here [X.here.top, hx, hb, hdg, hmeth', hr, ret, narrow_b1]
  (try refine ⟨rfl, ?_⟩); (try refine ⟨rfl, ?_⟩)
  first | (intro acts; rw [hret _ acts rfl rfl rfl]) | rw [hret _ _ rfl rfl rfl]
  exact Steps.refl _
/-- what holds at the law's entry: the machine, the code, the tables' words (any of lw_tbl by 'hts w (by decide +kernel)'), the script of L ints xs at the cell b, what the Statement gives of the start (any of its parts by flat_of_before) -/
def lw_At (p : Program) (s : State) (m : MethodId) (meth : Method) (c : Code) (b L : Nat) (xs : Nat → Int32) : Prop :=
  p.tables.exec = Jvm.exec ∧ c.code = code ∧ meth.sig.returnType = ret ∧ c.maxLocals = 4 ∧ s.vm.findClass R_law = some m.cls ∧ (∀ w ∈ lw_tbl, w.before #[Value.ref b] s = true) ∧ va_X b L xs s s.heap ∧ b < s.heap.size ∧ meth.locks = false ∧ (Jvm.Cond.and given_1 narrow_1).before #[Value.ref b] s = true
theorem rel0 : Rel M0K M0M := by
  refine ⟨(fun _ _ => -1, fun _ _ => 0, fun _ _ => false, fun _ _ _ => 0), ⟨fun _ _ => ⟨by show (-1 : Int) ≤ -1; omega, by show (-1 : Int) ≤ 3; omega⟩, fun _ _ => Nat.zero_le _, fun _ _ _ h => absurd h (Nat.not_lt_zero _), fun _ _ _ _ h => absurd h (Nat.not_lt_zero _), fun _ _ _ => rfl⟩, ⟨?_, ?_, ?_, fun _ _ _ _ _ h => absurd h (Nat.not_lt_zero _)⟩, ⟨fun _ _ _ _ => rfl, fun _ _ _ _ => rfl, fun _ _ _ _ => rfl, fun _ _ _ _ _ h => absurd h (Nat.not_lt_zero _)⟩, rfl, rfl⟩
  · intro q d hq hd
    show (if 18 ≤ 18 + q then (if 18 + q < 26 then (-1 : Int32) else 0) else 0).toInt = -1
    rw [if_pos (by omega), if_pos (by omega)]; rfl
  · intro r q hr hq
    show (if 18 ≤ 34 + 4 * q + r then (if 34 + 4 * q + r < 26 then (-1 : Int32) else 0) else 0).toInt = ((0 : Nat) : Int)
    rw [if_pos (by omega), if_neg (by omega)]; rfl
  · intro r q hr hq
    show (if 18 ≤ 34 + 4 * q + r then (if 34 + 4 * q + r < 26 then (-1 : Int32) else 0) else 0) = 0
    rw [if_pos (by omega), if_neg (by omega)]
theorem ok0K : okB true M0K := by
  intro i h1 h2
  have z : ∀ k, M0K.1 i k = 0 := by
    intro k
    show (if 18 ≤ i then (if i < 26 then (-1 : Int32) else 0) else 0) = 0
    rw [if_pos (by omega), if_neg (by omega)]
  rw [z 2, z 1]
  exact ⟨Or.inl rfl, by decide, by decide⟩
theorem ok0M : okB false M0M := ⟨fun _ _ => ⟨by show (0 : Int) ≤ 0; omega, by show (0 : Int) ≤ 16; omega⟩, fun _ _ => ⟨by show (0 : Int) ≤ 0; omega, by show (0 : Int) ≤ 23; omega⟩, fun _ _ => ⟨by show (0 : Int) ≤ 0; omega, by show (0 : Int) ≤ 23; omega⟩, ⟨by show (0 : Int) ≤ 0; omega, by show (0 : Int) ≤ 16; omega⟩, by show ¬ (1 : Int64) = 0; decide⟩
theorem click0 {b : Nat} {s : State} (hgv : (Jvm.Cond.and given_1 narrow_1).before #[Value.ref b] s = true) (hls : (Cond.laysStatic RX8 "CLICK_CHANCES" "[I").before #[Value.ref b] s = true) (hini : (Cond.initialized RX8).before #[Value.ref b] s = true) : clickK (oldC s) s s.heap := by
  have hs := flat_of_before _ hgv
  have harr : (Cond.arrayOf (.static "RankBench" "CLICK_CHANCES" "[I") .int).before #[Value.ref b] s = true := hs _ (by decide +kernel)
  have hlen : (Cond.eq (.length (.static "RankBench" "CLICK_CHANCES" "[I")) (.int 5)).before #[Value.ref b] s = true := hs _ (by decide +kernel)
  have h0 : (Cond.eq (.elem (.static "RankBench" "CLICK_CHANCES" "[I") (.int 0)) (.int 20)).before #[Value.ref b] s = true := hs _ (by decide +kernel)
  have h1 : (Cond.eq (.elem (.static "RankBench" "CLICK_CHANCES" "[I") (.int 1)) (.int 10)).before #[Value.ref b] s = true := hs _ (by decide +kernel)
  have h2 : (Cond.eq (.elem (.static "RankBench" "CLICK_CHANCES" "[I") (.int 2)) (.int 30)).before #[Value.ref b] s = true := hs _ (by decide +kernel)
  have h3 : (Cond.eq (.elem (.static "RankBench" "CLICK_CHANCES" "[I") (.int 3)) (.int 60)).before #[Value.ref b] s = true := hs _ (by decide +kernel)
  have h4 : (Cond.eq (.elem (.static "RankBench" "CLICK_CHANCES" "[I") (.int 4)) (.int 90)).before #[Value.ref b] s = true := hs _ (by decide +kernel)
  have hel : ∀ j : Nat, j < 5 → (Term.elem (.static "RankBench" "CLICK_CHANCES" "[I") (.int (Int32.ofNat j))).eval #[Value.ref b] s none [] s = some (clF j) := by
    intro j hj
    rcases (show j = 0 ∨ j = 1 ∨ j = 2 ∨ j = 3 ∨ j = 4 by omega) with z | z | z | z | z
    · subst z; exact va_eqt h0
    · subst z; exact va_eqt h1
    · subst z; exact va_eqt h2
    · subst z; exact va_eqt h3
    · subst z; exact va_eqt h4
  obtain ⟨t, ht, hT⟩ := va_Tof (N := 5) (f := clF) (A := oldC s) (by decide) harr (va_eqt hlen) hel (fun a ha => Nat.not_le.mpr ha)
  exact ⟨t, va_Zof hls hini ht (fun a ha => Nat.not_le.mpr ha), hT⟩
theorem arr_prim {b : Nat} {s : State} {ty : FieldType} (h : (Cond.arrayClass ty).before #[Value.ref b] s = true) : ∃ cA : ClassId, ArrOfT s cA ty ∧ s.vm.findClass ("[" ++ ty.toString) = some cA := by
  obtain ⟨cA, kA, comp, hfind, hk, hkind⟩ := Cond.arrayClass_spec h
  exact ⟨cA, fun n z => ⟨fun k h => (by cases h), kA, hk, comp, hkind⟩, hfind⟩
theorem arr_obj {s : State} {C : String} (h : va_AO C s) : ∃ cA : ClassId, ArrOfT s cA (.object C) ∧ va_RA s cA (.object C) := by
  obtain ⟨comp, c, k, h1, h2, h3, h4, h5⟩ := Cond.arrayOver_spec h
  exact ⟨c, fun n z => ⟨fun k h => (by cases h), k, h3, comp, h4⟩, k, comp, h3, h4, h1, h5⟩

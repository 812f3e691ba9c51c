/-! 90c: Arrays.fill, Question() -/
set_option maxHeartbeats 4000000 in
set_option maxRecDepth 100000 in
/-- Arrays.fill over 24 zeros -/
theorem c_fill (l : Launch) (D : va_G) (E : Nat → ClassId) (h0 : Nat) (v : Int32) : Mk l yJ7_fill_53178 wsJ7_fill_53178 { frames := 0, cells := 0, slots := 0, locals := 0 } D E (fun _ => True) [(h0, .inl (E 0, 24, .inl (fun _ => 0)))] [.ref h0, .int v] (fun _ : Unit => True) (fun _ => [(h0, .inl (E 0, 24, .inl (fun _ => v)))]) 0 0 := by
  refine Mk.of (cc := cJ7_fill_53178) (maxL := 4) (own := RJ7) (by decide) rfl rfl (Nat.le_of_ble_eq_true rfl) ?_
  intro p e s m below meth c A X hr hlocks hin hK hX hP hD hA hS ls hl
  have hl : lv_has ls 4 [(0, .ref h0), (1, .int v)] := hl
  have loop : ∀ (j i : Nat) (x : Int32) (H : Heap) (locs : List Loc) (ls : Array Slot), x.toInt = i → i + j = 24 → va_P D vwCl [(h0, .inl (E 0, 24, .inl (fun k => if k < i then v else 0)))] H → va_D A [(h0, .inl (E 0, 24, .inl (fun k => if k < i then v else 0)))] → va_S A s.heap H locs → lv_has ls 4 [(0, .ref h0), (1, .int v), (2, .int x), (3, .int 24)] → W p l e { frames := 0, cells := 0, slots := 0, locals := 0 } s m ([.ref h0, .int v] : List Value).toArray below meth c H locs 0 0 (TM D below [.ref h0, .int v] s A (fun _ : Unit => True) (fun _ => [(h0, .inl (E 0, 24, .inl (fun _ => v)))]) 0 0) (F0 m 5 ls []) := by
    intro j
    induction j with
    | zero =>
      intro i x H locs ls hxi hij hP hD hS hl
      have z : i = 24 := by omega
      subst z
      refine lv_iload_n X.1 X.2.1 dJ7_fill_53178_5 rfl (lv_at hl 2 rfl) ?_
      refine lv_iload_n X.1 X.2.1 dJ7_fill_53178_6 rfl (lv_at hl 3 rfl) ?_
      refine lv_icmp_ge (tgt := 20) X.1 X.2.1 dJ7_fill_53178_7 (by decide) (fun _ => ?_) (fun c => absurd (Int32.le_iff_toInt_le.mpr (by show (24 : Int) ≤ x.toInt; omega)) c)
      have hP : va_P D vwCl [(h0, .inl (E 0, 24, .inl (fun _ => v)))] H := hP.arr (y := (24, .inl (fun _ => v))) 0 rfl (cell_ints _ (fun k hk => if_pos hk))
      have hD : va_D A [(h0, .inl (E 0, 24, .inl (fun _ => v)))] := hD.set (p := 0) rfl
      exact mk_ret () X.1 X.2.1 hr hlocks trivial hP hD hS dJ7_fill_53178_20
    | succ j ih =>
      intro i x H locs ls hxi hij hP hD hS hl
      refine lv_iload_n X.1 X.2.1 dJ7_fill_53178_5 rfl (lv_at hl 2 rfl) ?_
      refine lv_iload_n X.1 X.2.1 dJ7_fill_53178_6 rfl (lv_at hl 3 rfl) ?_
      refine lv_icmp_ge (tgt := 20) X.1 X.2.1 dJ7_fill_53178_7 (by decide) (fun c => absurd (show (24 : Int) ≤ x.toInt from Int32.le_iff_toInt_le.mp c) (by omega)) (fun _ => ?_)
      have ec : x.toNatClampNeg = i := by have := clampI (x := x) (by omega); omega
      refine lv_aload_n X.1 X.2.1 dJ7_fill_53178_10 rfl (lv_at hl 0 rfl) ?_
      refine lv_iload_n X.1 X.2.1 dJ7_fill_53178_11 rfl (lv_at hl 2 rfl) ?_
      refine lv_iload_n X.1 X.2.1 dJ7_fill_53178_12 rfl (lv_at hl 1 rfl) ?_
      refine va_iast X.1 X.2.1 hK hP hD hS 0 0 rfl rfl (fun z => by rcases z with z | z; exact absurd (show x.toInt < 0 from Int32.lt_iff_toInt_lt.mp z) (by omega); omega) dJ7_fill_53178_13 (fun H locs hP hD hS => ?_)
      have ef : upd (fun k => if k < i then v else 0) x.toNatClampNeg v = fun k => if k < i + 1 then v else 0 := by
        rw [ec]
        funext k
        unfold upd
        by_cases h : k = i
        · rw [if_pos h, if_pos (by omega)]
        · rw [if_neg h]
          show (if k < i then v else 0) = _
          by_cases h2 : k < i
          · rw [if_pos h2, if_pos (by omega)]
          · rw [if_neg h2, if_neg (by omega)]
      rw [ef] at hP hD
      have q := inc_sp x
      refine lv_iinc (v := x + 1) (lv' := [(2, .int (x + 1)), (0, .ref h0), (1, .int v), (3, .int 24)]) X.1 X.2.1 dJ7_fill_53178_14 hl (k := 2) rfl rfl (by decide) rfl (fun ls hl => ?_)
      refine lv_goto (tgt := 5) X.1 X.2.1 dJ7_fill_53178_17 (by decide) ?_
      exact ih (i + 1) (x + 1) H locs ls (by omega) (by omega) hP hD hS (lv_sub hl [1, 2, 0, 3] rfl)
  refine lv_iconst (v := 0) X.1 X.2.1 dJ7_fill_53178_0 (by decide) ?_
  refine lv_istore_n (lv' := [(2, .int 0), (0, .ref h0), (1, .int v)]) X.1 X.2.1 dJ7_fill_53178_1 rfl hl (by decide) rfl (fun ls hl => ?_)
  refine lv_aload_n X.1 X.2.1 dJ7_fill_53178_2 rfl (lv_at hl 1 rfl) ?_
  refine va_alen (v := 24) X.1 X.2.1 hK hP 0 0 rfl rfl rfl dJ7_fill_53178_3 ?_
  refine lv_istore_n (lv' := [(3, .int 24), (2, .int 0), (0, .ref h0), (1, .int v)]) X.1 X.2.1 dJ7_fill_53178_4 rfl hl (by decide) rfl (fun ls hl => ?_)
  exact loop 24 0 0 s.heap [] ls rfl rfl hP hD hS (lv_sub hl [2, 3, 1, 0] rfl)
def nest6 (U : State) : Prop := va_Nw (.methodLinkNest RX6 27 yX7_init RX8) U ∧ va_AO RX7 U
theorem nest6.calling {U : State} {g : JFrame} {mk : MethodId} {a : Array Value} (h : nest6 U) : nest6 (U.calling g mk a) := ⟨va_Nw.same rfl (u := U) (U := U.calling g mk a) rfl h.1, va_AO.moved (u := U) (U := U.calling g mk a) (Vm.Alike.refl U.vm) h.2⟩
theorem nest6.warm {s U : State} (hW : s.WarmedH U.vm) (h : nest6 s) : nest6 U := ⟨va_Nw.warmM hW h.1, va_AO.moved hW.alike h.2⟩
def rowsW (E : Nat → ClassId) (rs : List (Nat × Nat)) : va_W := rs.flatMap fun x => [(x.1, .inr (4, [.ref x.2, .int 0, .int 0])), (x.2, .inl (E 0, 16, .inl (fun _ => 0)))]
def refsOf {α : Type} (rs : List (Nat × α)) : Nat → Option Nat := fun j => (rs[j]?).map Prod.fst
theorem refsOf_push {α : Type} (rs : List (Nat × α)) (x : Nat × α) : va_up (refsOf rs) rs.length (some x.1) = refsOf (rs ++ [x]) := by
  funext j
  unfold va_up refsOf
  by_cases h : j = rs.length
  · subst h
    rw [if_pos rfl, List.getElem?_append_right (by omega), show rs.length - rs.length = 0 by omega]; rfl
  · rw [if_neg h]
    by_cases h2 : j < rs.length
    · rw [List.getElem?_append_left h2]
    · rw [List.getElem?_eq_none (by omega), List.getElem?_eq_none (by rw [List.length_append]; show rs.length + 1 ≤ j; omega)]
def Wq (E : Nat → ClassId) (u : Nat × Nat × Nat × List (Nat × Nat)) : va_W := [(u.1, .inr (3, [.ref u.2.1, .ref u.2.2.1])), (u.2.1, .inl (E 0, 24, .inl (fun _ => -1))), (u.2.2.1, .inl (E 3, 4, .inr (.inr (.inr (.inr (refsOf u.2.2.2))))))] ++ rowsW E u.2.2.2
set_option maxHeartbeats 4000000 in
set_option maxRecDepth 100000 in
/-- Question() -/
theorem c_X6_init (l : Launch) (D : va_G) (E : Nat → ClassId) (h0 : Nat) : Mk l yX6_init wsX6_init { frames := 2, cells := 10, slots := 104, locals := 32 } D E nest6 [(h0, .inr (3, [.null, .null]))] [.ref h0] (fun u : Nat × Nat × Nat × List (Nat × Nat) => u.1 = h0 ∧ u.2.2.2.length = 4) (Wq E) 10 104 := by
  refine Mk.of (cc := cX6_init) (maxL := 2) (own := RX6) (by decide) rfl rfl (Nat.le_of_ble_eq_true rfl) ?_
  intro p e s m below meth c A X hr hlocks hin hK hX hP hD hA hS ls hl
  have hl : lv_has ls 2 [(0, .ref h0)] := hl
  have hin : meth.name = "<init>" := hin
  have loop : ∀ (g r j : Nat) (rs : List (Nat × Nat)) (x : Int32) (H : Heap) (locs : List Loc) (ls : Array Slot), x.toInt = rs.length → rs.length + j = 4 → va_P D vwCl (Wq E (h0, g, r, rs)) H → va_D A (Wq E (h0, g, r, rs)) → va_S A s.heap H locs → lv_has ls 2 [(0, .ref h0), (1, .int x)] → W p l e { frames := 2, cells := 10, slots := 104, locals := 32 } s m ([.ref h0] : List Value).toArray below meth c H locs (2 + 2 * rs.length) (28 + 19 * rs.length) (TM D below [.ref h0] s A (fun u : Nat × Nat × Nat × List (Nat × Nat) => u.1 = h0 ∧ u.2.2.2.length = 4) (Wq E) 10 104) (F0 m 30 ls []) := by
    intro g r j
    induction j with
    | zero =>
      intro rs x H locs ls hxi hij hP hD hS hl
      have z : rs.length = 4 := by omega
      refine lv_iload_n X.1 X.2.1 dX6_init_30 rfl (lv_at hl 1 rfl) ?_
      refine lv_iconst (v := 4) X.1 X.2.1 dX6_init_31 (by decide) ?_
      refine lv_icmp_ge (tgt := 54) X.1 X.2.1 dX6_init_32 (by decide) (fun _ => ?_) (fun c => absurd (Int32.le_iff_toInt_le.mpr (by show (4 : Int) ≤ x.toInt; omega)) c)
      rw [z]
      exact mk_ret (h0, g, r, rs) X.1 X.2.1 hr hlocks ⟨rfl, z⟩ hP hD hS dX6_init_54
    | succ j ih =>
      intro rs x H locs ls hxi hij hP hD hS hl
      refine lv_iload_n X.1 X.2.1 dX6_init_30 rfl (lv_at hl 1 rfl) ?_
      refine lv_iconst (v := 4) X.1 X.2.1 dX6_init_31 (by decide) ?_
      refine lv_icmp_ge (tgt := 54) X.1 X.2.1 dX6_init_32 (by decide) (fun c => absurd (show (4 : Int) ≤ x.toInt from Int32.le_iff_toInt_le.mp c) (by omega)) (fun _ => ?_)
      have ec : x.toNatClampNeg = rs.length := by have := clampI (x := x) (by omega); omega
      refine lv_aload_n X.1 X.2.1 dX6_init_35 rfl (lv_at hl 0 rfl) ?_
      refine va_get (D := D) (ci := 3) (v := .ref r) (C := RX6) (T := TX6) (N := 2) X.1 X.2.1 X.2.2.2.2 (by decide +kernel) X.2.2.2.1 hK hP 0 rfl rfl 1 (by decide) (X.2.2.2.2 (.fieldLink RX6 17 "RankBench$Question" "rows" "[LRankBench$Row;") (by decide +kernel)) (fun _ h9 => h9) rfl dX6_init_36 ?_
      refine lv_iload_n X.1 X.2.1 dX6_init_39 rfl (lv_at hl 1 rfl) ?_
      refine va_new (ci := 4) (fs := [.null, .int 0, .int 0]) (C := RX7) (T := TX7) (N := 3) X.1 X.2.1 X.2.2.2.2 (by decide +kernel) tyX7 tyX7_ok X.2.2.2.1 (X.2.2.2.2 (.classLink RX6 15 RX7) (by decide +kernel)) (X.2.2.2.2 (.instantiable RX7 3) (by decide +kernel)) (X.2.2.2.2 (.initialized RX7) (by decide +kernel)) hK hP hD hS hA rfl (fun j hj => by rcases (show j = 0 ∨ j = 1 ∨ j = 2 by omega) with rfl | rfl | rfl <;> rfl) (by show _ ≤ 10; omega) (by show _ ≤ 104; omega) dX6_init_40 (fun q H hP hD hS => ?_)
      refine lv_dup X.1 X.2.1 dX6_init_43 rfl ?_
      refine mk_call (wr := Wq E (h0, g, r, rs)) (w0 := [(q, .inr (4, [.null, .int 0, .int 0]))]) (va_runIN (As := []) (rest := [.ref q, .int x, .ref r]) X (c_X7_init l D E q H.size) ⟨va_cnB 0 X.2.2.2.2 gX6_init_X7_init_n27 rfl rfl rfl hX.1 (X.2.2.2.2 (.initialized RX7) (by decide +kernel)) (by decide +kernel) ⟨Nat.le_of_ble_eq_true rfl, Nat.le_of_ble_eq_true rfl⟩, rfl, X.2.2.2.2 (.instanceMethod yX7_init) (by decide +kernel)⟩ (mk_pre hP hD hK trivial (fun _ _ _ _ _ => trivial) (fun _ _ => trivial)) rfl rfl hl.1 rfl (lv_room (Nat.le_of_ble_eq_true rfl)) dX6_init_44 ⟨by show _ ≤ 10; omega, by show _ ≤ 104; omega⟩) hP hD hS hA (fun d H locs _ hP hD hS => ?_)
      obtain ⟨qk, hqk⟩ := List.getElem?_of_mem (show ((q, .inr (4, [.ref d, .int 0, .int 0])) : Nat × va_E) ∈ Wq E (h0, g, r, rs) ++ [(q, .inr (4, [.ref d, .int 0, .int 0])), (d, .inl (E 0, 16, .inl (fun _ => 0)))] from List.mem_append_right _ List.mem_cons_self)
      refine va_astq (r := (RX7, TX7, 3)) X.1 X.2.1 hK hP hD hS 2 3 qk 4 rfl rfl hqk rfl (fun z => by rcases z with z | z; exact absurd (show x.toInt < 0 from Int32.lt_iff_toInt_lt.mp z) (by omega); omega) dX6_init_47 (fun H locs hP hD hS => ?_)
      have e1 : (Wq E (h0, g, r, rs) ++ ([(q, .inr (4, [.ref d, .int 0, .int 0])), (d, .inl (E 0, 16, .inl (fun _ => 0)))] : va_W)).set 2 (r, .inl (E 3, 4, .inr (.inr (.inr (.inr (va_up (refsOf rs) x.toNatClampNeg (some q))))))) = Wq E (h0, g, r, rs ++ [(q, d)]) := by
        rw [ec, refsOf_push rs (q, d)]
        show _ = [_, _, _] ++ rowsW E (rs ++ [(q, d)])
        unfold rowsW
        rw [List.flatMap_append]
        rfl
      have hP : va_P D vwCl (Wq E (h0, g, r, rs ++ [(q, d)])) H := by rw [← e1]; exact hP
      have hD : va_D A (Wq E (h0, g, r, rs ++ [(q, d)])) := by rw [← e1]; exact hD
      have hlen : (rs ++ [(q, d)]).length = rs.length + 1 := by rw [List.length_append]; rfl
      have qx := inc_sp x
      refine W.widen (k := 2 + 2 * (rs ++ [(q, d)]).length) (n := 28 + 19 * (rs ++ [(q, d)]).length) (by omega) (by omega) ?_
      refine lv_iinc (v := x + 1) (lv' := [(1, .int (x + 1)), (0, .ref h0)]) X.1 X.2.1 dX6_init_48 hl (k := 1) rfl rfl (by decide) rfl (fun ls hl => ?_)
      refine lv_goto (tgt := 30) X.1 X.2.1 dX6_init_51 (by decide) ?_
      exact ih (rs ++ [(q, d)]) (x + 1) H locs ls (by omega) (by omega) hP hD hS (lv_sub hl [1, 0] rfl)
  refine lv_aload_n X.1 X.2.1 dX6_init_0 rfl (lv_at hl 0 rfl) ?_
  refine W.objInit X.1 X.2.1 X.2.2.2.1 (X.2.2.2.2 (.methodLink RX6 3 objectInit) (by decide +kernel)) (X.2.2.2.2 (.instanceMethod objectInit) (by decide +kernel)) (X.2.2.2.2 _ (List.mem_of_getElem? (i := 3) rfl)) rfl (by rw [X.2.2.1]; exact hl.1) rfl dX6_init_1 (Nat.le_of_ble_eq_true rfl) (Nat.le_of_ble_eq_true rfl) ?_
  refine W.eq (g2 := F0 m 4 ls []) rfl ?_
  refine lv_aload_n X.1 X.2.1 dX6_init_4 rfl (lv_at hl 0 rfl) ?_
  refine lv_bipush (v := 24) X.1 X.2.1 dX6_init_5 (by decide) ?_
  refine mk_newa 0 X.1 X.2.1 (atype := .int) (X.2.2.2.2 (.arrayClass .int) (by decide +kernel)) (ty := .int) rfl rfl hK hP hD hS hA (n := 24) (N' := 24) (a0 := (24, .inl (fun _ => 0))) (fun _ => rfl) (by decide) (by decide) (by decide +kernel) (Nat.le_of_ble_eq_true rfl) (Nat.le_of_ble_eq_true rfl) dX6_init_7 (fun g H hP hD hS => ?_)
  have hP : va_P D vwCl [(h0, .inr (3, [.null, .null])), (g, .inl (E 0, 24, .inl (fun _ => 0)))] H := hP
  have hD : va_D A [(h0, .inr (3, [.null, .null])), (g, .inl (E 0, 24, .inl (fun _ => 0)))] := hD
  refine va_putF (D := D) (ci := 3) (v := .ref g) (ty := .array .int) (C := RX6) (T := TX6) (N := 2) X.1 X.2.1 X.2.2.2.2 (by decide +kernel) tyX6 tyX6_ok nmX6 X.2.2.2.1 hK hP hD hS 0 rfl rfl 0 (by decide) (X.2.2.2.2 (.fieldLink RX6 9 "RankBench$Question" "grades" "[I") (by decide +kernel)) (fun _ h9 => h9) rfl hin rfl (by decide +kernel) rfl rfl (Nat.le_of_ble_eq_true rfl) dX6_init_9 (fun H locs hP hD hS => ?_)
  have hP : va_P D vwCl [(h0, .inr (3, [.ref g, .null])), (g, .inl (E 0, 24, .inl (fun _ => 0)))] H := hP
  have hD : va_D A [(h0, .inr (3, [.ref g, .null])), (g, .inl (E 0, 24, .inl (fun _ => 0)))] := hD
  refine lv_aload_n X.1 X.2.1 dX6_init_12 rfl (lv_at hl 0 rfl) ?_
  refine lv_iconst (v := 4) X.1 X.2.1 dX6_init_13 (by decide) ?_
  refine mk_newq 3 X.1 X.2.1 (C := RX7) X.2.2.2.1 (X.2.2.2.2 (.classLink RX6 15 RX7) (by decide +kernel)) hX.2 rfl hK hP hD hS hA (n := 4) (N' := 4) (by decide) (by decide) (by decide) (Nat.le_of_ble_eq_true rfl) (Nat.le_of_ble_eq_true rfl) dX6_init_14 (fun r H hP hD hS => ?_)
  have hP : va_P D vwCl [(h0, .inr (3, [.ref g, .null])), (g, .inl (E 0, 24, .inl (fun _ => 0))), (r, .inl (E 3, 4, .inr (.inr (.inr (.inr (fun _ => none))))))] H := hP
  have hD : va_D A [(h0, .inr (3, [.ref g, .null])), (g, .inl (E 0, 24, .inl (fun _ => 0))), (r, .inl (E 3, 4, .inr (.inr (.inr (.inr (fun _ => none))))))] := hD
  refine va_putF (D := D) (ci := 3) (v := .ref r) (ty := .array (.object "RankBench$Row")) (C := RX6) (T := TX6) (N := 2) X.1 X.2.1 X.2.2.2.2 (by decide +kernel) tyX6 tyX6_ok nmX6 X.2.2.2.1 hK hP hD hS 0 rfl rfl 1 (by decide) (X.2.2.2.2 (.fieldLink RX6 17 "RankBench$Question" "rows" "[LRankBench$Row;") (by decide +kernel)) (fun _ h9 => h9) rfl hin rfl (by decide +kernel) rfl rfl (Nat.le_of_ble_eq_true rfl) dX6_init_17 (fun H locs hP hD hS => ?_)
  have hP : va_P D vwCl [(h0, .inr (3, [.ref g, .ref r])), (g, .inl (E 0, 24, .inl (fun _ => 0))), (r, .inl (E 3, 4, .inr (.inr (.inr (.inr (fun _ => none))))))] H := hP
  have hD : va_D A [(h0, .inr (3, [.ref g, .ref r])), (g, .inl (E 0, 24, .inl (fun _ => 0))), (r, .inl (E 3, 4, .inr (.inr (.inr (.inr (fun _ => none))))))] := hD
  refine lv_aload_n X.1 X.2.1 dX6_init_20 rfl (lv_at hl 0 rfl) ?_
  refine va_get (D := D) (ci := 3) (v := .ref g) (C := RX6) (T := TX6) (N := 2) X.1 X.2.1 X.2.2.2.2 (by decide +kernel) X.2.2.2.1 hK hP 0 rfl rfl 0 (by decide) (X.2.2.2.2 (.fieldLink RX6 9 "RankBench$Question" "grades" "[I") (by decide +kernel)) (fun _ h9 => h9) rfl dX6_init_21 ?_
  refine lv_iconst (v := -1) X.1 X.2.1 dX6_init_24 (by decide) ?_
  have hP := hP.sub (ws' := [(h0, .inr (3, [.ref g, .ref r])), (r, .inl (E 3, 4, .inr (.inr (.inr (.inr (fun _ => none)))))), (g, .inl (E 0, 24, .inl (fun _ => 0)))]) [0, 2, 1] rfl
  have hD := hD.sub (ws' := [(h0, .inr (3, [.ref g, .ref r])), (r, .inl (E 3, 4, .inr (.inr (.inr (.inr (fun _ => none)))))), (g, .inl (E 0, 24, .inl (fun _ => 0)))]) [0, 2, 1] (by decide) rfl
  refine mk_call (wr := [(h0, .inr (3, [.ref g, .ref r])), (r, .inl (E 3, 4, .inr (.inr (.inr (.inr (fun _ => none))))))]) (w0 := [(g, .inl (E 0, 24, .inl (fun _ => 0)))]) (va_runS (As := [.ref g, .int (-1)]) (rest := []) X (c_fill l D E g (-1) H.size) (va_cwS 2 X.2.2.2.2 gX6_init_J7_fill_53178 rfl rfl rfl (by decide +kernel) ⟨Nat.le_of_ble_eq_true rfl, Nat.le_of_ble_eq_true rfl⟩) (mk_pre (wr := [(h0, .inr (3, [.ref g, .ref r])), (r, .inl (E 3, 4, .inr (.inr (.inr (.inr (fun _ => none))))))]) hP hD hK trivial (fun _ _ _ _ _ => trivial) (fun _ _ => trivial)) rfl rfl hl.1 rfl (lv_room (Nat.le_of_ble_eq_true rfl)) dX6_init_25 ⟨Nat.le_of_ble_eq_true rfl, Nat.le_of_ble_eq_true rfl⟩) hP hD hS hA (fun _ H locs _ hP hD hS => ?_)
  have hP := hP.sub (ws' := Wq E (h0, g, r, [])) [0, 2, 1] rfl
  have hD := hD.sub (ws' := Wq E (h0, g, r, [])) [0, 2, 1] (by decide) rfl
  refine lv_iconst (v := 0) X.1 X.2.1 dX6_init_28 (by decide) ?_
  refine lv_istore_n (lv' := [(1, .int 0), (0, .ref h0)]) X.1 X.2.1 dX6_init_29 rfl hl (by decide) rfl (fun ls hl => ?_)
  refine W.widen (k := 2 + 2 * ([] : List (Nat × Nat)).length) (n := 28 + 19 * ([] : List (Nat × Nat)).length) (Nat.le_of_ble_eq_true rfl) (Nat.le_of_ble_eq_true rfl) ?_
  exact loop g r 4 [] 0 H locs ls rfl rfl hP hD hS (lv_sub hl [1, 0] rfl)

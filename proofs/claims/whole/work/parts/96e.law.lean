/-! 96e: the law's cases -/
set_option maxHeartbeats 4000000 in
set_option maxRecDepth 100000 in
theorem lc_pool {p : Program} {e : Env} {s : State} {m : MethodId} {below : List Frame} {meth : Method} {c : Code} {H : Heap} {locs : List Loc} {ls : Array Slot} {Q : State → Prop} (l : Launch) {b L : Nat} {xs : Nat → Int32} {D : va_G} {E : Nat → ClassId} {d1 d2 : Nat → Nat} {A1 A2 : Nat → Prop} {M1 M2 : Mem} {x : Int32} (X : LX p s m c b L xs D E A1 A2) (hi : 0 ≤ x.toInt ∧ x.toInt + 6 ≤ L) (hl : lv_has ls 4 [(0, .ref b), (1, .ref (d1 0)), (2, .ref (d2 0)), (3, .int x)]) (h1 : W3 true (D, E, d1) A1 M1 H) (h2 : W3 false (D, E, d2) A2 M2 H) (hR : Rel M1 M2) (hS : va_S (oldC s) s.heap H locs)
    (kk : ∀ (M1 M2 : Mem) (H : Heap) (locs : List Loc), W3 true (D, E, d1) A1 M1 H → W3 false (D, E, d2) A2 M2 H → Rel M1 M2 → va_S (oldC s) s.heap H locs → W p l e room_1 s m #[Value.ref b] below meth c H locs 600000 7302250 Q (F0 m 980 ls [])) : W p l e room_1 s m #[Value.ref b] below meth c H locs 600000 7302250 Q (F0 m 758 ls []) := by
  have hK := X.2.1
  have hbA : ¬ oldC s b := Nat.not_le.mpr X.2.2.2.2.2.2.2.1
  have i1 : vp_in (x + 1) L := lwin 1 ⟨by decide, by decide⟩ hi X.2.2.2.2.2.2.2.2
  have i2 : vp_in (x + 2) L := lwin 2 ⟨by decide, by decide⟩ hi X.2.2.2.2.2.2.2.2
  have i3 : vp_in (x + 3) L := lwin 3 ⟨by decide, by decide⟩ hi X.2.2.2.2.2.2.2.2
  refine lv_aload_n X.1.1 X.1.2.1 dL_law_758 rfl (lv_at hl 1 rfl) ?_
  refine lv_aload_n X.1.1 X.1.2.1 dL_law_759 rfl (lv_at hl 0 rfl) ?_
  refine lv_iload_n X.1.1 X.1.2.1 dL_law_760 rfl (lv_at hl 3 rfl) ?_
  refine lv_iconst (v := 1) X.1.1 X.1.2.1 dL_law_761 (by decide) ?_
  refine lv_iadd X.1.1 X.1.2.1 dL_law_762 ?_
  refine va_sld X.1.1 X.1.2.1 X.2.2.2.2.2.2.1 X.2.2.2.2.2.2.2.1 hbA hS i1 dL_law_763 ?_
  refine lv_aload_n X.1.1 X.1.2.1 dL_law_764 rfl (lv_at hl 0 rfl) ?_
  refine lv_iload_n X.1.1 X.1.2.1 dL_law_765 rfl (lv_at hl 3 rfl) ?_
  refine lv_iconst (v := 2) X.1.1 X.1.2.1 dL_law_766 (by decide) ?_
  refine lv_iadd X.1.1 X.1.2.1 dL_law_767 ?_
  refine va_sld X.1.1 X.1.2.1 X.2.2.2.2.2.2.1 X.2.2.2.2.2.2.2.1 hbA hS i2 dL_law_768 ?_
  refine lv_aload_n X.1.1 X.1.2.1 dL_law_769 rfl (lv_at hl 0 rfl) ?_
  refine lv_iload_n X.1.1 X.1.2.1 dL_law_770 rfl (lv_at hl 3 rfl) ?_
  refine lv_iconst (v := 3) X.1.1 X.1.2.1 dL_law_771 (by decide) ?_
  refine lv_iadd X.1.1 X.1.2.1 dL_law_772 ?_
  refine va_sld X.1.1 X.1.2.1 X.2.2.2.2.2.2.1 X.2.2.2.2.2.2.2.1 hbA hS i3 dL_law_773 ?_
  refine lwI (b := true) (G := (D, E, d1)) [.int (xs (x + 1).toNatClampNeg), .int (xs (x + 2).toNatClampNeg), .int (xs (x + 3).toNatClampNeg)] [] X.1 hK (X.e1 hS) h1 (c_X8_pool l (D, E, d1) A1 M1 ((xs (x + 1).toNatClampNeg)) ((xs (x + 2).toNatClampNeg)) ((xs (x + 3).toNatClampNeg))) (cwV 3 X.1.2.2.2.2 gL_law_X8_pool rfl rfl rfl (by decide +kernel) ⟨(Nat.le_of_ble_eq_true rfl), (Nat.le_of_ble_eq_true rfl)⟩) (h1.r1 hK) rfl rfl hl.1 (Nat.le_of_ble_eq_true rfl) dL_law_774 ⟨(Nat.le_of_ble_eq_true rfl), (Nat.le_of_ble_eq_true rfl)⟩ ?_
  refine lv_aload_n X.1.1 X.1.2.1 dL_law_777 rfl (lv_at hl 2 rfl) ?_
  refine lv_aload_n X.1.1 X.1.2.1 dL_law_778 rfl (lv_at hl 0 rfl) ?_
  refine lv_iload_n X.1.1 X.1.2.1 dL_law_779 rfl (lv_at hl 3 rfl) ?_
  refine lv_iconst (v := 1) X.1.1 X.1.2.1 dL_law_780 (by decide) ?_
  refine lv_iadd X.1.1 X.1.2.1 dL_law_781 ?_
  refine va_sld X.1.1 X.1.2.1 X.2.2.2.2.2.2.1 X.2.2.2.2.2.2.2.1 hbA hS i1 dL_law_782 ?_
  refine lv_aload_n X.1.1 X.1.2.1 dL_law_783 rfl (lv_at hl 0 rfl) ?_
  refine lv_iload_n X.1.1 X.1.2.1 dL_law_784 rfl (lv_at hl 3 rfl) ?_
  refine lv_iconst (v := 2) X.1.1 X.1.2.1 dL_law_785 (by decide) ?_
  refine lv_iadd X.1.1 X.1.2.1 dL_law_786 ?_
  refine va_sld X.1.1 X.1.2.1 X.2.2.2.2.2.2.1 X.2.2.2.2.2.2.2.1 hbA hS i2 dL_law_787 ?_
  refine lv_aload_n X.1.1 X.1.2.1 dL_law_788 rfl (lv_at hl 0 rfl) ?_
  refine lv_iload_n X.1.1 X.1.2.1 dL_law_789 rfl (lv_at hl 3 rfl) ?_
  refine lv_iconst (v := 3) X.1.1 X.1.2.1 dL_law_790 (by decide) ?_
  refine lv_iadd X.1.1 X.1.2.1 dL_law_791 ?_
  refine va_sld X.1.1 X.1.2.1 X.2.2.2.2.2.2.1 X.2.2.2.2.2.2.2.1 hbA hS i3 dL_law_792 ?_
  refine lwI (b := false) (G := (D, E, d2)) [.int (xs (x + 1).toNatClampNeg), .int (xs (x + 2).toNatClampNeg), .int (xs (x + 3).toNatClampNeg)] [.int (f_X8_pool M1 ((xs (x + 1).toNatClampNeg)) ((xs (x + 2).toNatClampNeg)) ((xs (x + 3).toNatClampNeg)))] X.1 hK ex0 h2 (c_X9_pool l (D, E, d2) A2 M2 ((xs (x + 1).toNatClampNeg)) ((xs (x + 2).toNatClampNeg)) ((xs (x + 3).toNatClampNeg))) (cwV 3 X.1.2.2.2.2 gL_law_X9_pool rfl rfl rfl (by decide +kernel) ⟨(Nat.le_of_ble_eq_true rfl), (Nat.le_of_ble_eq_true rfl)⟩) (h2.r2 hK) rfl rfl hl.1 (Nat.le_of_ble_eq_true rfl) dL_law_793 ⟨(Nat.le_of_ble_eq_true rfl), (Nat.le_of_ble_eq_true rfl)⟩ ?_
  exact lv_icmp_eq (tgt := 980) X.1.1 X.1.2.1 dL_law_796 (by decide) (fun _ => kk _ _ H locs h1 h2 hR hS) (fun cz => absurd (eq_pool ((xs (x + 1).toNatClampNeg)) ((xs (x + 2).toNatClampNeg)) ((xs (x + 3).toNatClampNeg)) hR) cz)
set_option maxHeartbeats 4000000 in
set_option maxRecDepth 100000 in
theorem lc_laid {p : Program} {e : Env} {s : State} {m : MethodId} {below : List Frame} {meth : Method} {c : Code} {H : Heap} {locs : List Loc} {ls : Array Slot} {Q : State → Prop} (l : Launch) {b L : Nat} {xs : Nat → Int32} {D : va_G} {E : Nat → ClassId} {d1 d2 : Nat → Nat} {A1 A2 : Nat → Prop} {M1 M2 : Mem} {x : Int32} (X : LX p s m c b L xs D E A1 A2) (hi : 0 ≤ x.toInt ∧ x.toInt + 6 ≤ L) (hl : lv_has ls 4 [(0, .ref b), (1, .ref (d1 0)), (2, .ref (d2 0)), (3, .int x)]) (h1 : W3 true (D, E, d1) A1 M1 H) (h2 : W3 false (D, E, d2) A2 M2 H) (hR : Rel M1 M2) (hS : va_S (oldC s) s.heap H locs)
    (kk : ∀ (M1 M2 : Mem) (H : Heap) (locs : List Loc), W3 true (D, E, d1) A1 M1 H → W3 false (D, E, d2) A2 M2 H → Rel M1 M2 → va_S (oldC s) s.heap H locs → W p l e room_1 s m #[Value.ref b] below meth c H locs 600000 7302250 Q (F0 m 980 ls [])) : W p l e room_1 s m #[Value.ref b] below meth c H locs 600000 7302250 Q (F0 m 801 ls []) := by
  have hK := X.2.1
  have hbA : ¬ oldC s b := Nat.not_le.mpr X.2.2.2.2.2.2.2.1
  have i1 : vp_in (x + 1) L := lwin 1 ⟨by decide, by decide⟩ hi X.2.2.2.2.2.2.2.2
  have i2 : vp_in (x + 2) L := lwin 2 ⟨by decide, by decide⟩ hi X.2.2.2.2.2.2.2.2
  have i3 : vp_in (x + 3) L := lwin 3 ⟨by decide, by decide⟩ hi X.2.2.2.2.2.2.2.2
  have i4 : vp_in (x + 4) L := lwin 4 ⟨by decide, by decide⟩ hi X.2.2.2.2.2.2.2.2
  have i5 : vp_in (x + 5) L := lwin 5 ⟨by decide, by decide⟩ hi X.2.2.2.2.2.2.2.2
  refine lv_aload_n X.1.1 X.1.2.1 dL_law_801 rfl (lv_at hl 1 rfl) ?_
  refine lv_aload_n X.1.1 X.1.2.1 dL_law_802 rfl (lv_at hl 0 rfl) ?_
  refine lv_iload_n X.1.1 X.1.2.1 dL_law_803 rfl (lv_at hl 3 rfl) ?_
  refine lv_iconst (v := 1) X.1.1 X.1.2.1 dL_law_804 (by decide) ?_
  refine lv_iadd X.1.1 X.1.2.1 dL_law_805 ?_
  refine va_sld X.1.1 X.1.2.1 X.2.2.2.2.2.2.1 X.2.2.2.2.2.2.2.1 hbA hS i1 dL_law_806 ?_
  refine lv_aload_n X.1.1 X.1.2.1 dL_law_807 rfl (lv_at hl 0 rfl) ?_
  refine lv_iload_n X.1.1 X.1.2.1 dL_law_808 rfl (lv_at hl 3 rfl) ?_
  refine lv_iconst (v := 2) X.1.1 X.1.2.1 dL_law_809 (by decide) ?_
  refine lv_iadd X.1.1 X.1.2.1 dL_law_810 ?_
  refine va_sld X.1.1 X.1.2.1 X.2.2.2.2.2.2.1 X.2.2.2.2.2.2.2.1 hbA hS i2 dL_law_811 ?_
  refine lv_aload_n X.1.1 X.1.2.1 dL_law_812 rfl (lv_at hl 0 rfl) ?_
  refine lv_iload_n X.1.1 X.1.2.1 dL_law_813 rfl (lv_at hl 3 rfl) ?_
  refine lv_iconst (v := 3) X.1.1 X.1.2.1 dL_law_814 (by decide) ?_
  refine lv_iadd X.1.1 X.1.2.1 dL_law_815 ?_
  refine va_sld X.1.1 X.1.2.1 X.2.2.2.2.2.2.1 X.2.2.2.2.2.2.2.1 hbA hS i3 dL_law_816 ?_
  refine lv_aload_n X.1.1 X.1.2.1 dL_law_817 rfl (lv_at hl 0 rfl) ?_
  refine lv_iload_n X.1.1 X.1.2.1 dL_law_818 rfl (lv_at hl 3 rfl) ?_
  refine lv_iconst (v := 4) X.1.1 X.1.2.1 dL_law_819 (by decide) ?_
  refine lv_iadd X.1.1 X.1.2.1 dL_law_820 ?_
  refine va_sld X.1.1 X.1.2.1 X.2.2.2.2.2.2.1 X.2.2.2.2.2.2.2.1 hbA hS i4 dL_law_821 ?_
  refine lv_aload_n X.1.1 X.1.2.1 dL_law_822 rfl (lv_at hl 0 rfl) ?_
  refine lv_iload_n X.1.1 X.1.2.1 dL_law_823 rfl (lv_at hl 3 rfl) ?_
  refine lv_iconst (v := 5) X.1.1 X.1.2.1 dL_law_824 (by decide) ?_
  refine lv_iadd X.1.1 X.1.2.1 dL_law_825 ?_
  refine va_sld X.1.1 X.1.2.1 X.2.2.2.2.2.2.1 X.2.2.2.2.2.2.2.1 hbA hS i5 dL_law_826 ?_
  refine lwW (b := true) (G := (D, E, d1)) [.int (xs (x + 1).toNatClampNeg), .int (xs (x + 2).toNatClampNeg), .int (xs (x + 3).toNatClampNeg), .int (xs (x + 4).toNatClampNeg), .int (xs (x + 5).toNatClampNeg)] [] X.1 hK (X.e1 hS) h1 h2 (fun q z y => X.2.2.2.2.2.1 q y z) hS X.2.2.2.1 (c_X8_laid l (D, E, d1) A1 M1 ((xs (x + 1).toNatClampNeg)) ((xs (x + 2).toNatClampNeg)) ((xs (x + 3).toNatClampNeg)) ((xs (x + 4).toNatClampNeg)) ((xs (x + 5).toNatClampNeg))) (cwV 5 X.1.2.2.2.2 gL_law_X8_laid rfl rfl rfl (by decide +kernel) ⟨(Nat.le_of_ble_eq_true rfl), (Nat.le_of_ble_eq_true rfl)⟩) (h1.r1 hK) rfl rfl hl.1 (Nat.le_of_ble_eq_true rfl) dL_law_827 ⟨(Nat.le_of_ble_eq_true rfl), (Nat.le_of_ble_eq_true rfl)⟩ (fun H locs h1 h2 hS => ?_)
  refine lv_aload_n X.1.1 X.1.2.1 dL_law_830 rfl (lv_at hl 2 rfl) ?_
  refine lv_aload_n X.1.1 X.1.2.1 dL_law_831 rfl (lv_at hl 0 rfl) ?_
  refine lv_iload_n X.1.1 X.1.2.1 dL_law_832 rfl (lv_at hl 3 rfl) ?_
  refine lv_iconst (v := 1) X.1.1 X.1.2.1 dL_law_833 (by decide) ?_
  refine lv_iadd X.1.1 X.1.2.1 dL_law_834 ?_
  refine va_sld X.1.1 X.1.2.1 X.2.2.2.2.2.2.1 X.2.2.2.2.2.2.2.1 hbA hS i1 dL_law_835 ?_
  refine lv_aload_n X.1.1 X.1.2.1 dL_law_836 rfl (lv_at hl 0 rfl) ?_
  refine lv_iload_n X.1.1 X.1.2.1 dL_law_837 rfl (lv_at hl 3 rfl) ?_
  refine lv_iconst (v := 2) X.1.1 X.1.2.1 dL_law_838 (by decide) ?_
  refine lv_iadd X.1.1 X.1.2.1 dL_law_839 ?_
  refine va_sld X.1.1 X.1.2.1 X.2.2.2.2.2.2.1 X.2.2.2.2.2.2.2.1 hbA hS i2 dL_law_840 ?_
  refine lv_aload_n X.1.1 X.1.2.1 dL_law_841 rfl (lv_at hl 0 rfl) ?_
  refine lv_iload_n X.1.1 X.1.2.1 dL_law_842 rfl (lv_at hl 3 rfl) ?_
  refine lv_iconst (v := 3) X.1.1 X.1.2.1 dL_law_843 (by decide) ?_
  refine lv_iadd X.1.1 X.1.2.1 dL_law_844 ?_
  refine va_sld X.1.1 X.1.2.1 X.2.2.2.2.2.2.1 X.2.2.2.2.2.2.2.1 hbA hS i3 dL_law_845 ?_
  refine lv_aload_n X.1.1 X.1.2.1 dL_law_846 rfl (lv_at hl 0 rfl) ?_
  refine lv_iload_n X.1.1 X.1.2.1 dL_law_847 rfl (lv_at hl 3 rfl) ?_
  refine lv_iconst (v := 4) X.1.1 X.1.2.1 dL_law_848 (by decide) ?_
  refine lv_iadd X.1.1 X.1.2.1 dL_law_849 ?_
  refine va_sld X.1.1 X.1.2.1 X.2.2.2.2.2.2.1 X.2.2.2.2.2.2.2.1 hbA hS i4 dL_law_850 ?_
  refine lv_aload_n X.1.1 X.1.2.1 dL_law_851 rfl (lv_at hl 0 rfl) ?_
  refine lv_iload_n X.1.1 X.1.2.1 dL_law_852 rfl (lv_at hl 3 rfl) ?_
  refine lv_iconst (v := 5) X.1.1 X.1.2.1 dL_law_853 (by decide) ?_
  refine lv_iadd X.1.1 X.1.2.1 dL_law_854 ?_
  refine va_sld X.1.1 X.1.2.1 X.2.2.2.2.2.2.1 X.2.2.2.2.2.2.2.1 hbA hS i5 dL_law_855 ?_
  refine lwW (b := false) (G := (D, E, d2)) [.int (xs (x + 1).toNatClampNeg), .int (xs (x + 2).toNatClampNeg), .int (xs (x + 3).toNatClampNeg), .int (xs (x + 4).toNatClampNeg), .int (xs (x + 5).toNatClampNeg)] [.int (f_X8_laid M1 ((xs (x + 1).toNatClampNeg)) ((xs (x + 2).toNatClampNeg)) ((xs (x + 3).toNatClampNeg)) ((xs (x + 4).toNatClampNeg)) ((xs (x + 5).toNatClampNeg))).1] X.1 hK ex0 h2 h1 (fun q z y => X.2.2.2.2.2.1 q z y) hS X.2.2.2.2.1 (c_X9_laid l (D, E, d2) A2 M2 ((xs (x + 1).toNatClampNeg)) ((xs (x + 2).toNatClampNeg)) ((xs (x + 3).toNatClampNeg)) ((xs (x + 4).toNatClampNeg)) ((xs (x + 5).toNatClampNeg))) (cwV 5 X.1.2.2.2.2 gL_law_X9_laid rfl rfl rfl (by decide +kernel) ⟨(Nat.le_of_ble_eq_true rfl), (Nat.le_of_ble_eq_true rfl)⟩) (h2.r2 hK) rfl rfl hl.1 (Nat.le_of_ble_eq_true rfl) dL_law_856 ⟨(Nat.le_of_ble_eq_true rfl), (Nat.le_of_ble_eq_true rfl)⟩ (fun H locs h2 h1 hS => ?_)
  obtain ⟨q1, q2⟩ := eq_laid ((xs (x + 1).toNatClampNeg)) ((xs (x + 2).toNatClampNeg)) ((xs (x + 3).toNatClampNeg)) ((xs (x + 4).toNatClampNeg)) ((xs (x + 5).toNatClampNeg)) hR
  exact lv_icmp_eq (tgt := 980) X.1.1 X.1.2.1 dL_law_859 (by decide) (fun _ => kk _ _ H locs h1 h2 q2 hS) (fun cz => absurd q1 cz)
set_option maxHeartbeats 4000000 in
set_option maxRecDepth 100000 in
theorem lc_clicks {p : Program} {e : Env} {s : State} {m : MethodId} {below : List Frame} {meth : Method} {c : Code} {H : Heap} {locs : List Loc} {ls : Array Slot} {Q : State → Prop} (l : Launch) {b L : Nat} {xs : Nat → Int32} {D : va_G} {E : Nat → ClassId} {d1 d2 : Nat → Nat} {A1 A2 : Nat → Prop} {M1 M2 : Mem} {x : Int32} (X : LX p s m c b L xs D E A1 A2) (hi : 0 ≤ x.toInt ∧ x.toInt + 6 ≤ L) (hl : lv_has ls 4 [(0, .ref b), (1, .ref (d1 0)), (2, .ref (d2 0)), (3, .int x)]) (h1 : W3 true (D, E, d1) A1 M1 H) (h2 : W3 false (D, E, d2) A2 M2 H) (hR : Rel M1 M2) (hS : va_S (oldC s) s.heap H locs)
    (kk : ∀ (M1 M2 : Mem) (H : Heap) (locs : List Loc), W3 true (D, E, d1) A1 M1 H → W3 false (D, E, d2) A2 M2 H → Rel M1 M2 → va_S (oldC s) s.heap H locs → W p l e room_1 s m #[Value.ref b] below meth c H locs 600000 7302250 Q (F0 m 980 ls [])) : W p l e room_1 s m #[Value.ref b] below meth c H locs 600000 7302250 Q (F0 m 864 ls []) := by
  have hK := X.2.1
  have hbA : ¬ oldC s b := Nat.not_le.mpr X.2.2.2.2.2.2.2.1
  have i1 : vp_in (x + 1) L := lwin 1 ⟨by decide, by decide⟩ hi X.2.2.2.2.2.2.2.2
  have i2 : vp_in (x + 2) L := lwin 2 ⟨by decide, by decide⟩ hi X.2.2.2.2.2.2.2.2
  have i3 : vp_in (x + 3) L := lwin 3 ⟨by decide, by decide⟩ hi X.2.2.2.2.2.2.2.2
  have i4 : vp_in (x + 4) L := lwin 4 ⟨by decide, by decide⟩ hi X.2.2.2.2.2.2.2.2
  refine lv_aload_n X.1.1 X.1.2.1 dL_law_864 rfl (lv_at hl 1 rfl) ?_
  refine lv_aload_n X.1.1 X.1.2.1 dL_law_865 rfl (lv_at hl 0 rfl) ?_
  refine lv_iload_n X.1.1 X.1.2.1 dL_law_866 rfl (lv_at hl 3 rfl) ?_
  refine lv_iconst (v := 1) X.1.1 X.1.2.1 dL_law_867 (by decide) ?_
  refine lv_iadd X.1.1 X.1.2.1 dL_law_868 ?_
  refine va_sld X.1.1 X.1.2.1 X.2.2.2.2.2.2.1 X.2.2.2.2.2.2.2.1 hbA hS i1 dL_law_869 ?_
  refine lv_aload_n X.1.1 X.1.2.1 dL_law_870 rfl (lv_at hl 0 rfl) ?_
  refine lv_iload_n X.1.1 X.1.2.1 dL_law_871 rfl (lv_at hl 3 rfl) ?_
  refine lv_iconst (v := 2) X.1.1 X.1.2.1 dL_law_872 (by decide) ?_
  refine lv_iadd X.1.1 X.1.2.1 dL_law_873 ?_
  refine va_sld X.1.1 X.1.2.1 X.2.2.2.2.2.2.1 X.2.2.2.2.2.2.2.1 hbA hS i2 dL_law_874 ?_
  refine lv_aload_n X.1.1 X.1.2.1 dL_law_875 rfl (lv_at hl 0 rfl) ?_
  refine lv_iload_n X.1.1 X.1.2.1 dL_law_876 rfl (lv_at hl 3 rfl) ?_
  refine lv_iconst (v := 3) X.1.1 X.1.2.1 dL_law_877 (by decide) ?_
  refine lv_iadd X.1.1 X.1.2.1 dL_law_878 ?_
  refine va_sld X.1.1 X.1.2.1 X.2.2.2.2.2.2.1 X.2.2.2.2.2.2.2.1 hbA hS i3 dL_law_879 ?_
  refine lv_aload_n X.1.1 X.1.2.1 dL_law_880 rfl (lv_at hl 0 rfl) ?_
  refine lv_iload_n X.1.1 X.1.2.1 dL_law_881 rfl (lv_at hl 3 rfl) ?_
  refine lv_iconst (v := 4) X.1.1 X.1.2.1 dL_law_882 (by decide) ?_
  refine lv_iadd X.1.1 X.1.2.1 dL_law_883 ?_
  refine va_sld X.1.1 X.1.2.1 X.2.2.2.2.2.2.1 X.2.2.2.2.2.2.2.1 hbA hS i4 dL_law_884 ?_
  refine lwW (b := true) (G := (D, E, d1)) [.int (xs (x + 1).toNatClampNeg), .int (xs (x + 2).toNatClampNeg), .int (xs (x + 3).toNatClampNeg), .int (xs (x + 4).toNatClampNeg)] [] X.1 hK (X.e1 hS) h1 h2 (fun q z y => X.2.2.2.2.2.1 q y z) hS X.2.2.2.1 (c_X8_clicks l (D, E, d1) A1 M1 ((xs (x + 1).toNatClampNeg)) ((xs (x + 2).toNatClampNeg)) ((xs (x + 3).toNatClampNeg)) ((xs (x + 4).toNatClampNeg))) (cwV 4 X.1.2.2.2.2 gL_law_X8_clicks rfl rfl rfl (by decide +kernel) ⟨(Nat.le_of_ble_eq_true rfl), (Nat.le_of_ble_eq_true rfl)⟩) (h1.r1 hK) rfl rfl hl.1 (Nat.le_of_ble_eq_true rfl) dL_law_885 ⟨(Nat.le_of_ble_eq_true rfl), (Nat.le_of_ble_eq_true rfl)⟩ (fun H locs h1 h2 hS => ?_)
  refine lv_aload_n X.1.1 X.1.2.1 dL_law_888 rfl (lv_at hl 2 rfl) ?_
  refine lv_aload_n X.1.1 X.1.2.1 dL_law_889 rfl (lv_at hl 0 rfl) ?_
  refine lv_iload_n X.1.1 X.1.2.1 dL_law_890 rfl (lv_at hl 3 rfl) ?_
  refine lv_iconst (v := 1) X.1.1 X.1.2.1 dL_law_891 (by decide) ?_
  refine lv_iadd X.1.1 X.1.2.1 dL_law_892 ?_
  refine va_sld X.1.1 X.1.2.1 X.2.2.2.2.2.2.1 X.2.2.2.2.2.2.2.1 hbA hS i1 dL_law_893 ?_
  refine lv_aload_n X.1.1 X.1.2.1 dL_law_894 rfl (lv_at hl 0 rfl) ?_
  refine lv_iload_n X.1.1 X.1.2.1 dL_law_895 rfl (lv_at hl 3 rfl) ?_
  refine lv_iconst (v := 2) X.1.1 X.1.2.1 dL_law_896 (by decide) ?_
  refine lv_iadd X.1.1 X.1.2.1 dL_law_897 ?_
  refine va_sld X.1.1 X.1.2.1 X.2.2.2.2.2.2.1 X.2.2.2.2.2.2.2.1 hbA hS i2 dL_law_898 ?_
  refine lv_aload_n X.1.1 X.1.2.1 dL_law_899 rfl (lv_at hl 0 rfl) ?_
  refine lv_iload_n X.1.1 X.1.2.1 dL_law_900 rfl (lv_at hl 3 rfl) ?_
  refine lv_iconst (v := 3) X.1.1 X.1.2.1 dL_law_901 (by decide) ?_
  refine lv_iadd X.1.1 X.1.2.1 dL_law_902 ?_
  refine va_sld X.1.1 X.1.2.1 X.2.2.2.2.2.2.1 X.2.2.2.2.2.2.2.1 hbA hS i3 dL_law_903 ?_
  refine lv_aload_n X.1.1 X.1.2.1 dL_law_904 rfl (lv_at hl 0 rfl) ?_
  refine lv_iload_n X.1.1 X.1.2.1 dL_law_905 rfl (lv_at hl 3 rfl) ?_
  refine lv_iconst (v := 4) X.1.1 X.1.2.1 dL_law_906 (by decide) ?_
  refine lv_iadd X.1.1 X.1.2.1 dL_law_907 ?_
  refine va_sld X.1.1 X.1.2.1 X.2.2.2.2.2.2.1 X.2.2.2.2.2.2.2.1 hbA hS i4 dL_law_908 ?_
  refine lwW (b := false) (G := (D, E, d2)) [.int (xs (x + 1).toNatClampNeg), .int (xs (x + 2).toNatClampNeg), .int (xs (x + 3).toNatClampNeg), .int (xs (x + 4).toNatClampNeg)] [.int (f_X8_clicks M1 ((xs (x + 1).toNatClampNeg)) ((xs (x + 2).toNatClampNeg)) ((xs (x + 3).toNatClampNeg)) ((xs (x + 4).toNatClampNeg))).1] X.1 hK ex0 h2 h1 (fun q z y => X.2.2.2.2.2.1 q z y) hS X.2.2.2.2.1 (c_X9_clicks l (D, E, d2) A2 M2 ((xs (x + 1).toNatClampNeg)) ((xs (x + 2).toNatClampNeg)) ((xs (x + 3).toNatClampNeg)) ((xs (x + 4).toNatClampNeg))) (cwV 4 X.1.2.2.2.2 gL_law_X9_clicks rfl rfl rfl (by decide +kernel) ⟨(Nat.le_of_ble_eq_true rfl), (Nat.le_of_ble_eq_true rfl)⟩) (h2.r2 hK) rfl rfl hl.1 (Nat.le_of_ble_eq_true rfl) dL_law_909 ⟨(Nat.le_of_ble_eq_true rfl), (Nat.le_of_ble_eq_true rfl)⟩ (fun H locs h2 h1 hS => ?_)
  obtain ⟨q1, q2⟩ := eq_clicks ((xs (x + 1).toNatClampNeg)) ((xs (x + 2).toNatClampNeg)) ((xs (x + 3).toNatClampNeg)) ((xs (x + 4).toNatClampNeg)) hR
  exact lv_icmp_eq (tgt := 980) X.1.1 X.1.2.1 dL_law_912 (by decide) (fun _ => kk _ _ H locs h1 h2 q2 hS) (fun cz => absurd q1 cz)
set_option maxHeartbeats 4000000 in
set_option maxRecDepth 100000 in
theorem lc_prefer {p : Program} {e : Env} {s : State} {m : MethodId} {below : List Frame} {meth : Method} {c : Code} {H : Heap} {locs : List Loc} {ls : Array Slot} {Q : State → Prop} (l : Launch) {b L : Nat} {xs : Nat → Int32} {D : va_G} {E : Nat → ClassId} {d1 d2 : Nat → Nat} {A1 A2 : Nat → Prop} {M1 M2 : Mem} {x : Int32} (X : LX p s m c b L xs D E A1 A2) (hi : 0 ≤ x.toInt ∧ x.toInt + 6 ≤ L) (hl : lv_has ls 4 [(0, .ref b), (1, .ref (d1 0)), (2, .ref (d2 0)), (3, .int x)]) (h1 : W3 true (D, E, d1) A1 M1 H) (h2 : W3 false (D, E, d2) A2 M2 H) (hR : Rel M1 M2) (hS : va_S (oldC s) s.heap H locs)
    (kk : ∀ (M1 M2 : Mem) (H : Heap) (locs : List Loc), W3 true (D, E, d1) A1 M1 H → W3 false (D, E, d2) A2 M2 H → Rel M1 M2 → va_S (oldC s) s.heap H locs → W p l e room_1 s m #[Value.ref b] below meth c H locs 600000 7302250 Q (F0 m 980 ls [])) : W p l e room_1 s m #[Value.ref b] below meth c H locs 600000 7302250 Q (F0 m 917 ls []) := by
  have hK := X.2.1
  have hbA : ¬ oldC s b := Nat.not_le.mpr X.2.2.2.2.2.2.2.1
  have i1 : vp_in (x + 1) L := lwin 1 ⟨by decide, by decide⟩ hi X.2.2.2.2.2.2.2.2
  have i2 : vp_in (x + 2) L := lwin 2 ⟨by decide, by decide⟩ hi X.2.2.2.2.2.2.2.2
  have i3 : vp_in (x + 3) L := lwin 3 ⟨by decide, by decide⟩ hi X.2.2.2.2.2.2.2.2
  have i4 : vp_in (x + 4) L := lwin 4 ⟨by decide, by decide⟩ hi X.2.2.2.2.2.2.2.2
  have i5 : vp_in (x + 5) L := lwin 5 ⟨by decide, by decide⟩ hi X.2.2.2.2.2.2.2.2
  refine lv_aload_n X.1.1 X.1.2.1 dL_law_917 rfl (lv_at hl 1 rfl) ?_
  refine lv_aload_n X.1.1 X.1.2.1 dL_law_918 rfl (lv_at hl 0 rfl) ?_
  refine lv_iload_n X.1.1 X.1.2.1 dL_law_919 rfl (lv_at hl 3 rfl) ?_
  refine lv_iconst (v := 1) X.1.1 X.1.2.1 dL_law_920 (by decide) ?_
  refine lv_iadd X.1.1 X.1.2.1 dL_law_921 ?_
  refine va_sld X.1.1 X.1.2.1 X.2.2.2.2.2.2.1 X.2.2.2.2.2.2.2.1 hbA hS i1 dL_law_922 ?_
  refine lv_aload_n X.1.1 X.1.2.1 dL_law_923 rfl (lv_at hl 0 rfl) ?_
  refine lv_iload_n X.1.1 X.1.2.1 dL_law_924 rfl (lv_at hl 3 rfl) ?_
  refine lv_iconst (v := 2) X.1.1 X.1.2.1 dL_law_925 (by decide) ?_
  refine lv_iadd X.1.1 X.1.2.1 dL_law_926 ?_
  refine va_sld X.1.1 X.1.2.1 X.2.2.2.2.2.2.1 X.2.2.2.2.2.2.2.1 hbA hS i2 dL_law_927 ?_
  refine lv_aload_n X.1.1 X.1.2.1 dL_law_928 rfl (lv_at hl 0 rfl) ?_
  refine lv_iload_n X.1.1 X.1.2.1 dL_law_929 rfl (lv_at hl 3 rfl) ?_
  refine lv_iconst (v := 3) X.1.1 X.1.2.1 dL_law_930 (by decide) ?_
  refine lv_iadd X.1.1 X.1.2.1 dL_law_931 ?_
  refine va_sld X.1.1 X.1.2.1 X.2.2.2.2.2.2.1 X.2.2.2.2.2.2.2.1 hbA hS i3 dL_law_932 ?_
  refine lv_aload_n X.1.1 X.1.2.1 dL_law_933 rfl (lv_at hl 0 rfl) ?_
  refine lv_iload_n X.1.1 X.1.2.1 dL_law_934 rfl (lv_at hl 3 rfl) ?_
  refine lv_iconst (v := 4) X.1.1 X.1.2.1 dL_law_935 (by decide) ?_
  refine lv_iadd X.1.1 X.1.2.1 dL_law_936 ?_
  refine va_sld X.1.1 X.1.2.1 X.2.2.2.2.2.2.1 X.2.2.2.2.2.2.2.1 hbA hS i4 dL_law_937 ?_
  refine lv_aload_n X.1.1 X.1.2.1 dL_law_938 rfl (lv_at hl 0 rfl) ?_
  refine lv_iload_n X.1.1 X.1.2.1 dL_law_939 rfl (lv_at hl 3 rfl) ?_
  refine lv_iconst (v := 5) X.1.1 X.1.2.1 dL_law_940 (by decide) ?_
  refine lv_iadd X.1.1 X.1.2.1 dL_law_941 ?_
  refine va_sld X.1.1 X.1.2.1 X.2.2.2.2.2.2.1 X.2.2.2.2.2.2.2.1 hbA hS i5 dL_law_942 ?_
  refine lwW (b := true) (G := (D, E, d1)) [.int (xs (x + 1).toNatClampNeg), .int (xs (x + 2).toNatClampNeg), .int (xs (x + 3).toNatClampNeg), .int (xs (x + 4).toNatClampNeg), .int (xs (x + 5).toNatClampNeg)] [] X.1 hK (X.e1 hS) h1 h2 (fun q z y => X.2.2.2.2.2.1 q y z) hS X.2.2.2.1 (c_X8_prefer l (D, E, d1) A1 M1 ((xs (x + 1).toNatClampNeg)) ((xs (x + 2).toNatClampNeg)) ((xs (x + 3).toNatClampNeg)) ((xs (x + 4).toNatClampNeg)) ((xs (x + 5).toNatClampNeg))) (cwV 5 X.1.2.2.2.2 gL_law_X8_prefer rfl rfl rfl (by decide +kernel) ⟨(Nat.le_of_ble_eq_true rfl), (Nat.le_of_ble_eq_true rfl)⟩) (h1.r1 hK) rfl rfl hl.1 (Nat.le_of_ble_eq_true rfl) dL_law_943 ⟨(Nat.le_of_ble_eq_true rfl), (Nat.le_of_ble_eq_true rfl)⟩ (fun H locs h1 h2 hS => ?_)
  refine lv_aload_n X.1.1 X.1.2.1 dL_law_946 rfl (lv_at hl 2 rfl) ?_
  refine lv_aload_n X.1.1 X.1.2.1 dL_law_947 rfl (lv_at hl 0 rfl) ?_
  refine lv_iload_n X.1.1 X.1.2.1 dL_law_948 rfl (lv_at hl 3 rfl) ?_
  refine lv_iconst (v := 1) X.1.1 X.1.2.1 dL_law_949 (by decide) ?_
  refine lv_iadd X.1.1 X.1.2.1 dL_law_950 ?_
  refine va_sld X.1.1 X.1.2.1 X.2.2.2.2.2.2.1 X.2.2.2.2.2.2.2.1 hbA hS i1 dL_law_951 ?_
  refine lv_aload_n X.1.1 X.1.2.1 dL_law_952 rfl (lv_at hl 0 rfl) ?_
  refine lv_iload_n X.1.1 X.1.2.1 dL_law_953 rfl (lv_at hl 3 rfl) ?_
  refine lv_iconst (v := 2) X.1.1 X.1.2.1 dL_law_954 (by decide) ?_
  refine lv_iadd X.1.1 X.1.2.1 dL_law_955 ?_
  refine va_sld X.1.1 X.1.2.1 X.2.2.2.2.2.2.1 X.2.2.2.2.2.2.2.1 hbA hS i2 dL_law_956 ?_
  refine lv_aload_n X.1.1 X.1.2.1 dL_law_957 rfl (lv_at hl 0 rfl) ?_
  refine lv_iload_n X.1.1 X.1.2.1 dL_law_958 rfl (lv_at hl 3 rfl) ?_
  refine lv_iconst (v := 3) X.1.1 X.1.2.1 dL_law_959 (by decide) ?_
  refine lv_iadd X.1.1 X.1.2.1 dL_law_960 ?_
  refine va_sld X.1.1 X.1.2.1 X.2.2.2.2.2.2.1 X.2.2.2.2.2.2.2.1 hbA hS i3 dL_law_961 ?_
  refine lv_aload_n X.1.1 X.1.2.1 dL_law_962 rfl (lv_at hl 0 rfl) ?_
  refine lv_iload_n X.1.1 X.1.2.1 dL_law_963 rfl (lv_at hl 3 rfl) ?_
  refine lv_iconst (v := 4) X.1.1 X.1.2.1 dL_law_964 (by decide) ?_
  refine lv_iadd X.1.1 X.1.2.1 dL_law_965 ?_
  refine va_sld X.1.1 X.1.2.1 X.2.2.2.2.2.2.1 X.2.2.2.2.2.2.2.1 hbA hS i4 dL_law_966 ?_
  refine lv_aload_n X.1.1 X.1.2.1 dL_law_967 rfl (lv_at hl 0 rfl) ?_
  refine lv_iload_n X.1.1 X.1.2.1 dL_law_968 rfl (lv_at hl 3 rfl) ?_
  refine lv_iconst (v := 5) X.1.1 X.1.2.1 dL_law_969 (by decide) ?_
  refine lv_iadd X.1.1 X.1.2.1 dL_law_970 ?_
  refine va_sld X.1.1 X.1.2.1 X.2.2.2.2.2.2.1 X.2.2.2.2.2.2.2.1 hbA hS i5 dL_law_971 ?_
  refine lwW (b := false) (G := (D, E, d2)) [.int (xs (x + 1).toNatClampNeg), .int (xs (x + 2).toNatClampNeg), .int (xs (x + 3).toNatClampNeg), .int (xs (x + 4).toNatClampNeg), .int (xs (x + 5).toNatClampNeg)] [.int (f_X8_prefer M1 ((xs (x + 1).toNatClampNeg)) ((xs (x + 2).toNatClampNeg)) ((xs (x + 3).toNatClampNeg)) ((xs (x + 4).toNatClampNeg)) ((xs (x + 5).toNatClampNeg))).1] X.1 hK ex0 h2 h1 (fun q z y => X.2.2.2.2.2.1 q z y) hS X.2.2.2.2.1 (c_X9_prefer l (D, E, d2) A2 M2 ((xs (x + 1).toNatClampNeg)) ((xs (x + 2).toNatClampNeg)) ((xs (x + 3).toNatClampNeg)) ((xs (x + 4).toNatClampNeg)) ((xs (x + 5).toNatClampNeg))) (cwV 5 X.1.2.2.2.2 gL_law_X9_prefer rfl rfl rfl (by decide +kernel) ⟨(Nat.le_of_ble_eq_true rfl), (Nat.le_of_ble_eq_true rfl)⟩) (h2.r2 hK) rfl rfl hl.1 (Nat.le_of_ble_eq_true rfl) dL_law_972 ⟨(Nat.le_of_ble_eq_true rfl), (Nat.le_of_ble_eq_true rfl)⟩ (fun H locs h2 h1 hS => ?_)
  obtain ⟨q1, q2⟩ := eq_prefer ((xs (x + 1).toNatClampNeg)) ((xs (x + 2).toNatClampNeg)) ((xs (x + 3).toNatClampNeg)) ((xs (x + 4).toNatClampNeg)) ((xs (x + 5).toNatClampNeg)) hR
  exact lv_icmp_eq (tgt := 980) X.1.1 X.1.2.1 dL_law_975 (by decide) (fun _ => kk _ _ H locs h1 h2 q2 hS) (fun cz => absurd q1 cz)

/-! 88c: likeness -/
theorem sm_add (f g : Nat → Int) : ∀ n, sm (fun i => f i + g i) n = sm f n + sm g n
  | 0 => rfl
  | n + 1 => by rw [sm, sm, sm, sm_add f g n]; omega
theorem sm_z {f : Nat → Int} : ∀ n, (∀ i, i < n → f i = 0) → sm f n = 0
  | 0, _ => rfl
  | n + 1, h => by rw [sm, sm_z n (fun i hi => h i (by omega)), h n (by omega)]; rfl
theorem sm_out (F : Nat → Int) (a : Nat) : ∀ k, sm F k = sm (fun i => if i = a then 0 else F i) k + (if a < k then F a else 0)
  | 0 => by rw [sm, sm, if_neg (by omega)]; rfl
  | k + 1 => by
    have ih := sm_out F a k
    rw [sm, sm, ih]
    by_cases c : k = a
    · subst c
      rw [if_neg (show ¬ k < k by omega), if_pos rfl, if_pos (show k < k + 1 by omega)]
    · rw [if_neg c]
      by_cases c2 : a < k
      · rw [if_pos c2, if_pos (by omega)]; omega
      · rw [if_neg c2, if_neg (by omega)]; omega
/-- a sum over documents is one over a row's places -/
theorem reix {d : Nat → Nat} : ∀ (n : Nat) (F : Nat → Int), (∀ i, i < n → d i < 24) → (∀ i j, i < n → j < n → d i = d j → i = j) → (∀ a, a < 24 → (∀ i, i < n → d i ≠ a) → F a = 0) → sm F 24 = sm (fun i => F (d i)) n
  | 0, F, _, _, hz => sm_z 24 (fun a ha => hz a ha (fun i hi => absurd hi (by omega)))
  | n + 1, F, hd, hi, hz => by
    have es : sm (fun i => F (d i)) (n + 1) = sm (fun i => F (d i)) n + F (d n) := rfl
    rw [sm_out F (d n) 24, if_pos (hd n (by omega)), es]
    have ih := reix n (fun i => if i = d n then 0 else F i) (fun i h => hd i (by omega)) (fun i j h1 h2 => hi i j (by omega) (by omega)) (fun a ha h => by
      show (if a = d n then 0 else F a) = 0
      by_cases c : a = d n
      · rw [if_pos c]
      · rw [if_neg c]
        exact hz a ha (fun i h2 => by
          rcases Nat.lt_or_ge i n with z | z
          · exact h i z
          · have : i = n := by omega
            subst this
            exact fun e => c e.symm))
    rw [ih]
    congr 1
    refine sm_congr n (fun i h => ?_)
    show (if d i = d n then 0 else F (d i)) = F (d i)
    rw [if_neg (fun e => by have := hi i n (by omega) (by omega) e; omega)]
/-- below the diagonal, above the diagonal -/
def lowS (h : Nat → Nat → Int) (n : Nat) : Int := sm (fun j => sm (fun i => h i j) j) n
def upS2 (h : Nat → Nat → Int) (n : Nat) : Int := sm (fun a => sm (fun b => if a < b then h a b else 0) n) n
def allS (h : Nat → Nat → Int) (n : Nat) : Int := sm (fun a => sm (fun b => h a b) n) n
theorem all_low {h : Nat → Nat → Int} {N : Nat} (hs : ∀ a b, a < N → b < N → h a b = h b a) (h0 : ∀ a, a < N → h a a = 0) : ∀ n, n ≤ N → allS h n = 2 * lowS h n
  | 0, _ => rfl
  | n + 1, hn => by
    have ih := all_low hs h0 n (by omega)
    unfold allS lowS at *
    have e1 : sm (fun a => sm (fun b => h a b) (n + 1)) (n + 1) = sm (fun a => sm (fun b => h a b) n + h a n) n + (sm (fun b => h n b) n + h n n) := rfl
    have e2 : sm (fun j => sm (fun i => h i j) j) (n + 1) = sm (fun j => sm (fun i => h i j) j) n + sm (fun i => h i n) n := rfl
    have e3 : sm (fun b => h n b) n = sm (fun i => h i n) n := sm_congr n (fun i hi => hs n i (by omega) (by omega))
    rw [e1, e2, sm_add (fun a => sm (fun b => h a b) n) (fun a => h a n), ih, h0 n (by omega), e3]
    omega
theorem up_low (h : Nat → Nat → Int) : ∀ n, upS2 h n = lowS h n
  | 0 => rfl
  | n + 1 => by
    have ih := up_low h n
    unfold upS2 lowS at *
    have e1 : sm (fun a => sm (fun b => if a < b then h a b else 0) (n + 1)) (n + 1) = sm (fun a => sm (fun b => if a < b then h a b else 0) n + (if a < n then h a n else 0)) n + sm (fun b => if n < b then h n b else 0) (n + 1) := rfl
    have e2 : sm (fun j => sm (fun i => h i j) j) (n + 1) = sm (fun j => sm (fun i => h i j) j) n + sm (fun i => h i n) n := rfl
    rw [e1, e2, sm_add (fun a => sm (fun b => if a < b then h a b else 0) n) (fun a => if a < n then h a n else 0), ih, sm_z (f := fun b => if n < b then h n b else 0) (n + 1) (fun i hi => if_neg (by omega))]
    have e3 : sm (fun a => if a < n then h a n else 0) n = sm (fun i => h i n) n := sm_congr n (fun i hi => if_pos hi)
    rw [e3]; omega
/-- pairs of documents and pairs of places -/
theorem pairs_eq {h : Nat → Nat → Int} {d : Nat → Nat} {n : Nat} (hs : ∀ a b, h a b = h b a) (h0 : ∀ a, h a a = 0) (hd : ∀ i, i < n → d i < 24) (hi : ∀ i j, i < n → j < n → d i = d j → i = j) (hz : ∀ a b, a < 24 → b < 24 → (∀ i, i < n → d i ≠ a) → h a b = 0) : upS2 h 24 = lowS (fun i j => h (d i) (d j)) n := by
  have e1 : allS h 24 = allS (fun i j => h (d i) (d j)) n := by
    unfold allS
    rw [reix (d := d) n (fun a => sm (fun b => h a b) 24) hd hi (fun a ha hn => sm_z 24 (fun b hb => hz a b ha hb hn))]
    refine sm_congr n (fun i hi2 => ?_)
    exact reix (d := d) n (fun b => h (d i) b) hd hi (fun b hb hn => by rw [hs]; exact hz b (d i) hb (hd i hi2) hn)
  have e2 := all_low (h := h) (N := 24) (fun a b _ _ => hs a b) (fun a _ => h0 a) 24 (Nat.le_refl _)
  have e3 := all_low (h := fun i j => h (d i) (d j)) (N := n) (fun a b _ _ => hs _ _) (fun a _ => h0 _) n (Nat.le_refl _)
  have e4 := up_low h 24
  omega
/-- a document's place: which is it -/
theorem p2_self {S : Ab} (ho : okA S) {r q i : Nat} (hi : i < S.2.1 r q) : p2 S r q (S.2.2.2 r q i) = i := by
  unfold p2
  have fl := fnd_le (S.2.2.2 r q) (S.2.2.2 r q i) (S.2.1 r q) 0
  have hlt : fnd (S.2.2.2 r q) (S.2.2.2 r q i) 0 (S.2.1 r q) ≤ i := by
    rcases Nat.lt_or_ge i (fnd (S.2.2.2 r q) (S.2.2.2 r q i) 0 (S.2.1 r q)) with z | z
    · exact absurd rfl (fnd_no (S.2.2.2 r q) (S.2.2.2 r q i) (S.2.1 r q) 0 i (by omega) z)
    · exact z
  have ha := fnd_at (S.2.2.2 r q) (S.2.2.2 r q i) (S.2.1 r q) 0 (by omega)
  exact ho.2.2.2.1 r q _ i (by omega) hi (by omega)
theorem p2_at {S : Ab} {r q : Nat} {a : Int} (h : p2 S r q a < S.2.1 r q) : (S.2.2.2 r q (p2 S r q a) : Int) = a := by
  unfold p2 at *
  exact fnd_at (S.2.2.2 r q) a (S.2.1 r q) 0 (by omega)
def fd (S : Ab) (r q a : Nat) : Bool := decide (p2 S r q a < S.2.1 r q)
/-- do two documents stand alike in both rows: 1, -1; 0: not all found -/
def hl (S : Ab) (r1 r2 q a b : Nat) : Int := if a ≠ b ∧ fd S r1 q a = true ∧ fd S r1 q b = true ∧ fd S r2 q a = true ∧ fd S r2 q b = true then (if (p2 S r1 q b ≤ p2 S r1 q a ↔ p2 S r2 q b ≤ p2 S r2 q a) then 1 else -1) else 0
def hc (S : Ab) (r1 r2 q a b : Nat) : Int := if a ≠ b ∧ fd S r1 q a = true ∧ fd S r1 q b = true ∧ fd S r2 q a = true ∧ fd S r2 q b = true then 1 else 0
theorem p2_ne {S : Ab} {r q a b : Nat} (hab : a ≠ b) (ha : fd S r q a = true) (hb : fd S r q b = true) : p2 S r q a ≠ p2 S r q b := by
  intro e
  unfold fd at ha hb
  simp at ha hb
  have h1 := p2_at ha
  have h2 := p2_at hb
  rw [e] at h1
  omega
theorem hl_s (S : Ab) (r1 r2 q a b : Nat) : hl S r1 r2 q a b = hl S r1 r2 q b a := by
  unfold hl
  by_cases c : a ≠ b ∧ fd S r1 q a = true ∧ fd S r1 q b = true ∧ fd S r2 q a = true ∧ fd S r2 q b = true
  · rw [if_pos c, if_pos (show b ≠ a ∧ fd S r1 q b = true ∧ fd S r1 q a = true ∧ fd S r2 q b = true ∧ fd S r2 q a = true from ⟨fun e => c.1 e.symm, c.2.2.1, c.2.1, c.2.2.2.2, c.2.2.2.1⟩)]
    have n1 := p2_ne c.1 c.2.1 c.2.2.1
    have n2 := p2_ne c.1 c.2.2.2.1 c.2.2.2.2
    by_cases e : (p2 S r1 q b ≤ p2 S r1 q a ↔ p2 S r2 q b ≤ p2 S r2 q a)
    · rw [if_pos e, if_pos (by omega)]
    · rw [if_neg e, if_neg (by omega)]
  · rw [if_neg c, if_neg (fun z => c ⟨fun e => z.1 e.symm, z.2.2.1, z.2.1, z.2.2.2.2, z.2.2.2.1⟩)]
theorem hc_s (S : Ab) (r1 r2 q a b : Nat) : hc S r1 r2 q a b = hc S r1 r2 q b a := by
  unfold hc
  by_cases c : a ≠ b ∧ fd S r1 q a = true ∧ fd S r1 q b = true ∧ fd S r2 q a = true ∧ fd S r2 q b = true
  · rw [if_pos c, if_pos (show b ≠ a ∧ fd S r1 q b = true ∧ fd S r1 q a = true ∧ fd S r2 q b = true ∧ fd S r2 q a = true from ⟨fun e => c.1 e.symm, c.2.2.1, c.2.1, c.2.2.2.2, c.2.2.2.1⟩)]
  · rw [if_neg c, if_neg (fun z => c ⟨fun e => z.1 e.symm, z.2.2.1, z.2.1, z.2.2.2.2, z.2.2.2.1⟩)]
theorem fd_no {S : Ab} {r q a : Nat} (h : ∀ i, i < S.2.1 r q → S.2.2.2 r q i ≠ a) : ¬ fd S r q a = true := by
  intro e
  unfold fd at e
  simp at e
  have := p2_at e
  exact h _ e (by omega)
theorem hl_eq {S : Ab} (ho : okA S) (r1 r2 q : Nat) : upS2 (hl S r1 r2 q) 24 = lowS (fun i j => hl S r1 r2 q (S.2.2.2 r1 q i) (S.2.2.2 r1 q j)) (S.2.1 r1 q) :=
  pairs_eq (hl_s S r1 r2 q) (fun a => if_neg (fun z => z.1 rfl)) (fun i hi => ho.2.2.1 r1 q i hi) (fun i j h1 h2 e => ho.2.2.2.1 r1 q i j h1 h2 e) (fun a b _ _ h => if_neg (fun z => fd_no h z.2.1))
theorem hc_eq {S : Ab} (ho : okA S) (r1 r2 q : Nat) : upS2 (hc S r1 r2 q) 24 = lowS (fun i j => hc S r1 r2 q (S.2.2.2 r1 q i) (S.2.2.2 r1 q j)) (S.2.1 r1 q) :=
  pairs_eq (hc_s S r1 r2 q) (fun a => if_neg (fun z => z.1 rfl)) (fun i hi => ho.2.2.1 r1 q i hi) (fun i j h1 h2 e => ho.2.2.2.1 r1 q i j h1 h2 e) (fun a b _ _ h => if_neg (fun z => fd_no h z.2.1))
/-- what a pair of places gives -/
theorem hl_pl {S : Ab} (ho : okA S) {r1 r2 q i j : Nat} (hij : i < j) (hj : j < S.2.1 r1 q) : hl S r1 r2 q (S.2.2.2 r1 q i) (S.2.2.2 r1 q j) = (if fd S r2 q (S.2.2.2 r1 q i) = true ∧ fd S r2 q (S.2.2.2 r1 q j) = true then (if p2 S r2 q (S.2.2.2 r1 q j) ≤ p2 S r2 q (S.2.2.2 r1 q i) then -1 else 1) else 0) ∧ hc S r1 r2 q (S.2.2.2 r1 q i) (S.2.2.2 r1 q j) = (if fd S r2 q (S.2.2.2 r1 q i) = true ∧ fd S r2 q (S.2.2.2 r1 q j) = true then 1 else 0) := by
  have e1 := p2_self ho (r := r1) (q := q) (i := i) (by omega)
  have e2 := p2_self ho (r := r1) (q := q) (i := j) hj
  have f1 : fd S r1 q (S.2.2.2 r1 q i) = true := by unfold fd; simp; omega
  have f2 : fd S r1 q (S.2.2.2 r1 q j) = true := by unfold fd; simp; omega
  have ne : S.2.2.2 r1 q i ≠ S.2.2.2 r1 q j := fun e => by have := ho.2.2.2.1 r1 q i j (by omega) hj e; omega
  unfold hl hc
  rw [e1, e2]
  by_cases c : fd S r2 q (S.2.2.2 r1 q i) = true ∧ fd S r2 q (S.2.2.2 r1 q j) = true
  · have cc : S.2.2.2 r1 q i ≠ S.2.2.2 r1 q j ∧ fd S r1 q (S.2.2.2 r1 q i) = true ∧ fd S r1 q (S.2.2.2 r1 q j) = true ∧ fd S r2 q (S.2.2.2 r1 q i) = true ∧ fd S r2 q (S.2.2.2 r1 q j) = true := ⟨ne, f1, f2, c.1, c.2⟩
    rw [if_pos c, if_pos c, if_pos cc, if_pos cc]
    refine ⟨?_, rfl⟩
    by_cases c2 : p2 S r2 q (S.2.2.2 r1 q j) ≤ p2 S r2 q (S.2.2.2 r1 q i)
    · rw [if_pos c2, if_neg (by omega)]
    · rw [if_neg c2, if_pos (by omega)]
  · have cc : ¬ (S.2.2.2 r1 q i ≠ S.2.2.2 r1 q j ∧ fd S r1 q (S.2.2.2 r1 q i) = true ∧ fd S r1 q (S.2.2.2 r1 q j) = true ∧ fd S r2 q (S.2.2.2 r1 q i) = true ∧ fd S r2 q (S.2.2.2 r1 q j) = true) := fun z => c z.2.2.2
    rw [if_neg c, if_neg c, if_neg cc, if_neg cc]
    exact ⟨rfl, rfl⟩
theorem hl_bd (S : Ab) (r1 r2 q a b : Nat) : (-1 ≤ hl S r1 r2 q a b ∧ hl S r1 r2 q a b ≤ 1) ∧ 0 ≤ hc S r1 r2 q a b ∧ hc S r1 r2 q a b ≤ 1 := by
  unfold hl hc
  by_cases c : a ≠ b ∧ fd S r1 q a = true ∧ fd S r1 q b = true ∧ fd S r2 q a = true ∧ fd S r2 q b = true
  · rw [if_pos c, if_pos c]
    refine ⟨?_, by omega, by omega⟩
    split <;> omega
  · rw [if_neg c, if_neg c]; omega
theorem sm_pm {w : Nat → Int} : ∀ k, (∀ i, i < k → -1 ≤ w i ∧ w i ≤ 1) → -(k : Int) ≤ sm w k ∧ sm w k ≤ k
  | 0, _ => by rw [sm]; omega
  | k + 1, h => by
    have h1 := sm_pm k (fun i hi => h i (by omega))
    have h2 := h k (by omega)
    rw [sm]
    omega
/-- the bench: inner loop -/
theorem kL_32 {S : Ab} {M : Mem} (ho : okA S) (hK : AbK S M) (K : Int32 → Int32 → Int32 × Mem) {fi r1 r2 q : Nat} (hr1 : r1 < 4) (hr2 : r2 < 4) (hq : q < 8) {v5 r7 : Int32} {j : Nat} (h5 : v5.toInt = j + 1) (hj : j < S.2.1 r1 q) (h7 : r7.toInt = if p2 S r2 q (S.2.2.2 r1 q j) = S.2.1 r2 q then 0 else ((p2 S r2 q (S.2.2.2 r1 q j) + 1 : Nat) : Int)) : ∀ (l n i : Nat) (u3 u4 u7 : Int32), u7.toInt = i + 1 → i + l = j → (0 ≤ u3.toInt ∧ u3.toInt + l ≤ 1000) → (-1000 ≤ u4.toInt - l ∧ u4.toInt + l ≤ 1000) → l < n → ∃ y3 y4 : Int32, f_X5_putLikeness_32 K n M fi (34 + 4 * q + r1) (34 + 4 * q + r2) v5 r7 u3 u4 u7 = K y3 y4 ∧ y3.toInt + sm (fun i => hc S r1 r2 q (S.2.2.2 r1 q i) (S.2.2.2 r1 q j)) i = u3.toInt + sm (fun i => hc S r1 r2 q (S.2.2.2 r1 q i) (S.2.2.2 r1 q j)) j ∧ y4.toInt + sm (fun i => hl S r1 r2 q (S.2.2.2 r1 q i) (S.2.2.2 r1 q j)) i = u4.toInt + sm (fun i => hl S r1 r2 q (S.2.2.2 r1 q i) (S.2.2.2 r1 q j)) j := by
  intro l
  have h16 := ho.2.1 r1 q
  have hp := pp2_le S r2 q (S.2.2.2 r1 q j)
  induction l with
  | zero =>
    intro n i u3 u4 u7 hu hi b3 b4 hn
    obtain ⟨n, rfl⟩ : ∃ y, n = y + 1 := ⟨n - 1, by omega⟩
    have z : i = j := by omega
    subst z
    rw [f_X5_putLikeness_32, if_pos (show v5 ≤ u7 from Int32.le_iff_toInt_le.mpr (by omega))]
    exact ⟨u3, u4, rfl, rfl, rfl⟩
  | succ l ih =>
    intro n i u3 u4 u7 hu hi b3 b4 hn
    obtain ⟨n, rfl⟩ : ∃ y, n = y + 1 := ⟨n - 1, by omega⟩
    rw [f_X5_putLikeness_32, if_neg (show ¬ v5 ≤ u7 from fun z => by have t := i_le z; omega)]
    simp only [bnd_eq]
    by_cases c7 : p2 S r2 q (S.2.2.2 r1 q j) = S.2.1 r2 q
    · -- the later one is not in the other row
      rw [if_pos c7] at h7
      rw [if_pos (show r7 ≤ 0 from Int32.le_iff_toInt_le.mpr (by show r7.toInt ≤ 0; omega))]
      have nf : ¬ fd S r2 q (S.2.2.2 r1 q j) = true := by unfold fd; simp; omega
      have z0 : ∀ x, x ≤ j → sm (fun i => hc S r1 r2 q (S.2.2.2 r1 q i) (S.2.2.2 r1 q j)) x = 0 ∧ sm (fun i => hl S r1 r2 q (S.2.2.2 r1 q i) (S.2.2.2 r1 q j)) x = 0 := fun x hx => ⟨sm_z x (fun i hi => if_neg (fun z => nf z.2.2.2.2)), sm_z x (fun i hi => if_neg (fun z => nf z.2.2.2.2))⟩
      refine ⟨u3, u4, rfl, ?_, ?_⟩
      · rw [(z0 i (by omega)).1, (z0 j (by omega)).1]
      · rw [(z0 i (by omega)).2, (z0 j (by omega)).2]
    · rw [if_neg c7] at h7
      have f7 : fd S r2 q (S.2.2.2 r1 q j) = true := by unfold fd; simp; omega
      rw [if_neg (show ¬ r7 ≤ 0 from fun z => by have t : r7.toInt ≤ 0 := i_le z; omega)]
      have ed := kDoc ho hK hr1 hq (a := u7) (by omega) (by omega)
      rw [show (u7.toInt - 1).toNat = i by omega] at ed
      have er := kRank ho hK hr2 hq (f_X7_documentAt M (34 + 4 * q + r1) u7)
      rw [ed] at er
      have ep : fnd (S.2.2.2 r2 q) (S.2.2.2 r1 q i) 0 (S.2.1 r2 q) = p2 S r2 q (S.2.2.2 r1 q i) := rfl
      rw [ep] at er
      have hp2 := pp2_le S r2 q (S.2.2.2 r1 q i)
      generalize f_X7_rankOf M (34 + 4 * q + r2) (f_X7_documentAt M (34 + 4 * q + r1) u7) = r15 at *
      have q7 := inc_sp u7
      have q3 := inc_sp u3
      have q4 := inc_sp u4
      have pl := hl_pl ho (r1 := r1) (r2 := r2) (q := q) (show i < j by omega) hj
      have s1 : sm (fun i => hc S r1 r2 q (S.2.2.2 r1 q i) (S.2.2.2 r1 q j)) (i + 1) = sm (fun i => hc S r1 r2 q (S.2.2.2 r1 q i) (S.2.2.2 r1 q j)) i + hc S r1 r2 q (S.2.2.2 r1 q i) (S.2.2.2 r1 q j) := rfl
      have s2 : sm (fun i => hl S r1 r2 q (S.2.2.2 r1 q i) (S.2.2.2 r1 q j)) (i + 1) = sm (fun i => hl S r1 r2 q (S.2.2.2 r1 q i) (S.2.2.2 r1 q j)) i + hl S r1 r2 q (S.2.2.2 r1 q i) (S.2.2.2 r1 q j) := rfl
      rw [pl.2] at s1
      rw [pl.1] at s2
      by_cases c15 : p2 S r2 q (S.2.2.2 r1 q i) = S.2.1 r2 q
      · rw [if_pos c15] at er
        have nf : ¬ (fd S r2 q (S.2.2.2 r1 q i) = true ∧ fd S r2 q (S.2.2.2 r1 q j) = true) := fun z => by have y := z.1; unfold fd at y; simp at y; omega
        rw [if_neg nf] at s1 s2
        rw [if_pos (show r15 ≤ 0 from Int32.le_iff_toInt_le.mpr (by show r15.toInt ≤ 0; omega))]
        obtain ⟨y3, y4, E, e3, e4⟩ := ih n (i + 1) u3 u4 (u7 + 1) (by omega) (by omega) (by omega) (by omega) (by omega)
        exact ⟨y3, y4, E, by omega, by omega⟩
      · rw [if_neg c15] at er
        have f15 : fd S r2 q (S.2.2.2 r1 q i) = true := by unfold fd; simp; omega
        rw [if_pos ⟨f15, f7⟩] at s1 s2
        rw [if_neg (show ¬ r15 ≤ 0 from fun z => by have t : r15.toInt ≤ 0 := i_le z; omega)]
        by_cases cc : r7 ≤ r15
        · have t := i_le cc
          rw [if_pos (show p2 S r2 q (S.2.2.2 r1 q j) ≤ p2 S r2 q (S.2.2.2 r1 q i) by omega)] at s2
          rw [if_pos cc]
          obtain ⟨v6, e6, qd⟩ : ∃ v6 : Int32, u4 + (-1) = v6 ∧ v6.toInt = u4.toInt - 1 := ⟨_, rfl, dec_ok (by omega)⟩
          rw [e6]
          obtain ⟨y3, y4, E, e3, e4⟩ := ih n (i + 1) (u3 + 1) v6 (u7 + 1) (by omega) (by omega) (by omega) (by omega) (by omega)
          exact ⟨y3, y4, E, by omega, by omega⟩
        · have t := i_nle cc
          rw [if_neg (show ¬ p2 S r2 q (S.2.2.2 r1 q j) ≤ p2 S r2 q (S.2.2.2 r1 q i) by omega)] at s2
          rw [if_neg cc]
          obtain ⟨y3, y4, E, e3, e4⟩ := ih n (i + 1) (u3 + 1) (u4 + 1) (u7 + 1) (by omega) (by omega) (by omega) (by omega) (by omega)
          exact ⟨y3, y4, E, by omega, by omega⟩
theorem kL_8 {S : Ab} {M : Mem} (ho : okA S) (hK : AbK S M) {fi r1 r2 q : Nat} (hr1 : r1 < 4) (hr2 : r2 < 4) (hq : q < 8) : ∀ (l n j : Nat) (v3 v4 v5 : Int32), v5.toInt = j + 1 → j + l = max (S.2.1 r1 q) 1 → 1 ≤ j → v3.toInt = lowS (fun i j => hc S r1 r2 q (S.2.2.2 r1 q i) (S.2.2.2 r1 q j)) j → v4.toInt = lowS (fun i j => hl S r1 r2 q (S.2.2.2 r1 q i) (S.2.2.2 r1 q j)) j → l < n → ∃ y3 y4 : Int32, f_X5_putLikeness_8 n M fi (34 + 4 * q + r1) (34 + 4 * q + r2) v3 v4 v5 = (y3, f_X1_become M fi y4.toInt64 y3.toInt64) ∧ y3.toInt = lowS (fun i j => hc S r1 r2 q (S.2.2.2 r1 q i) (S.2.2.2 r1 q j)) (max (S.2.1 r1 q) 1) ∧ y4.toInt = lowS (fun i j => hl S r1 r2 q (S.2.2.2 r1 q i) (S.2.2.2 r1 q j)) (max (S.2.1 r1 q) 1) := by
  intro l
  have h16 := ho.2.1 r1 q
  have es := kSize hK hr1 hq
  induction l with
  | zero =>
    intro n j v3 v4 v5 h5 hj h1 h3 h4 hn
    obtain ⟨n, rfl⟩ : ∃ y, n = y + 1 := ⟨n - 1, by omega⟩
    rw [f_X5_putLikeness_8]
    simp only [bnd_eq]
    rw [if_pos (show f_X7_size M (34 + 4 * q + r1) < v5 from Int32.lt_iff_toInt_lt.mpr (by omega))]
    have z : j = max (S.2.1 r1 q) 1 := by omega
    exact ⟨v3, v4, rfl, by rw [h3, ← z], by rw [h4, ← z]⟩
  | succ l ih =>
    intro n j v3 v4 v5 h5 hj h1 h3 h4 hn
    obtain ⟨n, rfl⟩ : ∃ y, n = y + 1 := ⟨n - 1, by omega⟩
    rw [f_X5_putLikeness_8]
    simp only [bnd_eq]
    have hjn : j < S.2.1 r1 q := by omega
    rw [if_neg (show ¬ f_X7_size M (34 + 4 * q + r1) < v5 from fun z => by have t := i_lt z; omega)]
    have ed := kDoc ho hK hr1 hq (a := v5) (by omega) (by omega)
    rw [show (v5.toInt - 1).toNat = j by omega] at ed
    have er := kRank ho hK hr2 hq (f_X7_documentAt M (34 + 4 * q + r1) v5)
    rw [ed] at er
    have ep : fnd (S.2.2.2 r2 q) (S.2.2.2 r1 q j) 0 (S.2.1 r2 q) = p2 S r2 q (S.2.2.2 r1 q j) := rfl
    rw [ep] at er
    generalize f_X7_rankOf M (34 + 4 * q + r2) (f_X7_documentAt M (34 + 4 * q + r1) v5) = r7 at *
    have q5 := inc_sp v5
    have b3 : ∀ m, m ≤ 16 → 0 ≤ lowS (fun i j => hc S r1 r2 q (S.2.2.2 r1 q i) (S.2.2.2 r1 q j)) m ∧ lowS (fun i j => hc S r1 r2 q (S.2.2.2 r1 q i) (S.2.2.2 r1 q j)) m ≤ m * 16 := fun m hm => sm_bd (B := 16) m (fun x hx => by
      have := sm_bd (w := fun i => hc S r1 r2 q (S.2.2.2 r1 q i) (S.2.2.2 r1 q x)) (B := 1) x (fun i _ => (hl_bd S r1 r2 q _ _).2)
      show 0 ≤ sm (fun i => hc S r1 r2 q (S.2.2.2 r1 q i) (S.2.2.2 r1 q x)) x ∧ sm (fun i => hc S r1 r2 q (S.2.2.2 r1 q i) (S.2.2.2 r1 q x)) x ≤ 16
      omega)
    have b4 : ∀ m : Nat, m ≤ 16 → -((m : Int) * 16) ≤ lowS (fun i j => hl S r1 r2 q (S.2.2.2 r1 q i) (S.2.2.2 r1 q j)) m ∧ lowS (fun i j => hl S r1 r2 q (S.2.2.2 r1 q i) (S.2.2.2 r1 q j)) m ≤ m * 16 := by
      intro m
      induction m with
      | zero => intro _; unfold lowS; rw [sm]; simp
      | succ m ihm =>
        intro hm
        have a := ihm (by omega)
        have b := sm_pm (w := fun i => hl S r1 r2 q (S.2.2.2 r1 q i) (S.2.2.2 r1 q m)) m (fun i _ => (hl_bd S r1 r2 q _ _).1)
        have e : lowS (fun i j => hl S r1 r2 q (S.2.2.2 r1 q i) (S.2.2.2 r1 q j)) (m + 1) = lowS (fun i j => hl S r1 r2 q (S.2.2.2 r1 q i) (S.2.2.2 r1 q j)) m + sm (fun i => hl S r1 r2 q (S.2.2.2 r1 q i) (S.2.2.2 r1 q m)) m := rfl
        rw [e]
        omega
    have c3 := b3 j (by omega)
    have c4 := b4 j (by omega)
    obtain ⟨y3, y4, E, e3, e4⟩ := kL_32 ho hK (fun y3 y4 => f_X5_putLikeness_8 n M fi (34 + 4 * q + r1) (34 + 4 * q + r2) y3 y4 (v5 + 1)) (fi := fi) hr1 hr2 hq h5 hjn er j ((v5.toInt - 1 : Int).toNat + 1) 0 v3 v4 1 rfl (by omega) (by omega) (by omega) (by omega)
    rw [E]
    have z3 : sm (fun i => hc S r1 r2 q (S.2.2.2 r1 q i) (S.2.2.2 r1 q j)) 0 = 0 := rfl
    have z4 : sm (fun i => hl S r1 r2 q (S.2.2.2 r1 q i) (S.2.2.2 r1 q j)) 0 = 0 := rfl
    have s3 : lowS (fun i j => hc S r1 r2 q (S.2.2.2 r1 q i) (S.2.2.2 r1 q j)) (j + 1) = lowS (fun i j => hc S r1 r2 q (S.2.2.2 r1 q i) (S.2.2.2 r1 q j)) j + sm (fun i => hc S r1 r2 q (S.2.2.2 r1 q i) (S.2.2.2 r1 q j)) j := rfl
    have s4 : lowS (fun i j => hl S r1 r2 q (S.2.2.2 r1 q i) (S.2.2.2 r1 q j)) (j + 1) = lowS (fun i j => hl S r1 r2 q (S.2.2.2 r1 q i) (S.2.2.2 r1 q j)) j + sm (fun i => hl S r1 r2 q (S.2.2.2 r1 q i) (S.2.2.2 r1 q j)) j := rfl
    exact ih n (j + 1) y3 y4 (v5 + 1) (by omega) (by omega) (by omega) (by omega) (by omega) (by omega)

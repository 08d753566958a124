
/-! ===== lines that hold each once; who is fed; more in the pot ===== -/
def Pm (n : Nat) (f : Nat → Nat) : Prop := (∀ i, i < n → f i < n) ∧ ∀ i j, i < n → j < n → f i = f j → i = j
theorem Pm_onto : ∀ (n : Nat) (f : Nat → Nat), Pm n f → ∀ y, y < n → ∃ i, i < n ∧ f i = y
  | 0, _, _, y, hy => by omega
  | n + 1, f, ⟨h1, h2⟩, y, hy => by
    by_cases hyn : y = f n
    · exact ⟨n, by omega, hyn.symm⟩
    · have hg : Pm n (fun i => if f i = n then f n else f i) := by
        refine ⟨fun i hi => ?_, fun i j hi hj e => ?_⟩
        · show (if f i = n then f n else f i) < n
          have a1 := h1 i (by omega)
          have a2 := h1 n (by omega)
          split
          · rename_i e
            have : f n ≠ n := fun q => by have := h2 i n (by omega) (by omega) (e.trans q.symm); omega
            omega
          · omega
        · have e' : (if f i = n then f n else f i) = (if f j = n then f n else f j) := e
          by_cases c1 : f i = n
          · by_cases c2 : f j = n
            · exact h2 i j (by omega) (by omega) (c1.trans c2.symm)
            · rw [if_pos c1, if_neg c2] at e'
              have := h2 n j (by omega) (by omega) e'
              omega
          · by_cases c2 : f j = n
            · rw [if_neg c1, if_pos c2] at e'
              have := h2 i n (by omega) (by omega) e'
              omega
            · rw [if_neg c1, if_neg c2] at e'
              exact h2 i j (by omega) (by omega) e'
      by_cases hy2 : y = n
      · have hfn : f n < n := by have := h1 n (by omega); omega
        obtain ⟨i, hi, e⟩ := Pm_onto n _ hg (f n) hfn
        have e' : (if f i = n then f n else f i) = f n := e
        by_cases c1 : f i = n
        · exact ⟨i, by omega, by rw [c1, hy2]⟩
        · rw [if_neg c1] at e'
          have := h2 i n (by omega) (by omega) e'
          omega
      · obtain ⟨i, hi, e⟩ := Pm_onto n _ hg y (by omega)
        have e' : (if f i = n then f n else f i) = y := e
        by_cases c1 : f i = n
        · rw [if_pos c1] at e'
          exact absurd e'.symm hyn
        · rw [if_neg c1] at e'
          exact ⟨i, by omega, e'⟩
theorem Pm_place {n : Nat} {f : Nat → Nat} (h : Pm n f) {k : Nat} (hk : k < n) : plN f k n < n ∧ f (plN f k n) = k := ⟨plN_lt (by omega), plN_is (Pm_onto n f h k hk)⟩
theorem Pm_at {n : Nat} {f : Nat → Nat} (h : Pm n f) {i : Nat} (hi : i < n) : plN f (f i) n = i := by
  obtain ⟨h1, h2⟩ := Pm_place h (h.1 i hi)
  exact h.2 _ _ h1 hi h2
theorem Pm_turn {n : Nat} {f : Nat → Nat} (h : Pm n f) (t : Nat) : Pm n (fun i => f ((i + t) % n)) := by
  refine ⟨fun i hi => h.1 _ (Nat.mod_lt _ (by omega)), fun i j hi hj e => ?_⟩
  have e1 := h.2 _ _ (Nat.mod_lt _ (by omega)) (Nat.mod_lt _ (by omega)) e
  have e2 : (i + t) % n = (i + t % n) % n := by rw [Nat.add_mod, Nat.mod_eq_of_lt hi]
  have e3 : (j + t) % n = (j + t % n) % n := by rw [Nat.add_mod, Nat.mod_eq_of_lt hj]
  have ht : t % n < n := Nat.mod_lt _ (by omega)
  rw [e2, e3] at e1
  generalize t % n = u at e1 ht
  rcases Nat.lt_or_ge (i + u) n with a | a <;> rcases Nat.lt_or_ge (j + u) n with b | b
  · rw [Nat.mod_eq_of_lt a, Nat.mod_eq_of_lt b] at e1; omega
  · rw [Nat.mod_eq_of_lt a, Nat.mod_eq_sub_mod b, Nat.mod_eq_of_lt (by omega)] at e1; omega
  · rw [Nat.mod_eq_of_lt b, Nat.mod_eq_sub_mod a, Nat.mod_eq_of_lt (by omega)] at e1; omega
  · rw [Nat.mod_eq_sub_mod a, Nat.mod_eq_sub_mod b, Nat.mod_eq_of_lt (show i + u - n < n by omega), Nat.mod_eq_of_lt (show j + u - n < n by omega)] at e1; omega
theorem Pm_back {n : Nat} {f : Nat → Nat} (h : Pm n f) : Pm n (fun i => f (n - 1 - i)) :=
  ⟨fun i hi => h.1 _ (by omega), fun i j hi hj e => by have := h.2 _ _ (show n - 1 - i < n by omega) (show n - 1 - j < n by omega) e; omega⟩
theorem Pm_id (n : Nat) : Pm n (fun i => i) := ⟨fun i hi => hi, fun i j _ _ e => e⟩
theorem Pm_sw {n : Nat} {f : Nat → Nat} (h : Pm n f) {a b : Nat} (ha : a < n) (hb : b < n) : Pm n (sw f a b) := by
  have key : ∀ i, i < n → ∃ i', i' < n ∧ sw f a b i = f i' ∧ (i' = if i = b then a else if i = a then b else i) := by
    intro i hi
    unfold sw
    by_cases h1 : i = b
    · exact ⟨a, ha, by rw [if_pos h1], by rw [if_pos h1]⟩
    · by_cases h2 : i = a
      · exact ⟨b, hb, by rw [if_neg h1, if_pos h2], by rw [if_neg h1, if_pos h2]⟩
      · exact ⟨i, hi, by rw [if_neg h1, if_neg h2], by rw [if_neg h1, if_neg h2]⟩
  refine ⟨fun i hi => ?_, fun i j hi hj e => ?_⟩
  · obtain ⟨i', g1, g2, -⟩ := key i hi
    rw [g2]
    exact h.1 _ g1
  · obtain ⟨i', g1, g2, g3⟩ := key i hi
    obtain ⟨j', k1, k2, k3⟩ := key j hj
    rw [g2, k2] at e
    have := h.2 _ _ g1 k1 e
    rw [g3, k3] at this
    (repeat' split at this) <;> omega
theorem Pm_rv {n : Nat} {f : Nat → Nat} (h : Pm n f) {a b : Nat} (hb : b < n) : Pm n (rv f a b) := by
  refine ⟨fun i hi => ?_, fun i j hi hj e => ?_⟩
  · unfold rv
    split
    · exact h.1 _ (by omega)
    · exact h.1 _ hi
  · unfold rv at e
    by_cases c1 : a ≤ i ∧ i ≤ b
    · rw [if_pos c1] at e
      by_cases c2 : a ≤ j ∧ j ≤ b
      · rw [if_pos c2] at e
        have := h.2 _ _ (by omega) (by omega) e
        omega
      · rw [if_neg c2] at e
        have := h.2 _ _ (by omega) (by omega) e
        omega
    · rw [if_neg c1] at e
      by_cases c2 : a ≤ j ∧ j ≤ b
      · rw [if_pos c2] at e
        have := h.2 _ _ (by omega) (by omega) e
        omega
      · rw [if_neg c2] at e
        exact h.2 _ _ hi hj e
theorem Pm_nx {n : Nat} {f : Nat → Nat} (hn : 1 ≤ n) (h : Pm n f) {q : Nat × (Nat → Nat)} (hq : nx n f = some q) : Pm n q.2 := by
  unfold nx at hq
  have h1 := fi_le f (n - 1)
  have h2 := fj_le f (fi f (n - 1) - 1) (n - 1)
  split at hq
  · cases hq
  · cases hq
    exact Pm_rv (Pm_sw h (by omega) (by omega)) (by omega)
theorem Pm_mv {n : Nat} {f : Nat → Nat} (h : Pm n f) {pos k at' : Nat} (hp : pos < n) (hk : f pos = k) (ha : at' < n) : Pm n (mvS f pos k at') := by
  have key : ∀ i, i < n → ∃ i', i' < n ∧ mvS f pos k at' i = f i' ∧ ((i = at' ∧ i' = pos) ∨ (i ≠ at' ∧ i' ≠ pos ∧ ((if i < at' then i else i - 1) < pos ∧ i' = (if i < at' then i else i - 1) ∨ pos ≤ (if i < at' then i else i - 1) ∧ i' = (if i < at' then i else i - 1) + 1))) := by
    intro i hi
    unfold mvS
    by_cases h1 : i = at'
    · exact ⟨pos, hp, by rw [if_pos h1, hk], Or.inl ⟨h1, rfl⟩⟩
    · rw [if_neg h1]
      have hq : (if i < at' then i else i - 1) + 1 < n + 0 ∨ (if i < at' then i else i - 1) + 1 = n := by split <;> omega
      have hq2 : (if i < at' then i else i - 1) + 1 < n := by
        split
        · omega
        · omega
      by_cases h2 : (if i < at' then i else i - 1) < pos
      · rw [if_pos h2]
        exact ⟨_, by omega, rfl, Or.inr ⟨h1, by omega, Or.inl ⟨h2, rfl⟩⟩⟩
      · rw [if_neg h2]
        exact ⟨_, hq2, rfl, Or.inr ⟨h1, by omega, Or.inr ⟨by omega, rfl⟩⟩⟩
  refine ⟨fun i hi => ?_, fun i j hi hj e => ?_⟩
  · obtain ⟨i', g1, g2, -⟩ := key i hi
    rw [g2]
    exact h.1 _ g1
  · obtain ⟨i', g1, g2, g3⟩ := key i hi
    obtain ⟨j', k1, k2, k3⟩ := key j hj
    rw [g2, k2] at e
    have e2 := h.2 _ _ g1 k1 e
    subst e2
    rcases g3 with ⟨a1, a2⟩ | ⟨a1, a2, a3⟩ <;> rcases k3 with ⟨b1, b2⟩ | ⟨b1, b2, b3⟩
    · omega
    · omega
    · omega
    · split at a3 <;> split at b3 <;> omega
/-- who is fed, by eaters -/
def fdE (kd nd : Nat → Nat) (lw how P : Nat) (ln : Nat → Nat) (n k : Nat) : Bool := decide (nd k * un how ≤ tkS kd nd lw how P ln (plN ln k n))
theorem fdS_bit {kd nd : Nat → Nat} {lw how P : Nat} {ln : Nat → Nat} {k : Nat} : ∀ i, (fdS kd nd lw how P ln i).testBit k = true ↔ ∃ j, j < i ∧ ln j = k ∧ nd (ln j) * un how ≤ tkS kd nd lw how P ln j
  | 0 => by simp [fdS]
  | i + 1 => by
    have ih := fdS_bit (kd := kd) (nd := nd) (lw := lw) (how := how) (P := P) (ln := ln) (k := k) i
    unfold fdS
    by_cases h : nd (ln i) * un how ≤ tkS kd nd lw how P ln i
    · rw [if_pos h, Nat.testBit_or, Bool.or_eq_true, ih, Nat.testBit_two_pow]
      constructor
      · rintro (⟨j, h1, h2⟩ | h1)
        · exact ⟨j, by omega, h2⟩
        · exact ⟨i, by omega, by simpa using h1, h⟩
      · rintro ⟨j, h1, h2, h3⟩
        rcases Nat.lt_or_ge j i with h4 | h4
        · exact Or.inl ⟨j, h4, h2, h3⟩
        · obtain rfl : j = i := by omega
          exact Or.inr (by simpa using h2)
    · rw [if_neg h, ih]
      constructor
      · rintro ⟨j, h1, h2⟩
        exact ⟨j, by omega, h2⟩
      · rintro ⟨j, h1, h2, h3⟩
        rcases Nat.lt_or_ge j i with h4 | h4
        · exact ⟨j, h4, h2, h3⟩
        · obtain rfl : j = i := by omega
          exact absurd h3 h
theorem fdS_set {n : Nat} {kd nd : Nat → Nat} {lw how P : Nat} {ln : Nat → Nat} (h : Pm n ln) : fdS kd nd lw how P ln n = setN (fdE kd nd lw how P ln n) n := by
  apply Nat.eq_of_testBit_eq
  intro k
  rw [setN_bit]
  cases hb : (fdS kd nd lw how P ln n).testBit k with
  | true =>
    obtain ⟨j, h1, h2, h3⟩ := (fdS_bit n).mp hb
    subst h2
    have := h.1 j h1
    symm
    simp [fdE, this, Pm_at h h1, h3]
  | false =>
    symm
    by_cases hk : k < n
    · obtain ⟨p1, p2⟩ := Pm_place h hk
      have : ¬ nd k * un how ≤ tkS kd nd lw how P ln (plN ln k n) := by
        intro q
        have := (fdS_bit (kd := kd) (nd := nd) (lw := lw) (how := how) (P := P) (ln := ln) (k := k) n).mpr ⟨_, p1, p2, by rw [p2]; exact q⟩
        rw [hb] at this
        cases this
      simp [fdE, hk, this]
    · simp [hk]
/-- of more there each takes no less, and leaves no less -/
theorem tk_mono {kd N g g' d : Nat} (hd : d = 2 ∨ d = 3 ∨ d = 4) (h : g ≤ g') : tk kd N g d ≤ tk kd N g' d ∧ g - tk kd N g d ≤ g' - tk kd N g' d := by
  unfold tk may
  rcases hd with rfl | rfl | rfl <;> (repeat' split) <;> omega
theorem thS_mono {kd nd : Nat → Nat} {lw how P P' : Nat} {ln : Nat → Nat} (h : P ≤ P') : ∀ i, thS kd nd lw how P ln i ≤ thS kd nd lw how P' ln i
  | 0 => h
  | i + 1 => (tk_mono (dv_cases lw i) (thS_mono h i)).2
theorem tkS_mono {kd nd : Nat → Nat} {lw how P P' : Nat} {ln : Nat → Nat} (h : P ≤ P') (i : Nat) : tkS kd nd lw how P ln i ≤ tkS kd nd lw how P' ln i := (tk_mono (dv_cases lw i) (thS_mono h i)).1
theorem fdE_mono {kd nd : Nat → Nat} {lw how P P' : Nat} {ln : Nat → Nat} {n k : Nat} (h : P ≤ P') (hf : fdE kd nd lw how P ln n k = true) : fdE kd nd lw how P' ln n k = true := by
  unfold fdE at hf ⊢
  rw [decide_eq_true_eq] at hf ⊢
  exact Nat.le_trans hf (tkS_mono h _)
/-- all are fed -/
def allF (p : Nat → Bool) (n : Nat) : Bool := decide (cntN p n = n)
theorem cntN_all {p : Nat → Bool} : ∀ {n}, cntN p n = n ↔ ∀ k, k < n → p k = true
  | 0 => by simp [cntN]
  | n + 1 => by
    have h1 := cntN_le p n
    have ih := cntN_all (p := p) (n := n)
    show (if p n = true then cntN p n + 1 else cntN p n) = n + 1 ↔ _
    constructor
    · intro h
      by_cases c : p n = true
      · rw [if_pos c] at h
        intro k hk
        rcases Nat.lt_or_ge k n with h2 | h2
        · exact ih.mp (by omega) k h2
        · rw [show k = n by omega]; exact c
      · rw [if_neg c] at h
        omega
    · intro h
      rw [if_pos (h n (by omega)), ih.mpr (fun k hk => h k (by omega))]
theorem setN_all {p : Nat → Bool} {n : Nat} : setN p n = 2 ^ n - 1 ↔ ∀ k, k < n → p k = true := by
  constructor
  · intro h k hk
    have := setN_bit p n k
    rw [h, Nat.testBit_two_pow_sub_one] at this
    simpa [hk] using this.symm
  · intro h
    apply Nat.eq_of_testBit_eq
    intro k
    rw [setN_bit, Nat.testBit_two_pow_sub_one]
    by_cases hk : k < n
    · simp [hk, h k hk]
    · simp [hk]

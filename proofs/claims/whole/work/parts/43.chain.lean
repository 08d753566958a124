
/-! ===== all orders, one behind the other ===== -/
theorem fi_cong {f g : Nat → Nat} : ∀ m, (∀ j, j ≤ m → f j = g j) → fi f m = fi g m
  | 0, _ => rfl
  | m + 1, h => by
    have ih := fi_cong (f := f) (g := g) m (fun j hj => h j (by omega))
    show (if f (m + 1) < f m then fi f m else m + 1) = (if g (m + 1) < g m then fi g m else m + 1)
    rw [ih, h (m + 1) (by omega), h m (by omega)]
theorem fj_cong {f g : Nat → Nat} {i : Nat} (hi : f i = g i) : ∀ j, (∀ q, q ≤ j → f q = g q) → fj f i j = fj g i j
  | 0, _ => rfl
  | j + 1, h => by
    have ih := fj_cong (f := f) (g := g) (i := i) hi j (fun q hq => h q (by omega))
    show (if j + 1 ≤ i then j + 1 else if f (j + 1) < f i then fj f i j else j + 1) = (if j + 1 ≤ i then j + 1 else if g (j + 1) < g i then fj g i j else j + 1)
    rw [ih, h (j + 1) (by omega), hi]
theorem sw_cong {f g : Nat → Nat} {i j p : Nat} (h1 : f i = g i) (h2 : f j = g j) (h3 : f p = g p) : sw f i j p = sw g i j p := by
  unfold sw
  rw [h1, h2, h3]
theorem nx_cong {n : Nat} {f g : Nat → Nat} (hn : 1 ≤ n) (h : ∀ j, j < n → f j = g j) : (nx n f = none ∧ nx n g = none) ∨ ∃ i f' g', nx n f = some (i, f') ∧ nx n g = some (i, g') ∧ ∀ j, j < n → f' j = g' j := by
  have e1 : fi f (n - 1) = fi g (n - 1) := fi_cong _ (fun j hj => h j (by omega))
  have b1 := fi_le g (n - 1)
  unfold nx
  rw [e1]
  by_cases h0 : fi g (n - 1) = 0
  · rw [if_pos h0, if_pos h0]
    exact Or.inl ⟨rfl, rfl⟩
  · rw [if_neg h0, if_neg h0]
    have e2 : fj f (fi g (n - 1) - 1) (n - 1) = fj g (fi g (n - 1) - 1) (n - 1) := fj_cong (h _ (by omega)) _ (fun q hq => h q (by omega))
    have b2 := fj_le g (fi g (n - 1) - 1) (n - 1)
    refine Or.inr ⟨_, _, _, rfl, rfl, fun p hp => ?_⟩
    rw [e2]
    unfold rv
    by_cases hc : fi g (n - 1) ≤ p ∧ p ≤ n - 1
    · rw [if_pos hc, if_pos hc]
      exact sw_cong (h _ (by omega)) (h _ (by omega)) (h _ (by omega))
    · rw [if_neg hc, if_neg hc]
      exact sw_cong (h _ (by omega)) (h _ (by omega)) (h _ hp)
theorem nx_keep {n : Nat} {f : Nat → Nat} {q : Nat × (Nat → Nat)} (hq : nx n f = some q) : q.1 + 1 ≤ n - 1 ∧ ∀ j, j < q.1 → q.2 j = f j := by
  unfold nx at hq
  have b1 := fi_le f (n - 1)
  by_cases h0 : fi f (n - 1) = 0
  · rw [if_pos h0] at hq
    cases hq
  · rw [if_neg h0] at hq
    cases hq
    refine ⟨by dsimp only; omega, fun j hj => ?_⟩
    dsimp only at hj ⊢
    have b2 : fi f (n - 1) - 1 ≤ fj f (fi f (n - 1) - 1) (n - 1) := by
      have : ∀ m, fi f (n - 1) - 1 ≤ m → fi f (n - 1) - 1 ≤ fj f (fi f (n - 1) - 1) m := by
        intro m
        induction m with
        | zero => intro h; exact h
        | succ m ih =>
          intro h
          show fi f (n - 1) - 1 ≤ (if m + 1 ≤ fi f (n - 1) - 1 then m + 1 else if f (m + 1) < f (fi f (n - 1) - 1) then fj f (fi f (n - 1) - 1) m else m + 1)
          split
          · omega
          · split
            · exact ih (by omega)
            · omega
      exact this _ (by omega)
    unfold rv
    rw [if_neg (by omega)]
    unfold sw
    rw [if_neg (by omega), if_neg (by omega)]
/-- the chain from f ends within k steps -/
def ends (n : Nat) : Nat → (Nat → Nat) → Prop := fun k => match k with
  | 0 => fun _ => False
  | k + 1 => fun f => match nx n f with
    | none => True
    | some q => ends n k q.2
theorem ends_s {n k : Nat} {f : Nat → Nat} {q : Nat × (Nat → Nat)} (h : ends n (k + 1) f) (e : nx n f = some q) : ends n k q.2 := by
  unfold ends at h
  rw [e] at h
  exact h
theorem ends_n {n k : Nat} {f : Nat → Nat} (e : nx n f = none) : ends n (k + 1) f := by
  unfold ends
  rw [e]
  trivial
theorem ends_cong {n : Nat} (hn : 1 ≤ n) : ∀ {k f g}, (∀ j, j < n → f j = g j) → ends n k g → ends n k f
  | 0, f, g, h, e => e.elim
  | k + 1, f, g, h, e => by
    rcases nx_cong hn h with ⟨a, b⟩ | ⟨i, f', g', a, b, c⟩
    · exact ends_n a
    · unfold ends
      rw [a]
      exact ends_cong hn c (ends_s e b)
def decE (e : Nat) : Nat → Nat := fun i => e / 8 ^ i % 8
def encE (f : Nat → Nat) : Nat → Nat := fun n => match n with
  | 0 => 0
  | n + 1 => encE f n + f n * 8 ^ n
theorem encE_lt {f : Nat → Nat} : ∀ {n}, (∀ j, j < n → f j < 8) → encE f n < 8 ^ n
  | 0, _ => by unfold encE; decide
  | n + 1, h => by
    have ih := encE_lt (f := f) (n := n) (fun j hj => h j (by omega))
    have h1 := Nat.mul_le_mul_right (8 ^ n) (show f n ≤ 7 by have := h n (by omega); omega)
    show encE f n + f n * 8 ^ n < 8 ^ (n + 1)
    rw [Nat.pow_succ]
    omega
theorem decE_enc {f : Nat → Nat} : ∀ {n}, (∀ j, j < n → f j < 8) → ∀ j, j < n → decE (encE f n) j = f j
  | 0, _, j, hj => by omega
  | n + 1, h, j, hj => by
    have hl := encE_lt (f := f) (n := n) (fun j hj => h j (by omega))
    show (encE f n + f n * 8 ^ n) / 8 ^ j % 8 = f j
    by_cases hjn : j = n
    · subst hjn
      rw [Nat.add_mul_div_right _ _ (Nat.pow_pos (by decide)), Nat.div_eq_of_lt hl, Nat.zero_add, Nat.mod_eq_of_lt (h j hj)]
    · have ih := decE_enc (f := f) (n := n) (fun j hj => h j (by omega)) j (by omega)
      have e : f n * 8 ^ n = (f n * 8 ^ (n - (j + 1)) * 8) * 8 ^ j := by
        have e2 : 8 ^ n = 8 ^ (n - (j + 1)) * 8 * 8 ^ j := by
          rw [Nat.mul_assoc, Nat.mul_comm 8 (8 ^ j), ← Nat.pow_succ, ← Nat.pow_add]
          congr 1
          omega
        rw [e2, Nat.mul_assoc, Nat.mul_assoc, Nat.mul_assoc]
      rw [e, Nat.add_mul_div_right _ _ (Nat.pow_pos (by decide)), Nat.add_mul_mod_self_right]
      exact ih
/-- the same chain over numbers, for the kernel -/
def runE (n : Nat) : Nat → Nat → Bool := fun k => match k with
  | 0 => fun _ => false
  | k + 1 => fun e => match e with
    | 0 => match nx n (decE 0) with
      | none => true
      | some q => (decide (∀ j, j < n → q.2 j < 8)) && runE n k (encE q.2 n)
    | x + 1 => match nx n (decE (x + 1)) with
      | none => true
      | some q => (decide (∀ j, j < n → q.2 j < 8)) && runE n k (encE q.2 n)
theorem runE_s {n k e : Nat} : runE n (k + 1) e = match nx n (decE e) with
      | none => true
      | some q => (decide (∀ j, j < n → q.2 j < 8)) && runE n k (encE q.2 n) := by
  cases e <;> rfl
theorem runE_ends {n : Nat} (hn : 1 ≤ n) : ∀ k e, runE n k e = true → ends n k (decE e)
  | 0, e, h => by cases h
  | k + 1, e, h => by
    rw [runE_s] at h
    cases hx : nx n (decE e) with
    | none => exact ends_n hx
    | some q =>
      rw [hx] at h
      rw [Bool.and_eq_true, decide_eq_true_eq] at h
      unfold ends
      rw [hx]
      exact ends_cong hn (fun j hj => (decE_enc h.1 j hj).symm) (runE_ends hn k _ h.2)
theorem run_1 : runE 1 5040 0 = true := by decide +kernel
theorem run_2 : runE 2 5040 8 = true := by decide +kernel
theorem run_3 : runE 3 5040 136 = true := by decide +kernel
theorem run_4 : runE 4 5040 1672 = true := by decide +kernel
theorem run_5 : runE 5 5040 18056 = true := by decide +kernel
theorem run_6 : runE 6 5040 181896 = true := by decide +kernel
theorem run_7 : runE 7 5040 1754760 = true := by decide +kernel


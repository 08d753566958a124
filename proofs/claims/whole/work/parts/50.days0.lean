
/-! ===== turns of days, as figures ===== -/
def dg (r e : Nat) : Nat := r / 7 ^ e % 7
def soB (r : Nat) : Nat → Bool := fun m => match m with
  | 0 => true
  | i + 1 => soB r i && decide (dg r (i + 1) ≤ dg r i)
def vaB (n r : Nat) : Nat → Bool := fun m => match m with
  | 0 => true
  | e + 1 => vaB n r e && decide (dg r e < n)
def svB (n d r : Nat) : Bool := soB r (d - 1) && vaB n r d
/-- 1 + a place by which the next figure is greater -/
def swE (r : Nat) : Nat → Nat := fun m => match m with
  | 0 => 0
  | m + 1 => if dg r m < dg r (m + 1) then m + 1 else swE r m
def swR (r i : Nat) : Nat := r - (dg r (i + 1) - dg r i) * (7 ^ (i + 1) - 7 ^ i)
def swOK (d r i r' : Nat) : Prop := i + 1 < d ∧ r' < r ∧ dg r' i = dg r (i + 1) ∧ dg r' (i + 1) = dg r i ∧ ∀ e, e < d → e ≠ i → e ≠ i + 1 → dg r' e = dg r e
def swB (d r i r' : Nat) : Bool := decide (i + 1 < d) && (decide (r' < r) && (decide (dg r' i = dg r (i + 1)) && (decide (dg r' (i + 1) = dg r i) && decide (∀ e, e < d → e ≠ i → e ≠ i + 1 → dg r' e = dg r e))))
theorem swB_ok {d r i r' : Nat} (h : swB d r i r' = true) : swOK d r i r' := by
  unfold swB at h
  simp only [Bool.and_eq_true, decide_eq_true_eq] at h
  exact h
def chS (d : Nat) : Nat → Bool := fun k => match k with
  | 0 => true
  | r + 1 => chS d r && (soB r (d - 1) || swB d r (swE r (d - 1) - 1) (swR r (swE r (d - 1) - 1)))
theorem chS_get {d : Nat} : ∀ k, chS d k = true → ∀ r, r < k → soB r (d - 1) = true ∨ swB d r (swE r (d - 1) - 1) (swR r (swE r (d - 1) - 1)) = true
  | 0, _, r, hr => by omega
  | k + 1, h, r, hr => by
    have h : (chS d k && (soB k (d - 1) || swB d k (swE k (d - 1) - 1) (swR k (swE k (d - 1) - 1)))) = true := h
    rw [Bool.and_eq_true, Bool.or_eq_true] at h
    by_cases e : r = k
    · rw [e]; exact h.2
    · exact chS_get k h.1 r (by omega)
theorem chS_1 : chS 1 7 = true := by decide +kernel
theorem chS_2 : chS 2 49 = true := by decide +kernel
theorem chS_3 : chS 3 343 = true := by decide +kernel
theorem chS_4 : chS 4 2401 = true := by decide +kernel
theorem unsorted {d r : Nat} (h1 : 1 ≤ d) (h4 : d ≤ 4) (hr : r < 7 ^ d) (hs : ¬ soB r (d - 1) = true) : ∃ i r', swOK d r i r' := by
  have key : chS d (7 ^ d) = true := by
    obtain rfl | rfl | rfl | rfl : d = 1 ∨ d = 2 ∨ d = 3 ∨ d = 4 := by omega
    · exact chS_1
    · exact chS_2
    · exact chS_3
    · exact chS_4
  rcases chS_get _ key r hr with h | h
  · exact absurd h hs
  · exact ⟨_, _, swB_ok h⟩
/-- the next sorted row of figures below n, looked for one by one -/
def nsv (n d : Nat) : Nat → Nat → Option Nat := fun k => match k with
  | 0 => fun _ => none
  | k + 1 => fun x => if svB n d x = true then some x else nsv n d k (x + 1)
theorem nsv_some {n d r' : Nat} : ∀ k x, nsv n d k x = some r' → x ≤ r' ∧ r' < x + k ∧ svB n d r' = true ∧ ∀ y, x ≤ y → y < r' → svB n d y = false
  | 0, x, h => by cases h
  | k + 1, x, h => by
    by_cases hs : svB n d x = true
    · have e : nsv n d (k + 1) x = some x := if_pos hs
      rw [e] at h
      cases h
      exact ⟨Nat.le_refl _, by omega, hs, fun y a b => by omega⟩
    · have e : nsv n d (k + 1) x = nsv n d k (x + 1) := if_neg hs
      rw [e] at h
      obtain ⟨a, b, c, g⟩ := nsv_some k (x + 1) h
      refine ⟨by omega, by omega, c, fun y h1 h2 => ?_⟩
      by_cases hy : y = x
      · rw [hy]; simpa using hs
      · exact g y (by omega) h2
theorem nsv_none {n d : Nat} : ∀ k x, nsv n d k x = none → ∀ y, x ≤ y → y < x + k → svB n d y = false
  | 0, x, _, y, h1, h2 => by omega
  | k + 1, x, h, y, h1, h2 => by
    by_cases hs : svB n d x = true
    · have e : nsv n d (k + 1) x = some x := if_pos hs
      rw [e] at h
      cases h
    · have e : nsv n d (k + 1) x = nsv n d k (x + 1) := if_neg hs
      rw [e] at h
      by_cases hy : y = x
      · rw [hy]; simpa using hs
      · exact nsv_none k (x + 1) h y (by omega) (by omega)
/-- 1 + the last day by which the turn can rise -/
def fdD (n : Nat) (c : Nat → Nat) : Nat → Nat := fun m => match m with
  | 0 => 0
  | m + 1 => if c m < n - 1 then m + 1 else fdD n c m
def cnD (n d : Nat) (c : Nat → Nat) : Nat → Nat := fun i => if fdD n c d - 1 ≤ i then c (fdD n c d - 1) + 1 else c i
def fgN (c : Nat → Nat) : Nat → Nat := fun m => match m with
  | 0 => 0
  | i + 1 => fgN c i * 7 + c i
def cD (d r : Nat) : Nat → Nat := fun i => dg r (d - 1 - i)
def nxB (n d r : Nat) : Bool := match nsv n d (7 ^ d - (r + 1)) (r + 1) with
  | none => decide (fdD n (cD d r) d = 0)
  | some r' => decide (0 < fdD n (cD d r) d) && decide (∀ i, i < d → cD d r' i = cnD n d (cD d r) i)
def chN (n d : Nat) : Nat → Bool := fun k => match k with
  | 0 => true
  | r + 1 => chN n d r && (!(svB n d r) || nxB n d r)
theorem chN_get {n d : Nat} : ∀ k, chN n d k = true → ∀ r, r < k → svB n d r = true → nxB n d r = true
  | 0, _, r, hr, _ => by omega
  | k + 1, h, r, hr, hs => by
    have h : (chN n d k && (!(svB n d k) || nxB n d k)) = true := h
    rw [Bool.and_eq_true, Bool.or_eq_true] at h
    by_cases e : r = k
    · subst e
      rcases h.2 with z | z
      · rw [hs] at z; cases z
      · exact z
    · exact chN_get k h.1 r (by omega) hs

theorem chN_1_1 : chN 1 1 7 = true := by decide +kernel
theorem chN_1_2 : chN 1 2 49 = true := by decide +kernel
theorem chN_1_3 : chN 1 3 343 = true := by decide +kernel
theorem chN_1_4 : chN 1 4 2401 = true := by decide +kernel
theorem chN_2_1 : chN 2 1 7 = true := by decide +kernel
theorem chN_2_2 : chN 2 2 49 = true := by decide +kernel
theorem chN_2_3 : chN 2 3 343 = true := by decide +kernel
theorem chN_2_4 : chN 2 4 2401 = true := by decide +kernel
theorem chN_3_1 : chN 3 1 7 = true := by decide +kernel
theorem chN_3_2 : chN 3 2 49 = true := by decide +kernel
theorem chN_3_3 : chN 3 3 343 = true := by decide +kernel
theorem chN_3_4 : chN 3 4 2401 = true := by decide +kernel
theorem chN_4_1 : chN 4 1 7 = true := by decide +kernel
theorem chN_4_2 : chN 4 2 49 = true := by decide +kernel
theorem chN_4_3 : chN 4 3 343 = true := by decide +kernel
theorem chN_4_4 : chN 4 4 2401 = true := by decide +kernel
theorem chN_5_1 : chN 5 1 7 = true := by decide +kernel
theorem chN_5_2 : chN 5 2 49 = true := by decide +kernel
theorem chN_5_3 : chN 5 3 343 = true := by decide +kernel
theorem chN_5_4 : chN 5 4 2401 = true := by decide +kernel
theorem chN_6_1 : chN 6 1 7 = true := by decide +kernel
theorem chN_6_2 : chN 6 2 49 = true := by decide +kernel
theorem chN_6_3 : chN 6 3 343 = true := by decide +kernel
theorem chN_6_4 : chN 6 4 2401 = true := by decide +kernel
theorem chN_7_1 : chN 7 1 7 = true := by decide +kernel
theorem chN_7_2 : chN 7 2 49 = true := by decide +kernel
theorem chN_7_3 : chN 7 3 343 = true := by decide +kernel
theorem chN_7_4 : chN 7 4 2401 = true := by decide +kernel
theorem chN_all {n d : Nat} (h1 : 1 ≤ n) (hn : n ≤ 7) (hd1 : 1 ≤ d) (hd : d ≤ 4) : chN n d (7 ^ d) = true := by
  have a : n = 1 ∨ n = 2 ∨ n = 3 ∨ n = 4 ∨ n = 5 ∨ n = 6 ∨ n = 7 := by omega
  have b : d = 1 ∨ d = 2 ∨ d = 3 ∨ d = 4 := by omega
  rcases a with rfl | rfl | rfl | rfl | rfl | rfl | rfl <;> rcases b with rfl | rfl | rfl | rfl
  · exact chN_1_1
  · exact chN_1_2
  · exact chN_1_3
  · exact chN_1_4
  · exact chN_2_1
  · exact chN_2_2
  · exact chN_2_3
  · exact chN_2_4
  · exact chN_3_1
  · exact chN_3_2
  · exact chN_3_3
  · exact chN_3_4
  · exact chN_4_1
  · exact chN_4_2
  · exact chN_4_3
  · exact chN_4_4
  · exact chN_5_1
  · exact chN_5_2
  · exact chN_5_3
  · exact chN_5_4
  · exact chN_6_1
  · exact chN_6_2
  · exact chN_6_3
  · exact chN_6_4
  · exact chN_7_1
  · exact chN_7_2
  · exact chN_7_3
  · exact chN_7_4

theorem next_none {n d r : Nat} (h1 : 1 ≤ n) (hn : n ≤ 7) (hd1 : 1 ≤ d) (hd : d ≤ 4) (hr : r < 7 ^ d) (hs : svB n d r = true) (h0 : fdD n (cD d r) d = 0) : ∀ y, r + 1 ≤ y → y < 7 ^ d → svB n d y = false := by
  have h := chN_get _ (chN_all h1 hn hd1 hd) r hr hs
  unfold nxB at h
  cases hx : nsv n d (7 ^ d - (r + 1)) (r + 1) with
  | none =>
    intro y a b
    exact nsv_none _ _ hx y a (by omega)
  | some z =>
    rw [hx] at h
    simp only [Bool.and_eq_true, decide_eq_true_eq] at h
    omega
theorem next_some {n d r : Nat} (h1 : 1 ≤ n) (hn : n ≤ 7) (hd1 : 1 ≤ d) (hd : d ≤ 4) (hr : r < 7 ^ d) (hs : svB n d r = true) (h0 : 0 < fdD n (cD d r) d) : ∃ r', r < r' ∧ r' < 7 ^ d ∧ svB n d r' = true ∧ (∀ y, r + 1 ≤ y → y < r' → svB n d y = false) ∧ ∀ i, i < d → cD d r' i = cnD n d (cD d r) i := by
  have h := chN_get _ (chN_all h1 hn hd1 hd) r hr hs
  unfold nxB at h
  cases hx : nsv n d (7 ^ d - (r + 1)) (r + 1) with
  | none =>
    rw [hx] at h
    simp only [decide_eq_true_eq] at h
    omega
  | some z =>
    rw [hx] at h
    simp only [Bool.and_eq_true, decide_eq_true_eq] at h
    obtain ⟨a, b, c, g⟩ := nsv_some _ _ hx
    exact ⟨z, by omega, by omega, c, g, h.2⟩
theorem vaB_get {n r : Nat} : ∀ {d}, vaB n r d = true ↔ ∀ e, e < d → dg r e < n
  | 0 => ⟨fun _ e he => by omega, fun _ => rfl⟩
  | d + 1 => by
    show (vaB n r d && decide (dg r d < n)) = true ↔ _
    rw [Bool.and_eq_true, vaB_get, decide_eq_true_eq]
    constructor
    · rintro ⟨a, b⟩ e he
      by_cases h : e = d
      · rw [h]; exact b
      · exact a e (by omega)
    · intro h
      exact ⟨fun e he => h e (by omega), h d (by omega)⟩
theorem sv_va {n d r : Nat} (h : svB n d r = true) : vaB n r d = true := (Bool.and_eq_true _ _ ▸ h : _ ∧ _).2
theorem sv_0 {n d : Nat} (h1 : 1 ≤ n) (hd1 : 1 ≤ d) (hd : d ≤ 4) : svB n d 0 = true := by
  have z : ∀ e, dg 0 e = 0 := fun e => by unfold dg; rw [Nat.zero_div]
  have a : ∀ m, soB 0 m = true := by
    intro m
    induction m with
    | zero => rfl
    | succ m ih =>
      show (soB 0 m && decide (dg 0 (m + 1) ≤ dg 0 m)) = true
      rw [ih, z, z]
      rfl
  unfold svB
  rw [a, vaB_get.mpr (fun e _ => by rw [z]; exact h1)]
  rfl
/-! how often the one is fed who is fed least often -/
def tmN (fb : Nat → Nat) (c : Nat → Nat) (d k : Nat) : Nat := sumN (fun e => if (fb (c e)).testBit k = true then 1 else 0) d
def fwN (T : Nat → Nat) (d : Nat) : Nat → Nat := fun k => match k with
  | 0 => d
  | k + 1 => min (fwN T d k) (T k)
theorem fwN_cong {T T' : Nat → Nat} {d : Nat} : ∀ {n}, (∀ k, k < n → T k = T' k) → fwN T d n = fwN T' d n
  | 0, _ => rfl
  | n + 1, h => by
    show min (fwN T d n) (T n) = min (fwN T' d n) (T' n)
    rw [fwN_cong (n := n) (fun k hk => h k (by omega)), h n (by omega)]
theorem fwN_le {T : Nat → Nat} {d : Nat} : ∀ n, fwN T d n ≤ d
  | 0 => Nat.le_refl _
  | n + 1 => Nat.le_trans (Nat.min_le_left _ _) (fwN_le n)
theorem sum_rev {g : Nat → Nat} {d : Nat} (h1 : 1 ≤ d) (h4 : d ≤ 4) : sumN (fun i => g (d - 1 - i)) d = sumN g d := by
  obtain rfl | rfl | rfl | rfl : d = 1 ∨ d = 2 ∨ d = 3 ∨ d = 4 := by omega
  · rfl
  · simp only [sumN, Nat.reduceSub, Nat.reduceAdd, Nat.sub_zero]; omega
  · simp only [sumN, Nat.reduceSub, Nat.reduceAdd, Nat.sub_zero]; omega
  · simp only [sumN, Nat.reduceSub, Nat.reduceAdd, Nat.sub_zero]; omega
theorem sum_swap {a b : Nat → Nat} {d i : Nat} (h4 : d ≤ 4) (hi : i + 1 < d) (h1 : a i = b (i + 1)) (h2 : a (i + 1) = b i) (h3 : ∀ e, e < d → e ≠ i → e ≠ i + 1 → a e = b e) : sumN a d = sumN b d := by
  have h : (d = 2 ∧ i = 0) ∨ (d = 3 ∧ i = 0) ∨ (d = 3 ∧ i = 1) ∨ (d = 4 ∧ i = 0) ∨ (d = 4 ∧ i = 1) ∨ (d = 4 ∧ i = 2) := by omega
  rcases h with ⟨rfl, rfl⟩ | ⟨rfl, rfl⟩ | ⟨rfl, rfl⟩ | ⟨rfl, rfl⟩ | ⟨rfl, rfl⟩ | ⟨rfl, rfl⟩
  · simp only [Nat.reduceAdd, Nat.zero_add] at h1 h2; simp only [sumN]; omega
  · have := h3 2 (by decide) (by decide) (by decide); simp only [Nat.reduceAdd, Nat.zero_add] at h1 h2; simp only [sumN]; omega
  · have := h3 0 (by decide) (by decide) (by decide); simp only [Nat.reduceAdd, Nat.zero_add] at h1 h2; simp only [sumN]; omega
  · have := h3 2 (by decide) (by decide) (by decide); have := h3 3 (by decide) (by decide) (by decide); simp only [Nat.reduceAdd, Nat.zero_add] at h1 h2; simp only [sumN]; omega
  · have := h3 0 (by decide) (by decide) (by decide); have := h3 3 (by decide) (by decide) (by decide); simp only [Nat.reduceAdd, Nat.zero_add] at h1 h2; simp only [sumN]; omega
  · have := h3 0 (by decide) (by decide) (by decide); have := h3 1 (by decide) (by decide) (by decide); simp only [Nat.reduceAdd, Nat.zero_add] at h1 h2; simp only [sumN]; omega
def feN (fb : Nat → Nat) (n d r : Nat) : Nat := fwN (tmN fb (dg r) d) d n
theorem fe_cD {fb : Nat → Nat} {n d r : Nat} (h1 : 1 ≤ d) (h4 : d ≤ 4) : fwN (tmN fb (cD d r) d) d n = feN fb n d r := fwN_cong (fun k _ => sum_rev (g := fun e => if (fb (dg r e)).testBit k = true then 1 else 0) h1 h4)
def vvN (fb : Nat → Nat) (n d r : Nat) : Nat := if vaB n r d = true then feN fb n d r + 1 else 0
def evN (fb : Nat → Nat) (n d : Nat) : Nat → Nat × Nat := fun x => match x with
  | 0 => (0, 0)
  | x + 1 => if (evN fb n d x).1 < vvN fb n d x then (vvN fb n d x, x) else evN fb n d x
theorem ev_t {fb : Nat → Nat} {n d x : Nat} (h : (evN fb n d x).1 < vvN fb n d x) : evN fb n d (x + 1) = (vvN fb n d x, x) := if_pos h
theorem ev_f {fb : Nat → Nat} {n d x : Nat} (h : ¬ (evN fb n d x).1 < vvN fb n d x) : evN fb n d (x + 1) = evN fb n d x := if_neg h
theorem ev_ge {fb : Nat → Nat} {n d : Nat} : ∀ x y, y < x → vvN fb n d y ≤ (evN fb n d x).1
  | 0, y, h => by omega
  | x + 1, y, h => by
    by_cases c : (evN fb n d x).1 < vvN fb n d x
    · rw [ev_t c]
      by_cases e : y = x
      · rw [e]; exact Nat.le_refl _
      · exact Nat.le_of_lt (Nat.lt_of_le_of_lt (ev_ge x y (by omega)) c)
    · rw [ev_f c]
      by_cases e : y = x
      · rw [e]; omega
      · exact ev_ge x y (by omega)
theorem ev_le {fb : Nat → Nat} {n d : Nat} : ∀ x, (evN fb n d x).1 ≤ d + 1 ∧ (evN fb n d x).2 ≤ x
  | 0 => ⟨Nat.zero_le _, Nat.le_refl _⟩
  | x + 1 => by
    have ih := ev_le (fb := fb) (n := n) (d := d) x
    have hv : vvN fb n d x ≤ d + 1 := by
      unfold vvN
      split
      · exact Nat.succ_le_succ (fwN_le n)
      · exact Nat.zero_le _
    by_cases c : (evN fb n d x).1 < vvN fb n d x
    · rw [ev_t c]; exact ⟨hv, Nat.le_succ _⟩
    · rw [ev_f c]; exact ⟨ih.1, Nat.le_succ_of_le ih.2⟩
theorem ev_skip1 {fb : Nat → Nat} {n d x : Nat} (h1 : 1 ≤ d) (h4 : d ≤ 4) (hx : x < 7 ^ d) (hs : svB n d x = false) : evN fb n d (x + 1) = evN fb n d x := by
  refine ev_f ?_
  by_cases hv : vaB n x d = true
  · have hso : ¬ soB x (d - 1) = true := fun z => by
      unfold svB at hs
      rw [z, hv] at hs
      cases hs
    obtain ⟨i, r', a, b, c, e, g⟩ := unsorted h1 h4 hx hso
    have hv' : vaB n r' d = true := vaB_get.mpr (fun q hq => by
      have w := vaB_get.mp hv
      by_cases q1 : q = i
      · rw [q1, c]; exact w _ a
      · by_cases q2 : q = i + 1
        · rw [q2, e]; exact w _ (by omega)
        · rw [g q hq q1 q2]; exact w q hq)
    have hf : feN fb n d r' = feN fb n d x := fwN_cong (fun k _ => sum_swap h4 a (by rw [c]) (by rw [e]) (fun q hq q1 q2 => by rw [g q hq q1 q2]))
    have h := ev_ge (fb := fb) (n := n) (d := d) x r' b
    have e1 : vvN fb n d r' = vvN fb n d x := by
      unfold vvN
      rw [if_pos hv, if_pos hv', hf]
    rw [e1] at h
    omega
  · have : vvN fb n d x = 0 := if_neg hv
    omega
theorem ev_skip {fb : Nat → Nat} {n d : Nat} (h1 : 1 ≤ d) (h4 : d ≤ 4) : ∀ k x, x + k ≤ 7 ^ d → (∀ y, x ≤ y → y < x + k → svB n d y = false) → evN fb n d (x + k) = evN fb n d x
  | 0, x, _, _ => rfl
  | k + 1, x, hk, h => by
    rw [← Nat.add_assoc, ev_skip1 h1 h4 (by omega) (h (x + k) (by omega) (by omega))]
    exact ev_skip h1 h4 k x (by omega) (fun y a b => h y a (by omega))
def bIv (b : Nat) : Int32 := if b = 0 then -1 else nI (b - 1)
theorem bIv_lt {a b : Nat} (ha : a < 1000) (hb : b < 1000) : bIv a < bIv b ↔ a < b := by
  have e : ∀ x, x < 1000 → (bIv x).toInt = (x : Int) - 1 := fun x hx => by
    unfold bIv
    by_cases h : x = 0
    · rw [if_pos h, h]; rfl
    · rw [if_neg h, nI_toInt (by omega)]; omega
  rw [Int32.lt_iff_toInt_lt, e a ha, e b hb]
  omega
theorem bIv_s (b : Nat) : bIv (b + 1) = nI b := if_neg (by omega)
theorem fg_val {d r : Nat} (hd : d ≤ 4) (hr : r < 7 ^ d) : fgN (cD d r) d = r := by
  obtain rfl | rfl | rfl | rfl | rfl : d = 0 ∨ d = 1 ∨ d = 2 ∨ d = 3 ∨ d = 4 := by omega
  · simp only [fgN]; omega
  · simp only [fgN, cD, dg]; omega
  · simp only [fgN, cD, dg]; omega
  · simp only [fgN, cD, dg]; omega
  · simp only [fgN, cD, dg]; omega
theorem dg_lt (r e : Nat) : dg r e < 7 := Nat.mod_lt _ (by decide)


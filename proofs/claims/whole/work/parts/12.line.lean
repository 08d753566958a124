
/-! ===== lines: one moved, the next of all orders ===== -/
def mvS (od : Nat → Nat) (pos k at' p : Nat) : Nat := if p = at' then k else if (if p < at' then p else p - 1) < pos then od (if p < at' then p else p - 1) else od ((if p < at' then p else p - 1) + 1)
def fi (ln : Nat → Nat) : Nat → Nat := fun m => match m with
  | 0 => 0
  | m + 1 => if ln (m + 1) < ln m then fi ln m else m + 1
def fj (ln : Nat → Nat) (i : Nat) : Nat → Nat := fun j => match j with
  | 0 => 0
  | j + 1 => if j + 1 ≤ i then j + 1 else if ln (j + 1) < ln i then fj ln i j else j + 1
def sw (l : Nat → Nat) (i j p : Nat) : Nat := if p = j then l i else if p = i then l j else l p
def rv (l : Nat → Nat) (a b p : Nat) : Nat := if a ≤ p ∧ p ≤ b then l (a + b - p) else l p
def nx (n : Nat) (ln : Nat → Nat) : Option (Nat × (Nat → Nat)) := if fi ln (n - 1) = 0 then none else some (fi ln (n - 1) - 1, rv (sw ln (fi ln (n - 1) - 1) (fj ln (fi ln (n - 1) - 1) (n - 1))) (fi ln (n - 1)) (n - 1))
theorem fi_le (ln : Nat → Nat) : ∀ m, fi ln m ≤ m
  | 0 => Nat.le_refl _
  | m + 1 => by
    unfold fi
    have := fi_le ln m
    split <;> omega
theorem fj_le (ln : Nat → Nat) (i : Nat) : ∀ j, fj ln i j ≤ j
  | 0 => Nat.le_refl _
  | j + 1 => by
    unfold fj
    have := fj_le ln i j
    split
    · omega
    · split <;> omega
theorem nI_le' {a b : Nat} (ha : a < 2 ^ 31) (hb : b < 2 ^ 31) : nI a ≤ nI b ↔ a ≤ b := nI_leI ha hb
theorem nI_m1 (m : Nat) : nI (m + 1) - 1 = nI m := nI_pred m
theorem nI_m1' (m : Nat) : nI (m + 1) + (-1) = nI m := pk_m1 m
theorem nI_s2 {n : Nat} (h : 1 ≤ n) (h7 : n ≤ 7) : nI n - 2 = nI (n - 1) - 1 := by
  obtain rfl | rfl | rfl | rfl | rfl | rfl | rfl : n = 1 ∨ n = 2 ∨ n = 3 ∨ n = 4 ∨ n = 5 ∨ n = 6 ∨ n = 7 := by omega
  all_goals decide
/-- a row's places, another where one was changed -/
def RowF (I I' : IntM) (a n : Nat) : Prop := ∀ x k, ¬ (x = a ∧ k < n) → I' x k = I x k
theorem RowF.rf {I : IntM} {a n : Nat} : RowF I I a n := fun _ _ _ => rfl
theorem RowF.u {I I' : IntM} {a n k : Nat} {v : Int32} (h : RowF I I' a n) (hk : k < n) : RowF I (uI I' a k v) a n := fun x j hj => by
  unfold uI
  rw [if_neg (fun q => hj ⟨q.1, by omega⟩)]
  exact h x j hj

set_option maxRecDepth 100000 in
set_option maxHeartbeats 4000000 in
theorem lp_S_nx1 (I : IntM) (J : LngM) {a : Nat} (hL : LSit a) (hZ : SzS I a) {n : Nat} {ln : Nat → Nat} (h1 : 1 ≤ n) (hn : n ≤ 7) (hsz : I a 6 = nI n) (hA : AtI I (a + 6) n ln) (hb : ∀ i, i < n → ln i < 7) (Q : Option Value → IntM → LngM → Prop) : ∀ m, m ≤ n - 1 → VP m_X7_seatNext 4 38 [(0, .ref a), (1, .int (nI (fi ln m) - 1))] [] I J Q → VP m_X7_seatNext 4 7 [(0, .ref a), (1, .int (nI m - 1))] [] I J Q := by
  obtain ⟨s0, s1, s2, s3, s4, s5, s6, hk1, hk2, hk3, hk4, hk5, hk6, ha⟩ := id hL
  obtain ⟨z1, z2, z3, z4, z5⟩ := id hZ
  intro m
  induction m with
  | zero =>
    intro _ hq
    refine V_il i_X7_seatNext_7 rfl ?_
    refine V_if_lt_t i_X7_seatNext_8 (by decide) ?_
    exact hq
  | succ m ih =>
    intro hm hq
    refine V_il i_X7_seatNext_7 rfl ?_
    refine V_if_lt_f i_X7_seatNext_8 (by rw [nI_m1]; exact nI_pos (by omega)) ?_
    refine V_al i_X7_seatNext_11 rfl ?_
    refine V_getR i_X7_seatNext_12 (by first | assumption | exact hk1.1 | exact hk2.1 | exact hk3.1 | exact hk4.1 | exact hk5.1 | exact hk6.1 | rfl) (by first | assumption | rfl) ?_
    refine V_il i_X7_seatNext_15 rfl ?_
    rw [nI_m1]
    refine P_callV1v i_X7_seatNext_16 mi_X3_get (by first | assumption | exact hk1.1 | exact hk2.1 | exact hk3.1 | exact hk4.1 | exact hk5.1 | exact hk6.1 | rfl) ⟨_, _, rfl⟩ (by decide) (Nat.le_of_ble_eq_true rfl) (c_I_getN _ _ hk3 z3 rfl (k := m) (by omega) (by decide)) ?_
    rw [show a + 5 + 1 = a + 6 from rfl, hA m (by omega)]
    refine V_al i_X7_seatNext_19 rfl ?_
    refine V_getR i_X7_seatNext_20 (by first | assumption | exact hk1.1 | exact hk2.1 | exact hk3.1 | exact hk4.1 | exact hk5.1 | exact hk6.1 | rfl) (by first | assumption | rfl) ?_
    refine V_il i_X7_seatNext_23 rfl ?_
    refine V_c i_X7_seatNext_24 ?_
    refine V_iadd i_X7_seatNext_25 ?_
    rw [nI_1]
    refine P_callV1v i_X7_seatNext_26 mi_X3_get (by first | assumption | exact hk1.1 | exact hk2.1 | exact hk3.1 | exact hk4.1 | exact hk5.1 | exact hk6.1 | rfl) ⟨_, _, rfl⟩ (by decide) (Nat.le_of_ble_eq_true rfl) (c_I_getN _ _ hk3 z3 rfl (k := m + 1) (by omega) (by decide)) ?_
    rw [show a + 5 + 1 = a + 6 from rfl, hA (m + 1) (by omega)]
    refine V_ic_le i_X7_seatNext_29 (fun c29 => ?_) (fun c29 => ?_)
    · rw [nI_leI (by have := hb m (by omega); omega) (by have := hb (m + 1) (by omega); omega)] at c29
      rw [show fi ln (m + 1) = m + 1 from if_neg (by omega), nI_m1] at hq
      exact hq
    · rw [nI_leI (by have := hb m (by omega); omega) (by have := hb (m + 1) (by omega); omega)] at c29
      refine V_iinc (L' := [(0, _), (1, _)]) (n' := (-1)) i_X7_seatNext_32 (by decide) rfl (by decide) ⟨rfl, rfl, trivial⟩ ?_
      refine V_goto i_X7_seatNext_35 ?_
      refine V_L (L' := [(0, _), (1, _)]) ⟨rfl, rfl, trivial⟩ ?_
      rw [show fi ln (m + 1) = fi ln m from if_pos (by omega)] at hq
      rw [show nI m + (-1) = nI m - 1 from by rw [Int32.sub_eq_add_neg]]
      exact ih (by omega) hq
set_option maxRecDepth 100000 in
set_option maxHeartbeats 4000000 in
theorem lp_S_nx2 (I : IntM) (J : LngM) {a : Nat} (hL : LSit a) (hZ : SzS I a) {n : Nat} {ln : Nat → Nat} (h1 : 1 ≤ n) (hn : n ≤ 7) (hsz : I a 6 = nI n) (hA : AtI I (a + 6) n ln) (hb : ∀ i, i < n → ln i < 7) {i : Nat} (hi : i < n) (Q : Option Value → IntM → LngM → Prop) : ∀ j, j ≤ n - 1 → VP m_X7_seatNext 4 81 [(0, .ref a), (1, .int (nI i)), (2, .int (nI (fj ln i j)))] [] I J Q → VP m_X7_seatNext 4 51 [(0, .ref a), (1, .int (nI i)), (2, .int (nI j))] [] I J Q := by
  obtain ⟨s0, s1, s2, s3, s4, s5, s6, hk1, hk2, hk3, hk4, hk5, hk6, ha⟩ := id hL
  obtain ⟨z1, z2, z3, z4, z5⟩ := id hZ
  intro j
  induction j with
  | zero =>
    intro _ hq
    refine V_il i_X7_seatNext_51 rfl ?_
    refine V_il i_X7_seatNext_52 rfl ?_
    refine V_ic_le_t i_X7_seatNext_53 (by rw [nI_leI (by omega) (by omega)]; omega) ?_
    exact hq
  | succ j ih =>
    intro hm hq
    refine V_il i_X7_seatNext_51 rfl ?_
    refine V_il i_X7_seatNext_52 rfl ?_
    refine V_ic_le i_X7_seatNext_53 (fun c53 => ?_) (fun c53 => ?_)
    · rw [nI_leI (by omega) (by omega)] at c53
      rw [show fj ln i (j + 1) = j + 1 from by unfold fj; rw [if_pos c53]] at hq
      exact hq
    · rw [nI_leI (by omega) (by omega)] at c53
      refine V_al i_X7_seatNext_56 rfl ?_
      refine V_getR i_X7_seatNext_57 (by first | assumption | exact hk1.1 | exact hk2.1 | exact hk3.1 | exact hk4.1 | exact hk5.1 | exact hk6.1 | rfl) (by first | assumption | rfl) ?_
      refine V_il i_X7_seatNext_60 rfl ?_
      refine P_callV1v i_X7_seatNext_61 mi_X3_get (by first | assumption | exact hk1.1 | exact hk2.1 | exact hk3.1 | exact hk4.1 | exact hk5.1 | exact hk6.1 | rfl) ⟨_, _, rfl⟩ (by decide) (Nat.le_of_ble_eq_true rfl) (c_I_getN _ _ hk3 z3 rfl (k := j + 1) (by omega) (by decide)) ?_
      rw [show a + 5 + 1 = a + 6 from rfl, hA (j + 1) (by omega)]
      refine V_al i_X7_seatNext_64 rfl ?_
      refine V_getR i_X7_seatNext_65 (by first | assumption | exact hk1.1 | exact hk2.1 | exact hk3.1 | exact hk4.1 | exact hk5.1 | exact hk6.1 | rfl) (by first | assumption | rfl) ?_
      refine V_il i_X7_seatNext_68 rfl ?_
      refine P_callV1v i_X7_seatNext_69 mi_X3_get (by first | assumption | exact hk1.1 | exact hk2.1 | exact hk3.1 | exact hk4.1 | exact hk5.1 | exact hk6.1 | rfl) ⟨_, _, rfl⟩ (by decide) (Nat.le_of_ble_eq_true rfl) (c_I_getN _ _ hk3 z3 rfl (k := i) (by omega) (by decide)) ?_
      rw [show a + 5 + 1 = a + 6 from rfl, hA i (by omega)]
      refine V_ic_ge i_X7_seatNext_72 (fun c72 => ?_) (fun c72 => ?_)
      · rw [nI_leI (by have := hb i (by omega); omega) (by have := hb (j + 1) (by omega); omega)] at c72
        rw [show fj ln i (j + 1) = j + 1 from by unfold fj; rw [if_neg (by omega), if_neg (by omega)]] at hq
        exact hq
      · rw [nI_leI (by have := hb i (by omega); omega) (by have := hb (j + 1) (by omega); omega)] at c72
        refine V_iinc (L' := [(0, _), (1, _), (2, _)]) (n' := (-1)) i_X7_seatNext_75 (by decide) rfl (by decide) ⟨rfl, rfl, rfl, trivial⟩ ?_
        refine V_goto i_X7_seatNext_78 ?_
        refine V_L (L' := [(0, _), (1, _), (2, _)]) ⟨rfl, rfl, rfl, trivial⟩ ?_
        rw [show fj ln i (j + 1) = fj ln i j from by conv => lhs; unfold fj; rw [if_neg (by omega), if_pos (by omega)]] at hq
        rw [nI_m1']
        exact ih (by omega) hq

/-- reversed from both ends, t pairs -/
def rvT (l : Nat → Nat) (a b t p : Nat) : Nat := if (a ≤ p ∧ p < a + t) ∨ (b < p + t ∧ p ≤ b) then l (a + b - p) else l p
theorem rvT_0 (l : Nat → Nat) (a b p : Nat) : rvT l a b 0 p = l p := by
  unfold rvT
  rw [if_neg (by omega)]
theorem rvT_end (l : Nat → Nat) {a b t : Nat} (h : b ≤ a + t + t) (p : Nat) (h2 : a + t ≤ b + 1) (h3 : t ≤ b) : rvT l a b t p = rv l a b p := by
  unfold rvT rv
  by_cases h1 : a ≤ p ∧ p ≤ b
  · rw [if_pos h1]
    by_cases h4 : (a ≤ p ∧ p < a + t) ∨ (b < p + t ∧ p ≤ b)
    · rw [if_pos h4]
    · rw [if_neg h4]
      congr 1
      omega
  · rw [if_neg h1]
    by_cases h4 : (a ≤ p ∧ p < a + t) ∨ (b < p + t ∧ p ≤ b)
    · omega
    · rw [if_neg h4]
theorem rvT_s (l : Nat → Nat) {a b t : Nat} (h : a + t < b - t) (p : Nat) : rvT l a b (t + 1) p = sw (rvT l a b t) (a + t) (b - t) p := by
  unfold sw
  by_cases h1 : p = b - t
  · rw [if_pos h1]
    unfold rvT
    rw [if_pos (by omega), if_neg (by omega)]
    congr 1
    omega
  · rw [if_neg h1]
    by_cases h2 : p = a + t
    · rw [if_pos h2]
      unfold rvT
      rw [if_pos (by omega), if_neg (by omega)]
      congr 1
      omega
    · rw [if_neg h2]
      unfold rvT
      by_cases h4 : (a ≤ p ∧ p < a + t) ∨ (b < p + t ∧ p ≤ b)
      · rw [if_pos (by omega), if_pos h4]
      · rw [if_neg (by omega), if_neg h4]
/-- two places of a row changed with each other -/
theorem sw_row {I : IntM} {a n : Nat} {l : Nat → Nat} {i j : Nat} (h : AtI I a n l) (hi : i < n) (hj : j < n) : AtI (uI (uI I a i (I a j)) a j (I a i)) a n (sw l i j) := by
  intro p hp
  unfold uI sw
  by_cases h1 : p = j
  · rw [if_pos ⟨rfl, h1⟩, if_pos h1]
    exact h i hi
  · rw [if_neg (fun q => h1 q.2), if_neg h1]
    by_cases h2 : p = i
    · rw [if_pos ⟨rfl, h2⟩, if_pos h2]
      exact h j hj
    · rw [if_neg (fun q => h2 q.2), if_neg h2]
      exact h p hp

set_option maxRecDepth 100000 in
set_option maxHeartbeats 4000000 in
theorem lp_S_nx3 (I : IntM) (J : LngM) {a : Nat} (hL : LSit a) (hZ : SzS I a) {n : Nat} (hn : n ≤ 7) {l : Nat → Nat} {A b i : Nat} (hb : b < n) (Q : Option Value → IntM → LngM → Prop) (hq : ∀ I1, AtI I1 (a + 6) n (rv l A b) → RowF I I1 (a + 6) n → Q (some (.int (nI i))) I1 J) : ∀ m t, A + t ≤ b + 1 → t ≤ b → b - t + 1 ≤ m + (A + t) → ∀ I1, AtI I1 (a + 6) n (rvT l A b t) → RowF I I1 (a + 6) n → VP m_X7_seatNext 4 102 [(0, .ref a), (1, .int (nI i)), (3, .int (nI (A + t))), (4, .int (nI (b - t)))] [] I1 J Q := by
  obtain ⟨s0, s1, s2, s3, s4, s5, s6, hk1, hk2, hk3, hk4, hk5, hk6, ha⟩ := id hL
  obtain ⟨z1, z2, z3, z4, z5⟩ := id hZ
  intro m
  induction m with
  | zero =>
    intro t g1 g2 g3 I1 hA1 hF
    refine V_il i_X7_seatNext_102 rfl ?_
    refine V_il i_X7_seatNext_103 rfl ?_
    refine V_ic_ge_t i_X7_seatNext_105 (by rw [nI_leI (by omega) (by omega)]; omega) ?_
    refine V_il i_X7_seatNext_127 rfl ?_
    exact P_iret i_X7_seatNext_128 rfl (hq I1 (fun p hp => by rw [hA1 p hp, rvT_end _ (by omega) p (by omega) (by omega)]) hF)
  | succ m ih =>
    intro t g1 g2 g3 I1 hA1 hF
    refine V_il i_X7_seatNext_102 rfl ?_
    refine V_il i_X7_seatNext_103 rfl ?_
    refine V_ic_ge i_X7_seatNext_105 (fun c105 => ?_) (fun c105 => ?_)
    · rw [nI_leI (by omega) (by omega)] at c105
      refine V_il i_X7_seatNext_127 rfl ?_
      exact P_iret i_X7_seatNext_128 rfl (hq I1 (fun p hp => by rw [hA1 p hp, rvT_end _ (by omega) p (by omega) (by omega)]) hF)
    · rw [nI_leI (by omega) (by omega)] at c105
      refine V_al i_X7_seatNext_108 rfl ?_
      refine V_getR i_X7_seatNext_109 (by first | assumption | exact hk1.1 | exact hk2.1 | exact hk3.1 | exact hk4.1 | exact hk5.1 | exact hk6.1 | rfl) (by first | assumption | rfl) ?_
      refine V_il i_X7_seatNext_112 rfl ?_
      refine V_il i_X7_seatNext_113 rfl ?_
      refine P_callV2u i_X7_seatNext_115 mi_X3_swap (by first | assumption | exact hk1.1 | exact hk2.1 | exact hk3.1 | exact hk4.1 | exact hk5.1 | exact hk6.1 | rfl) ⟨_, _, rfl⟩ (by decide) (Nat.le_of_ble_eq_true rfl) (c_I_swap _ _ hk3 (s := 7) (by rw [hF _ _ (by omega)]; exact z3) (by decide) (by omega) (by omega)) ?_
      refine V_iinc (L' := [(0, _), (1, _), (3, _), (4, _)]) (n' := 1) i_X7_seatNext_118 (by decide) rfl (by decide) ⟨rfl, rfl, rfl, rfl, trivial⟩ ?_
      refine V_iinc (L' := [(0, _), (1, _), (3, _), (4, _)]) (n' := (-1)) i_X7_seatNext_121 (by decide) rfl (by decide) ⟨rfl, rfl, rfl, rfl, trivial⟩ ?_
      refine V_goto i_X7_seatNext_124 ?_
      refine V_L (L' := [(0, _), (1, _), (3, _), (4, _)]) ⟨rfl, rfl, rfl, rfl, trivial⟩ ?_
      rw [nI_1, show b - t = b - (t + 1) + 1 from by omega, nI_m1', show b - (t + 1) + 1 = b - t from by omega]
      refine ih (t + 1) (by omega) (by omega) (by omega) _ (fun p hp => ?_) (RowF.u (RowF.u hF (by omega)) (by omega))
      rw [sw_row hA1 (by omega) (by omega) p hp, rvT_s _ (by omega)]
set_option maxRecDepth 100000 in
set_option maxHeartbeats 4000000 in
theorem c_S_next (I : IntM) (J : LngM) {a : Nat} (hL : LSit a) (hZ : SzS I a) {n : Nat} {ln : Nat → Nat} (h1 : 1 ≤ n) (hn : n ≤ 7) (hsz : I a 6 = nI n) (hA : AtI I (a + 6) n ln) (hb : ∀ i, i < n → ln i < 7) : CtP 4 m_X7_seatNext [.ref a] I J (fun r I1 J1 => J1 = J ∧ match nx n ln with | none => r = some (.int (-1)) ∧ I1 = I | some q => r = some (.int (nI q.1)) ∧ AtI I1 (a + 6) n q.2 ∧ RowF I I1 (a + 6) n ∧ q.1 + 1 < n) := by
  refine CtP_of (by decide) rfl (Nat.le_of_ble_eq_true rfl) ?_
  obtain ⟨s0, s1, s2, s3, s4, s5, s6, hk1, hk2, hk3, hk4, hk5, hk6, ha⟩ := id hL
  obtain ⟨z1, z2, z3, z4, z5⟩ := id hZ
  refine V_al i_X7_seatNext_0 rfl ?_
  refine V_getI i_X7_seatNext_1 (by first | assumption | exact hk1.1 | exact hk2.1 | exact hk3.1 | exact hk4.1 | exact hk5.1 | exact hk6.1 | rfl) ?_
  refine V_c i_X7_seatNext_4 ?_
  rw [hsz]
  refine V_isub i_X7_seatNext_5 ?_
  rw [nI_s2 h1 hn]
  refine V_is (L' := [(0, _), (1, _)]) i_X7_seatNext_6 (by decide) ⟨rfl, rfl, trivial⟩ ?_
  refine V_L (L' := [(0, _), (1, _)]) ⟨rfl, rfl, trivial⟩ ?_
  refine lp_S_nx1 I J hL hZ h1 hn hsz hA hb _ (n - 1) (Nat.le_refl _) ?_
  by_cases hf : fi ln (n - 1) = 0
  · refine V_il i_X7_seatNext_38 rfl ?_
    refine V_if_ge_f i_X7_seatNext_39 (by rw [hf]; decide) ?_
    refine V_c i_X7_seatNext_42 ?_
    exact P_iret i_X7_seatNext_43 rfl ⟨rfl, by unfold nx; rw [if_pos hf]; exact ⟨rfl, rfl⟩⟩
  · have hfl := fi_le ln (n - 1)
    have hi : nI (fi ln (n - 1)) - 1 = nI (fi ln (n - 1) - 1) := by
      obtain ⟨k, hk⟩ : ∃ k, fi ln (n - 1) = k + 1 := ⟨fi ln (n - 1) - 1, by omega⟩
      rw [hk, nI_m1]
      rfl
    rw [hi]
    obtain ⟨i, hie⟩ : ∃ i, fi ln (n - 1) - 1 = i := ⟨_, rfl⟩
    rw [hie] at hi ⊢
    refine V_il i_X7_seatNext_38 rfl ?_
    refine V_if_ge_t i_X7_seatNext_39 (by exact nI_pos' (by omega)) ?_
    refine V_al i_X7_seatNext_44 rfl ?_
    refine V_getI i_X7_seatNext_45 (by first | assumption | exact hk1.1 | exact hk2.1 | exact hk3.1 | exact hk4.1 | exact hk5.1 | exact hk6.1 | rfl) ?_
    refine V_c i_X7_seatNext_48 ?_
    rw [hsz]
    refine V_isub i_X7_seatNext_49 ?_
    rw [show nI n - 1 = nI (n - 1) from by rw [show (1 : Int32) = nI 1 from rfl, pk_sub (by omega)]]
    refine V_is (L' := [(0, _), (1, _), (2, _)]) i_X7_seatNext_50 (by decide) ⟨rfl, rfl, rfl, trivial⟩ ?_
    refine V_L (L' := [(0, _), (1, _), (2, _)]) ⟨rfl, rfl, rfl, trivial⟩ ?_
    refine lp_S_nx2 I J hL hZ h1 hn hsz hA hb (i := i) (by omega) _ (n - 1) (Nat.le_refl _) ?_
    refine V_al i_X7_seatNext_81 rfl ?_
    refine V_getR i_X7_seatNext_82 (by first | assumption | exact hk1.1 | exact hk2.1 | exact hk3.1 | exact hk4.1 | exact hk5.1 | exact hk6.1 | rfl) (by first | assumption | rfl) ?_
    refine V_il i_X7_seatNext_85 rfl ?_
    refine V_il i_X7_seatNext_86 rfl ?_
    refine P_callV2u i_X7_seatNext_87 mi_X3_swap (by first | assumption | exact hk1.1 | exact hk2.1 | exact hk3.1 | exact hk4.1 | exact hk5.1 | exact hk6.1 | rfl) ⟨_, _, rfl⟩ (by decide) (Nat.le_of_ble_eq_true rfl) (c_I_swap _ _ hk3 (s := 7) z3 (by decide) (i := i) (j := fj ln i (n - 1)) (by omega) (by have := fj_le ln i (n - 1); omega)) ?_
    refine V_il i_X7_seatNext_90 rfl ?_
    refine V_c i_X7_seatNext_91 ?_
    refine V_iadd i_X7_seatNext_92 ?_
    rw [nI_1]
    refine V_is (L' := [(0, _), (1, _), (3, _)]) i_X7_seatNext_93 (by decide) ⟨rfl, rfl, rfl, trivial⟩ ?_
    refine V_al i_X7_seatNext_94 rfl ?_
    refine V_getI i_X7_seatNext_95 (by first | assumption | exact hk1.1 | exact hk2.1 | exact hk3.1 | exact hk4.1 | exact hk5.1 | exact hk6.1 | rfl) ?_
    refine V_c i_X7_seatNext_98 ?_
    rw [show uI (uI I (a + 5 + 1) i (I (a + 5 + 1) (fj ln i (n - 1)))) (a + 5 + 1) (fj ln i (n - 1)) (I (a + 5 + 1) i) a 6 = nI n from by unfold uI; rw [if_neg (by omega), if_neg (by omega)]; exact hsz]
    refine V_isub i_X7_seatNext_99 ?_
    rw [show nI n - 1 = nI (n - 1) from by rw [show (1 : Int32) = nI 1 from rfl, pk_sub (by omega)]]
    refine V_is (L' := [(0, _), (1, _), (3, _), (4, _)]) i_X7_seatNext_100 (by decide) ⟨rfl, rfl, rfl, rfl, trivial⟩ ?_
    refine V_L (L' := [(0, _), (1, _), (3, _), (4, _)]) ⟨rfl, rfl, rfl, rfl, trivial⟩ ?_
    have hsr : AtI (uI (uI I (a + 6) i (I (a + 6) (fj ln i (n - 1)))) (a + 6) (fj ln i (n - 1)) (I (a + 6) i)) (a + 6) n (sw ln i (fj ln i (n - 1))) := sw_row hA (by omega) (by have := fj_le ln i (n - 1); omega)
    have hfr : RowF I (uI (uI I (a + 6) i (I (a + 6) (fj ln i (n - 1)))) (a + 6) (fj ln i (n - 1)) (I (a + 6) i)) (a + 6) n := RowF.u (RowF.u RowF.rf (by omega)) (by have := fj_le ln i (n - 1); omega)
    have zz : SzS (uI (uI I (a + 6) i (I (a + 6) (fj ln i (n - 1)))) (a + 6) (fj ln i (n - 1)) (I (a + 6) i)) a := ⟨by rw [hfr _ _ (by omega)]; exact z1, by rw [hfr _ _ (by omega)]; exact z2, by rw [hfr _ _ (by omega)]; exact z3, by rw [hfr _ _ (by omega)]; exact z4, by rw [hfr _ _ (by omega)]; exact z5⟩
    refine lp_S_nx3 _ J hL zz hn (l := sw ln i (fj ln i (n - 1))) (A := i + 1) (b := n - 1) (i := i) (by omega) _ (fun I1 g1 g2 => ?_) n 0 (by omega) (by omega) (by omega) _ (fun p hp => by rw [rvT_0]; exact hsr p hp) RowF.rf
    refine ⟨rfl, ?_⟩
    unfold nx
    rw [if_neg hf, hie]
    exact ⟨rfl, by rw [show fi ln (n - 1) = i + 1 by omega]; exact g1, fun x k h => (g2 x k h).trans (hfr x k h), by omega⟩

/-- how many others are ahead of place i of the told order -/
def oth (pos i : Nat) : Nat := if i ≤ pos then i else i - 1
def nxt (pos at' i : Nat) : Nat := if oth pos i ≤ at' then oth pos i else oth pos i + 1


theorem oth_s {pos i : Nat} (h : ¬ i = pos) : oth pos (i + 1) = oth pos i + 1 ∧ (if oth pos i < pos then oth pos i else oth pos i + 1) = i := by
  unfold oth
  by_cases h1 : i < pos
  · rw [if_pos (show i + 1 ≤ pos by omega), if_pos (show i ≤ pos by omega), if_pos h1]
    exact ⟨rfl, rfl⟩
  · rw [if_neg (show ¬ i + 1 ≤ pos by omega), if_neg (show ¬ i ≤ pos by omega), if_neg (show ¬ i - 1 < pos by omega)]
    exact ⟨by omega, by omega⟩
theorem nxt_s {pos at' i q : Nat} (h : ¬ i = pos) (hq : (nxt pos at' i = at' ∧ q = nxt pos at' i + 1) ∨ (¬ nxt pos at' i = at' ∧ q = nxt pos at' i)) : nxt pos at' (i + 1) = q + 1 ∧ q ≠ at' ∧ (∀ p, p < q + 1 → p ≠ at' → p ≠ q → p < nxt pos at' i) ∧ (if q < at' then q else q - 1) = oth pos i := by
  obtain ⟨e, -⟩ := oth_s h
  unfold nxt at hq ⊢
  rw [e]
  generalize oth pos i = c at hq ⊢
  by_cases h1 : c < at'
  · rw [if_pos (show c ≤ at' by omega)] at hq ⊢
    obtain rfl : q = c := by omega
    rw [if_pos (show q + 1 ≤ at' by omega), if_pos h1]
    exact ⟨rfl, by omega, fun p _ _ _ => by omega, rfl⟩
  · by_cases h2 : c = at'
    · rw [if_pos (show c ≤ at' by omega)] at hq ⊢
      obtain rfl : q = c + 1 := by omega
      rw [if_neg (show ¬ c + 1 ≤ at' by omega), if_neg (show ¬ c + 1 < at' by omega)]
      exact ⟨rfl, by omega, fun p _ _ _ => by omega, by omega⟩
    · rw [if_neg (show ¬ c ≤ at' by omega)] at hq ⊢
      obtain rfl : q = c + 1 := by omega
      rw [if_neg (show ¬ c + 1 ≤ at' by omega), if_neg (show ¬ c + 1 < at' by omega)]
      exact ⟨rfl, by omega, fun p _ _ _ => by omega, by omega⟩
theorem oth_lt {pos i n : Nat} (hi : i < n) (hp : pos < n) (h : ¬ i = pos) : oth pos i + 1 < n := by
  unfold oth
  split <;> omega

set_option maxRecDepth 100000 in
set_option maxHeartbeats 4000000 in
theorem lp_S_moved (I : IntM) (J : LngM) {a : Nat} (hL : LSit a) (hZ : SzS I a) {n : Nat} (hn : n ≤ 7) (hsz : I a 6 = nI n) {y : Nat} (hO : LI y 7) (hOz : I y 1 = nI 7) (hy : y + 1 < a ∨ a + 13 ≤ y) {od : Nat → Nat} (hod : AtI I (y + 1) n od) (hlt : ∀ i, i < n → od i < n) (hinj : ∀ i j, i < n → j < n → od i = od j → i = j) {pos k at' : Nat} (hpos : pos < n) (hk : od pos = k) (hat : at' < n) (Q : Option Value → IntM → LngM → Prop) (hq : ∀ I1, (∀ p, p < n → p ≠ at' → I1 (a + 6) p = nI (mvS od pos k at' p)) → RowF I I1 (a + 6) n → VP m_X7_seatMoved 3 65 [(0, .ref a), (2, .int (nI k)), (3, .int (nI at'))] [] I1 J Q) : VP m_X7_seatMoved 3 6 [(0, .ref a), (1, .ref y), (2, .int (nI k)), (3, .int (nI at')), (4, .int 0), (5, .int 0)] [] I J Q := by
  obtain ⟨s0, s1, s2, s3, s4, s5, s6, hk1, hk2, hk3, hk4, hk5, hk6, ha⟩ := id hL
  obtain ⟨z1, z2, z3, z4, z5⟩ := id hZ
  have key : ∀ i, i ≤ n → ∀ I1, (∀ p, p < n → p < nxt pos at' i → p ≠ at' → I1 (a + 6) p = nI (mvS od pos k at' p)) → RowF I I1 (a + 6) n → VP m_X7_seatMoved 3 6 [(0, .ref a), (1, .ref y), (2, .int (nI k)), (3, .int (nI at')), (4, .int (nI (nxt pos at' i))), (5, .int (nI i))] [] I1 J Q := by
    refine down n ?_ (fun i hi ih => ?_)
    · intro I1 hM hF
      refine V_il i_X7_seatMoved_6 rfl ?_
      refine V_al i_X7_seatMoved_8 rfl ?_
      refine V_getI i_X7_seatMoved_9 s0 ?_
      refine V_ic_ge_t i_X7_seatMoved_12 (by rw [hF _ _ (by omega), hsz]; exact Int32.le_refl _) ?_
      refine V_L (L' := [(0, _), (2, _), (3, _)]) ⟨rfl, rfl, rfl, trivial⟩ ?_
      exact hq I1 (fun p hp hpa => hM p hp (by unfold nxt oth; split <;> split <;> omega) hpa) hF
    · intro I1 hM hF
      have hi7 : i < 7 := by omega
      have hlo := hlt i hi
      have hkn : k < n := by rw [← hk]; exact hlt pos hpos
      refine V_il i_X7_seatMoved_6 rfl ?_
      refine V_al i_X7_seatMoved_8 rfl ?_
      refine V_getI i_X7_seatMoved_9 (by first | assumption | exact hk1.1 | exact hk2.1 | exact hk3.1 | exact hk4.1 | exact hk5.1 | exact hk6.1 | rfl) ?_
      refine V_ic_ge_f i_X7_seatMoved_12 (by rw [hF _ _ (by omega), hsz]; exact nI_ge hi (by omega)) ?_
      refine V_al i_X7_seatMoved_15 rfl ?_
      refine V_il i_X7_seatMoved_16 rfl ?_
      refine P_callV1v i_X7_seatMoved_18 mi_X3_get hO.1 ⟨_, _, rfl⟩ (by decide) (Nat.le_of_ble_eq_true rfl) (c_I_getN _ _ hO (by rw [hF _ _ (by omega)]; exact hOz) rfl hi7 (by decide)) ?_
      rw [hF (y + 1) _ (by omega), hod i hi]
      refine V_is (L' := [(0, _), (1, _), (2, _), (3, _), (4, _), (5, _), (6, _)]) i_X7_seatMoved_21 (by decide) ⟨rfl, rfl, rfl, rfl, rfl, rfl, rfl, trivial⟩ ?_
      refine V_il i_X7_seatMoved_23 rfl ?_
      refine V_il i_X7_seatMoved_25 rfl ?_
      refine V_ic_eq i_X7_seatMoved_26 (fun c26 => ?_) (fun c26 => ?_)
      · rw [nI_eq (by omega) (by omega)] at c26
        have hip : i = pos := hinj i pos hi hpos (c26.trans hk.symm)
        refine V_iinc (L' := [(0, _), (1, _), (2, _), (3, _), (4, _), (5, _)]) (n' := 1) i_X7_seatMoved_59 (by decide) rfl (by decide) ⟨rfl, rfl, rfl, rfl, rfl, rfl, trivial⟩ ?_
        refine V_goto i_X7_seatMoved_62 ?_
        refine V_L (L' := [(0, _), (1, _), (2, _), (3, _), (4, _), (5, _)]) ⟨rfl, rfl, rfl, rfl, rfl, rfl, trivial⟩ ?_
        rw [show nI i + 1 = nI (i + 1) from nI_1 i]
        have e0 : oth pos (i + 1) = oth pos i := by rw [hip]; unfold oth; rw [if_neg (by omega), if_pos (Nat.le_refl _)]; omega
        have e : nxt pos at' (i + 1) = nxt pos at' i := by unfold nxt; rw [e0]
        have ih := ih I1 (by rw [e]; exact hM) hF
        rw [e] at ih
        exact ih
      · rw [nI_eq (by omega) (by omega)] at c26
        have hip : ¬ i = pos := fun q => c26 (by rw [q]; exact hk)
        refine V_il i_X7_seatMoved_29 rfl ?_
        refine V_il i_X7_seatMoved_31 rfl ?_
        refine V_il i_X7_seatMoved_33 rfl ?_
        refine V_ic_ne i_X7_seatMoved_34 (fun c34 => ?_) (fun c34 => ?_)
        · rw [nI_eq (by unfold nxt oth; split <;> split <;> omega) (by omega)] at c34
          refine V_c i_X7_seatMoved_41 ?_
          refine V_iadd i_X7_seatMoved_42 ?_
          obtain ⟨q, hq9⟩ : ∃ q, q = nxt pos at' i + 0 := ⟨_, rfl⟩
          rw [show nI (nxt pos at' i) + 0 = nI q from by rw [hq9]; exact nI_add _ 0]
          obtain ⟨n1, n2, n3, n4⟩ := nxt_s hip (at' := at') (q := q) (Or.inr ⟨c34, hq9⟩)
          have hqn : q < n := by have := oth_lt hi hpos hip; split at n4 <;> omega
          refine V_is (L' := [(0, _), (1, _), (2, _), (3, _), (4, _), (5, _), (6, _)]) i_X7_seatMoved_43 (by decide) ⟨rfl, rfl, rfl, rfl, rfl, rfl, rfl, trivial⟩ ?_
          refine V_al i_X7_seatMoved_45 rfl ?_
          refine V_getR i_X7_seatMoved_46 (by first | assumption | exact hk1.1 | exact hk2.1 | exact hk3.1 | exact hk4.1 | exact hk5.1 | exact hk6.1 | rfl) (by first | assumption | rfl) ?_
          refine V_il i_X7_seatMoved_49 rfl ?_
          refine V_il i_X7_seatMoved_51 rfl ?_
          refine P_callV2u i_X7_seatMoved_53 mi_X3_set (by first | assumption | exact hk1.1 | exact hk2.1 | exact hk3.1 | exact hk4.1 | exact hk5.1 | exact hk6.1 | rfl) ⟨_, _, rfl⟩ (by decide) (Nat.le_of_ble_eq_true rfl) (c_I_setN (s := 7) (k := q) _ _ _ hk3 (by rw [hF _ _ (by omega)]; exact z3) rfl (by omega) (by decide)) ?_
          refine V_iinc (L' := [(0, _), (1, _), (2, _), (3, _), (4, _), (5, _)]) (n' := 1) i_X7_seatMoved_56 (by decide) rfl (by decide) ⟨rfl, rfl, rfl, rfl, rfl, rfl, trivial⟩ ?_
          refine V_iinc (L' := [(0, _), (1, _), (2, _), (3, _), (4, _), (5, _)]) (n' := 1) i_X7_seatMoved_59 (by decide) rfl (by decide) ⟨rfl, rfl, rfl, rfl, rfl, rfl, trivial⟩ ?_
          refine V_goto i_X7_seatMoved_62 ?_
          refine V_L (L' := [(0, _), (1, _), (2, _), (3, _), (4, _), (5, _)]) ⟨rfl, rfl, rfl, rfl, rfl, rfl, trivial⟩ ?_
          rw [show nI i + 1 = nI (i + 1) from nI_1 i, nI_1 q]
          rw [← n1]
          refine ih _ (fun p hp hpl hpa => ?_) (RowF.u hF hqn)
          rw [show a + 5 + 1 = a + 6 from rfl]
          by_cases hpq : p = q
          · rw [hpq, uI_eq]
            congr 1
            unfold mvS
            rw [if_neg n2, n4]
            have e2 := (oth_s hip).2
            by_cases h8 : oth pos i < pos
            · rw [if_pos h8] at e2
              rw [if_pos h8, e2]
            · rw [if_neg h8] at e2
              rw [if_neg h8, e2]
          · rw [uI_ne _ _ (fun z => hpq (by cases z; rfl))]
            exact hM p hp (n3 p (by omega) hpa hpq) hpa
        · rw [nI_eq (by unfold nxt oth; split <;> split <;> omega) (by omega)] at c34
          refine V_c i_X7_seatMoved_37 ?_
          refine V_goto i_X7_seatMoved_38 ?_
          refine V_iadd i_X7_seatMoved_42 ?_
          obtain ⟨q, hq9⟩ : ∃ q, q = nxt pos at' i + 1 := ⟨_, rfl⟩
          rw [show nI (nxt pos at' i) + 1 = nI q from by rw [hq9]; exact nI_add _ 1]
          obtain ⟨n1, n2, n3, n4⟩ := nxt_s hip (at' := at') (q := q) (Or.inl ⟨c34, hq9⟩)
          have hqn : q < n := by have := oth_lt hi hpos hip; split at n4 <;> omega
          refine V_is (L' := [(0, _), (1, _), (2, _), (3, _), (4, _), (5, _), (6, _)]) i_X7_seatMoved_43 (by decide) ⟨rfl, rfl, rfl, rfl, rfl, rfl, rfl, trivial⟩ ?_
          refine V_al i_X7_seatMoved_45 rfl ?_
          refine V_getR i_X7_seatMoved_46 (by first | assumption | exact hk1.1 | exact hk2.1 | exact hk3.1 | exact hk4.1 | exact hk5.1 | exact hk6.1 | rfl) (by first | assumption | rfl) ?_
          refine V_il i_X7_seatMoved_49 rfl ?_
          refine V_il i_X7_seatMoved_51 rfl ?_
          refine P_callV2u i_X7_seatMoved_53 mi_X3_set (by first | assumption | exact hk1.1 | exact hk2.1 | exact hk3.1 | exact hk4.1 | exact hk5.1 | exact hk6.1 | rfl) ⟨_, _, rfl⟩ (by decide) (Nat.le_of_ble_eq_true rfl) (c_I_setN (s := 7) (k := q) _ _ _ hk3 (by rw [hF _ _ (by omega)]; exact z3) rfl (by omega) (by decide)) ?_
          refine V_iinc (L' := [(0, _), (1, _), (2, _), (3, _), (4, _), (5, _)]) (n' := 1) i_X7_seatMoved_56 (by decide) rfl (by decide) ⟨rfl, rfl, rfl, rfl, rfl, rfl, trivial⟩ ?_
          refine V_iinc (L' := [(0, _), (1, _), (2, _), (3, _), (4, _), (5, _)]) (n' := 1) i_X7_seatMoved_59 (by decide) rfl (by decide) ⟨rfl, rfl, rfl, rfl, rfl, rfl, trivial⟩ ?_
          refine V_goto i_X7_seatMoved_62 ?_
          refine V_L (L' := [(0, _), (1, _), (2, _), (3, _), (4, _), (5, _)]) ⟨rfl, rfl, rfl, rfl, rfl, rfl, trivial⟩ ?_
          rw [show nI i + 1 = nI (i + 1) from nI_1 i, nI_1 q]
          rw [← n1]
          refine ih _ (fun p hp hpl hpa => ?_) (RowF.u hF hqn)
          rw [show a + 5 + 1 = a + 6 from rfl]
          by_cases hpq : p = q
          · rw [hpq, uI_eq]
            congr 1
            unfold mvS
            rw [if_neg n2, n4]
            have e2 := (oth_s hip).2
            by_cases h8 : oth pos i < pos
            · rw [if_pos h8] at e2
              rw [if_pos h8, e2]
            · rw [if_neg h8] at e2
              rw [if_neg h8, e2]
          · rw [uI_ne _ _ (fun z => hpq (by cases z; rfl))]
            exact hM p hp (n3 p (by omega) hpa hpq) hpa
  have h0 := key 0 (Nat.zero_le _) I (fun p hp hlt => by unfold nxt oth at hlt; split at hlt <;> split at hlt <;> omega) RowF.rf
  rw [show nxt pos at' 0 = 0 from by unfold nxt oth; split <;> split <;> omega] at h0
  exact h0
set_option maxRecDepth 100000 in
set_option maxHeartbeats 4000000 in
theorem c_S_moved (I : IntM) (J : LngM) {a : Nat} (hL : LSit a) (hZ : SzS I a) {n : Nat} (hn : n ≤ 7) (hsz : I a 6 = nI n) {y : Nat} (hO : LI y 7) (hOz : I y 1 = nI 7) (hy : y + 1 < a ∨ a + 13 ≤ y) {od : Nat → Nat} (hod : AtI I (y + 1) n od) (hlt : ∀ i, i < n → od i < n) (hinj : ∀ i j, i < n → j < n → od i = od j → i = j) {pos k at' : Nat} (hpos : pos < n) (hk : od pos = k) (hat : at' < n) : CtP 3 m_X7_seatMoved [.ref a, .ref y, .int (nI k), .int (nI at')] I J (fun r I1 J1 => r = none ∧ J1 = J ∧ AtI I1 (a + 6) n (mvS od pos k at') ∧ RowF I I1 (a + 6) n) := by
  refine CtP_of (by decide) rfl (Nat.le_of_ble_eq_true rfl) ?_
  obtain ⟨s0, s1, s2, s3, s4, s5, s6, hk1, hk2, hk3, hk4, hk5, hk6, ha⟩ := id hL
  obtain ⟨z1, z2, z3, z4, z5⟩ := id hZ
  refine V_c i_X7_seatMoved_0 ?_
  refine V_is (L' := [(0, _), (1, _), (2, _), (3, _), (4, _)]) i_X7_seatMoved_1 (by decide) ⟨rfl, rfl, rfl, rfl, rfl, trivial⟩ ?_
  refine V_c i_X7_seatMoved_3 ?_
  refine V_is (L' := [(0, _), (1, _), (2, _), (3, _), (4, _), (5, _)]) i_X7_seatMoved_4 (by decide) ⟨rfl, rfl, rfl, rfl, rfl, rfl, trivial⟩ ?_
  refine V_L (L' := [(0, _), (1, _), (2, _), (3, _), (4, _), (5, _)]) ⟨rfl, rfl, rfl, rfl, rfl, rfl, trivial⟩ ?_
  refine lp_S_moved I J hL hZ hn hsz hO hOz hy hod hlt hinj hpos hk hat _ (fun I1 hM hF => ?_)
  refine V_al i_X7_seatMoved_65 rfl ?_
  refine V_getR i_X7_seatMoved_66 (by first | assumption | exact hk1.1 | exact hk2.1 | exact hk3.1 | exact hk4.1 | exact hk5.1 | exact hk6.1 | rfl) (by first | assumption | rfl) ?_
  refine V_il i_X7_seatMoved_69 rfl ?_
  refine V_il i_X7_seatMoved_70 rfl ?_
  refine P_callV2u i_X7_seatMoved_71 mi_X3_set (by first | assumption | exact hk1.1 | exact hk2.1 | exact hk3.1 | exact hk4.1 | exact hk5.1 | exact hk6.1 | rfl) ⟨_, _, rfl⟩ (by decide) (Nat.le_of_ble_eq_true rfl) (c_I_setN (s := 7) (k := at') _ _ _ hk3 (by rw [hF _ _ (by omega)]; exact z3) rfl (by omega) (by decide)) ?_
  exact P_vret i_X7_seatMoved_74 rfl ⟨rfl, rfl, fun p hp => by
    rw [show a + 5 + 1 = a + 6 from rfl]
    by_cases hpa : p = at'
    · rw [hpa, uI_eq]; unfold mvS; rw [if_pos rfl]
    · rw [uI_ne _ _ (fun z => hpa (by cases z; rfl))]; exact hM p hp hpa, RowF.u hF hat⟩

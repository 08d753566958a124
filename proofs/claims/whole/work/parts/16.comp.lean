
/-! ===== sets, counts, places; Company ===== -/
def setN (p : Nat → Bool) : Nat → Nat := fun n => match n with
  | 0 => 0
  | n + 1 => if p n = true then setN p n ||| 2 ^ n else setN p n
def cntN (p : Nat → Bool) : Nat → Nat := fun n => match n with
  | 0 => 0
  | n + 1 => if p n = true then cntN p n + 1 else cntN p n
def sumN (f : Nat → Nat) : Nat → Nat := fun n => match n with
  | 0 => 0
  | n + 1 => sumN f n + f n
def plN (od : Nat → Nat) (k : Nat) : Nat → Nat := fun n => match n with
  | 0 => 0
  | p + 1 => if od p = k then p else plN od k p
def isK (kd : Nat → Nat) (kind : Nat) (k : Nat) : Bool := decide (kd k = kind ∨ (kind = 1 ∧ kd k = 5))
theorem setN_bit (p : Nat → Bool) : ∀ n k, (setN p n).testBit k = (decide (k < n) && p k)
  | 0, k => by simp [setN]
  | n + 1, k => by
    have ih := setN_bit p n k
    unfold setN
    by_cases h : p n = true
    · rw [if_pos h, Nat.testBit_or, ih, Nat.testBit_two_pow]
      by_cases hk : n = k
      · subst hk
        simp [h]
      · by_cases hk2 : k < n
        · simp [hk, hk2, show k < n + 1 by omega]
        · simp [hk, hk2, show ¬ k < n + 1 by omega]
    · rw [if_neg h, ih]
      by_cases hk : k = n
      · subst hk
        simp [h]
      · by_cases hk2 : k < n
        · simp [hk2, show k < n + 1 by omega]
        · simp [hk2, show ¬ k < n + 1 by omega]
theorem setN_lt (p : Nat → Bool) : ∀ n, n ≤ 7 → setN p n < 128
  | 0, _ => by unfold setN; omega
  | n + 1, h => by
    have ih := setN_lt p n (by omega)
    unfold setN
    split
    · exact Nat.or_lt_two_pow (n := 7) ih (Nat.pow_lt_pow_right (by omega) (by omega))
    · exact ih
theorem cntN_le (p : Nat → Bool) : ∀ n, cntN p n ≤ n
  | 0 => Nat.le_refl _
  | n + 1 => by
    have := cntN_le p n
    unfold cntN
    split <;> omega
theorem cntN_cong {p q : Nat → Bool} : ∀ {n}, (∀ k, k < n → p k = q k) → cntN p n = cntN q n
  | 0, _ => rfl
  | n + 1, h => by
    unfold cntN
    rw [h n (by omega), cntN_cong (fun k hk => h k (by omega))]
theorem setN_cong {p q : Nat → Bool} : ∀ {n}, (∀ k, k < n → p k = q k) → setN p n = setN q n
  | 0, _ => rfl
  | n + 1, h => by
    unfold setN
    rw [h n (by omega), setN_cong (fun k hk => h k (by omega))]
theorem cntN_more {p : Nat → Bool} {n : Nat} : ∀ {m}, n ≤ m → (∀ k, n ≤ k → k < m → p k = false) → cntN p m = cntN p n
  | 0, h, _ => by rw [show n = 0 by omega]
  | m + 1, h, hp => by
    rcases Nat.lt_or_ge m n with h1 | h1
    · rw [show n = m + 1 by omega]
    · show (if p m = true then cntN p m + 1 else cntN p m) = _
      rw [hp m h1 (by omega), if_neg (by decide), cntN_more h1 (fun k h2 h3 => hp k h2 (by omega))]
def popc (s : Nat) : Nat := cntN (fun k => s.testBit k) 7
theorem bc_tab : ∀ s, s < 128 → bcI (nI s) = nI (popc s) := by decide +kernel
theorem popc_set {p : Nat → Bool} {n : Nat} (hn : n ≤ 7) : popc (setN p n) = cntN p n := by
  unfold popc
  rw [cntN_more (n := n) hn (fun k h1 h2 => by rw [setN_bit]; simp [show ¬ k < n by omega])]
  exact cntN_cong (fun k hk => by rw [setN_bit]; simp [hk])
theorem bc_set {p : Nat → Bool} {n : Nat} (hn : n ≤ 7) : bcI (nI (setN p n)) = nI (cntN p n) := by
  rw [bc_tab _ (setN_lt p n hn), popc_set hn]
theorem popc_le (s : Nat) : popc s ≤ 7 := cntN_le _ 7
theorem plN_lt {od : Nat → Nat} {k : Nat} : ∀ {n}, 0 < n → plN od k n < n
  | 0, h => absurd h (Nat.lt_irrefl _)
  | p + 1, _ => by
    unfold plN
    split
    · omega
    · rcases Nat.eq_zero_or_pos p with rfl | h
      · unfold plN; omega
      · have := plN_lt (od := od) (k := k) h; omega
theorem plN_le {od : Nat → Nat} {k : Nat} : ∀ {n}, plN od k n ≤ n
  | 0 => Nat.le_refl _
  | p + 1 => by
    unfold plN
    have := plN_le (od := od) (k := k) (n := p)
    split <;> omega
theorem plN_is {od : Nat → Nat} {k : Nat} : ∀ {n}, (∃ i, i < n ∧ od i = k) → od (plN od k n) = k
  | 0, h => by obtain ⟨i, hi, -⟩ := h; omega
  | p + 1, h => by
    unfold plN
    split
    · assumption
    · rename_i hne
      obtain ⟨i, hi, e⟩ := h
      exact plN_is ⟨i, by rcases Nat.lt_or_ge i p with h | h; exact h; exact absurd (by rw [← e]; congr 1; omega) hne, e⟩
theorem sumN_le {f : Nat → Nat} {c : Nat} : ∀ {n}, (∀ k, k < n → f k ≤ c) → sumN f n ≤ n * c
  | 0, _ => by unfold sumN; omega
  | n + 1, h => by
    have h1 := sumN_le (n := n) (fun k hk => h k (by omega))
    have h2 := h n (by omega)
    unfold sumN
    rw [Nat.succ_mul]
    omega
/-- the company, as the class has it -/
def CCo (I : IntM) (n : Nat) (kd nd od : Nat → Nat) : Prop := I 8 3 = nI n ∧ AtI I 10 n kd ∧ AtI I 12 n nd ∧ AtI I 14 n od ∧ CSz I
/-- what a company keeps to -/
def CoOK (n : Nat) (kd nd od : Nat → Nat) : Prop := n ≤ 7 ∧ (∀ k, k < n → kd k ≤ 5) ∧ (∀ k, k < n → nd k ≤ 99) ∧ (∀ i, i < n → od i < n) ∧ ∀ i j, i < n → j < n → od i = od j → i = j

theorem or_z (a : Nat) : nI a ||| 0 = nI a := by
  rw [show (0 : Int32) = nI 0 from rfl, or_nI, Nat.or_zero]
def hasC (n : Nat) (i : Int32) : Int32 := if i < 0 then 0 else if nI n ≤ i then 0 else 1
set_option maxRecDepth 100000 in
set_option maxHeartbeats 4000000 in
theorem c_C_has (I : IntM) (J : LngM) {n : Nat} (hsz : I 8 3 = nI n) (i : Int32) : CtV 1 m_X0_has [.ref 8, .int i] I J (.int (hasC n i)) I J := by
  refine CtV_of (by decide) rfl (Nat.le_of_ble_eq_true rfl) ?_
  refine V_il i_X0_has_0 rfl ?_
  refine V_if_lt i_X0_has_1 (fun c1 => ?_) (fun c1 => ?_)
  · refine V_c i_X0_has_16 ?_
    exact P_zret i_X0_has_17 rfl (by decide) ⟨by simp [hasC, *], rfl, rfl⟩
  · refine V_il i_X0_has_4 rfl ?_
    refine V_al i_X0_has_5 rfl ?_
    refine V_getI i_X0_has_6 rfl ?_
    rw [hsz]
    refine V_ic_ge i_X0_has_9 (fun c9 => ?_) (fun c9 => ?_)
    · refine V_c i_X0_has_16 ?_
      exact P_zret i_X0_has_17 rfl (by decide) ⟨by simp [hasC, *], rfl, rfl⟩
    · refine V_c i_X0_has_12 ?_
      refine V_goto i_X0_has_13 ?_
      exact P_zret i_X0_has_17 rfl (by decide) ⟨by simp [hasC, *], rfl, rfl⟩
theorem hasC_yes {n : Nat} {i : Int32} (hn : n ≤ 7) (h : ¬ hasC n i = 0) : ∃ k, k < n ∧ i = nI k := by
  unfold hasC at h
  by_cases h1 : i < 0
  · simp [h1] at h
  · rw [if_neg h1] at h
    by_cases h2 : nI n ≤ i
    · simp [h2] at h
    · rcases pk_ix i (n := n) (by omega) with h3 | h3 | h3
      · exact absurd h3 h1
      · exact absurd h3 h2
      · exact h3
theorem hasC_nI {n k : Nat} (hn : n ≤ 7) (hk : k < n) : hasC n (nI k) = 1 := by
  unfold hasC
  rw [if_neg (nI_pos (by omega)), if_neg (nI_ge hk (by omega))]
set_option maxRecDepth 100000 in
set_option maxHeartbeats 4000000 in
theorem c_C_isOf (I : IntM) (J : LngM) {n : Nat} {kd nd od : Nat → Nat} (hO : CoOK n kd nd od) (hC : CCo I n kd nd od) {k kind : Nat} (hk : k < n) (hki : kind ≤ 5) : CtV 3 m_X0_isOf [.ref 8, .int (nI k), .int (nI kind)] I J (.int (if isK kd kind k = true then 1 else 0)) I J := by
  refine CtV_of (by decide) rfl (Nat.le_of_ble_eq_true rfl) ?_
  obtain ⟨hn, hkd, hnd, hol, hoi⟩ := id hO
  obtain ⟨hsz, h10, h12, h14, z9, z11, z13⟩ := id hC
  refine V_al i_X0_isOf_0 rfl ?_
  refine V_getR i_X0_isOf_1 rfl rfl ?_
  refine V_il i_X0_isOf_4 rfl ?_
  refine P_callV1v i_X0_isOf_5 mi_X3_get rfl ⟨_, _, rfl⟩ (by decide) (Nat.le_of_ble_eq_true rfl) (c_I_getN (x := 9) (n := 7) (s := 7) (k := k) _ _ ⟨rfl, rfl, rfl, by decide⟩ z9 rfl (by omega) (by decide)) ?_
  rw [show (9 : Nat) + 1 = 10 from rfl, h10 k hk]
  refine V_is (L' := [(2, _), (3, _)]) i_X0_isOf_8 (by decide) ⟨rfl, rfl, trivial⟩ ?_
  refine V_il i_X0_isOf_9 rfl ?_
  refine V_il i_X0_isOf_10 rfl ?_
  refine V_ic_eq i_X0_isOf_11 (fun c11 => ?_) (fun c11 => ?_)
  · rw [nI_eq (by have := hkd k hk; omega) (by omega)] at c11
    refine V_c i_X0_isOf_24 ?_
    refine V_goto i_X0_isOf_25 ?_
    exact P_zret i_X0_isOf_29 rfl (by decide) ⟨by simp only [isK, decide_eq_true_eq]; first | rw [if_pos (by omega)] | rw [if_neg (by omega)], rfl, rfl⟩
  · rw [nI_eq (by have := hkd k hk; omega) (by omega)] at c11
    refine V_il i_X0_isOf_14 rfl ?_
    refine V_c i_X0_isOf_15 ?_
    refine V_ic_ne i_X0_isOf_16 (fun c16 => ?_) (fun c16 => ?_)
    · rw [show (1 : Int32) = nI 1 from rfl, nI_eq (by omega) (by decide)] at c16
      refine V_c i_X0_isOf_28 ?_
      exact P_zret i_X0_isOf_29 rfl (by decide) ⟨by simp only [isK, decide_eq_true_eq]; first | rw [if_pos (by omega)] | rw [if_neg (by omega)], rfl, rfl⟩
    · rw [show (1 : Int32) = nI 1 from rfl, nI_eq (by omega) (by decide)] at c16
      refine V_il i_X0_isOf_19 rfl ?_
      refine V_c i_X0_isOf_20 ?_
      refine V_ic_ne i_X0_isOf_21 (fun c21 => ?_) (fun c21 => ?_)
      · rw [show (5 : Int32) = nI 5 from rfl, nI_eq (by have := hkd k hk; omega) (by decide)] at c21
        refine V_c i_X0_isOf_28 ?_
        exact P_zret i_X0_isOf_29 rfl (by decide) ⟨by simp only [isK, decide_eq_true_eq]; first | rw [if_pos (by omega)] | rw [if_neg (by omega)], rfl, rfl⟩
      · rw [show (5 : Int32) = nI 5 from rfl, nI_eq (by have := hkd k hk; omega) (by decide)] at c21
        refine V_c i_X0_isOf_24 ?_
        refine V_goto i_X0_isOf_25 ?_
        exact P_zret i_X0_isOf_29 rfl (by decide) ⟨by simp only [isK, decide_eq_true_eq]; first | rw [if_pos (by omega)] | rw [if_neg (by omega)], rfl, rfl⟩
set_option maxRecDepth 100000 in
set_option maxHeartbeats 4000000 in
theorem lp_C_setOf (I : IntM) (J : LngM) {n : Nat} {kd nd od : Nat → Nat} (hO : CoOK n kd nd od) (hC : CCo I n kd nd od) {kind : Nat} (hki : kind ≤ 5) (Q : Option Value → IntM → LngM → Prop) (hq : Q (some (.int (nI (setN (isK kd kind) n)))) I J) : VP m_X0_setOf 4 4 [(0, .ref 8), (1, .int (nI kind)), (2, .int 0), (3, .int 0)] [] I J Q := by
  obtain ⟨hn, hkd, hnd, hol, hoi⟩ := id hO
  obtain ⟨hsz, h10, h12, h14, z9, z11, z13⟩ := id hC
  have key : ∀ i, i ≤ n → VP m_X0_setOf 4 4 [(0, .ref 8), (1, .int (nI kind)), (2, .int (nI (setN (isK kd kind) i))), (3, .int (nI i))] [] I J Q := by
    refine down n ?_ (fun i hi ih => ?_)
    · refine V_il i_X0_setOf_4 rfl ?_
      refine V_al i_X0_setOf_5 rfl ?_
      refine V_getI i_X0_setOf_6 rfl ?_
      refine V_ic_ge_t i_X0_setOf_9 (by rw [hsz]; exact Int32.le_refl _) ?_
      refine V_il i_X0_setOf_37 rfl ?_
      exact P_iret i_X0_setOf_38 rfl hq
    · refine V_il i_X0_setOf_4 rfl ?_
      refine V_al i_X0_setOf_5 rfl ?_
      refine V_getI i_X0_setOf_6 rfl ?_
      refine V_ic_ge_f i_X0_setOf_9 (by rw [hsz]; exact nI_ge hi (by omega)) ?_
      refine V_il i_X0_setOf_12 rfl ?_
      refine V_al i_X0_setOf_13 rfl ?_
      refine V_il i_X0_setOf_14 rfl ?_
      refine V_il i_X0_setOf_15 rfl ?_
      refine P_callV2v i_X0_setOf_16 mi_X0_isOf rfl ⟨_, _, rfl⟩ (by decide) (Nat.le_of_ble_eq_true rfl) (c_C_isOf _ _ hO hC hi hki) ?_
      refine V_if_eq i_X0_setOf_19 (fun c19 => ?_) (fun c19 => ?_)
      · have c19 : ¬ isK kd kind i = true := fun q => by rw [if_pos q] at c19; exact absurd c19 (by decide)
        refine V_c i_X0_setOf_28 ?_
        refine V_ior i_X0_setOf_29 ?_
        rw [or_z]
        refine V_is (L' := [(0, _), (1, _), (2, _), (3, _)]) i_X0_setOf_30 (by decide) ⟨rfl, rfl, rfl, rfl, trivial⟩ ?_
        refine V_iinc (L' := [(0, _), (1, _), (2, _), (3, _)]) (n' := 1) i_X0_setOf_31 (by decide) rfl (by decide) ⟨rfl, rfl, rfl, rfl, trivial⟩ ?_
        refine V_goto i_X0_setOf_34 ?_
        refine V_L (L' := [(0, _), (1, _), (2, _), (3, _)]) ⟨rfl, rfl, rfl, rfl, trivial⟩ ?_
        rw [show nI i + 1 = nI (i + 1) from nI_1 i]
        rw [show setN (isK kd kind) (i + 1) = setN (isK kd kind) i from if_neg c19] at ih
        exact ih
      · have c19 : isK kd kind i = true := by
          by_cases q : isK kd kind i = true
          · exact q
          · rw [if_neg q] at c19; exact absurd rfl c19
        refine V_c i_X0_setOf_22 ?_
        refine V_il i_X0_setOf_23 rfl ?_
        refine V_ishl i_X0_setOf_24 ?_
        refine V_goto i_X0_setOf_25 ?_
        refine V_ior i_X0_setOf_29 ?_
        rw [shl1 (by omega), or_nI]
        refine V_is (L' := [(0, _), (1, _), (2, _), (3, _)]) i_X0_setOf_30 (by decide) ⟨rfl, rfl, rfl, rfl, trivial⟩ ?_
        refine V_iinc (L' := [(0, _), (1, _), (2, _), (3, _)]) (n' := 1) i_X0_setOf_31 (by decide) rfl (by decide) ⟨rfl, rfl, rfl, rfl, trivial⟩ ?_
        refine V_goto i_X0_setOf_34 ?_
        refine V_L (L' := [(0, _), (1, _), (2, _), (3, _)]) ⟨rfl, rfl, rfl, rfl, trivial⟩ ?_
        rw [show nI i + 1 = nI (i + 1) from nI_1 i]
        rw [show setN (isK kd kind) (i + 1) = setN (isK kd kind) i ||| 2 ^ i from if_pos c19] at ih
        exact ih
  exact key 0 (Nat.zero_le _)
set_option maxRecDepth 100000 in
set_option maxHeartbeats 4000000 in
theorem c_C_setOf (I : IntM) (J : LngM) {n : Nat} {kd nd od : Nat → Nat} (hO : CoOK n kd nd od) (hC : CCo I n kd nd od) {kind : Nat} (hki : kind ≤ 5) : CtV 4 m_X0_setOf [.ref 8, .int (nI kind)] I J (.int (nI (setN (isK kd kind) n))) I J := by
  refine CtV_of (by decide) rfl (Nat.le_of_ble_eq_true rfl) ?_
  refine V_c i_X0_setOf_0 ?_
  refine V_is (L' := [(0, _), (1, _), (2, _)]) i_X0_setOf_1 (by decide) ⟨rfl, rfl, rfl, trivial⟩ ?_
  refine V_c i_X0_setOf_2 ?_
  refine V_is (L' := [(0, _), (1, _), (2, _), (3, _)]) i_X0_setOf_3 (by decide) ⟨rfl, rfl, rfl, rfl, trivial⟩ ?_
  refine V_L (L' := [(0, _), (1, _), (2, _), (3, _)]) ⟨rfl, rfl, rfl, rfl, trivial⟩ ?_
  exact lp_C_setOf I J hO hC hki _ ⟨rfl, rfl, rfl⟩
set_option maxRecDepth 100000 in
set_option maxHeartbeats 4000000 in
theorem c_C_countOf (I : IntM) (J : LngM) {n : Nat} {kd nd od : Nat → Nat} (hO : CoOK n kd nd od) (hC : CCo I n kd nd od) {kind : Nat} (hki : kind ≤ 5) : CtV 5 m_X0_countOf [.ref 8, .int (nI kind)] I J (.int (nI (cntN (isK kd kind) n))) I J := by
  refine CtV_of (by decide) rfl (Nat.le_of_ble_eq_true rfl) ?_
  refine V_al i_X0_countOf_0 rfl ?_
  refine V_il i_X0_countOf_1 rfl ?_
  refine P_callV1v i_X0_countOf_2 mi_X0_setOf rfl ⟨_, _, rfl⟩ (by decide) (Nat.le_of_ble_eq_true rfl) (c_C_setOf _ _ hO hC hki) ?_
  refine P_callS1v i_X0_countOf_5 ms_J6_bitCount_0f7a4 (by decide) (Nat.le_of_ble_eq_true rfl) (c_bitCount _ _ _) ?_
  exact P_iret i_X0_countOf_8 rfl ⟨by rw [bc_set hO.1], rfl, rfl⟩
set_option maxRecDepth 100000 in
set_option maxHeartbeats 4000000 in
theorem lp_C_all (I : IntM) (J : LngM) {n : Nat} {kd nd od : Nat → Nat} (hO : CoOK n kd nd od) (hC : CCo I n kd nd od)  (Q : Option Value → IntM → LngM → Prop) (hq : Q (some (.int (nI (sumN nd n)))) I J) : VP m_X0_allNeeds 3 4 [(0, .ref 8), (1, .int 0), (2, .int 0)] [] I J Q := by
  obtain ⟨hn, hkd, hnd, hol, hoi⟩ := id hO
  obtain ⟨hsz, h10, h12, h14, z9, z11, z13⟩ := id hC
  have key : ∀ i, i ≤ n → VP m_X0_allNeeds 3 4 [(0, .ref 8), (1, .int (nI (sumN nd i))), (2, .int (nI i))] [] I J Q := by
    refine down n ?_ (fun i hi ih => ?_)
    · refine V_il i_X0_allNeeds_4 rfl ?_
      refine V_al i_X0_allNeeds_5 rfl ?_
      refine V_getI i_X0_allNeeds_6 rfl ?_
      refine V_ic_ge_t i_X0_allNeeds_9 (by rw [hsz]; exact Int32.le_refl _) ?_
      refine V_il i_X0_allNeeds_29 rfl ?_
      exact P_iret i_X0_allNeeds_30 rfl hq
    · refine V_il i_X0_allNeeds_4 rfl ?_
      refine V_al i_X0_allNeeds_5 rfl ?_
      refine V_getI i_X0_allNeeds_6 rfl ?_
      refine V_ic_ge_f i_X0_allNeeds_9 (by rw [hsz]; exact nI_ge hi (by omega)) ?_
      refine V_il i_X0_allNeeds_12 rfl ?_
      refine V_al i_X0_allNeeds_13 rfl ?_
      refine V_getR i_X0_allNeeds_14 rfl rfl ?_
      refine V_il i_X0_allNeeds_17 rfl ?_
      refine P_callV1v i_X0_allNeeds_18 mi_X3_get rfl ⟨_, _, rfl⟩ (by decide) (Nat.le_of_ble_eq_true rfl) (c_I_getN (x := 11) (n := 7) (s := 7) (k := i) _ _ ⟨rfl, rfl, rfl, by decide⟩ z11 rfl (by omega) (by decide)) ?_
      rw [show (11 : Nat) + 1 = 12 from rfl, h12 i hi]
      refine V_iadd i_X0_allNeeds_21 ?_
      rw [nI_add]
      refine V_is (L' := [(0, _), (1, _), (2, _)]) i_X0_allNeeds_22 (by decide) ⟨rfl, rfl, rfl, trivial⟩ ?_
      refine V_iinc (L' := [(0, _), (1, _), (2, _)]) (n' := 1) i_X0_allNeeds_23 (by decide) rfl (by decide) ⟨rfl, rfl, rfl, trivial⟩ ?_
      refine V_goto i_X0_allNeeds_26 ?_
      refine V_L (L' := [(0, _), (1, _), (2, _)]) ⟨rfl, rfl, rfl, trivial⟩ ?_
      rw [show nI i + 1 = nI (i + 1) from nI_1 i]
      exact ih
  exact key 0 (Nat.zero_le _)
set_option maxRecDepth 100000 in
set_option maxHeartbeats 4000000 in
theorem c_C_all (I : IntM) (J : LngM) {n : Nat} {kd nd od : Nat → Nat} (hO : CoOK n kd nd od) (hC : CCo I n kd nd od) : CtV 3 m_X0_allNeeds [.ref 8] I J (.int (nI (sumN nd n))) I J := by
  refine CtV_of (by decide) rfl (Nat.le_of_ble_eq_true rfl) ?_
  refine V_c i_X0_allNeeds_0 ?_
  refine V_is (L' := [(0, _), (1, _)]) i_X0_allNeeds_1 (by decide) ⟨rfl, rfl, trivial⟩ ?_
  refine V_c i_X0_allNeeds_2 ?_
  refine V_is (L' := [(0, _), (1, _), (2, _)]) i_X0_allNeeds_3 (by decide) ⟨rfl, rfl, rfl, trivial⟩ ?_
  refine V_L (L' := [(0, _), (1, _), (2, _)]) ⟨rfl, rfl, rfl, trivial⟩ ?_
  exact lp_C_all I J hO hC _ ⟨rfl, rfl, rfl⟩
set_option maxRecDepth 100000 in
set_option maxHeartbeats 4000000 in
theorem lp_C_place (I : IntM) (J : LngM) {n : Nat} {kd nd od : Nat → Nat} (hO : CoOK n kd nd od) (hC : CCo I n kd nd od) {k : Nat} (hk : k < n) (Q : Option Value → IntM → LngM → Prop) (hq : Q (some (.int (nI (plN od k n)))) I J) : VP m_X0_placeOf 3 4 [(0, .ref 8), (1, .int (nI k)), (2, .int 0), (3, .int 0)] [] I J Q := by
  obtain ⟨hn, hkd, hnd, hol, hoi⟩ := id hO
  obtain ⟨hsz, h10, h12, h14, z9, z11, z13⟩ := id hC
  have key : ∀ i, i ≤ n → VP m_X0_placeOf 3 4 [(0, .ref 8), (1, .int (nI k)), (2, .int (nI (plN od k i))), (3, .int (nI i))] [] I J Q := by
    refine down n ?_ (fun i hi ih => ?_)
    · refine V_il i_X0_placeOf_4 rfl ?_
      refine V_al i_X0_placeOf_5 rfl ?_
      refine V_getI i_X0_placeOf_6 rfl ?_
      refine V_ic_ge_t i_X0_placeOf_9 (by rw [hsz]; exact Int32.le_refl _) ?_
      refine V_il i_X0_placeOf_32 rfl ?_
      exact P_iret i_X0_placeOf_33 rfl hq
    · refine V_il i_X0_placeOf_4 rfl ?_
      refine V_al i_X0_placeOf_5 rfl ?_
      refine V_getI i_X0_placeOf_6 rfl ?_
      refine V_ic_ge_f i_X0_placeOf_9 (by rw [hsz]; exact nI_ge hi (by omega)) ?_
      refine V_al i_X0_placeOf_12 rfl ?_
      refine V_getR i_X0_placeOf_13 rfl rfl ?_
      refine V_il i_X0_placeOf_16 rfl ?_
      refine P_callV1v i_X0_placeOf_17 mi_X3_get rfl ⟨_, _, rfl⟩ (by decide) (Nat.le_of_ble_eq_true rfl) (c_I_getN (x := 13) (n := 7) (s := 7) (k := i) _ _ ⟨rfl, rfl, rfl, by decide⟩ z13 rfl (by omega) (by decide)) ?_
      rw [show (13 : Nat) + 1 = 14 from rfl, h14 i hi]
      refine V_il i_X0_placeOf_20 rfl ?_
      refine V_ic_ne i_X0_placeOf_21 (fun c21 => ?_) (fun c21 => ?_)
      · rw [nI_eq (by have := hol i hi; omega) (by omega)] at c21
        refine V_iinc (L' := [(0, _), (1, _), (2, _), (3, _)]) (n' := 1) i_X0_placeOf_26 (by decide) rfl (by decide) ⟨rfl, rfl, rfl, rfl, trivial⟩ ?_
        refine V_goto i_X0_placeOf_29 ?_
        refine V_L (L' := [(0, _), (1, _), (2, _), (3, _)]) ⟨rfl, rfl, rfl, rfl, trivial⟩ ?_
        rw [show nI i + 1 = nI (i + 1) from nI_1 i]
        rw [show plN od k (i + 1) = plN od k i from if_neg c21] at ih
        exact ih
      · rw [nI_eq (by have := hol i hi; omega) (by omega)] at c21
        refine V_il i_X0_placeOf_24 rfl ?_
        refine V_is (L' := [(0, _), (1, _), (2, _), (3, _)]) i_X0_placeOf_25 (by decide) ⟨rfl, rfl, rfl, rfl, trivial⟩ ?_
        refine V_iinc (L' := [(0, _), (1, _), (2, _), (3, _)]) (n' := 1) i_X0_placeOf_26 (by decide) rfl (by decide) ⟨rfl, rfl, rfl, rfl, trivial⟩ ?_
        refine V_goto i_X0_placeOf_29 ?_
        refine V_L (L' := [(0, _), (1, _), (2, _), (3, _)]) ⟨rfl, rfl, rfl, rfl, trivial⟩ ?_
        rw [show nI i + 1 = nI (i + 1) from nI_1 i]
        rw [show plN od k (i + 1) = i from if_pos c21] at ih
        exact ih
  exact key 0 (Nat.zero_le _)
set_option maxRecDepth 100000 in
set_option maxHeartbeats 4000000 in
theorem c_C_place (I : IntM) (J : LngM) {n : Nat} {kd nd od : Nat → Nat} (hO : CoOK n kd nd od) (hC : CCo I n kd nd od) {k : Nat} (hk : k < n) : CtV 3 m_X0_placeOf [.ref 8, .int (nI k)] I J (.int (nI (plN od k n))) I J := by
  refine CtV_of (by decide) rfl (Nat.le_of_ble_eq_true rfl) ?_
  refine V_c i_X0_placeOf_0 ?_
  refine V_is (L' := [(0, _), (1, _), (2, _)]) i_X0_placeOf_1 (by decide) ⟨rfl, rfl, rfl, trivial⟩ ?_
  refine V_c i_X0_placeOf_2 ?_
  refine V_is (L' := [(0, _), (1, _), (2, _), (3, _)]) i_X0_placeOf_3 (by decide) ⟨rfl, rfl, rfl, rfl, trivial⟩ ?_
  refine V_L (L' := [(0, _), (1, _), (2, _), (3, _)]) ⟨rfl, rfl, rfl, rfl, trivial⟩ ?_
  exact lp_C_place I J hO hC hk _ ⟨rfl, rfl, rfl⟩
def abN (kd nd od : Nat → Nat) (n k what : Nat) : Nat := if what = 0 then kd k else if what = 1 then nd k else plN od k n
set_option maxRecDepth 100000 in
set_option maxHeartbeats 4000000 in
theorem c_C_about0 (I : IntM) (J : LngM) {n : Nat} {kd nd od : Nat → Nat} (hO : CoOK n kd nd od) (hC : CCo I n kd nd od) {k : Nat} (hk : k < n) : CtV 4 m_X0_about [.ref 8, .int (nI k), .int (nI 0)] I J (.int (nI (abN kd nd od n k 0))) I J := by
  refine CtV_of (by decide) rfl (Nat.le_of_ble_eq_true rfl) ?_
  obtain ⟨hn, hkd, hnd, hol, hoi⟩ := id hO
  obtain ⟨hsz, h10, h12, h14, z9, z11, z13⟩ := id hC
  refine V_il i_X0_about_0 rfl ?_
  refine V_if_ne_f i_X0_about_1 rfl ?_
  refine V_al i_X0_about_4 rfl ?_
  refine V_getR i_X0_about_5 rfl rfl ?_
  refine V_il i_X0_about_8 rfl ?_
  refine P_callV1v i_X0_about_9 mi_X3_get rfl ⟨_, _, rfl⟩ (by decide) (Nat.le_of_ble_eq_true rfl) (c_I_getN (x := 9) (n := 7) (s := 7) (k := k) _ _ ⟨rfl, rfl, rfl, by decide⟩ z9 rfl (by omega) (by decide)) ?_
  rw [show (9 : Nat) + 1 = 10 from rfl, h10 k hk]
  exact P_iret i_X0_about_12 rfl ⟨rfl, rfl, rfl⟩
set_option maxRecDepth 100000 in
set_option maxHeartbeats 4000000 in
theorem c_C_about1 (I : IntM) (J : LngM) {n : Nat} {kd nd od : Nat → Nat} (hO : CoOK n kd nd od) (hC : CCo I n kd nd od) {k : Nat} (hk : k < n) : CtV 4 m_X0_about [.ref 8, .int (nI k), .int (nI 1)] I J (.int (nI (abN kd nd od n k 1))) I J := by
  refine CtV_of (by decide) rfl (Nat.le_of_ble_eq_true rfl) ?_
  obtain ⟨hn, hkd, hnd, hol, hoi⟩ := id hO
  obtain ⟨hsz, h10, h12, h14, z9, z11, z13⟩ := id hC
  refine V_il i_X0_about_0 rfl ?_
  refine V_if_ne_t i_X0_about_1 (by decide) ?_
  refine V_il i_X0_about_13 rfl ?_
  refine V_c i_X0_about_14 ?_
  refine V_ic_ne_f i_X0_about_15 rfl ?_
  refine V_al i_X0_about_18 rfl ?_
  refine V_getR i_X0_about_19 rfl rfl ?_
  refine V_il i_X0_about_22 rfl ?_
  refine P_callV1v i_X0_about_23 mi_X3_get rfl ⟨_, _, rfl⟩ (by decide) (Nat.le_of_ble_eq_true rfl) (c_I_getN (x := 11) (n := 7) (s := 7) (k := k) _ _ ⟨rfl, rfl, rfl, by decide⟩ z11 rfl (by omega) (by decide)) ?_
  rw [show (11 : Nat) + 1 = 12 from rfl, h12 k hk]
  refine V_goto i_X0_about_26 ?_
  exact P_iret i_X0_about_34 rfl ⟨rfl, rfl, rfl⟩
set_option maxRecDepth 100000 in
set_option maxHeartbeats 4000000 in
theorem c_C_about2 (I : IntM) (J : LngM) {n : Nat} {kd nd od : Nat → Nat} (hO : CoOK n kd nd od) (hC : CCo I n kd nd od) {k : Nat} (hk : k < n) : CtV 4 m_X0_about [.ref 8, .int (nI k), .int (nI 2)] I J (.int (nI (abN kd nd od n k 2))) I J := by
  refine CtV_of (by decide) rfl (Nat.le_of_ble_eq_true rfl) ?_
  obtain ⟨hn, hkd, hnd, hol, hoi⟩ := id hO
  obtain ⟨hsz, h10, h12, h14, z9, z11, z13⟩ := id hC
  refine V_il i_X0_about_0 rfl ?_
  refine V_if_ne_t i_X0_about_1 (by decide) ?_
  refine V_il i_X0_about_13 rfl ?_
  refine V_c i_X0_about_14 ?_
  refine V_ic_ne_t i_X0_about_15 (by decide) ?_
  refine V_al i_X0_about_29 rfl ?_
  refine V_il i_X0_about_30 rfl ?_
  refine P_callV1v i_X0_about_31 mi_X0_placeOf rfl ⟨_, _, rfl⟩ (by decide) (Nat.le_of_ble_eq_true rfl) (c_C_place _ _ hO hC hk) ?_
  exact P_iret i_X0_about_34 rfl ⟨rfl, rfl, rfl⟩
theorem c_C_about (I : IntM) (J : LngM) {n : Nat} {kd nd od : Nat → Nat} (hO : CoOK n kd nd od) (hC : CCo I n kd nd od) {k what : Nat} (hk : k < n) (hw : what ≤ 2) : CtV 4 m_X0_about [.ref 8, .int (nI k), .int (nI what)] I J (.int (nI (abN kd nd od n k what))) I J := by
  obtain rfl | rfl | rfl : what = 0 ∨ what = 1 ∨ what = 2 := by omega
  · exact c_C_about0 I J hO hC hk
  · exact c_C_about1 I J hO hC hk
  · exact c_C_about2 I J hO hC hk

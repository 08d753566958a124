
/-! ===== rows and texts ===== -/
theorem LI_row {r : Nat} (hr : r < 6) : LI (111 + 2 * r) 60 := by
  obtain rfl | rfl | rfl | rfl | rfl | rfl : r = 0 ∨ r = 1 ∨ r = 2 ∨ r = 3 ∨ r = 4 ∨ r = 5 := by omega
  all_goals exact ⟨rfl, rfl, rfl, by decide⟩
theorem LI_text {r : Nat} (hr : r < 4) : LI (123 + 2 * r) 60 := by
  obtain rfl | rfl | rfl | rfl : r = 0 ∨ r = 1 ∨ r = 2 ∨ r = 3 := by omega
  all_goals exact ⟨rfl, rfl, rfl, by decide⟩
theorem RF_row {r : Nat} (hr : r < 6) : RF 1 r = some (111 + 2 * r) := by
  obtain rfl | rfl | rfl | rfl | rfl | rfl : r = 0 ∨ r = 1 ∨ r = 2 ∨ r = 3 ∨ r = 4 ∨ r = 5 := by omega
  all_goals rfl
theorem RF_text {r : Nat} (hr : r < 4) : RF 2 r = some (123 + 2 * r) := by
  obtain rfl | rfl | rfl | rfl : r = 0 ∨ r = 1 ∨ r = 2 ∨ r = 3 := by omega
  all_goals rfl
theorem hasN_yes {n : Nat} {i : Int32} (hn : n ≤ 1000) (h : ¬ hasC n i = 0) : ∃ k, k < n ∧ i = nI k := by
  unfold hasC at h
  by_cases h0 : i < 0
  · rw [if_pos h0] at h; exact absurd rfl h
  · rw [if_neg h0] at h
    by_cases h1 : nI n ≤ i
    · rw [if_pos h1] at h; exact absurd rfl h
    · have a0 : ¬ i.toInt < 0 := fun q => h0 (Int32.lt_iff_toInt_lt.mpr q)
      have a1 : ¬ (n : Int) ≤ i.toInt := fun q => h1 (Int32.le_iff_toInt_le.mpr (by rw [nI_toInt (by omega)]; exact q))
      refine ⟨i.toInt.toNat, by omega, ?_⟩
      apply Int32.toInt_inj.mp
      rw [nI_toInt (by omega)]
      omega
theorem hasN_nI {n k : Nat} (hn : n ≤ 1000) (hk : k < n) : hasC n (nI k) = 1 := by
  unfold hasC
  rw [if_neg (nI_pos (by omega)), if_neg (nI_ge hk (by omega))]
theorem predN {x : Int32} {n : Nat} (hn : n ≤ 1000) : (nI n - 1 < x) ↔ nI n ≤ x := by
  rw [Int32.lt_iff_toInt_lt, Int32.le_iff_toInt_le, nI_toInt (by omega)]
  have : (nI n - 1).toInt = (n : Int) - 1 := by
    cases n with
    | zero => rfl
    | succ m =>
      rw [nI_pred, nI_toInt (by omega)]
      omega
  omega
theorem inC {n : Nat} (hn : n ≤ 1000) (i : Int32) : inL i.toInt64 0 (nI n - 1).toInt64 = hasC n i := by
  unfold inL hasC
  rw [show ((0 : Int64)) = 0 from rfl]
  simp only [i2l_in, i2l_lt, predN hn]
theorem in_lit {m : Nat} (hm : m < 1000) (i : Int32) : inL i.toInt64 0 (lN m) = hasC (m + 1) i := by
  rw [← inC (by omega), nI_pred, nI_long (by omega)]
theorem hasv_C {I : IntM} {x s : Nat} (h : I x 1 = nI s) (hs : s ≤ 60) (i : Int32) : hasv I x 60 i = hasC s i := by
  unfold hasv hasC
  rw [h]
  by_cases h0 : i < 0
  · rw [if_pos h0, if_pos h0]
  · rw [if_neg h0, if_neg h0]
    by_cases h1 : nI s ≤ i
    · rw [if_pos h1, if_pos h1]
    · rw [if_neg h1, if_neg h1, if_neg]
      intro q
      have a1 : ¬ (s : Int) ≤ i.toInt := fun q2 => h1 (Int32.le_iff_toInt_le.mpr (by rw [nI_toInt (by omega)]; exact q2))
      have a2 := Int32.le_iff_toInt_le.mp q
      rw [nI_toInt (by decide)] at a2
      omega
def lacP (z i : Int32) : Int32 := if z < 0 then 1 else if inL i.toInt64 0 (z - 1).toInt64 = 0 then 2 else 0
theorem ro_cases {I : IntM} {a b c N r : Nat} (h : RoI I a b c N) (hr : r < N) (i : Int32) : (∃ f, (f = 1 ∨ f = 2) ∧ misP I (a + 2 * r) i = nI f ∧ lacP (I b r) i = nI f) ∨ ∃ s k, s ≤ 60 ∧ k < s ∧ i = nI k ∧ misP I (a + 2 * r) i = 0 ∧ lacP (I b r) i = 0 ∧ I (a + 2 * r) 1 = nI s ∧ I b r = nI s ∧ I (a + 2 * r + 1) k = I c (60 * r + k) := by
  obtain ⟨h1, h2⟩ := h r hr
  rcases h2 with h2 | ⟨s, hs, h3, h4⟩
  · refine Or.inl ⟨1, Or.inl rfl, ?_, ?_⟩
    · unfold misP
      rw [h1, h2]
      rfl
    · unfold lacP
      rw [h2]
      rfl
  · have e1 : I (a + 2 * r) 1 = nI s := h1.trans h3
    have e2 : ¬ nI s < 0 := nI_pos (by omega)
    by_cases hx : hasC s i = 0
    · refine Or.inl ⟨2, Or.inr rfl, ?_, ?_⟩
      · unfold misP
        rw [e1, if_neg e2, hasv_C e1 hs, if_pos hx]
        rfl
      · unfold lacP
        rw [h3, if_neg e2, inC (by omega), if_pos hx]
        rfl
    · obtain ⟨k, hk, rfl⟩ := hasN_yes (by omega) hx
      refine Or.inr ⟨s, k, hs, hk, rfl, ?_, ?_, e1, h3, h4 k hk⟩
      · unfold misP
        rw [e1, if_neg e2, hasv_C e1 hs, if_neg hx]
      · unfold lacP
        rw [h3, if_neg e2, inC (by omega), if_neg hx]
/-- a row that is missing, or its size -/
theorem ro_size {I : IntM} {a b c N r : Nat} (h : RoI I a b c N) (hr : r < N) : (I (a + 2 * r) 1 = -1 ∧ I b r = -1) ∨ ∃ s, s ≤ 60 ∧ I (a + 2 * r) 1 = nI s ∧ I b r = nI s ∧ ∀ i, i < s → I (a + 2 * r + 1) i = I c (60 * r + i) := by
  obtain ⟨h1, h2⟩ := h r hr
  rcases h2 with h2 | ⟨s, hs, h3, h4⟩
  · exact Or.inl ⟨h1.trans h2, h2⟩
  · exact Or.inr ⟨s, hs, h1.trans h3, h3, h4⟩
theorem RoI.up {I I2 : IntM} {a b c N r : Nat} (h : RoI I a b c N) (hx : ∀ q, q < N → q ≠ r → I2 (a + 2 * q) 1 = I (a + 2 * q) 1 ∧ I2 b q = I b q ∧ ∀ i, i < 60 → I2 (a + 2 * q + 1) i = I (a + 2 * q + 1) i ∧ I2 c (60 * q + i) = I c (60 * q + i)) (hn : I2 (a + 2 * r) 1 = I2 b r ∧ (I2 b r = -1 ∨ ∃ s, s ≤ 60 ∧ I2 b r = nI s ∧ ∀ i, i < s → I2 (a + 2 * r + 1) i = I2 c (60 * r + i))) : RoI I2 a b c N := by
  intro q hq
  by_cases e : q = r
  · subst e
    exact hn
  · obtain ⟨x1, x2, x3⟩ := hx q hq e
    obtain ⟨h1, h2⟩ := h q hq
    refine ⟨by rw [x1, x2]; exact h1, ?_⟩
    rcases h2 with h2 | ⟨s, hs, h3, h4⟩
    · exact Or.inl (by rw [x2]; exact h2)
    · exact Or.inr ⟨s, hs, by rw [x2]; exact h3, fun i hi => by rw [(x3 i (by omega)).1, (x3 i (by omega)).2]; exact h4 i hi⟩
/-- rows, texts and what is told have changed, nothing else -/
theorem Inv.rt {I I2 : IntM} {J : LngM} (h : Inv I J) (hI : ∀ x k, ¬ (x = 0 ∧ k = 13) → ¬ (111 ≤ x ∧ x ≤ 130) → ¬ (x = 146 ∧ k = 2) → ¬ (148 ≤ x ∧ x ≤ 151) → I2 x k = I x k) (hR : RoI I2 111 148 149 6) (hT : RoI I2 123 150 151 4) (ht : I2 0 13 = I2 146 2) : Inv I2 J := by
  obtain ⟨⟨n, kd, nd, od, lw, pot, h1, h2, h3, h4, h5, h6, h7, h8, h9⟩, hTo, hZ⟩ := h
  refine ⟨⟨n, kd, nd, od, lw, pot, CoI.congr (fun x k q => hI x k (by omega) (by omega) (by omega) (by omega)) h1, EvI.congr (fun x k q => hI x k (by omega) (by omega) (by omega) (by omega)) (fun x k q => rfl) h2,
    fun c hc => KeI.congr h1.1.1 hc (fun x k q => hI x k (by omega) (by omega) (by omega) (by omega)) (fun x k q => rfl) (h3 c hc), hR, hT, FiI.congr (fun x k q => hI x k (by omega) (by omega) (by omega) (by omega)) h6,
    by rw [hI _ _ (by omega) (by omega) (by omega) (by omega)]; exact h7, by rw [hI _ _ (by omega) (by omega) (by omega) (by omega)]; exact h8, by rw [hI _ _ (by omega) (by omega) (by omega) (by omega)]; exact h9⟩, ⟨ht, hTo.2⟩, ISz.congr (fun x k q => hI x k (by omega) (by omega) (by omega) (by omega)) hZ⟩

set_option maxRecDepth 100000 in
set_option maxHeartbeats 4000000 in
theorem c_M_isRow (I : IntM) (J : LngM) (x : Int32) : CtV 2 m_X11_isRow [.int x] I J (.int (hasC 6 x)) I J := by
  refine CtV_of (by decide) rfl (Nat.le_of_ble_eq_true rfl) ?_
  refine V_il i_X11_isRow_0 rfl ?_
  refine V_i2l i_X11_isRow_1 ?_
  refine V_cl i_X11_isRow_2 ?_
  refine V_cl i_X11_isRow_3 ?_
  refine P_callS3v i_X11_isRow_6 ms_X11_in (by decide) (Nat.le_of_ble_eq_true rfl) (c_M_in _ _ _ _ _) ?_
  exact P_zret i_X11_isRow_9 rfl (by unfold inL; (repeat' split) <;> simp) ⟨by rw [show (5 : Int64) = lN 5 from rfl, in_lit (by decide)], rfl, rfl⟩
set_option maxRecDepth 100000 in
set_option maxHeartbeats 4000000 in
theorem c_M_isText (I : IntM) (J : LngM) (x : Int32) : CtV 2 m_X11_isText [.int x] I J (.int (hasC 4 x)) I J := by
  refine CtV_of (by decide) rfl (Nat.le_of_ble_eq_true rfl) ?_
  refine V_il i_X11_isText_0 rfl ?_
  refine V_i2l i_X11_isText_1 ?_
  refine V_cl i_X11_isText_2 ?_
  refine V_cl i_X11_isText_3 ?_
  refine P_callS3v i_X11_isText_6 ms_X11_in (by decide) (Nat.le_of_ble_eq_true rfl) (c_M_in _ _ _ _ _) ?_
  exact P_zret i_X11_isText_9 rfl (by unfold inL; (repeat' split) <;> simp) ⟨by rw [show (3 : Int64) = lN 3 from rfl, in_lit (by decide)], rfl, rfl⟩
set_option maxRecDepth 100000 in
set_option maxHeartbeats 4000000 in
theorem c_M_found (I : IntM) (J : LngM) {f : Nat} (hf : f < 6) : CtV 1 m_X11_found [.ref 146, .int (nI f)] I J (.int (-3)) (fnI 146 0 147 (some f) I) J := by
  refine CtV_of (by decide) rfl (Nat.le_of_ble_eq_true rfl) ?_
  refine V_al i_X11_found_0 rfl ?_
  refine V_il i_X11_found_1 rfl ?_
  refine V_putI i_X11_found_2 rfl ?_
  refine V_al i_X11_found_5 rfl ?_
  refine V_getR i_X11_found_6 rfl rfl ?_
  refine V_il i_X11_found_9 rfl ?_
  refine V_dup2 i_X11_found_10 rfl rfl ?_
  refine K_iald f i_X11_found_11 rfl rfl hf (by omega) ?_
  refine V_c i_X11_found_12 ?_
  refine V_iadd i_X11_found_13 ?_
  rw [uI_ne _ _ (by simp)]
  refine K_iast f i_X11_found_14 rfl rfl hf (by omega) ?_
  refine V_c i_X11_found_15 ?_
  exact P_iret i_X11_found_17 rfl ⟨rfl, rfl, rfl⟩
set_option maxRecDepth 100000 in
set_option maxHeartbeats 4000000 in
theorem c_M_lacks (I : IntM) (J : LngM) {r : Nat} (hr : r < 6) (i : Int32) : CtV 2 m_X11_lacks [.ref 146, .int (nI r), .int i] I J (.int (lacP (I 148 r) i)) I J := by
  refine CtV_of (by decide) rfl (Nat.le_of_ble_eq_true rfl) ?_
  refine V_al i_X11_lacks_0 rfl ?_
  refine V_getR i_X11_lacks_1 rfl rfl ?_
  refine V_il i_X11_lacks_4 rfl ?_
  refine K_iald r i_X11_lacks_5 rfl rfl hr (by omega) ?_
  refine V_if_ge i_X11_lacks_6 (fun c6 => ?_) (fun c6 => ?_)
  · refine V_il i_X11_lacks_13 rfl ?_
    refine V_i2l i_X11_lacks_14 ?_
    refine V_cl i_X11_lacks_15 ?_
    refine V_al i_X11_lacks_16 rfl ?_
    refine V_getR i_X11_lacks_17 rfl rfl ?_
    refine V_il i_X11_lacks_20 rfl ?_
    refine K_iald r i_X11_lacks_21 rfl rfl hr (by omega) ?_
    refine V_c i_X11_lacks_22 ?_
    refine V_isub i_X11_lacks_23 ?_
    refine V_i2l i_X11_lacks_24 ?_
    refine P_callS3v i_X11_lacks_25 ms_X11_in (by decide) (Nat.le_of_ble_eq_true rfl) (c_M_in _ _ _ _ _) ?_
    refine V_if_eq i_X11_lacks_28 (fun c28 => ?_) (fun c28 => ?_)
    · refine V_c i_X11_lacks_35 ?_
      exact P_iret i_X11_lacks_36 rfl ⟨by simp [lacP, *], rfl, rfl⟩
    · refine V_c i_X11_lacks_31 ?_
      refine V_goto i_X11_lacks_32 ?_
      exact P_iret i_X11_lacks_36 rfl ⟨by simp [lacP, *], rfl, rfl⟩
  · refine V_c i_X11_lacks_9 ?_
    refine V_goto i_X11_lacks_10 ?_
    exact P_iret i_X11_lacks_36 rfl ⟨by simp [lacP, *], rfl, rfl⟩
set_option maxRecDepth 100000 in
set_option maxHeartbeats 4000000 in
theorem c_at0 (I : IntM) (J : LngM) (hZ : ISz I) {x i : Int32} (h : hasC 6 x = 0) : CtP 3 m_X10_at [.ref 0, .int x, .int i] I J (QC I J (.int (-1)) none none none) := by
  refine CtP_of (by decide) rfl (Nat.le_of_ble_eq_true rfl) ?_
  refine V_al i_X10_at_0 rfl ?_
  refine V_getR i_X10_at_1 rfl rfl ?_
  refine V_il i_X10_at_4 rfl ?_
  refine P_callS2v i_X10_at_5 ms_X10_pick (by decide) (Nat.le_of_ble_eq_true rfl) (c_pick0 _ _ (a := 1) (N := 6) rfl (by decide) h) ?_
  refine V_asN (L' := [(0, _), (2, _), (3, _)]) i_X10_at_8 (by decide) ⟨rfl, rfl, rfl, trivial⟩ ?_
  refine V_alN i_X10_at_9 rfl ?_
  refine V_ifnonnullN i_X10_at_10 ?_
  refine V_c i_X10_at_13 ?_
  exact P_iret i_X10_at_14 rfl ⟨rfl, I, J, FrC.rf, hZ, rfl, rfl⟩
set_option maxRecDepth 100000 in
set_option maxHeartbeats 4000000 in
theorem c_at1 (I : IntM) (J : LngM) (hZ : ISz I) {r f : Nat} {i : Int32} (hr : r < 6) (hf : f = 1 ∨ f = 2) (hm : misP I (111 + 2 * r) i = nI f) : CtP 3 m_X10_at [.ref 0, .int (nI r), .int i] I J (QC I J (.int (-3)) none none (some f)) := by
  refine CtP_of (by decide) rfl (Nat.le_of_ble_eq_true rfl) ?_
  refine V_al i_X10_at_0 rfl ?_
  refine V_getR i_X10_at_1 rfl rfl ?_
  refine V_il i_X10_at_4 rfl ?_
  refine P_callS2v i_X10_at_5 ms_X10_pick (by decide) (Nat.le_of_ble_eq_true rfl) (c_pick _ _ (a := 1) (N := 6) (k := r) rfl (by decide) hr (RF_row hr)) ?_
  refine V_as (L' := [(0, _), (2, _), (3, _)]) i_X10_at_8 (by decide) ⟨rfl, rfl, rfl, trivial⟩ ?_
  refine V_al i_X10_at_9 rfl ?_
  refine V_ifnonnull i_X10_at_10 ?_
  refine V_al i_X10_at_15 rfl ?_
  refine V_il i_X10_at_16 rfl ?_
  refine P_callS2v i_X10_at_17 ms_X10_missingPlace (by decide) (Nat.le_of_ble_eq_true rfl) (c_missP _ _ (LI_row hr) _) ?_
  rw [hm]
  refine V_is (L' := [(0, _), (2, _), (3, _), (4, _)]) i_X10_at_20 (by decide) ⟨rfl, rfl, rfl, rfl, trivial⟩ ?_
  refine V_il i_X10_at_22 rfl ?_
  refine V_if_eq_f i_X10_at_24 (by have := hf; rcases this with rfl | rfl <;> decide) ?_
  refine V_al i_X10_at_27 rfl ?_
  refine V_il i_X10_at_28 rfl ?_
  refine P_callV1v i_X10_at_30 mi_X10_refuse rfl ⟨_, _, rfl⟩ (by decide) (Nat.le_of_ble_eq_true rfl) (c_refuse I J (f := f) (by omega)) ?_
  exact P_iret i_X10_at_33 rfl ⟨rfl, I, J, FrC.rf, hZ, rfl, rfl⟩
set_option maxRecDepth 100000 in
set_option maxHeartbeats 4000000 in
theorem c_at2 (I : IntM) (J : LngM) (hZ : ISz I) {r s k : Nat} (hr : r < 6) (hs6 : s ≤ 60) (hk : k < s) (hs : I (111 + 2 * r) 1 = nI s) (hm : misP I (111 + 2 * r) (nI k) = 0) : CtP 3 m_X10_at [.ref 0, .int (nI r), .int (nI k)] I J (QC I J (.int 1) (some (I (111 + 2 * r + 1) k)) none none) := by
  refine CtP_of (by decide) rfl (Nat.le_of_ble_eq_true rfl) ?_
  refine V_al i_X10_at_0 rfl ?_
  refine V_getR i_X10_at_1 rfl rfl ?_
  refine V_il i_X10_at_4 rfl ?_
  refine P_callS2v i_X10_at_5 ms_X10_pick (by decide) (Nat.le_of_ble_eq_true rfl) (c_pick _ _ (a := 1) (N := 6) (k := r) rfl (by decide) hr (RF_row hr)) ?_
  refine V_as (L' := [(0, _), (2, _), (3, _)]) i_X10_at_8 (by decide) ⟨rfl, rfl, rfl, trivial⟩ ?_
  refine V_al i_X10_at_9 rfl ?_
  refine V_ifnonnull i_X10_at_10 ?_
  refine V_al i_X10_at_15 rfl ?_
  refine V_il i_X10_at_16 rfl ?_
  refine P_callS2v i_X10_at_17 ms_X10_missingPlace (by decide) (Nat.le_of_ble_eq_true rfl) (c_missP _ _ (LI_row hr) _) ?_
  rw [hm]
  refine V_is (L' := [(0, _), (2, _), (3, _), (4, _)]) i_X10_at_20 (by decide) ⟨rfl, rfl, rfl, rfl, trivial⟩ ?_
  refine V_il i_X10_at_22 rfl ?_
  refine V_if_eq_t i_X10_at_24 rfl ?_
  refine V_al i_X10_at_34 rfl ?_
  refine V_al i_X10_at_35 rfl ?_
  refine V_il i_X10_at_36 rfl ?_
  refine P_callV1v i_X10_at_37 mi_X3_get (LI_row hr).1 ⟨_, _, rfl⟩ (by decide) (Nat.le_of_ble_eq_true rfl) (c_I_getN _ _ (s := s) (k := k) (LI_row hr) hs rfl hk hs6) ?_
  refine V_putI i_X10_at_40 rfl ?_
  refine V_c i_X10_at_43 ?_
  exact P_iret i_X10_at_44 rfl ⟨rfl, I, J, FrC.rf, hZ, rfl, rfl⟩
set_option maxRecDepth 100000 in
set_option maxHeartbeats 4000000 in
theorem m_at0 (I : IntM) (J : LngM) {x i : Int32} (h : hasC 6 x = 0) : CtP 3 m_X11_at [.ref 146, .int x, .int i] I J (QM I J (.int (-1)) none none none) := by
  refine CtP_of (by decide) rfl (Nat.le_of_ble_eq_true rfl) ?_
  refine V_il i_X11_at_0 rfl ?_
  refine P_callS1v i_X11_at_1 ms_X11_isRow (by decide) (Nat.le_of_ble_eq_true rfl) (c_M_isRow _ _ _) ?_
  refine V_if_ne_f i_X11_at_4 h ?_
  refine V_c i_X11_at_7 ?_
  exact P_iret i_X11_at_8 rfl ⟨rfl, I, J, FrM.rf, rfl, rfl⟩
set_option maxRecDepth 100000 in
set_option maxHeartbeats 4000000 in
theorem m_at1 (I : IntM) (J : LngM) {r f : Nat} {i : Int32} (hr : r < 6) (hf : f = 1 ∨ f = 2) (hm : lacP (I 148 r) i = nI f) : CtP 3 m_X11_at [.ref 146, .int (nI r), .int i] I J (QM I J (.int (-3)) none none (some f)) := by
  refine CtP_of (by decide) rfl (Nat.le_of_ble_eq_true rfl) ?_
  refine V_il i_X11_at_0 rfl ?_
  refine P_callS1v i_X11_at_1 ms_X11_isRow (by decide) (Nat.le_of_ble_eq_true rfl) (c_M_isRow _ _ _) ?_
  refine V_if_ne_t i_X11_at_4 (by rw [hasN_nI (by decide) hr]; decide) ?_
  refine V_al i_X11_at_9 rfl ?_
  refine V_il i_X11_at_10 rfl ?_
  refine V_il i_X11_at_11 rfl ?_
  refine P_callV2v i_X11_at_12 mi_X11_lacks rfl ⟨_, _, rfl⟩ (by decide) (Nat.le_of_ble_eq_true rfl) (c_M_lacks _ _ hr _) ?_
  rw [hm]
  refine V_is (L' := [(0, _), (1, _), (2, _), (3, _)]) i_X11_at_15 (by decide) ⟨rfl, rfl, rfl, rfl, trivial⟩ ?_
  refine V_il i_X11_at_16 rfl ?_
  refine V_if_le_f i_X11_at_17 (by rcases hf with rfl | rfl <;> decide) ?_
  refine V_al i_X11_at_20 rfl ?_
  refine V_il i_X11_at_21 rfl ?_
  refine P_callV1v i_X11_at_22 mi_X11_found rfl ⟨_, _, rfl⟩ (by decide) (Nat.le_of_ble_eq_true rfl) (c_M_found I J (f := f) (by omega)) ?_
  exact P_iret i_X11_at_25 rfl ⟨rfl, I, J, FrM.rf, rfl, rfl⟩
theorem nI_mul (a b : Nat) : nI a * nI b = nI (a * b) := (Int32.ofNat_mul a b).symm
set_option maxRecDepth 100000 in
set_option maxHeartbeats 4000000 in
theorem m_at2 (I : IntM) (J : LngM) {r k : Nat} (hr : r < 6) (hk : k < 60) (hm : lacP (I 148 r) (nI k) = 0) : CtP 3 m_X11_at [.ref 146, .int (nI r), .int (nI k)] I J (QM I J (.int 1) (some (I 149 (60 * r + k))) none none) := by
  refine CtP_of (by decide) rfl (Nat.le_of_ble_eq_true rfl) ?_
  refine V_il i_X11_at_0 rfl ?_
  refine P_callS1v i_X11_at_1 ms_X11_isRow (by decide) (Nat.le_of_ble_eq_true rfl) (c_M_isRow _ _ _) ?_
  refine V_if_ne_t i_X11_at_4 (by rw [hasN_nI (by decide) hr]; decide) ?_
  refine V_al i_X11_at_9 rfl ?_
  refine V_il i_X11_at_10 rfl ?_
  refine V_il i_X11_at_11 rfl ?_
  refine P_callV2v i_X11_at_12 mi_X11_lacks rfl ⟨_, _, rfl⟩ (by decide) (Nat.le_of_ble_eq_true rfl) (c_M_lacks _ _ hr _) ?_
  rw [hm]
  refine V_is (L' := [(0, _), (1, _), (2, _), (3, _)]) i_X11_at_15 (by decide) ⟨rfl, rfl, rfl, rfl, trivial⟩ ?_
  refine V_il i_X11_at_16 rfl ?_
  refine V_if_le_t i_X11_at_17 (by decide) ?_
  refine V_al i_X11_at_26 rfl ?_
  refine V_al i_X11_at_27 rfl ?_
  refine V_getR i_X11_at_28 rfl rfl ?_
  refine V_c i_X11_at_31 ?_
  refine V_il i_X11_at_33 rfl ?_
  refine V_imul i_X11_at_34 ?_
  refine V_il i_X11_at_35 rfl ?_
  refine V_iadd i_X11_at_36 ?_
  refine K_iald (60 * r + k) i_X11_at_37 rfl (by rw [show (60 : Int32) = nI 60 from rfl, nI_mul, nI_add]) (by omega) (by omega) ?_
  refine V_putI i_X11_at_38 rfl ?_
  refine V_c i_X11_at_41 ?_
  exact P_iret i_X11_at_42 rfl ⟨rfl, I, J, FrM.rf, rfl, rfl⟩
set_option maxRecDepth 100000 in
set_option maxHeartbeats 4000000 in
theorem c_tear0 (I : IntM) (J : LngM) (hZ : ISz I) {x : Int32} (h : hasC 6 x = 0) : CtP 2 m_X10_tear [.ref 0, .int x] I J (QC I J (.int (-1)) none none none) := by
  refine CtP_of (by decide) rfl (Nat.le_of_ble_eq_true rfl) ?_
  refine V_al i_X10_tear_0 rfl ?_
  refine V_getR i_X10_tear_1 rfl rfl ?_
  refine V_il i_X10_tear_4 rfl ?_
  refine P_callS2v i_X10_tear_5 ms_X10_pick (by decide) (Nat.le_of_ble_eq_true rfl) (c_pick0 _ _ (a := 1) (N := 6) rfl (by decide) h) ?_
  refine V_asN (L' := [(0, _), (2, _)]) i_X10_tear_8 (by decide) ⟨rfl, rfl, trivial⟩ ?_
  refine V_alN i_X10_tear_9 rfl ?_
  refine V_ifnonnullN i_X10_tear_10 ?_
  refine V_c i_X10_tear_13 ?_
  exact P_iret i_X10_tear_14 rfl ⟨rfl, I, J, FrC.rf, hZ, rfl, rfl⟩
set_option maxRecDepth 100000 in
set_option maxHeartbeats 4000000 in
theorem m_tear0 (I : IntM) (J : LngM) {x : Int32} (h : hasC 6 x = 0) : CtP 3 m_X11_tear [.ref 146, .int x] I J (QM I J (.int (-1)) none none none) := by
  refine CtP_of (by decide) rfl (Nat.le_of_ble_eq_true rfl) ?_
  refine V_il i_X11_tear_0 rfl ?_
  refine P_callS1v i_X11_tear_1 ms_X11_isRow (by decide) (Nat.le_of_ble_eq_true rfl) (c_M_isRow _ _ _) ?_
  refine V_if_ne_f i_X11_tear_4 h ?_
  refine V_c i_X11_tear_7 ?_
  exact P_iret i_X11_tear_8 rfl ⟨rfl, I, J, FrM.rf, rfl, rfl⟩
set_option maxRecDepth 100000 in
set_option maxHeartbeats 4000000 in
theorem c_tear1 (I : IntM) (J : LngM) (hZ : ISz I) {r : Nat} (hr : r < 6) (hs : I (111 + 2 * r) 1 = -1) : CtP 2 m_X10_tear [.ref 0, .int (nI r)] I J (QC I J (.int (-3)) none none (some 1)) := by
  refine CtP_of (by decide) rfl (Nat.le_of_ble_eq_true rfl) ?_
  refine V_al i_X10_tear_0 rfl ?_
  refine V_getR i_X10_tear_1 rfl rfl ?_
  refine V_il i_X10_tear_4 rfl ?_
  refine P_callS2v i_X10_tear_5 ms_X10_pick (by decide) (Nat.le_of_ble_eq_true rfl) (c_pick _ _ (a := 1) (N := 6) (k := r) rfl (by decide) hr (RF_row hr)) ?_
  refine V_as (L' := [(0, _), (2, _)]) i_X10_tear_8 (by decide) ⟨rfl, rfl, trivial⟩ ?_
  refine V_al i_X10_tear_9 rfl ?_
  refine V_ifnonnull i_X10_tear_10 ?_
  refine V_al i_X10_tear_15 rfl ?_
  refine P_callV0v i_X10_tear_16 mi_X3_missing (LI_row hr).1 ⟨_, _, rfl⟩ (by decide) (Nat.le_of_ble_eq_true rfl) (c_I_missing _ _ (LI_row hr)) ?_
  refine V_if_eq_f i_X10_tear_19 (by rw [hs]; decide) ?_
  refine V_al i_X10_tear_22 rfl ?_
  refine V_c i_X10_tear_23 ?_
  refine P_callV1v i_X10_tear_24 mi_X10_refuse rfl ⟨_, _, rfl⟩ (by decide) (Nat.le_of_ble_eq_true rfl) (c_refuse I J (f := 1) (by decide)) ?_
  exact P_iret i_X10_tear_27 rfl ⟨rfl, I, J, FrC.rf, hZ, rfl, rfl⟩
set_option maxRecDepth 100000 in
set_option maxHeartbeats 4000000 in
theorem m_tear1 (I : IntM) (J : LngM) {r : Nat} (hr : r < 6) (hs : I 148 r = -1) : CtP 3 m_X11_tear [.ref 146, .int (nI r)] I J (QM I J (.int (-3)) none none (some 1)) := by
  refine CtP_of (by decide) rfl (Nat.le_of_ble_eq_true rfl) ?_
  refine V_il i_X11_tear_0 rfl ?_
  refine P_callS1v i_X11_tear_1 ms_X11_isRow (by decide) (Nat.le_of_ble_eq_true rfl) (c_M_isRow _ _ _) ?_
  refine V_if_ne_t i_X11_tear_4 (by rw [hasN_nI (by decide) hr]; decide) ?_
  refine V_al i_X11_tear_9 rfl ?_
  refine V_getR i_X11_tear_10 rfl rfl ?_
  refine V_il i_X11_tear_13 rfl ?_
  refine K_iald r i_X11_tear_14 rfl rfl hr (by omega) ?_
  refine V_if_ge_f i_X11_tear_15 (by rw [hs]; decide) ?_
  refine V_al i_X11_tear_18 rfl ?_
  refine V_c i_X11_tear_19 ?_
  refine P_callV1v i_X11_tear_20 mi_X11_found rfl ⟨_, _, rfl⟩ (by decide) (Nat.le_of_ble_eq_true rfl) (c_M_found I J (f := 1) (by decide)) ?_
  exact P_iret i_X11_tear_23 rfl ⟨rfl, I, J, FrM.rf, rfl, rfl⟩
set_option maxRecDepth 100000 in
set_option maxHeartbeats 4000000 in
theorem c_tear2 (I : IntM) (J : LngM) {r s : Nat} (hr : r < 6) (hs6 : s ≤ 60) (hs : I (111 + 2 * r) 1 = nI s) : CtV 2 m_X10_tear [.ref 0, .int (nI r)] I J (.int 1) (uI I (111 + 2 * r) 1 (-1)) J := by
  refine CtV_of (by decide) rfl (Nat.le_of_ble_eq_true rfl) ?_
  refine V_al i_X10_tear_0 rfl ?_
  refine V_getR i_X10_tear_1 rfl rfl ?_
  refine V_il i_X10_tear_4 rfl ?_
  refine P_callS2v i_X10_tear_5 ms_X10_pick (by decide) (Nat.le_of_ble_eq_true rfl) (c_pick _ _ (a := 1) (N := 6) (k := r) rfl (by decide) hr (RF_row hr)) ?_
  refine V_as (L' := [(0, _), (2, _)]) i_X10_tear_8 (by decide) ⟨rfl, rfl, trivial⟩ ?_
  refine V_al i_X10_tear_9 rfl ?_
  refine V_ifnonnull i_X10_tear_10 ?_
  refine V_al i_X10_tear_15 rfl ?_
  refine P_callV0v i_X10_tear_16 mi_X3_missing (LI_row hr).1 ⟨_, _, rfl⟩ (by decide) (Nat.le_of_ble_eq_true rfl) (c_I_missing _ _ (LI_row hr)) ?_
  refine V_if_eq_t i_X10_tear_19 (by rw [hs, if_neg (nI_pos (by omega))]) ?_
  refine V_al i_X10_tear_28 rfl ?_
  refine P_callV0u i_X10_tear_29 mi_X3_vanish (LI_row hr).1 ⟨_, _, rfl⟩ (by decide) (Nat.le_of_ble_eq_true rfl) (c_I_vanish I J (LI_row hr)) ?_
  refine V_c i_X10_tear_32 ?_
  exact P_iret i_X10_tear_33 rfl ⟨rfl, rfl, rfl⟩
set_option maxRecDepth 100000 in
set_option maxHeartbeats 4000000 in
theorem m_tear2 (I : IntM) (J : LngM) {r s : Nat} (hr : r < 6) (hs6 : s ≤ 60) (hs : I 148 r = nI s) : CtV 3 m_X11_tear [.ref 146, .int (nI r)] I J (.int 1) (uI I 148 r (-1)) J := by
  refine CtV_of (by decide) rfl (Nat.le_of_ble_eq_true rfl) ?_
  refine V_il i_X11_tear_0 rfl ?_
  refine P_callS1v i_X11_tear_1 ms_X11_isRow (by decide) (Nat.le_of_ble_eq_true rfl) (c_M_isRow _ _ _) ?_
  refine V_if_ne_t i_X11_tear_4 (by rw [hasN_nI (by decide) hr]; decide) ?_
  refine V_al i_X11_tear_9 rfl ?_
  refine V_getR i_X11_tear_10 rfl rfl ?_
  refine V_il i_X11_tear_13 rfl ?_
  refine K_iald r i_X11_tear_14 rfl rfl hr (by omega) ?_
  refine V_if_ge_t i_X11_tear_15 (by rw [hs]; exact nI_pos' (by omega)) ?_
  refine V_al i_X11_tear_24 rfl ?_
  refine V_getR i_X11_tear_25 rfl rfl ?_
  refine V_il i_X11_tear_28 rfl ?_
  refine V_c i_X11_tear_29 ?_
  refine K_iast r i_X11_tear_30 rfl rfl hr (by omega) ?_
  refine V_c i_X11_tear_31 ?_
  exact P_iret i_X11_tear_32 rfl ⟨rfl, rfl, rfl⟩
set_option maxRecDepth 100000 in
set_option maxHeartbeats 4000000 in
theorem c_mean0 (I : IntM) (J : LngM) (hZ : ISz I) {x : Int32} (h : hasC 6 x = 0) : CtP 4 m_X10_mean [.ref 0, .int x] I J (QC I J (.int (-1)) none none none) := by
  refine CtP_of (by decide) rfl (Nat.le_of_ble_eq_true rfl) ?_
  refine V_al i_X10_mean_0 rfl ?_
  refine V_getR i_X10_mean_1 rfl rfl ?_
  refine V_il i_X10_mean_4 rfl ?_
  refine P_callS2v i_X10_mean_5 ms_X10_pick (by decide) (Nat.le_of_ble_eq_true rfl) (c_pick0 _ _ (a := 1) (N := 6) rfl (by decide) h) ?_
  refine V_asN (L' := [(0, _), (2, _)]) i_X10_mean_8 (by decide) ⟨rfl, rfl, trivial⟩ ?_
  refine V_alN i_X10_mean_9 rfl ?_
  refine V_ifnonnullN i_X10_mean_10 ?_
  refine V_c i_X10_mean_13 ?_
  exact P_iret i_X10_mean_14 rfl ⟨rfl, I, J, FrC.rf, hZ, rfl, rfl⟩
set_option maxRecDepth 100000 in
set_option maxHeartbeats 4000000 in
theorem m_mean0 (I : IntM) (J : LngM) {x : Int32} (h : hasC 6 x = 0) : CtP 3 m_X11_mean [.ref 146, .int x] I J (QM I J (.int (-1)) none none none) := by
  refine CtP_of (by decide) rfl (Nat.le_of_ble_eq_true rfl) ?_
  refine V_il i_X11_mean_0 rfl ?_
  refine P_callS1v i_X11_mean_1 ms_X11_isRow (by decide) (Nat.le_of_ble_eq_true rfl) (c_M_isRow _ _ _) ?_
  refine V_if_ne_f i_X11_mean_4 h ?_
  refine V_c i_X11_mean_7 ?_
  exact P_iret i_X11_mean_8 rfl ⟨rfl, I, J, FrM.rf, rfl, rfl⟩
set_option maxRecDepth 100000 in
set_option maxHeartbeats 4000000 in
theorem c_mean1 (I : IntM) (J : LngM) (hZ : ISz I) {r : Nat} (hr : r < 6) (hs : I (111 + 2 * r) 1 = -1) : CtP 4 m_X10_mean [.ref 0, .int (nI r)] I J (QC I J (.int (-3)) none none (some 1)) := by
  refine CtP_of (by decide) rfl (Nat.le_of_ble_eq_true rfl) ?_
  refine V_al i_X10_mean_0 rfl ?_
  refine V_getR i_X10_mean_1 rfl rfl ?_
  refine V_il i_X10_mean_4 rfl ?_
  refine P_callS2v i_X10_mean_5 ms_X10_pick (by decide) (Nat.le_of_ble_eq_true rfl) (c_pick _ _ (a := 1) (N := 6) (k := r) rfl (by decide) hr (RF_row hr)) ?_
  refine V_as (L' := [(0, _), (2, _)]) i_X10_mean_8 (by decide) ⟨rfl, rfl, trivial⟩ ?_
  refine V_al i_X10_mean_9 rfl ?_
  refine V_ifnonnull i_X10_mean_10 ?_
  refine V_al i_X10_mean_15 rfl ?_
  refine P_callV0v i_X10_mean_16 mi_X3_missing (LI_row hr).1 ⟨_, _, rfl⟩ (by decide) (Nat.le_of_ble_eq_true rfl) (c_I_missing _ _ (LI_row hr)) ?_
  refine V_if_eq_f i_X10_mean_19 (by rw [hs]; decide) ?_
  refine V_al i_X10_mean_22 rfl ?_
  refine V_c i_X10_mean_23 ?_
  refine P_callV1v i_X10_mean_24 mi_X10_refuse rfl ⟨_, _, rfl⟩ (by decide) (Nat.le_of_ble_eq_true rfl) (c_refuse I J (f := 1) (by decide)) ?_
  exact P_iret i_X10_mean_27 rfl ⟨rfl, I, J, FrC.rf, hZ, rfl, rfl⟩
set_option maxRecDepth 100000 in
set_option maxHeartbeats 4000000 in
theorem m_mean1 (I : IntM) (J : LngM) {r : Nat} (hr : r < 6) (hs : I 148 r = -1) : CtP 3 m_X11_mean [.ref 146, .int (nI r)] I J (QM I J (.int (-3)) none none (some 1)) := by
  refine CtP_of (by decide) rfl (Nat.le_of_ble_eq_true rfl) ?_
  refine V_il i_X11_mean_0 rfl ?_
  refine P_callS1v i_X11_mean_1 ms_X11_isRow (by decide) (Nat.le_of_ble_eq_true rfl) (c_M_isRow _ _ _) ?_
  refine V_if_ne_t i_X11_mean_4 (by rw [hasN_nI (by decide) hr]; decide) ?_
  refine V_al i_X11_mean_9 rfl ?_
  refine V_getR i_X11_mean_10 rfl rfl ?_
  refine V_il i_X11_mean_13 rfl ?_
  refine K_iald r i_X11_mean_14 rfl rfl hr (by omega) ?_
  refine V_if_ge_f i_X11_mean_15 (by rw [hs]; decide) ?_
  refine V_al i_X11_mean_18 rfl ?_
  refine V_c i_X11_mean_19 ?_
  refine P_callV1v i_X11_mean_20 mi_X11_found rfl ⟨_, _, rfl⟩ (by decide) (Nat.le_of_ble_eq_true rfl) (c_M_found I J (f := 1) (by decide)) ?_
  exact P_iret i_X11_mean_23 rfl ⟨rfl, I, J, FrM.rf, rfl, rfl⟩
set_option maxRecDepth 100000 in
set_option maxHeartbeats 4000000 in
theorem c_mean2 (I : IntM) (J : LngM) (hZ : ISz I) {r s : Nat} (hr : r < 6) (hs6 : s ≤ 60) (hs : I (111 + 2 * r) 1 = nI s) (h0 : s = 0) : CtP 4 m_X10_mean [.ref 0, .int (nI r)] I J (QC I J (.int (-3)) none none (some 4)) := by
  refine CtP_of (by decide) rfl (Nat.le_of_ble_eq_true rfl) ?_
  refine V_al i_X10_mean_0 rfl ?_
  refine V_getR i_X10_mean_1 rfl rfl ?_
  refine V_il i_X10_mean_4 rfl ?_
  refine P_callS2v i_X10_mean_5 ms_X10_pick (by decide) (Nat.le_of_ble_eq_true rfl) (c_pick _ _ (a := 1) (N := 6) (k := r) rfl (by decide) hr (RF_row hr)) ?_
  refine V_as (L' := [(0, _), (2, _)]) i_X10_mean_8 (by decide) ⟨rfl, rfl, trivial⟩ ?_
  refine V_al i_X10_mean_9 rfl ?_
  refine V_ifnonnull i_X10_mean_10 ?_
  refine V_al i_X10_mean_15 rfl ?_
  refine P_callV0v i_X10_mean_16 mi_X3_missing (LI_row hr).1 ⟨_, _, rfl⟩ (by decide) (Nat.le_of_ble_eq_true rfl) (c_I_missing _ _ (LI_row hr)) ?_
  refine V_if_eq_t i_X10_mean_19 (by rw [hs, if_neg (nI_pos (by omega))]) ?_
  refine V_al i_X10_mean_28 rfl ?_
  refine P_callV0v i_X10_mean_29 mi_X3_size (LI_row hr).1 ⟨_, _, rfl⟩ (by decide) (Nat.le_of_ble_eq_true rfl) (c_I_size _ _ (LI_row hr)) ?_
  refine V_if_ne_f i_X10_mean_32 (by rw [hs, h0]; rfl) ?_
  refine V_al i_X10_mean_35 rfl ?_
  refine V_c i_X10_mean_36 ?_
  refine P_callV1v i_X10_mean_37 mi_X10_refuse rfl ⟨_, _, rfl⟩ (by decide) (Nat.le_of_ble_eq_true rfl) (c_refuse I J (f := 4) (by decide)) ?_
  exact P_iret i_X10_mean_40 rfl ⟨rfl, I, J, FrC.rf, hZ, rfl, rfl⟩
set_option maxRecDepth 100000 in
set_option maxHeartbeats 4000000 in
theorem m_mean2 (I : IntM) (J : LngM) {r s : Nat} (hr : r < 6) (hs6 : s ≤ 60) (hs : I 148 r = nI s) (h0 : s = 0) : CtP 3 m_X11_mean [.ref 146, .int (nI r)] I J (QM I J (.int (-3)) none none (some 4)) := by
  refine CtP_of (by decide) rfl (Nat.le_of_ble_eq_true rfl) ?_
  refine V_il i_X11_mean_0 rfl ?_
  refine P_callS1v i_X11_mean_1 ms_X11_isRow (by decide) (Nat.le_of_ble_eq_true rfl) (c_M_isRow _ _ _) ?_
  refine V_if_ne_t i_X11_mean_4 (by rw [hasN_nI (by decide) hr]; decide) ?_
  refine V_al i_X11_mean_9 rfl ?_
  refine V_getR i_X11_mean_10 rfl rfl ?_
  refine V_il i_X11_mean_13 rfl ?_
  refine K_iald r i_X11_mean_14 rfl rfl hr (by omega) ?_
  refine V_if_ge_t i_X11_mean_15 (by rw [hs]; exact nI_pos' (by omega)) ?_
  refine V_al i_X11_mean_24 rfl ?_
  refine V_getR i_X11_mean_25 rfl rfl ?_
  refine V_il i_X11_mean_28 rfl ?_
  refine K_iald r i_X11_mean_29 rfl rfl hr (by omega) ?_
  refine V_if_ne_f i_X11_mean_30 (by rw [hs, h0]; rfl) ?_
  refine V_al i_X11_mean_33 rfl ?_
  refine V_c i_X11_mean_34 ?_
  refine P_callV1v i_X11_mean_35 mi_X11_found rfl ⟨_, _, rfl⟩ (by decide) (Nat.le_of_ble_eq_true rfl) (c_M_found I J (f := 4) (by decide)) ?_
  exact P_iret i_X11_mean_38 rfl ⟨rfl, I, J, FrM.rf, rfl, rfl⟩
def meV (f : Nat → Int32) (s : Nat) : Int32 := (sumI f s / lN s).toInt32
set_option maxRecDepth 100000 in
set_option maxHeartbeats 4000000 in
theorem c_mean3 (I : IntM) (J : LngM) (hZ : ISz I) {r s : Nat} (hr : r < 6) (hs6 : s ≤ 60) (hs : I (111 + 2 * r) 1 = nI s) (h0 : 0 < s) : CtP 4 m_X10_mean [.ref 0, .int (nI r)] I J (QC I J (.int 1) (some (meV (I (111 + 2 * r + 1)) s)) none none) := by
  refine CtP_of (by decide) rfl (Nat.le_of_ble_eq_true rfl) ?_
  refine V_al i_X10_mean_0 rfl ?_
  refine V_getR i_X10_mean_1 rfl rfl ?_
  refine V_il i_X10_mean_4 rfl ?_
  refine P_callS2v i_X10_mean_5 ms_X10_pick (by decide) (Nat.le_of_ble_eq_true rfl) (c_pick _ _ (a := 1) (N := 6) (k := r) rfl (by decide) hr (RF_row hr)) ?_
  refine V_as (L' := [(0, _), (2, _)]) i_X10_mean_8 (by decide) ⟨rfl, rfl, trivial⟩ ?_
  refine V_al i_X10_mean_9 rfl ?_
  refine V_ifnonnull i_X10_mean_10 ?_
  refine V_al i_X10_mean_15 rfl ?_
  refine P_callV0v i_X10_mean_16 mi_X3_missing (LI_row hr).1 ⟨_, _, rfl⟩ (by decide) (Nat.le_of_ble_eq_true rfl) (c_I_missing _ _ (LI_row hr)) ?_
  refine V_if_eq_t i_X10_mean_19 (by rw [hs, if_neg (nI_pos (by omega))]) ?_
  refine V_al i_X10_mean_28 rfl ?_
  refine P_callV0v i_X10_mean_29 mi_X3_size (LI_row hr).1 ⟨_, _, rfl⟩ (by decide) (Nat.le_of_ble_eq_true rfl) (c_I_size _ _ (LI_row hr)) ?_
  refine V_if_ne_t i_X10_mean_32 (by rw [hs]; exact nI_ne0 h0 (by omega)) ?_
  refine V_al i_X10_mean_41 rfl ?_
  refine V_al i_X10_mean_42 rfl ?_
  refine P_callV0v i_X10_mean_43 mi_X3_sum (LI_row hr).1 ⟨_, _, rfl⟩ (by decide) (Nat.le_of_ble_eq_true rfl) (c_I_sum _ _ (LI_row hr) hs6 hs) ?_
  refine V_al i_X10_mean_46 rfl ?_
  refine P_callV0v i_X10_mean_47 mi_X3_size (LI_row hr).1 ⟨_, _, rfl⟩ (by decide) (Nat.le_of_ble_eq_true rfl) (c_I_size _ _ (LI_row hr)) ?_
  refine V_i2l i_X10_mean_50 ?_
  rw [hs, nI_long (by omega)]
  refine V_ldiv i_X10_mean_51 (lN_ne (by omega) h0) ?_
  refine V_l2i i_X10_mean_52 ?_
  refine V_putI i_X10_mean_53 rfl ?_
  refine V_c i_X10_mean_56 ?_
  exact P_iret i_X10_mean_57 rfl ⟨rfl, I, J, FrC.rf, hZ, rfl, rfl⟩
set_option maxRecDepth 100000 in
set_option maxHeartbeats 4000000 in
theorem lp_M_mean (I : IntM) (J : LngM) {r s : Nat} (hr : r < 6) (hs6 : s ≤ 60) (hs : I 148 r = nI s) (Q : Option Value → IntM → LngM → Prop) (hq : VP m_X11_mean 3 77 [(0, .ref 146), (1, .int (nI r)), (2, .long (sumI (fun i => I 149 (60 * r + i)) s))] [] I J Q) : VP m_X11_mean 3 44 [(0, .ref 146), (1, .int (nI r)), (2, .long 0), (4, .int 0)] [] I J Q := by
  have key : ∀ i, i ≤ s → VP m_X11_mean 3 44 [(0, .ref 146), (1, .int (nI r)), (2, .long (sumI (fun i => I 149 (60 * r + i)) i)), (4, .int (nI i))] [] I J Q := by
    refine down s ?_ (fun i hi ih => ?_)
    · refine V_il i_X11_mean_44 rfl ?_
      refine V_al i_X11_mean_46 rfl ?_
      refine V_getR i_X11_mean_47 rfl rfl ?_
      refine V_il i_X11_mean_50 rfl ?_
      refine K_iald r i_X11_mean_51 rfl rfl hr (by omega) ?_
      refine V_ic_ge_t i_X11_mean_52 (by rw [hs]; exact Int32.le_refl _) ?_
      exact V_L (L' := [(0, _), (1, _), (2, _)]) ⟨rfl, rfl, rfl, trivial⟩ hq
    · refine V_il i_X11_mean_44 rfl ?_
      refine V_al i_X11_mean_46 rfl ?_
      refine V_getR i_X11_mean_47 rfl rfl ?_
      refine V_il i_X11_mean_50 rfl ?_
      refine K_iald r i_X11_mean_51 rfl rfl hr (by omega) ?_
      refine V_ic_ge_f i_X11_mean_52 (by rw [hs]; exact nI_ge hi (by omega)) ?_
      refine V_ll i_X11_mean_55 rfl ?_
      refine V_al i_X11_mean_56 rfl ?_
      refine V_getR i_X11_mean_57 rfl rfl ?_
      refine V_c i_X11_mean_60 ?_
      refine V_il i_X11_mean_62 rfl ?_
      refine V_imul i_X11_mean_63 ?_
      refine V_il i_X11_mean_64 rfl ?_
      refine V_iadd i_X11_mean_66 ?_
      refine K_iald (60 * r + i) i_X11_mean_67 rfl (by rw [show (60 : Int32) = nI 60 from rfl, nI_mul, nI_add]) (by omega) (by omega) ?_
      refine V_i2l i_X11_mean_68 ?_
      refine V_ladd i_X11_mean_69 ?_
      refine V_ls (L' := [(0, _), (1, _), (2, _), (4, _)]) i_X11_mean_70 (by decide) ⟨rfl, rfl, rfl, rfl, trivial⟩ ?_
      refine V_iinc (L' := [(0, _), (1, _), (2, _), (4, _)]) (n' := 1) i_X11_mean_71 (by decide) rfl (by decide) ⟨rfl, rfl, rfl, rfl, trivial⟩ ?_
      refine V_goto i_X11_mean_74 ?_
      refine V_L (L' := [(0, _), (1, _), (2, _), (4, _)]) ⟨rfl, rfl, rfl, rfl, trivial⟩ ?_
      rw [show nI i + 1 = nI (i + 1) from nI_1 i]
      exact ih
  exact key 0 (Nat.zero_le _)
set_option maxRecDepth 100000 in
set_option maxHeartbeats 4000000 in
theorem m_mean3 (I : IntM) (J : LngM) {r s : Nat} (hr : r < 6) (hs6 : s ≤ 60) (hs : I 148 r = nI s) (h0 : 0 < s) : CtP 3 m_X11_mean [.ref 146, .int (nI r)] I J (QM I J (.int 1) (some (meV (fun i => I 149 (60 * r + i)) s)) none none) := by
  refine CtP_of (by decide) rfl (Nat.le_of_ble_eq_true rfl) ?_
  refine V_il i_X11_mean_0 rfl ?_
  refine P_callS1v i_X11_mean_1 ms_X11_isRow (by decide) (Nat.le_of_ble_eq_true rfl) (c_M_isRow _ _ _) ?_
  refine V_if_ne_t i_X11_mean_4 (by rw [hasN_nI (by decide) hr]; decide) ?_
  refine V_al i_X11_mean_9 rfl ?_
  refine V_getR i_X11_mean_10 rfl rfl ?_
  refine V_il i_X11_mean_13 rfl ?_
  refine K_iald r i_X11_mean_14 rfl rfl hr (by omega) ?_
  refine V_if_ge_t i_X11_mean_15 (by rw [hs]; exact nI_pos' (by omega)) ?_
  refine V_al i_X11_mean_24 rfl ?_
  refine V_getR i_X11_mean_25 rfl rfl ?_
  refine V_il i_X11_mean_28 rfl ?_
  refine K_iald r i_X11_mean_29 rfl rfl hr (by omega) ?_
  refine V_if_ne_t i_X11_mean_30 (by rw [hs]; exact nI_ne0 h0 (by omega)) ?_
  refine V_cl i_X11_mean_39 ?_
  refine V_ls (L' := [(0, _), (1, _), (2, _)]) i_X11_mean_40 (by decide) ⟨rfl, rfl, rfl, trivial⟩ ?_
  refine V_c i_X11_mean_41 ?_
  refine V_is (L' := [(0, _), (1, _), (2, _), (4, _)]) i_X11_mean_42 (by decide) ⟨rfl, rfl, rfl, rfl, trivial⟩ ?_
  refine V_L (L' := [(0, _), (1, _), (2, _), (4, _)]) ⟨rfl, rfl, rfl, rfl, trivial⟩ ?_
  refine lp_M_mean I J hr hs6 hs _ ?_
  refine V_al i_X11_mean_77 rfl ?_
  refine V_ll i_X11_mean_78 rfl ?_
  refine V_al i_X11_mean_79 rfl ?_
  refine V_getR i_X11_mean_80 rfl rfl ?_
  refine V_il i_X11_mean_83 rfl ?_
  refine K_iald r i_X11_mean_84 rfl rfl hr (by omega) ?_
  refine V_i2l i_X11_mean_85 ?_
  rw [hs, nI_long (by omega)]
  refine V_ldiv i_X11_mean_86 (lN_ne (by omega) h0) ?_
  refine V_l2i i_X11_mean_87 ?_
  refine V_putI i_X11_mean_88 rfl ?_
  refine V_c i_X11_mean_91 ?_
  exact P_iret i_X11_mean_92 rfl ⟨rfl, I, J, FrM.rf, rfl, rfl⟩
theorem sumI_cong {f g : Nat → Int32} : ∀ {s}, (∀ i, i < s → f i = g i) → sumI f s = sumI g s
  | 0, _ => rfl
  | s + 1, h => by
    show sumI f s + (f s).toInt64 = sumI g s + (g s).toInt64
    rw [sumI_cong (fun i hi => h i (by omega)), h s (by omega)]
theorem meV_cong {f g : Nat → Int32} {s : Nat} (h : ∀ i, i < s → f i = g i) : meV f s = meV g s := by
  unfold meV
  rw [sumI_cong h]
theorem Pair.m {d1 d2 : Nat} {m1 m2 : Mth} {as1 as2 : List Value} {I I1 I2 : IntM} {J J1 J2 : LngM} {v : Value} (hc : CtV d1 m1 as1 I J v I1 J1) (hm : CtV d2 m2 as2 I1 J1 v I2 J2) (h : Inv I2 J2) (hv : KV m1 v := by first | exact (show ∃ z : Int32, _ = Value.int z from ⟨_, rfl⟩) | exact (show ∃ z : Int64, _ = Value.long z from ⟨_, rfl⟩)) : Pair d1 m1 as1 d2 m2 as2 I J :=
  ⟨v, hv, CtP_mono hc (fun r I' J' q => by
    obtain ⟨rfl, rfl, rfl⟩ := q
    exact ⟨rfl, CtP_mono hm (fun r' I'' J'' q' => by
      obtain ⟨rfl, rfl, rfl⟩ := q'
      exact ⟨rfl, h⟩)⟩)⟩
set_option maxRecDepth 100000 in
set_option maxHeartbeats 4000000 in
theorem c_lay0 (I : IntM) (J : LngM) (hZ : ISz I) {x a0 a1 : Int32} (h : hasC 6 x = 0) : CtP 3 m_X10_lay [.ref 0, .int x, .int a0, .int a1] I J (QC I J (.int (-1)) none none none) := by
  refine CtP_of (by decide) rfl (Nat.le_of_ble_eq_true rfl) ?_
  refine V_al i_X10_lay_0 rfl ?_
  refine V_getR i_X10_lay_1 rfl rfl ?_
  refine V_il i_X10_lay_4 rfl ?_
  refine P_callS2v i_X10_lay_5 ms_X10_pick (by decide) (Nat.le_of_ble_eq_true rfl) (c_pick0 _ _ (a := 1) (N := 6) rfl (by decide) h) ?_
  refine V_asN (L' := [(0, _), (2, _), (3, _), (4, _)]) i_X10_lay_8 (by decide) ⟨rfl, rfl, rfl, rfl, trivial⟩ ?_
  refine V_alN i_X10_lay_10 rfl ?_
  refine V_ifnonnullN i_X10_lay_12 ?_
  refine V_c i_X10_lay_15 ?_
  exact P_iret i_X10_lay_16 rfl ⟨rfl, I, J, FrC.rf, hZ, rfl, rfl⟩
set_option maxRecDepth 100000 in
set_option maxHeartbeats 4000000 in
theorem m_lay0 (I : IntM) (J : LngM) {x a0 a1 : Int32} (h : hasC 6 x = 0) : CtP 3 m_X11_lay [.ref 146, .int x, .int a0, .int a1] I J (QM I J (.int (-1)) none none none) := by
  refine CtP_of (by decide) rfl (Nat.le_of_ble_eq_true rfl) ?_
  refine V_il i_X11_lay_0 rfl ?_
  refine P_callS1v i_X11_lay_1 ms_X11_isRow (by decide) (Nat.le_of_ble_eq_true rfl) (c_M_isRow _ _ _) ?_
  refine V_if_ne_f i_X11_lay_4 h ?_
  refine V_c i_X11_lay_7 ?_
  exact P_iret i_X11_lay_8 rfl ⟨rfl, I, J, FrM.rf, rfl, rfl⟩
set_option maxRecDepth 100000 in
set_option maxHeartbeats 4000000 in
theorem c_lay1 (I : IntM) (J : LngM) (hZ : ISz I) {r f : Nat} {i v : Int32} (hr : r < 6) (hf : f = 1 ∨ f = 2) (hm : misP I (111 + 2 * r) i = nI f) : CtP 3 m_X10_lay [.ref 0, .int (nI r), .int i, .int v] I J (QC I J (.int (-3)) none none (some f)) := by
  refine CtP_of (by decide) rfl (Nat.le_of_ble_eq_true rfl) ?_
  refine V_al i_X10_lay_0 rfl ?_
  refine V_getR i_X10_lay_1 rfl rfl ?_
  refine V_il i_X10_lay_4 rfl ?_
  refine P_callS2v i_X10_lay_5 ms_X10_pick (by decide) (Nat.le_of_ble_eq_true rfl) (c_pick _ _ (a := 1) (N := 6) (k := r) rfl (by decide) hr (RF_row hr)) ?_
  refine V_as (L' := [(0, _), (2, _), (3, _), (4, _)]) i_X10_lay_8 (by decide) ⟨rfl, rfl, rfl, rfl, trivial⟩ ?_
  refine V_al i_X10_lay_10 rfl ?_
  refine V_ifnonnull i_X10_lay_12 ?_
  refine V_al i_X10_lay_17 rfl ?_
  refine V_il i_X10_lay_19 rfl ?_
  refine P_callS2v i_X10_lay_20 ms_X10_missingPlace (by decide) (Nat.le_of_ble_eq_true rfl) (c_missP _ _ (LI_row hr) _) ?_
  rw [hm]
  refine V_is (L' := [(0, _), (2, _), (3, _), (4, _), (5, _)]) i_X10_lay_23 (by decide) ⟨rfl, rfl, rfl, rfl, rfl, trivial⟩ ?_
  refine V_il i_X10_lay_25 rfl ?_
  refine V_if_eq_f i_X10_lay_27 (by have := hf; rcases this with rfl | rfl <;> decide) ?_
  refine V_al i_X10_lay_30 rfl ?_
  refine V_il i_X10_lay_31 rfl ?_
  refine P_callV1v i_X10_lay_33 mi_X10_refuse rfl ⟨_, _, rfl⟩ (by decide) (Nat.le_of_ble_eq_true rfl) (c_refuse I J (f := f) (by omega)) ?_
  exact P_iret i_X10_lay_36 rfl ⟨rfl, I, J, FrC.rf, hZ, rfl, rfl⟩
set_option maxRecDepth 100000 in
set_option maxHeartbeats 4000000 in
theorem m_lay1 (I : IntM) (J : LngM) {r f : Nat} {i v : Int32} (hr : r < 6) (hf : f = 1 ∨ f = 2) (hm : lacP (I 148 r) i = nI f) : CtP 3 m_X11_lay [.ref 146, .int (nI r), .int i, .int v] I J (QM I J (.int (-3)) none none (some f)) := by
  refine CtP_of (by decide) rfl (Nat.le_of_ble_eq_true rfl) ?_
  refine V_il i_X11_lay_0 rfl ?_
  refine P_callS1v i_X11_lay_1 ms_X11_isRow (by decide) (Nat.le_of_ble_eq_true rfl) (c_M_isRow _ _ _) ?_
  refine V_if_ne_t i_X11_lay_4 (by rw [hasN_nI (by decide) hr]; decide) ?_
  refine V_al i_X11_lay_9 rfl ?_
  refine V_il i_X11_lay_10 rfl ?_
  refine V_il i_X11_lay_11 rfl ?_
  refine P_callV2v i_X11_lay_12 mi_X11_lacks rfl ⟨_, _, rfl⟩ (by decide) (Nat.le_of_ble_eq_true rfl) (c_M_lacks _ _ hr _) ?_
  rw [hm]
  refine V_is (L' := [(0, _), (1, _), (2, _), (3, _), (4, _)]) i_X11_lay_15 (by decide) ⟨rfl, rfl, rfl, rfl, rfl, trivial⟩ ?_
  refine V_il i_X11_lay_17 rfl ?_
  refine V_if_le_f i_X11_lay_19 (by rcases hf with rfl | rfl <;> decide) ?_
  refine V_al i_X11_lay_22 rfl ?_
  refine V_il i_X11_lay_23 rfl ?_
  refine P_callV1v i_X11_lay_25 mi_X11_found rfl ⟨_, _, rfl⟩ (by decide) (Nat.le_of_ble_eq_true rfl) (c_M_found I J (f := f) (by omega)) ?_
  exact P_iret i_X11_lay_28 rfl ⟨rfl, I, J, FrM.rf, rfl, rfl⟩
set_option maxRecDepth 100000 in
set_option maxHeartbeats 4000000 in
theorem c_lay2 (I : IntM) (J : LngM) {r s k : Nat} (hr : r < 6) (hs6 : s ≤ 60) (hk : k < s) (hs : I (111 + 2 * r) 1 = nI s) (hm : misP I (111 + 2 * r) (nI k) = 0) (v : Int32) : CtV 3 m_X10_lay [.ref 0, .int (nI r), .int (nI k), .int v] I J (.int 1) (uI (uI I 0 13 (I (111 + 2 * r + 1) k)) (111 + 2 * r + 1) k v) J := by
  refine CtV_of (by decide) rfl (Nat.le_of_ble_eq_true rfl) ?_
  refine V_al i_X10_lay_0 rfl ?_
  refine V_getR i_X10_lay_1 rfl rfl ?_
  refine V_il i_X10_lay_4 rfl ?_
  refine P_callS2v i_X10_lay_5 ms_X10_pick (by decide) (Nat.le_of_ble_eq_true rfl) (c_pick _ _ (a := 1) (N := 6) (k := r) rfl (by decide) hr (RF_row hr)) ?_
  refine V_as (L' := [(0, _), (2, _), (3, _), (4, _)]) i_X10_lay_8 (by decide) ⟨rfl, rfl, rfl, rfl, trivial⟩ ?_
  refine V_al i_X10_lay_10 rfl ?_
  refine V_ifnonnull i_X10_lay_12 ?_
  refine V_al i_X10_lay_17 rfl ?_
  refine V_il i_X10_lay_19 rfl ?_
  refine P_callS2v i_X10_lay_20 ms_X10_missingPlace (by decide) (Nat.le_of_ble_eq_true rfl) (c_missP _ _ (LI_row hr) _) ?_
  rw [hm]
  refine V_is (L' := [(0, _), (2, _), (3, _), (4, _), (5, _)]) i_X10_lay_23 (by decide) ⟨rfl, rfl, rfl, rfl, rfl, trivial⟩ ?_
  refine V_il i_X10_lay_25 rfl ?_
  refine V_if_eq_t i_X10_lay_27 rfl ?_
  refine V_al i_X10_lay_37 rfl ?_
  refine V_al i_X10_lay_38 rfl ?_
  refine V_il i_X10_lay_40 rfl ?_
  refine P_callV1v i_X10_lay_41 mi_X3_get (LI_row hr).1 ⟨_, _, rfl⟩ (by decide) (Nat.le_of_ble_eq_true rfl) (c_I_getN _ _ (s := s) (k := k) (LI_row hr) hs rfl hk hs6) ?_
  refine V_putI i_X10_lay_44 rfl ?_
  refine V_al i_X10_lay_47 rfl ?_
  refine V_il i_X10_lay_49 rfl ?_
  refine V_il i_X10_lay_50 rfl ?_
  refine P_callV2u i_X10_lay_51 mi_X3_set (LI_row hr).1 ⟨_, _, rfl⟩ (by decide) (Nat.le_of_ble_eq_true rfl) (c_I_setN _ _ (s := s) (k := k) _ (LI_row hr) ((uI_ne _ _ (by simp)).trans hs) rfl hk hs6) ?_
  refine V_c i_X10_lay_54 ?_
  exact P_iret i_X10_lay_55 rfl ⟨rfl, rfl, rfl⟩
set_option maxRecDepth 100000 in
set_option maxHeartbeats 4000000 in
theorem m_lay2 (I : IntM) (J : LngM) {r k : Nat} (hr : r < 6) (hk : k < 60) (hm : lacP (I 148 r) (nI k) = 0) (v : Int32) : CtV 3 m_X11_lay [.ref 146, .int (nI r), .int (nI k), .int v] I J (.int 1) (uI (uI I 146 2 (I 149 (60 * r + k))) 149 (60 * r + k) v) J := by
  refine CtV_of (by decide) rfl (Nat.le_of_ble_eq_true rfl) ?_
  refine V_il i_X11_lay_0 rfl ?_
  refine P_callS1v i_X11_lay_1 ms_X11_isRow (by decide) (Nat.le_of_ble_eq_true rfl) (c_M_isRow _ _ _) ?_
  refine V_if_ne_t i_X11_lay_4 (by rw [hasN_nI (by decide) hr]; decide) ?_
  refine V_al i_X11_lay_9 rfl ?_
  refine V_il i_X11_lay_10 rfl ?_
  refine V_il i_X11_lay_11 rfl ?_
  refine P_callV2v i_X11_lay_12 mi_X11_lacks rfl ⟨_, _, rfl⟩ (by decide) (Nat.le_of_ble_eq_true rfl) (c_M_lacks _ _ hr _) ?_
  rw [hm]
  refine V_is (L' := [(0, _), (1, _), (2, _), (3, _), (4, _)]) i_X11_lay_15 (by decide) ⟨rfl, rfl, rfl, rfl, rfl, trivial⟩ ?_
  refine V_il i_X11_lay_17 rfl ?_
  refine V_if_le_t i_X11_lay_19 (by decide) ?_
  refine V_al i_X11_lay_29 rfl ?_
  refine V_al i_X11_lay_30 rfl ?_
  refine V_getR i_X11_lay_31 rfl rfl ?_
  refine V_c i_X11_lay_34 ?_
  refine V_il i_X11_lay_36 rfl ?_
  refine V_imul i_X11_lay_37 ?_
  refine V_il i_X11_lay_38 rfl ?_
  refine V_iadd i_X11_lay_39 ?_
  refine K_iald (60 * r + k) i_X11_lay_40 rfl (by rw [show (60 : Int32) = nI 60 from rfl, nI_mul, nI_add]) (by omega) (by omega) ?_
  refine V_putI i_X11_lay_41 rfl ?_
  refine V_al i_X11_lay_44 rfl ?_
  refine V_getR i_X11_lay_45 rfl rfl ?_
  refine V_c i_X11_lay_48 ?_
  refine V_il i_X11_lay_50 rfl ?_
  refine V_imul i_X11_lay_51 ?_
  refine V_il i_X11_lay_52 rfl ?_
  refine V_iadd i_X11_lay_53 ?_
  refine V_il i_X11_lay_54 rfl ?_
  refine K_iast (60 * r + k) i_X11_lay_55 rfl (by rw [show (60 : Int32) = nI 60 from rfl, nI_mul, nI_add]) (by omega) (by omega) ?_
  refine V_c i_X11_lay_56 ?_
  exact P_iret i_X11_lay_57 rfl ⟨rfl, rfl, rfl⟩
set_option maxRecDepth 100000 in
set_option maxHeartbeats 4000000 in
theorem c_put0 (I : IntM) (J : LngM) (hZ : ISz I) {x a0 a1 : Int32} (h : hasC 4 x = 0) : CtP 3 m_X10_put [.ref 0, .int x, .int a0, .int a1] I J (QC I J (.int (-1)) none none none) := by
  refine CtP_of (by decide) rfl (Nat.le_of_ble_eq_true rfl) ?_
  refine V_al i_X10_put_0 rfl ?_
  refine V_getR i_X10_put_1 rfl rfl ?_
  refine V_il i_X10_put_4 rfl ?_
  refine P_callS2v i_X10_put_5 ms_X10_pick (by decide) (Nat.le_of_ble_eq_true rfl) (c_pick0 _ _ (a := 2) (N := 4) rfl (by decide) h) ?_
  refine V_asN (L' := [(0, _), (2, _), (3, _), (4, _)]) i_X10_put_8 (by decide) ⟨rfl, rfl, rfl, rfl, trivial⟩ ?_
  refine V_alN i_X10_put_10 rfl ?_
  refine V_ifnonnullN i_X10_put_12 ?_
  refine V_c i_X10_put_15 ?_
  exact P_iret i_X10_put_16 rfl ⟨rfl, I, J, FrC.rf, hZ, rfl, rfl⟩
set_option maxRecDepth 100000 in
set_option maxHeartbeats 4000000 in
theorem m_put0 (I : IntM) (J : LngM) {x a0 a1 : Int32} (h : hasC 4 x = 0) : CtP 3 m_X11_put [.ref 146, .int x, .int a0, .int a1] I J (QM I J (.int (-1)) none none none) := by
  refine CtP_of (by decide) rfl (Nat.le_of_ble_eq_true rfl) ?_
  refine V_il i_X11_put_0 rfl ?_
  refine P_callS1v i_X11_put_1 ms_X11_isText (by decide) (Nat.le_of_ble_eq_true rfl) (c_M_isText _ _ _) ?_
  refine V_if_ne_f i_X11_put_4 h ?_
  refine V_c i_X11_put_7 ?_
  exact P_iret i_X11_put_8 rfl ⟨rfl, I, J, FrM.rf, rfl, rfl⟩
set_option maxRecDepth 100000 in
set_option maxHeartbeats 4000000 in
theorem c_put1 (I : IntM) (J : LngM) (hZ : ISz I) {r f : Nat} {i v : Int32} (hr : r < 4) (hf : f = 1 ∨ f = 2) (hm : misP I (123 + 2 * r) i = nI f) : CtP 3 m_X10_put [.ref 0, .int (nI r), .int i, .int v] I J (QC I J (.int (-3)) none none (some f)) := by
  refine CtP_of (by decide) rfl (Nat.le_of_ble_eq_true rfl) ?_
  refine V_al i_X10_put_0 rfl ?_
  refine V_getR i_X10_put_1 rfl rfl ?_
  refine V_il i_X10_put_4 rfl ?_
  refine P_callS2v i_X10_put_5 ms_X10_pick (by decide) (Nat.le_of_ble_eq_true rfl) (c_pick _ _ (a := 2) (N := 4) (k := r) rfl (by decide) hr (RF_text hr)) ?_
  refine V_as (L' := [(0, _), (2, _), (3, _), (4, _)]) i_X10_put_8 (by decide) ⟨rfl, rfl, rfl, rfl, trivial⟩ ?_
  refine V_al i_X10_put_10 rfl ?_
  refine V_ifnonnull i_X10_put_12 ?_
  refine V_al i_X10_put_17 rfl ?_
  refine V_il i_X10_put_19 rfl ?_
  refine P_callS2v i_X10_put_20 ms_X10_missingPlace (by decide) (Nat.le_of_ble_eq_true rfl) (c_missP _ _ (LI_text hr) _) ?_
  rw [hm]
  refine V_is (L' := [(0, _), (2, _), (3, _), (4, _), (5, _)]) i_X10_put_23 (by decide) ⟨rfl, rfl, rfl, rfl, rfl, trivial⟩ ?_
  refine V_il i_X10_put_25 rfl ?_
  refine V_if_eq_f i_X10_put_27 (by have := hf; rcases this with rfl | rfl <;> decide) ?_
  refine V_al i_X10_put_30 rfl ?_
  refine V_il i_X10_put_31 rfl ?_
  refine P_callV1v i_X10_put_33 mi_X10_refuse rfl ⟨_, _, rfl⟩ (by decide) (Nat.le_of_ble_eq_true rfl) (c_refuse I J (f := f) (by omega)) ?_
  exact P_iret i_X10_put_36 rfl ⟨rfl, I, J, FrC.rf, hZ, rfl, rfl⟩
set_option maxRecDepth 100000 in
set_option maxHeartbeats 4000000 in
theorem m_put1 (I : IntM) (J : LngM) {r : Nat} {i v : Int32} (hr : r < 4) (hs : I 150 r = -1) : CtP 3 m_X11_put [.ref 146, .int (nI r), .int i, .int v] I J (QM I J (.int (-3)) none none (some 1)) := by
  refine CtP_of (by decide) rfl (Nat.le_of_ble_eq_true rfl) ?_
  refine V_il i_X11_put_0 rfl ?_
  refine P_callS1v i_X11_put_1 ms_X11_isText (by decide) (Nat.le_of_ble_eq_true rfl) (c_M_isText _ _ _) ?_
  refine V_if_ne_t i_X11_put_4 (by rw [hasN_nI (by decide) hr]; decide) ?_
  refine V_al i_X11_put_9 rfl ?_
  refine V_getR i_X11_put_10 rfl rfl ?_
  refine V_il i_X11_put_13 rfl ?_
  refine K_iald r i_X11_put_14 rfl rfl hr (by omega) ?_
  refine V_if_ge_f i_X11_put_15 (by rw [hs]; decide) ?_
  refine V_al i_X11_put_18 rfl ?_
  refine V_c i_X11_put_19 ?_
  refine P_callV1v i_X11_put_20 mi_X11_found rfl ⟨_, _, rfl⟩ (by decide) (Nat.le_of_ble_eq_true rfl) (c_M_found I J (f := 1) (by decide)) ?_
  exact P_iret i_X11_put_23 rfl ⟨rfl, I, J, FrM.rf, rfl, rfl⟩
set_option maxRecDepth 100000 in
set_option maxHeartbeats 4000000 in
theorem m_put2 (I : IntM) (J : LngM) {r s : Nat} (hr : r < 4) (hs6 : s ≤ 60) (hs : I 150 r = nI s) {i v : Int32} (h0 : hasC s i = 0) : CtP 3 m_X11_put [.ref 146, .int (nI r), .int i, .int v] I J (QM I J (.int (-3)) none none (some 2)) := by
  refine CtP_of (by decide) rfl (Nat.le_of_ble_eq_true rfl) ?_
  refine V_il i_X11_put_0 rfl ?_
  refine P_callS1v i_X11_put_1 ms_X11_isText (by decide) (Nat.le_of_ble_eq_true rfl) (c_M_isText _ _ _) ?_
  refine V_if_ne_t i_X11_put_4 (by rw [hasN_nI (by decide) hr]; decide) ?_
  refine V_al i_X11_put_9 rfl ?_
  refine V_getR i_X11_put_10 rfl rfl ?_
  refine V_il i_X11_put_13 rfl ?_
  refine K_iald r i_X11_put_14 rfl rfl hr (by omega) ?_
  refine V_if_ge_t i_X11_put_15 (by rw [hs]; exact nI_pos' (by omega)) ?_
  refine V_il i_X11_put_24 rfl ?_
  refine V_i2l i_X11_put_25 ?_
  refine V_cl i_X11_put_26 ?_
  refine V_al i_X11_put_27 rfl ?_
  refine V_getR i_X11_put_28 rfl rfl ?_
  refine V_il i_X11_put_31 rfl ?_
  refine K_iald r i_X11_put_32 rfl rfl hr (by omega) ?_
  refine V_c i_X11_put_33 ?_
  refine V_isub i_X11_put_34 ?_
  refine V_i2l i_X11_put_35 ?_
  refine P_callS3v i_X11_put_36 ms_X11_in (by decide) (Nat.le_of_ble_eq_true rfl) (c_M_in _ _ _ _ _) ?_
  refine V_if_ne_f i_X11_put_39 (by rw [hs, inC (by omega), h0]) ?_
  refine V_al i_X11_put_42 rfl ?_
  refine V_c i_X11_put_43 ?_
  refine P_callV1v i_X11_put_44 mi_X11_found rfl ⟨_, _, rfl⟩ (by decide) (Nat.le_of_ble_eq_true rfl) (c_M_found I J (f := 2) (by decide)) ?_
  exact P_iret i_X11_put_47 rfl ⟨rfl, I, J, FrM.rf, rfl, rfl⟩
set_option maxRecDepth 100000 in
set_option maxHeartbeats 4000000 in
theorem m_put3 (I : IntM) (J : LngM) {r s : Nat} (hr : r < 4) (hs6 : s ≤ 60) (hs : I 150 r = nI s) {k : Nat} (hk : k < s) (v : Int32) : CtV 3 m_X11_put [.ref 146, .int (nI r), .int (nI k), .int v] I J (.int (I 151 (60 * r + k) + 1000)) (uI I 151 (60 * r + k) v.toInt8.toInt32) J := by
  refine CtV_of (by decide) rfl (Nat.le_of_ble_eq_true rfl) ?_
  refine V_il i_X11_put_0 rfl ?_
  refine P_callS1v i_X11_put_1 ms_X11_isText (by decide) (Nat.le_of_ble_eq_true rfl) (c_M_isText _ _ _) ?_
  refine V_if_ne_t i_X11_put_4 (by rw [hasN_nI (by decide) hr]; decide) ?_
  refine V_al i_X11_put_9 rfl ?_
  refine V_getR i_X11_put_10 rfl rfl ?_
  refine V_il i_X11_put_13 rfl ?_
  refine K_iald r i_X11_put_14 rfl rfl hr (by omega) ?_
  refine V_if_ge_t i_X11_put_15 (by rw [hs]; exact nI_pos' (by omega)) ?_
  refine V_il i_X11_put_24 rfl ?_
  refine V_i2l i_X11_put_25 ?_
  refine V_cl i_X11_put_26 ?_
  refine V_al i_X11_put_27 rfl ?_
  refine V_getR i_X11_put_28 rfl rfl ?_
  refine V_il i_X11_put_31 rfl ?_
  refine K_iald r i_X11_put_32 rfl rfl hr (by omega) ?_
  refine V_c i_X11_put_33 ?_
  refine V_isub i_X11_put_34 ?_
  refine V_i2l i_X11_put_35 ?_
  refine P_callS3v i_X11_put_36 ms_X11_in (by decide) (Nat.le_of_ble_eq_true rfl) (c_M_in _ _ _ _ _) ?_
  refine V_if_ne_t i_X11_put_39 (by rw [hs, inC (by omega), hasN_nI (by omega) hk]; decide) ?_
  refine V_al i_X11_put_48 rfl ?_
  refine V_getR i_X11_put_49 rfl rfl ?_
  refine V_c i_X11_put_52 ?_
  refine V_il i_X11_put_54 rfl ?_
  refine V_imul i_X11_put_55 ?_
  refine V_il i_X11_put_56 rfl ?_
  refine V_iadd i_X11_put_57 ?_
  refine K_iald (60 * r + k) i_X11_put_58 rfl (by rw [show (60 : Int32) = nI 60 from rfl, nI_mul, nI_add]) (by omega) (by omega) ?_
  refine V_is (L' := [(0, _), (1, _), (2, _), (3, _), (4, _)]) i_X11_put_59 (by decide) ⟨rfl, rfl, rfl, rfl, rfl, trivial⟩ ?_
  refine V_al i_X11_put_61 rfl ?_
  refine V_getR i_X11_put_62 rfl rfl ?_
  refine V_c i_X11_put_65 ?_
  refine V_il i_X11_put_67 rfl ?_
  refine V_imul i_X11_put_68 ?_
  refine V_il i_X11_put_69 rfl ?_
  refine V_iadd i_X11_put_70 ?_
  refine V_il i_X11_put_71 rfl ?_
  refine V_i2b i_X11_put_72 ?_
  refine K_iast (60 * r + k) i_X11_put_73 rfl (by rw [show (60 : Int32) = nI 60 from rfl, nI_mul, nI_add]) (by omega) (by omega) ?_
  refine V_il i_X11_put_74 rfl ?_
  refine V_c i_X11_put_76 ?_
  refine V_iadd i_X11_put_79 ?_
  exact P_iret i_X11_put_80 rfl ⟨rfl, rfl, rfl⟩
set_option maxRecDepth 100000 in
set_option maxHeartbeats 4000000 in
theorem c_put2 (I : IntM) (J : LngM) {r s k : Nat} (hr : r < 4) (hs6 : s ≤ 60) (hk : k < s) (hs : I (123 + 2 * r) 1 = nI s) (hm : misP I (123 + 2 * r) (nI k) = 0) (v : Int32) : CtV 3 m_X10_put [.ref 0, .int (nI r), .int (nI k), .int v] I J (.int (I (123 + 2 * r + 1) k + 1000)) (uI I (123 + 2 * r + 1) k v.toInt8.toInt32) J := by
  refine CtV_of (by decide) rfl (Nat.le_of_ble_eq_true rfl) ?_
  refine V_al i_X10_put_0 rfl ?_
  refine V_getR i_X10_put_1 rfl rfl ?_
  refine V_il i_X10_put_4 rfl ?_
  refine P_callS2v i_X10_put_5 ms_X10_pick (by decide) (Nat.le_of_ble_eq_true rfl) (c_pick _ _ (a := 2) (N := 4) (k := r) rfl (by decide) hr (RF_text hr)) ?_
  refine V_as (L' := [(0, _), (2, _), (3, _), (4, _)]) i_X10_put_8 (by decide) ⟨rfl, rfl, rfl, rfl, trivial⟩ ?_
  refine V_al i_X10_put_10 rfl ?_
  refine V_ifnonnull i_X10_put_12 ?_
  refine V_al i_X10_put_17 rfl ?_
  refine V_il i_X10_put_19 rfl ?_
  refine P_callS2v i_X10_put_20 ms_X10_missingPlace (by decide) (Nat.le_of_ble_eq_true rfl) (c_missP _ _ (LI_text hr) _) ?_
  rw [hm]
  refine V_is (L' := [(0, _), (2, _), (3, _), (4, _), (5, _)]) i_X10_put_23 (by decide) ⟨rfl, rfl, rfl, rfl, rfl, trivial⟩ ?_
  refine V_il i_X10_put_25 rfl ?_
  refine V_if_eq_t i_X10_put_27 rfl ?_
  refine V_al i_X10_put_37 rfl ?_
  refine V_il i_X10_put_39 rfl ?_
  refine P_callV1v i_X10_put_40 mi_X3_get (LI_text hr).1 ⟨_, _, rfl⟩ (by decide) (Nat.le_of_ble_eq_true rfl) (c_I_getN _ _ (s := s) (k := k) (LI_text hr) hs rfl hk hs6) ?_
  refine V_is (L' := [(2, _), (3, _), (4, _), (6, _)]) i_X10_put_43 (by decide) ⟨rfl, rfl, rfl, rfl, trivial⟩ ?_
  refine V_al i_X10_put_45 rfl ?_
  refine V_il i_X10_put_47 rfl ?_
  refine V_il i_X10_put_48 rfl ?_
  refine V_i2b i_X10_put_49 ?_
  refine P_callV2u i_X10_put_50 mi_X3_set (LI_text hr).1 ⟨_, _, rfl⟩ (by decide) (Nat.le_of_ble_eq_true rfl) (c_I_setN _ _ (s := s) (k := k) _ (LI_text hr) (hs) rfl hk hs6) ?_
  refine V_il i_X10_put_53 rfl ?_
  refine V_c i_X10_put_55 ?_
  refine V_iadd i_X10_put_58 ?_
  exact P_iret i_X10_put_59 rfl ⟨rfl, rfl, rfl⟩
set_option maxRecDepth 100000 in
set_option maxHeartbeats 4000000 in
theorem c_mk0 (I : IntM) (J : LngM) (hZ : ISz I) (y v : Int32) : CtP 3 m_X10_makeAnew [.ref 0, .null, .int y, .int v] I J (QC I J (.int (-1)) none none none) := by
  refine CtP_of (by decide) rfl (Nat.le_of_ble_eq_true rfl) ?_
  refine V_alN i_X10_makeAnew_0 rfl ?_
  refine V_ifnullN i_X10_makeAnew_1 ?_
  refine V_c i_X10_makeAnew_10 ?_
  exact P_iret i_X10_makeAnew_11 rfl ⟨rfl, I, J, FrC.rf, hZ, rfl, rfl⟩
set_option maxRecDepth 100000 in
set_option maxHeartbeats 4000000 in
theorem c_mk1 (I : IntM) (J : LngM) (hZ : ISz I) {x : Nat} {y : Int32} (h : ¬ y ≤ 60) (v : Int32) : CtP 3 m_X10_makeAnew [.ref 0, .ref x, .int y, .int v] I J (QC I J (.int (-1)) none none none) := by
  refine CtP_of (by decide) rfl (Nat.le_of_ble_eq_true rfl) ?_
  refine V_al i_X10_makeAnew_0 rfl ?_
  refine V_ifnull i_X10_makeAnew_1 ?_
  refine V_il i_X10_makeAnew_4 rfl ?_
  refine V_c i_X10_makeAnew_5 ?_
  refine V_ic_le_f i_X10_makeAnew_7 h ?_
  refine V_c i_X10_makeAnew_10 ?_
  exact P_iret i_X10_makeAnew_11 rfl ⟨rfl, I, J, FrC.rf, hZ, rfl, rfl⟩
set_option maxRecDepth 100000 in
set_option maxHeartbeats 4000000 in
theorem c_mk2 (I : IntM) (J : LngM) (hZ : ISz I) {x : Nat} {y : Int32} (h : y < 0) (v : Int32) : CtP 3 m_X10_makeAnew [.ref 0, .ref x, .int y, .int v] I J (QC I J (.int (-3)) none none (some 5)) := by
  refine CtP_of (by decide) rfl (Nat.le_of_ble_eq_true rfl) ?_
  refine V_al i_X10_makeAnew_0 rfl ?_
  refine V_ifnull i_X10_makeAnew_1 ?_
  refine V_il i_X10_makeAnew_4 rfl ?_
  refine V_c i_X10_makeAnew_5 ?_
  refine V_ic_le_t i_X10_makeAnew_7 (Int32.le_iff_toInt_le.mpr (by have := Int32.lt_iff_toInt_lt.mp h; have e : (60 : Int32).toInt = 60 := rfl; have e2 : (0 : Int32).toInt = 0 := rfl; omega)) ?_
  refine V_il i_X10_makeAnew_12 rfl ?_
  refine V_if_ge_f i_X10_makeAnew_13 (fun q => Int32.not_lt.mpr q h) ?_
  refine V_al i_X10_makeAnew_16 rfl ?_
  refine V_c i_X10_makeAnew_17 ?_
  refine P_callV1v i_X10_makeAnew_18 mi_X10_refuse rfl ⟨_, _, rfl⟩ (by decide) (Nat.le_of_ble_eq_true rfl) (c_refuse I J (f := 5) (by decide)) ?_
  exact P_iret i_X10_makeAnew_21 rfl ⟨rfl, I, J, FrC.rf, hZ, rfl, rfl⟩
set_option maxRecDepth 100000 in
set_option maxHeartbeats 4000000 in
theorem c_mk3 (I : IntM) (J : LngM) {x s : Nat} (hL : LI x 60) (hs6 : s ≤ 60) (v : Int32) : CtV 3 m_X10_makeAnew [.ref 0, .ref x, .int (nI s), .int v] I J (.int (nI s)) (fillI (uI I x 1 (nI s)) (x + 1) s v) J := by
  refine CtV_of (by decide) rfl (Nat.le_of_ble_eq_true rfl) ?_
  refine V_al i_X10_makeAnew_0 rfl ?_
  refine V_ifnull i_X10_makeAnew_1 ?_
  refine V_il i_X10_makeAnew_4 rfl ?_
  refine V_c i_X10_makeAnew_5 ?_
  refine V_ic_le_t i_X10_makeAnew_7 (nI_le hs6 (by decide)) ?_
  refine V_il i_X10_makeAnew_12 rfl ?_
  refine V_if_ge_t i_X10_makeAnew_13 (nI_pos' (by omega)) ?_
  refine V_al i_X10_makeAnew_22 rfl ?_
  refine V_il i_X10_makeAnew_23 rfl ?_
  refine V_il i_X10_makeAnew_24 rfl ?_
  refine P_callV2u i_X10_makeAnew_25 mi_X3_reset hL.1 ⟨_, _, rfl⟩ (by decide) (Nat.le_of_ble_eq_true rfl) (c_I_reset I J hL hs6 v) ?_
  refine V_il i_X10_makeAnew_28 rfl ?_
  exact P_iret i_X10_makeAnew_29 rfl ⟨rfl, rfl, rfl⟩
set_option maxRecDepth 100000 in
set_option maxHeartbeats 4000000 in
theorem c_row0 (I : IntM) (J : LngM) (hZ : ISz I) {x y : Int32} (h : hasC 6 x = 0) : CtP 4 m_X10_row [.ref 0, .int x, .int y] I J (QC I J (.int (-1)) none none none) := by
  refine CtP_of (by decide) rfl (Nat.le_of_ble_eq_true rfl) ?_
  refine V_al i_X10_row_0 rfl ?_
  refine V_al i_X10_row_1 rfl ?_
  refine V_getR i_X10_row_2 rfl rfl ?_
  refine V_il i_X10_row_5 rfl ?_
  refine P_callS2v i_X10_row_6 ms_X10_pick (by decide) (Nat.le_of_ble_eq_true rfl) (c_pick0 _ _ (a := 1) (N := 6) rfl (by decide) h) ?_
  refine V_il i_X10_row_9 rfl ?_
  refine V_c i_X10_row_10 ?_
  refine P_callV3 i_X10_row_11 mi_X10_makeAnew rfl ⟨_, _, rfl⟩ (by decide) (Nat.le_of_ble_eq_true rfl) (c_mk0 I J hZ _ _) (fun r I1 J1 q => ?_)
  obtain ⟨rfl, q2⟩ := q
  exact P_iret i_X10_row_14 rfl ⟨rfl, q2⟩
set_option maxRecDepth 100000 in
set_option maxHeartbeats 4000000 in
theorem c_row1 (I : IntM) (J : LngM) (hZ : ISz I) {r : Nat} {y : Int32} (hr : r < 6) (h : ¬ y ≤ 60) : CtP 4 m_X10_row [.ref 0, .int (nI r), .int y] I J (QC I J (.int (-1)) none none none) := by
  refine CtP_of (by decide) rfl (Nat.le_of_ble_eq_true rfl) ?_
  refine V_al i_X10_row_0 rfl ?_
  refine V_al i_X10_row_1 rfl ?_
  refine V_getR i_X10_row_2 rfl rfl ?_
  refine V_il i_X10_row_5 rfl ?_
  refine P_callS2v i_X10_row_6 ms_X10_pick (by decide) (Nat.le_of_ble_eq_true rfl) (c_pick _ _ (a := 1) (N := 6) (k := r) rfl (by decide) hr (RF_row hr)) ?_
  refine V_il i_X10_row_9 rfl ?_
  refine V_c i_X10_row_10 ?_
  refine P_callV3 i_X10_row_11 mi_X10_makeAnew rfl ⟨_, _, rfl⟩ (by decide) (Nat.le_of_ble_eq_true rfl) (c_mk1 I J hZ h _) (fun r I1 J1 q => ?_)
  obtain ⟨rfl, q2⟩ := q
  exact P_iret i_X10_row_14 rfl ⟨rfl, q2⟩
set_option maxRecDepth 100000 in
set_option maxHeartbeats 4000000 in
theorem c_row2 (I : IntM) (J : LngM) (hZ : ISz I) {r : Nat} {y : Int32} (hr : r < 6) (h : y < 0) : CtP 4 m_X10_row [.ref 0, .int (nI r), .int y] I J (QC I J (.int (-3)) none none (some 5)) := by
  refine CtP_of (by decide) rfl (Nat.le_of_ble_eq_true rfl) ?_
  refine V_al i_X10_row_0 rfl ?_
  refine V_al i_X10_row_1 rfl ?_
  refine V_getR i_X10_row_2 rfl rfl ?_
  refine V_il i_X10_row_5 rfl ?_
  refine P_callS2v i_X10_row_6 ms_X10_pick (by decide) (Nat.le_of_ble_eq_true rfl) (c_pick _ _ (a := 1) (N := 6) (k := r) rfl (by decide) hr (RF_row hr)) ?_
  refine V_il i_X10_row_9 rfl ?_
  refine V_c i_X10_row_10 ?_
  refine P_callV3 i_X10_row_11 mi_X10_makeAnew rfl ⟨_, _, rfl⟩ (by decide) (Nat.le_of_ble_eq_true rfl) (c_mk2 I J hZ h _) (fun r I1 J1 q => ?_)
  obtain ⟨rfl, q2⟩ := q
  exact P_iret i_X10_row_14 rfl ⟨rfl, q2⟩
set_option maxRecDepth 100000 in
set_option maxHeartbeats 4000000 in
theorem c_row3 (I : IntM) (J : LngM) {r s : Nat} (hr : r < 6) (hs6 : s ≤ 60) : CtV 4 m_X10_row [.ref 0, .int (nI r), .int (nI s)] I J (.int (nI s)) (fillI (uI I (111 + 2 * r) 1 (nI s)) (111 + 2 * r + 1) s 0) J := by
  refine CtV_of (by decide) rfl (Nat.le_of_ble_eq_true rfl) ?_
  refine V_al i_X10_row_0 rfl ?_
  refine V_al i_X10_row_1 rfl ?_
  refine V_getR i_X10_row_2 rfl rfl ?_
  refine V_il i_X10_row_5 rfl ?_
  refine P_callS2v i_X10_row_6 ms_X10_pick (by decide) (Nat.le_of_ble_eq_true rfl) (c_pick _ _ (a := 1) (N := 6) (k := r) rfl (by decide) hr (RF_row hr)) ?_
  refine V_il i_X10_row_9 rfl ?_
  refine V_c i_X10_row_10 ?_
  refine P_callV3v i_X10_row_11 mi_X10_makeAnew rfl ⟨_, _, rfl⟩ (by decide) (Nat.le_of_ble_eq_true rfl) (c_mk3 I J (LI_row hr) hs6 0) ?_
  exact P_iret i_X10_row_14 rfl ⟨rfl, rfl, rfl⟩
set_option maxRecDepth 100000 in
set_option maxHeartbeats 4000000 in
theorem c_text0 (I : IntM) (J : LngM) (hZ : ISz I) {x y : Int32} (h : hasC 4 x = 0) : CtP 4 m_X10_text [.ref 0, .int x, .int y] I J (QC I J (.int (-1)) none none none) := by
  refine CtP_of (by decide) rfl (Nat.le_of_ble_eq_true rfl) ?_
  refine V_al i_X10_text_0 rfl ?_
  refine V_al i_X10_text_1 rfl ?_
  refine V_getR i_X10_text_2 rfl rfl ?_
  refine V_il i_X10_text_5 rfl ?_
  refine P_callS2v i_X10_text_6 ms_X10_pick (by decide) (Nat.le_of_ble_eq_true rfl) (c_pick0 _ _ (a := 2) (N := 4) rfl (by decide) h) ?_
  refine V_il i_X10_text_9 rfl ?_
  refine V_c i_X10_text_10 ?_
  refine P_callV3 i_X10_text_12 mi_X10_makeAnew rfl ⟨_, _, rfl⟩ (by decide) (Nat.le_of_ble_eq_true rfl) (c_mk0 I J hZ _ _) (fun r I1 J1 q => ?_)
  obtain ⟨rfl, q2⟩ := q
  exact P_iret i_X10_text_15 rfl ⟨rfl, q2⟩
set_option maxRecDepth 100000 in
set_option maxHeartbeats 4000000 in
theorem c_text1 (I : IntM) (J : LngM) (hZ : ISz I) {r : Nat} {y : Int32} (hr : r < 4) (h : ¬ y ≤ 60) : CtP 4 m_X10_text [.ref 0, .int (nI r), .int y] I J (QC I J (.int (-1)) none none none) := by
  refine CtP_of (by decide) rfl (Nat.le_of_ble_eq_true rfl) ?_
  refine V_al i_X10_text_0 rfl ?_
  refine V_al i_X10_text_1 rfl ?_
  refine V_getR i_X10_text_2 rfl rfl ?_
  refine V_il i_X10_text_5 rfl ?_
  refine P_callS2v i_X10_text_6 ms_X10_pick (by decide) (Nat.le_of_ble_eq_true rfl) (c_pick _ _ (a := 2) (N := 4) (k := r) rfl (by decide) hr (RF_text hr)) ?_
  refine V_il i_X10_text_9 rfl ?_
  refine V_c i_X10_text_10 ?_
  refine P_callV3 i_X10_text_12 mi_X10_makeAnew rfl ⟨_, _, rfl⟩ (by decide) (Nat.le_of_ble_eq_true rfl) (c_mk1 I J hZ h _) (fun r I1 J1 q => ?_)
  obtain ⟨rfl, q2⟩ := q
  exact P_iret i_X10_text_15 rfl ⟨rfl, q2⟩
set_option maxRecDepth 100000 in
set_option maxHeartbeats 4000000 in
theorem c_text2 (I : IntM) (J : LngM) (hZ : ISz I) {r : Nat} {y : Int32} (hr : r < 4) (h : y < 0) : CtP 4 m_X10_text [.ref 0, .int (nI r), .int y] I J (QC I J (.int (-3)) none none (some 5)) := by
  refine CtP_of (by decide) rfl (Nat.le_of_ble_eq_true rfl) ?_
  refine V_al i_X10_text_0 rfl ?_
  refine V_al i_X10_text_1 rfl ?_
  refine V_getR i_X10_text_2 rfl rfl ?_
  refine V_il i_X10_text_5 rfl ?_
  refine P_callS2v i_X10_text_6 ms_X10_pick (by decide) (Nat.le_of_ble_eq_true rfl) (c_pick _ _ (a := 2) (N := 4) (k := r) rfl (by decide) hr (RF_text hr)) ?_
  refine V_il i_X10_text_9 rfl ?_
  refine V_c i_X10_text_10 ?_
  refine P_callV3 i_X10_text_12 mi_X10_makeAnew rfl ⟨_, _, rfl⟩ (by decide) (Nat.le_of_ble_eq_true rfl) (c_mk2 I J hZ h _) (fun r I1 J1 q => ?_)
  obtain ⟨rfl, q2⟩ := q
  exact P_iret i_X10_text_15 rfl ⟨rfl, q2⟩
set_option maxRecDepth 100000 in
set_option maxHeartbeats 4000000 in
theorem c_text3 (I : IntM) (J : LngM) {r s : Nat} (hr : r < 4) (hs6 : s ≤ 60) : CtV 4 m_X10_text [.ref 0, .int (nI r), .int (nI s)] I J (.int (nI s)) (fillI (uI I (123 + 2 * r) 1 (nI s)) (123 + 2 * r + 1) s 32) J := by
  refine CtV_of (by decide) rfl (Nat.le_of_ble_eq_true rfl) ?_
  refine V_al i_X10_text_0 rfl ?_
  refine V_al i_X10_text_1 rfl ?_
  refine V_getR i_X10_text_2 rfl rfl ?_
  refine V_il i_X10_text_5 rfl ?_
  refine P_callS2v i_X10_text_6 ms_X10_pick (by decide) (Nat.le_of_ble_eq_true rfl) (c_pick _ _ (a := 2) (N := 4) (k := r) rfl (by decide) hr (RF_text hr)) ?_
  refine V_il i_X10_text_9 rfl ?_
  refine V_c i_X10_text_10 ?_
  refine P_callV3v i_X10_text_12 mi_X10_makeAnew rfl ⟨_, _, rfl⟩ (by decide) (Nat.le_of_ble_eq_true rfl) (c_mk3 I J (LI_text hr) hs6 32) ?_
  exact P_iret i_X10_text_15 rfl ⟨rfl, rfl, rfl⟩
def fillR (I : IntM) (c o m : Nat) (v : Int32) : IntM := fun y k => if y = c ∧ o ≤ k ∧ k < o + m then v else I y k
theorem fillR_0 (I : IntM) (c o : Nat) (v : Int32) : fillR I c o 0 v = I := by
  funext y k
  unfold fillR
  rw [if_neg (by omega)]
theorem fillR_s (I : IntM) (c o m : Nat) (v : Int32) : uI (fillR I c o m v) c (o + m) v = fillR I c o (m + 1) v := by
  funext y k
  unfold uI fillR
  by_cases h : y = c ∧ k = o + m
  · rw [if_pos (by obtain ⟨rfl, rfl⟩ := h; first | exact ⟨rfl, rfl⟩ | rfl), if_pos (by omega)]
  · rw [if_neg (by first | exact h | (intro q; cases q; exact h ⟨rfl, rfl⟩))]
    by_cases h2 : y = c ∧ o ≤ k ∧ k < o + m
    · rw [if_pos h2, if_pos (by omega)]
    · rw [if_neg h2, if_neg (by omega)]
set_option maxRecDepth 100000 in
set_option maxHeartbeats 4000000 in
theorem lp_M_mk_row (I : IntM) (J : LngM) {r s : Nat} (hr : r < 6) (Q : Option Value → IntM → LngM → Prop) (hq : Q none (fillR I 149 (60 * r) 60 0) J) : VP m_X11_makeRow 1 9 [(0, .ref 146), (1, .int (nI r)), (3, .int 0)] [] I J Q := by
  have key : ∀ i, i ≤ 60 → VP m_X11_makeRow 1 9 [(0, .ref 146), (1, .int (nI r)), (3, .int (nI i))] [] (fillR I 149 (60 * r) i 0) J Q := by
    refine down 60 ?_ (fun i hi ih => ?_)
    · refine V_il i_X11_makeRow_9 rfl ?_
      refine V_c i_X11_makeRow_10 ?_
      refine V_ic_ge_t i_X11_makeRow_12 (Int32.le_refl _) ?_
      exact P_vret i_X11_makeRow_33 rfl hq
    · refine V_il i_X11_makeRow_9 rfl ?_
      refine V_c i_X11_makeRow_10 ?_
      refine V_ic_ge_f i_X11_makeRow_12 (nI_ge (show i < 60 by omega) (by decide)) ?_
      refine V_al i_X11_makeRow_15 rfl ?_
      refine V_getR i_X11_makeRow_16 rfl rfl ?_
      refine V_c i_X11_makeRow_19 ?_
      refine V_il i_X11_makeRow_21 rfl ?_
      refine V_imul i_X11_makeRow_22 ?_
      refine V_il i_X11_makeRow_23 rfl ?_
      refine V_iadd i_X11_makeRow_24 ?_
      refine V_c i_X11_makeRow_25 ?_
      refine K_iast (60 * r + i) i_X11_makeRow_26 rfl (by rw [show (60 : Int32) = nI 60 from rfl, nI_mul, nI_add]) (by omega) (by omega) ?_
      refine V_iinc (L' := [(0, _), (1, _), (3, _)]) (n' := 1) i_X11_makeRow_27 (by decide) rfl (by decide) ⟨rfl, rfl, rfl, trivial⟩ ?_
      refine V_goto i_X11_makeRow_30 ?_
      refine V_L (L' := [(0, _), (1, _), (3, _)]) ⟨rfl, rfl, rfl, trivial⟩ ?_
      rw [show nI i + 1 = nI (i + 1) from nI_1 i, fillR_s]
      exact ih
  have h0 := key 0 (Nat.zero_le _)
  rw [fillR_0] at h0
  exact h0
set_option maxRecDepth 100000 in
set_option maxHeartbeats 4000000 in
theorem lp_M_mk_text (I : IntM) (J : LngM) {r s : Nat} (hr : r < 4) (Q : Option Value → IntM → LngM → Prop) (hq : Q (some (.int (nI s))) (fillR I 151 (60 * r) 60 32) J) : VP m_X11_text 3 34 [(0, .ref 146), (1, .int (nI r)), (2, .int (nI s)), (3, .int 0)] [] I J Q := by
  have key : ∀ i, i ≤ 60 → VP m_X11_text 3 34 [(0, .ref 146), (1, .int (nI r)), (2, .int (nI s)), (3, .int (nI i))] [] (fillR I 151 (60 * r) i 32) J Q := by
    refine down 60 ?_ (fun i hi ih => ?_)
    · refine V_il i_X11_text_34 rfl ?_
      refine V_c i_X11_text_35 ?_
      refine V_ic_ge_t i_X11_text_37 (Int32.le_refl _) ?_
      refine V_il i_X11_text_59 rfl ?_
      exact P_iret i_X11_text_60 rfl hq
    · refine V_il i_X11_text_34 rfl ?_
      refine V_c i_X11_text_35 ?_
      refine V_ic_ge_f i_X11_text_37 (nI_ge (show i < 60 by omega) (by decide)) ?_
      refine V_al i_X11_text_40 rfl ?_
      refine V_getR i_X11_text_41 rfl rfl ?_
      refine V_c i_X11_text_44 ?_
      refine V_il i_X11_text_46 rfl ?_
      refine V_imul i_X11_text_47 ?_
      refine V_il i_X11_text_48 rfl ?_
      refine V_iadd i_X11_text_49 ?_
      refine V_c i_X11_text_50 ?_
      refine K_iast (60 * r + i) i_X11_text_52 rfl (by rw [show (60 : Int32) = nI 60 from rfl, nI_mul, nI_add]) (by omega) (by omega) ?_
      refine V_iinc (L' := [(0, _), (1, _), (2, _), (3, _)]) (n' := 1) i_X11_text_53 (by decide) rfl (by decide) ⟨rfl, rfl, rfl, rfl, trivial⟩ ?_
      refine V_goto i_X11_text_56 ?_
      refine V_L (L' := [(0, _), (1, _), (2, _), (3, _)]) ⟨rfl, rfl, rfl, rfl, trivial⟩ ?_
      rw [show nI i + 1 = nI (i + 1) from nI_1 i, fillR_s]
      exact ih
  have h0 := key 0 (Nat.zero_le _)
  rw [fillR_0] at h0
  exact h0
set_option maxRecDepth 100000 in
set_option maxHeartbeats 4000000 in
theorem c_M_makeRow (I : IntM) (J : LngM) {r s : Nat} (hr : r < 6) : CtU 1 m_X11_makeRow [.ref 146, .int (nI r), .int (nI s)] I J (fillR (uI I 148 r (nI s)) 149 (60 * r) 60 0) J := by
  refine CtU_of (by decide) rfl (Nat.le_of_ble_eq_true rfl) ?_
  refine V_al i_X11_makeRow_0 rfl ?_
  refine V_getR i_X11_makeRow_1 rfl rfl ?_
  refine V_il i_X11_makeRow_4 rfl ?_
  refine V_il i_X11_makeRow_5 rfl ?_
  refine K_iast r i_X11_makeRow_6 rfl rfl hr (by omega) ?_
  refine V_c i_X11_makeRow_7 ?_
  refine V_is (L' := [(0, _), (1, _), (3, _)]) i_X11_makeRow_8 (by decide) ⟨rfl, rfl, rfl, trivial⟩ ?_
  refine V_L (L' := [(0, _), (1, _), (3, _)]) ⟨rfl, rfl, rfl, trivial⟩ ?_
  exact lp_M_mk_row _ J (s := s) hr _ ⟨rfl, rfl, rfl⟩
set_option maxRecDepth 100000 in
set_option maxHeartbeats 4000000 in
theorem m_row0 (I : IntM) (J : LngM) {x y : Int32} (h : hasC 6 x = 0) : CtP 3 m_X11_row [.ref 146, .int x, .int y] I J (QM I J (.int (-1)) none none none) := by
  refine CtP_of (by decide) rfl (Nat.le_of_ble_eq_true rfl) ?_
  refine V_il i_X11_row_0 rfl ?_
  refine P_callS1v i_X11_row_1 ms_X11_isRow (by decide) (Nat.le_of_ble_eq_true rfl) (c_M_isRow _ _ _) ?_
  refine V_if_eq_t i_X11_row_4 h ?_
  refine V_c i_X11_row_13 ?_
  exact P_iret i_X11_row_14 rfl ⟨rfl, I, J, FrM.rf, rfl, rfl⟩
set_option maxRecDepth 100000 in
set_option maxHeartbeats 4000000 in
theorem m_row1 (I : IntM) (J : LngM) {r : Nat} {y : Int32} (hr : r < 6) (h : ¬ y ≤ 60) : CtP 3 m_X11_row [.ref 146, .int (nI r), .int y] I J (QM I J (.int (-1)) none none none) := by
  refine CtP_of (by decide) rfl (Nat.le_of_ble_eq_true rfl) ?_
  refine V_il i_X11_row_0 rfl ?_
  refine P_callS1v i_X11_row_1 ms_X11_isRow (by decide) (Nat.le_of_ble_eq_true rfl) (c_M_isRow _ _ _) ?_
  refine V_if_eq_f i_X11_row_4 (by rw [hasN_nI (by decide) hr]; decide) ?_
  refine V_il i_X11_row_7 rfl ?_
  refine V_c i_X11_row_8 ?_
  refine V_ic_le_f i_X11_row_10 h ?_
  refine V_c i_X11_row_13 ?_
  exact P_iret i_X11_row_14 rfl ⟨rfl, I, J, FrM.rf, rfl, rfl⟩
set_option maxRecDepth 100000 in
set_option maxHeartbeats 4000000 in
theorem m_row2 (I : IntM) (J : LngM) {r : Nat} {y : Int32} (hr : r < 6) (h : y < 0) : CtP 3 m_X11_row [.ref 146, .int (nI r), .int y] I J (QM I J (.int (-3)) none none (some 5)) := by
  refine CtP_of (by decide) rfl (Nat.le_of_ble_eq_true rfl) ?_
  refine V_il i_X11_row_0 rfl ?_
  refine P_callS1v i_X11_row_1 ms_X11_isRow (by decide) (Nat.le_of_ble_eq_true rfl) (c_M_isRow _ _ _) ?_
  refine V_if_eq_f i_X11_row_4 (by rw [hasN_nI (by decide) hr]; decide) ?_
  refine V_il i_X11_row_7 rfl ?_
  refine V_c i_X11_row_8 ?_
  refine V_ic_le_t i_X11_row_10 (Int32.le_iff_toInt_le.mpr (by have := Int32.lt_iff_toInt_lt.mp h; have e : (60 : Int32).toInt = 60 := rfl; have e2 : (0 : Int32).toInt = 0 := rfl; omega)) ?_
  refine V_il i_X11_row_15 rfl ?_
  refine V_if_ge_f i_X11_row_16 (fun q => Int32.not_lt.mpr q h) ?_
  refine V_al i_X11_row_19 rfl ?_
  refine V_c i_X11_row_20 ?_
  refine P_callV1v i_X11_row_21 mi_X11_found rfl ⟨_, _, rfl⟩ (by decide) (Nat.le_of_ble_eq_true rfl) (c_M_found I J (f := 5) (by decide)) ?_
  exact P_iret i_X11_row_24 rfl ⟨rfl, I, J, FrM.rf, rfl, rfl⟩
set_option maxRecDepth 100000 in
set_option maxHeartbeats 4000000 in
theorem m_text0 (I : IntM) (J : LngM) {x y : Int32} (h : hasC 4 x = 0) : CtP 3 m_X11_text [.ref 146, .int x, .int y] I J (QM I J (.int (-1)) none none none) := by
  refine CtP_of (by decide) rfl (Nat.le_of_ble_eq_true rfl) ?_
  refine V_il i_X11_text_0 rfl ?_
  refine P_callS1v i_X11_text_1 ms_X11_isText (by decide) (Nat.le_of_ble_eq_true rfl) (c_M_isText _ _ _) ?_
  refine V_if_eq_t i_X11_text_4 h ?_
  refine V_c i_X11_text_13 ?_
  exact P_iret i_X11_text_14 rfl ⟨rfl, I, J, FrM.rf, rfl, rfl⟩
set_option maxRecDepth 100000 in
set_option maxHeartbeats 4000000 in
theorem m_text1 (I : IntM) (J : LngM) {r : Nat} {y : Int32} (hr : r < 4) (h : ¬ y ≤ 60) : CtP 3 m_X11_text [.ref 146, .int (nI r), .int y] I J (QM I J (.int (-1)) none none none) := by
  refine CtP_of (by decide) rfl (Nat.le_of_ble_eq_true rfl) ?_
  refine V_il i_X11_text_0 rfl ?_
  refine P_callS1v i_X11_text_1 ms_X11_isText (by decide) (Nat.le_of_ble_eq_true rfl) (c_M_isText _ _ _) ?_
  refine V_if_eq_f i_X11_text_4 (by rw [hasN_nI (by decide) hr]; decide) ?_
  refine V_il i_X11_text_7 rfl ?_
  refine V_c i_X11_text_8 ?_
  refine V_ic_le_f i_X11_text_10 h ?_
  refine V_c i_X11_text_13 ?_
  exact P_iret i_X11_text_14 rfl ⟨rfl, I, J, FrM.rf, rfl, rfl⟩
set_option maxRecDepth 100000 in
set_option maxHeartbeats 4000000 in
theorem m_text2 (I : IntM) (J : LngM) {r : Nat} {y : Int32} (hr : r < 4) (h : y < 0) : CtP 3 m_X11_text [.ref 146, .int (nI r), .int y] I J (QM I J (.int (-3)) none none (some 5)) := by
  refine CtP_of (by decide) rfl (Nat.le_of_ble_eq_true rfl) ?_
  refine V_il i_X11_text_0 rfl ?_
  refine P_callS1v i_X11_text_1 ms_X11_isText (by decide) (Nat.le_of_ble_eq_true rfl) (c_M_isText _ _ _) ?_
  refine V_if_eq_f i_X11_text_4 (by rw [hasN_nI (by decide) hr]; decide) ?_
  refine V_il i_X11_text_7 rfl ?_
  refine V_c i_X11_text_8 ?_
  refine V_ic_le_t i_X11_text_10 (Int32.le_iff_toInt_le.mpr (by have := Int32.lt_iff_toInt_lt.mp h; have e : (60 : Int32).toInt = 60 := rfl; have e2 : (0 : Int32).toInt = 0 := rfl; omega)) ?_
  refine V_il i_X11_text_15 rfl ?_
  refine V_if_ge_f i_X11_text_16 (fun q => Int32.not_lt.mpr q h) ?_
  refine V_al i_X11_text_19 rfl ?_
  refine V_c i_X11_text_20 ?_
  refine P_callV1v i_X11_text_21 mi_X11_found rfl ⟨_, _, rfl⟩ (by decide) (Nat.le_of_ble_eq_true rfl) (c_M_found I J (f := 5) (by decide)) ?_
  exact P_iret i_X11_text_24 rfl ⟨rfl, I, J, FrM.rf, rfl, rfl⟩
set_option maxRecDepth 100000 in
set_option maxHeartbeats 4000000 in
theorem m_row3 (I : IntM) (J : LngM) {r s : Nat} (hr : r < 6) (hs6 : s ≤ 60) : CtV 3 m_X11_row [.ref 146, .int (nI r), .int (nI s)] I J (.int (nI s)) (fillR (uI I 148 r (nI s)) 149 (60 * r) 60 0) J := by
  refine CtV_of (by decide) rfl (Nat.le_of_ble_eq_true rfl) ?_
  refine V_il i_X11_row_0 rfl ?_
  refine P_callS1v i_X11_row_1 ms_X11_isRow (by decide) (Nat.le_of_ble_eq_true rfl) (c_M_isRow _ _ _) ?_
  refine V_if_eq_f i_X11_row_4 (by rw [hasN_nI (by decide) hr]; decide) ?_
  refine V_il i_X11_row_7 rfl ?_
  refine V_c i_X11_row_8 ?_
  refine V_ic_le_t i_X11_row_10 (nI_le hs6 (by decide)) ?_
  refine V_il i_X11_row_15 rfl ?_
  refine V_if_ge_t i_X11_row_16 (nI_pos' (by omega)) ?_
  refine V_al i_X11_row_25 rfl ?_
  refine V_il i_X11_row_26 rfl ?_
  refine V_il i_X11_row_27 rfl ?_
  refine P_callV2u i_X11_row_28 mi_X11_makeRow rfl ⟨_, _, rfl⟩ (by decide) (Nat.le_of_ble_eq_true rfl) (c_M_makeRow I J hr) ?_
  refine V_il i_X11_row_31 rfl ?_
  exact P_iret i_X11_row_32 rfl ⟨rfl, rfl, rfl⟩
set_option maxRecDepth 100000 in
set_option maxHeartbeats 4000000 in
theorem m_text3 (I : IntM) (J : LngM) {r s : Nat} (hr : r < 4) (hs6 : s ≤ 60) : CtV 3 m_X11_text [.ref 146, .int (nI r), .int (nI s)] I J (.int (nI s)) (fillR (uI I 150 r (nI s)) 151 (60 * r) 60 32) J := by
  refine CtV_of (by decide) rfl (Nat.le_of_ble_eq_true rfl) ?_
  refine V_il i_X11_text_0 rfl ?_
  refine P_callS1v i_X11_text_1 ms_X11_isText (by decide) (Nat.le_of_ble_eq_true rfl) (c_M_isText _ _ _) ?_
  refine V_if_eq_f i_X11_text_4 (by rw [hasN_nI (by decide) hr]; decide) ?_
  refine V_il i_X11_text_7 rfl ?_
  refine V_c i_X11_text_8 ?_
  refine V_ic_le_t i_X11_text_10 (nI_le hs6 (by decide)) ?_
  refine V_il i_X11_text_15 rfl ?_
  refine V_if_ge_t i_X11_text_16 (nI_pos' (by omega)) ?_
  refine V_al i_X11_text_25 rfl ?_
  refine V_getR i_X11_text_26 rfl rfl ?_
  refine V_il i_X11_text_29 rfl ?_
  refine V_il i_X11_text_30 rfl ?_
  refine K_iast r i_X11_text_31 rfl rfl hr (by omega) ?_
  refine V_c i_X11_text_32 ?_
  refine V_is (L' := [(0, _), (1, _), (2, _), (3, _)]) i_X11_text_33 (by decide) ⟨rfl, rfl, rfl, rfl, trivial⟩ ?_
  refine V_L (L' := [(0, _), (1, _), (2, _), (3, _)]) ⟨rfl, rfl, rfl, rfl, trivial⟩ ?_
  exact lp_M_mk_text _ J (s := s) hr _ ⟨rfl, rfl, rfl⟩


/-! ===== small calls ===== -/
theorem le_pr {y : Int32} {m : Nat} (hm : m < 1000) (h : ¬ y < nI (m + 1)) : ¬ y ≤ nI m := fun q => h (by
  have a := Int32.le_iff_toInt_le.mp q
  rw [nI_toInt (by omega)] at a
  exact Int32.lt_iff_toInt_lt.mpr (by rw [nI_toInt (by omega)]; omega))
theorem days2 {y : Int32} {m : Nat} (hm : m < 2 ^ 31) (h1 : ¬ y < 1) (h2 : ¬ nI m < y) : ∃ d, 1 ≤ d ∧ d ≤ m ∧ y = nI d := by
  have a1 : ¬ y.toInt < 1 := fun q => h1 (Int32.lt_iff_toInt_lt.mpr q)
  have a2 : ¬ (m : Int) < y.toInt := fun q => h2 (Int32.lt_iff_toInt_lt.mpr (by rw [nI_toInt hm]; exact q))
  refine ⟨y.toInt.toNat, by omega, by omega, ?_⟩
  apply Int32.toInt_inj.mp
  rw [nI_toInt (by omega)]
  omega
theorem in_no2 {y : Int32} {m : Nat} (hm : m < 2 ^ 31) (q : y < 1 ∨ nI m < y) : inL y.toInt64 1 (lN m) = 0 := by
  unfold inL
  rcases q with q | q
  · rw [if_pos (by rw [Int64.lt_iff_toInt_lt, Int32.toInt_toInt64]; exact Int32.lt_iff_toInt_lt.mp q)]
  · by_cases h : y.toInt64 < 1
    · rw [if_pos h]
    · rw [if_neg h, if_pos ((i2l_lit hm).mpr q)]
theorem Inv.co {I I2 : IntM} {J : LngM} {n : Nat} {kd nd od kd' nd' od' : Nat → Nat} {lw pot lw' pot' : Nat} (hP : InvP I J n kd nd od lw pot) (hT : ToI I J) (hZ : ISz I) (hI : ∀ x k, ¬ (8 ≤ x ∧ x ≤ 14) → ¬ (x = 146 ∧ 17 ≤ k ∧ k ≤ 19) → ¬ (154 ≤ x ∧ x ≤ 156) → I2 x k = I x k) (hC : CoI I2 n kd' nd' od' lw' pot') : Inv I2 J := by
  obtain ⟨h1, h2, h3, h4, h5, h6, h7, h8, h9⟩ := hP
  exact ⟨⟨n, kd', nd', od', lw', pot', hC, EvI.congr (fun x k q => hI x k (by omega) (by omega) (by omega)) (fun x k q => rfl) h2,
    fun c hc => KeI.congr h1.1.1 hc (fun x k q => hI x k (by omega) (by omega) (by omega)) (fun x k q => rfl) (h3 c hc),
    RoI.congr (fun x k q => hI x k (by omega) (by omega) (by omega)) h4, RoI.congr (fun x k q => hI x k (by omega) (by omega) (by omega)) h5, FiI.congr (fun x k q => hI x k (by omega) (by omega) (by omega)) h6,
    by rw [hI _ _ (by omega) (by omega) (by omega)]; exact h7, by rw [hI _ _ (by omega) (by omega) (by omega)]; exact h8, by rw [hI _ _ (by omega) (by omega) (by omega)]; exact h9⟩, ⟨by rw [hI _ _ (by omega) (by omega) (by omega), hI _ _ (by omega) (by omega) (by omega)]; exact hT.1, hT.2⟩, ISz.congr (fun x k q => hI x k (by omega) (by omega) (by omega)) hZ⟩

set_option maxRecDepth 100000 in
set_option maxHeartbeats 4000000 in
theorem c_asked (I : IntM) (J : LngM) : CtV 1 m_X10_asked [.ref 0] I J (.int (I 0 13)) I J := by
  refine CtV_of (by decide) rfl (Nat.le_of_ble_eq_true rfl) ?_
  refine V_al i_X10_asked_0 rfl ?_
  refine V_getI i_X10_asked_1 rfl ?_
  exact P_iret i_X10_asked_4 rfl ⟨rfl, rfl, rfl⟩
set_option maxRecDepth 100000 in
set_option maxHeartbeats 4000000 in
theorem m_asked (I : IntM) (J : LngM) : CtV 1 m_X11_asked [.ref 146] I J (.int (I 146 2)) I J := by
  refine CtV_of (by decide) rfl (Nat.le_of_ble_eq_true rfl) ?_
  refine V_al i_X11_asked_0 rfl ?_
  refine V_getI i_X11_asked_1 rfl ?_
  exact P_iret i_X11_asked_4 rfl ⟨rfl, rfl, rfl⟩
theorem p_asked {I : IntM} {J : LngM} (h : Inv I J) : Pair 1 m_X10_asked [.ref 0] 1 m_X11_asked [.ref 146] I J := by
  obtain ⟨n, kd, nd, od, lw, pot, hP, hK, hM⟩ := h.K
  have hc := c_asked I J
  rw [h.2.1.1] at hc
  exact Pair.m hc (m_asked I J) h
set_option maxRecDepth 100000 in
set_option maxHeartbeats 4000000 in
theorem c_finding (I : IntM) (J : LngM) : CtV 1 m_X10_finding [.ref 0] I J (.int (I 0 12)) I J := by
  refine CtV_of (by decide) rfl (Nat.le_of_ble_eq_true rfl) ?_
  refine V_al i_X10_finding_0 rfl ?_
  refine V_getI i_X10_finding_1 rfl ?_
  exact P_iret i_X10_finding_4 rfl ⟨rfl, rfl, rfl⟩
set_option maxRecDepth 100000 in
set_option maxHeartbeats 4000000 in
theorem m_finding (I : IntM) (J : LngM) : CtV 1 m_X11_finding [.ref 146] I J (.int (I 146 0)) I J := by
  refine CtV_of (by decide) rfl (Nat.le_of_ble_eq_true rfl) ?_
  refine V_al i_X11_finding_0 rfl ?_
  refine V_getI i_X11_finding_1 rfl ?_
  exact P_iret i_X11_finding_4 rfl ⟨rfl, rfl, rfl⟩
theorem p_finding {I : IntM} {J : LngM} (h : Inv I J) : Pair 1 m_X10_finding [.ref 0] 1 m_X11_finding [.ref 146] I J := by
  obtain ⟨n, kd, nd, od, lw, pot, hP, hK, hM⟩ := h.K
  have hc := c_finding I J
  rw [hP.2.2.2.2.2.1.1] at hc
  exact Pair.m hc (m_finding I J) h
set_option maxRecDepth 100000 in
set_option maxHeartbeats 4000000 in
theorem c_upper (I : IntM) (J : LngM) : CtV 1 m_X10_upper [.ref 0] I J (.long (J 0 14)) I J := by
  refine CtV_of (by decide) rfl (Nat.le_of_ble_eq_true rfl) ?_
  refine V_al i_X10_upper_0 rfl ?_
  refine V_getJ i_X10_upper_1 rfl ?_
  exact P_lret i_X10_upper_4 rfl ⟨rfl, rfl, rfl⟩
set_option maxRecDepth 100000 in
set_option maxHeartbeats 4000000 in
theorem m_upper (I : IntM) (J : LngM) : CtV 1 m_X11_upper [.ref 146] I J (.long (J 146 3)) I J := by
  refine CtV_of (by decide) rfl (Nat.le_of_ble_eq_true rfl) ?_
  refine V_al i_X11_upper_0 rfl ?_
  refine V_getJ i_X11_upper_1 rfl ?_
  exact P_lret i_X11_upper_4 rfl ⟨rfl, rfl, rfl⟩
theorem p_upper {I : IntM} {J : LngM} (h : Inv I J) : Pair 1 m_X10_upper [.ref 0] 1 m_X11_upper [.ref 146] I J := by
  obtain ⟨n, kd, nd, od, lw, pot, hP, hK, hM⟩ := h.K
  have hc := c_upper I J
  rw [h.2.1.2.1] at hc
  exact Pair.m hc (m_upper I J) h
set_option maxRecDepth 100000 in
set_option maxHeartbeats 4000000 in
theorem c_lower (I : IntM) (J : LngM) : CtV 1 m_X10_lower [.ref 0] I J (.long (J 0 15)) I J := by
  refine CtV_of (by decide) rfl (Nat.le_of_ble_eq_true rfl) ?_
  refine V_al i_X10_lower_0 rfl ?_
  refine V_getJ i_X10_lower_1 rfl ?_
  exact P_lret i_X10_lower_4 rfl ⟨rfl, rfl, rfl⟩
set_option maxRecDepth 100000 in
set_option maxHeartbeats 4000000 in
theorem m_lower (I : IntM) (J : LngM) : CtV 1 m_X11_lower [.ref 146] I J (.long (J 146 4)) I J := by
  refine CtV_of (by decide) rfl (Nat.le_of_ble_eq_true rfl) ?_
  refine V_al i_X11_lower_0 rfl ?_
  refine V_getJ i_X11_lower_1 rfl ?_
  exact P_lret i_X11_lower_4 rfl ⟨rfl, rfl, rfl⟩
theorem p_lower {I : IntM} {J : LngM} (h : Inv I J) : Pair 1 m_X10_lower [.ref 0] 1 m_X11_lower [.ref 146] I J := by
  obtain ⟨n, kd, nd, od, lw, pot, hP, hK, hM⟩ := h.K
  have hc := c_lower I J
  rw [h.2.1.2.2] at hc
  exact Pair.m hc (m_lower I J) h
set_option maxRecDepth 100000 in
set_option maxHeartbeats 4000000 in
theorem c_findings0 (I : IntM) (J : LngM) {x : Int32} (h : x < 1) : CtV 1 m_X10_findings [.ref 0, .int x] I J (.int (-1)) I J := by
  refine CtV_of (by decide) rfl (Nat.le_of_ble_eq_true rfl) ?_
  refine V_il i_X10_findings_0 rfl ?_
  refine V_c i_X10_findings_1 ?_
  refine V_ic_lt_t i_X10_findings_2 h ?_
  refine V_c i_X10_findings_14 ?_
  refine V_goto i_X10_findings_15 ?_
  exact P_iret i_X10_findings_24 rfl ⟨rfl, rfl, rfl⟩
set_option maxRecDepth 100000 in
set_option maxHeartbeats 4000000 in
theorem c_findings1 (I : IntM) (J : LngM) {x : Int32} (h1 : ¬ x < 1) (h : ¬ x < 6) : CtV 1 m_X10_findings [.ref 0, .int x] I J (.int (-1)) I J := by
  refine CtV_of (by decide) rfl (Nat.le_of_ble_eq_true rfl) ?_
  refine V_il i_X10_findings_0 rfl ?_
  refine V_c i_X10_findings_1 ?_
  refine V_ic_lt_f i_X10_findings_2 h1 ?_
  refine V_il i_X10_findings_5 rfl ?_
  refine V_al i_X10_findings_6 rfl ?_
  refine V_getR i_X10_findings_7 rfl rfl ?_
  refine V_alenI (v := nI _) i_X10_findings_10 rfl rfl ?_
  refine V_ic_lt_f i_X10_findings_11 h ?_
  refine V_c i_X10_findings_14 ?_
  refine V_goto i_X10_findings_15 ?_
  exact P_iret i_X10_findings_24 rfl ⟨rfl, rfl, rfl⟩
set_option maxRecDepth 100000 in
set_option maxHeartbeats 4000000 in
theorem c_findings2 (I : IntM) (J : LngM) {f : Nat} (hf0 : 1 ≤ f) (hf : f < 6) : CtV 1 m_X10_findings [.ref 0, .int (nI f)] I J (.int (I 110 f)) I J := by
  refine CtV_of (by decide) rfl (Nat.le_of_ble_eq_true rfl) ?_
  refine V_il i_X10_findings_0 rfl ?_
  refine V_c i_X10_findings_1 ?_
  refine V_ic_lt_f i_X10_findings_2 (nI_ge1 hf0 (by omega)) ?_
  refine V_il i_X10_findings_5 rfl ?_
  refine V_al i_X10_findings_6 rfl ?_
  refine V_getR i_X10_findings_7 rfl rfl ?_
  refine V_alenI (v := nI _) i_X10_findings_10 rfl rfl ?_
  refine V_ic_lt_t i_X10_findings_11 (nI_lt hf (by decide)) ?_
  refine V_al i_X10_findings_18 rfl ?_
  refine V_getR i_X10_findings_19 rfl rfl ?_
  refine V_il i_X10_findings_22 rfl ?_
  refine K_iald f i_X10_findings_23 rfl rfl hf (by omega) ?_
  exact P_iret i_X10_findings_24 rfl ⟨rfl, rfl, rfl⟩
set_option maxRecDepth 100000 in
set_option maxHeartbeats 4000000 in
theorem m_findings0 (I : IntM) (J : LngM) {x : Int32} (h : x < 1 ∨ 5 < x) : CtV 2 m_X11_findings [.ref 146, .int x] I J (.int (-1)) I J := by
  refine CtV_of (by decide) rfl (Nat.le_of_ble_eq_true rfl) ?_
  refine V_il i_X11_findings_0 rfl ?_
  refine V_i2l i_X11_findings_1 ?_
  refine V_cl i_X11_findings_2 ?_
  refine V_cl i_X11_findings_3 ?_
  refine P_callS3v i_X11_findings_6 ms_X11_in (by decide) (Nat.le_of_ble_eq_true rfl) (c_M_in _ _ _ _ _) ?_
  refine V_if_eq_t i_X11_findings_9 (in_no2 (m := 5) (by decide) h) ?_
  refine V_c i_X11_findings_21 ?_
  exact P_iret i_X11_findings_22 rfl ⟨rfl, rfl, rfl⟩
set_option maxRecDepth 100000 in
set_option maxHeartbeats 4000000 in
theorem m_findings2 (I : IntM) (J : LngM) {f : Nat} (hf0 : 1 ≤ f) (hf : f < 6) : CtV 2 m_X11_findings [.ref 146, .int (nI f)] I J (.int (I 147 f)) I J := by
  refine CtV_of (by decide) rfl (Nat.le_of_ble_eq_true rfl) ?_
  refine V_il i_X11_findings_0 rfl ?_
  refine V_i2l i_X11_findings_1 ?_
  refine V_cl i_X11_findings_2 ?_
  refine V_cl i_X11_findings_3 ?_
  refine P_callS3v i_X11_findings_6 ms_X11_in (by decide) (Nat.le_of_ble_eq_true rfl) (c_M_in _ _ _ _ _) ?_
  refine V_if_eq_f i_X11_findings_9 (by rw [show inL (nI f).toInt64 1 5 = 1 from in_yes (lo := 1) (hi := 5) hf0 (by omega) (by decide)]; decide) ?_
  refine V_al i_X11_findings_12 rfl ?_
  refine V_getR i_X11_findings_13 rfl rfl ?_
  refine V_il i_X11_findings_16 rfl ?_
  refine K_iald f i_X11_findings_17 rfl rfl hf (by omega) ?_
  refine V_goto i_X11_findings_18 ?_
  exact P_iret i_X11_findings_22 rfl ⟨rfl, rfl, rfl⟩
theorem p_findings {I : IntM} {J : LngM} (h : Inv I J) (x : Int32) : Pair 1 m_X10_findings [.ref 0, .int x] 2 m_X11_findings [.ref 146, .int x] I J := by
  obtain ⟨n, kd, nd, od, lw, pot, hP, hK, hM⟩ := h.K
  by_cases h1 : x < 1
  · exact Pair.m (c_findings0 I J h1) (m_findings0 I J (Or.inl h1)) h
  by_cases h2 : 5 < x
  · exact Pair.m (c_findings1 I J h1 (fun q => by
      have a := Int32.lt_iff_toInt_lt.mp q
      have b := Int32.lt_iff_toInt_lt.mp h2
      have e1 : (6 : Int32).toInt = 6 := rfl
      have e2 : (5 : Int32).toInt = 5 := rfl
      omega)) (m_findings0 I J (Or.inr h2)) h
  obtain ⟨f, hf0, hf, rfl⟩ := days2 (m := 5) (by decide) h1 h2
  have hc := c_findings2 I J hf0 (show f < 6 by omega)
  rw [hP.2.2.2.2.2.1.2 f (by omega)] at hc
  exact Pair.m hc (m_findings2 I J hf0 (by omega)) h
set_option maxRecDepth 100000 in
set_option maxHeartbeats 4000000 in
theorem c_law0 (I : IntM) (J : LngM) {n : Nat} {kd nd od : Nat → Nat} {lw pot : Nat} (hK : CK I n kd nd od lw pot) {x : Int32} (h : hasC 4 x = 0) : CtP 1 m_X10_law [.ref 0, .int x] I J (QC I J (.int (-1)) none none none) := by
  refine CtP_of (by decide) rfl (Nat.le_of_ble_eq_true rfl) ?_
  refine V_il i_X10_law_0 rfl ?_
  refine V_if_lt i_X10_law_1 (fun c1 => ?_) (fun c1 => ?_)
  · refine V_c i_X10_law_9 ?_
    exact P_iret i_X10_law_10 rfl ⟨rfl, I, J, FrC.rf, hK.Z, rfl, rfl⟩
  · refine V_il i_X10_law_4 rfl ?_
    refine V_c i_X10_law_5 ?_
    refine V_ic_lt_f i_X10_law_6 (hasC_no h c1) ?_
    refine V_c i_X10_law_9 ?_
    exact P_iret i_X10_law_10 rfl ⟨rfl, I, J, FrC.rf, hK.Z, rfl, rfl⟩
set_option maxRecDepth 100000 in
set_option maxHeartbeats 4000000 in
theorem c_law1 (I : IntM) (J : LngM) {n : Nat} {kd nd od : Nat → Nat} {lw pot : Nat} (hK : CK I n kd nd od lw pot) {l : Nat} (hl : l < 4) : CtV 1 m_X10_law [.ref 0, .int (nI l)] I J (.int (nI lw)) (uI I 8 4 (nI l)) J := by
  refine CtV_of (by decide) rfl (Nat.le_of_ble_eq_true rfl) ?_
  refine V_il i_X10_law_0 rfl ?_
  refine V_if_lt_f i_X10_law_1 (nI_pos (by omega)) ?_
  refine V_il i_X10_law_4 rfl ?_
  refine V_c i_X10_law_5 ?_
  refine V_ic_lt_t i_X10_law_6 (nI_lt hl (by decide)) ?_
  refine V_al i_X10_law_11 rfl ?_
  refine V_getR i_X10_law_12 rfl rfl ?_
  refine V_getI i_X10_law_15 rfl ?_
  rw [hK.lw]
  refine V_is (L' := [(0, _), (1, _), (2, _)]) i_X10_law_18 (by decide) ⟨rfl, rfl, rfl, trivial⟩ ?_
  refine V_al i_X10_law_19 rfl ?_
  refine V_getR i_X10_law_20 rfl rfl ?_
  refine V_il i_X10_law_23 rfl ?_
  refine V_putI i_X10_law_24 rfl ?_
  refine V_il i_X10_law_27 rfl ?_
  exact P_iret i_X10_law_28 rfl ⟨rfl, rfl, rfl⟩
set_option maxRecDepth 100000 in
set_option maxHeartbeats 4000000 in
theorem m_law0 (I : IntM) (J : LngM) {x : Int32} (h : hasC 4 x = 0) : CtP 2 m_X11_law [.ref 146, .int x] I J (QM I J (.int (-1)) none none none) := by
  refine CtP_of (by decide) rfl (Nat.le_of_ble_eq_true rfl) ?_
  refine V_il i_X11_law_0 rfl ?_
  refine V_i2l i_X11_law_1 ?_
  refine V_cl i_X11_law_2 ?_
  refine V_cl i_X11_law_3 ?_
  refine P_callS3v i_X11_law_6 ms_X11_in (by decide) (Nat.le_of_ble_eq_true rfl) (c_M_in _ _ _ _ _) ?_
  refine V_if_ne_f i_X11_law_9 (by rw [show (3 : Int64) = lN 3 from rfl, in_lit (by decide)]; exact h) ?_
  refine V_c i_X11_law_12 ?_
  exact P_iret i_X11_law_13 rfl ⟨rfl, I, J, FrM.rf, rfl, rfl⟩
set_option maxRecDepth 100000 in
set_option maxHeartbeats 4000000 in
theorem m_law1 (I : IntM) (J : LngM) {n : Nat} {kd nd od : Nat → Nat} {lw pot : Nat} (hK : MK I n kd nd od lw pot) {l : Nat} (hl : l < 4) : CtV 2 m_X11_law [.ref 146, .int (nI l)] I J (.int (nI lw)) (uI I 146 18 (nI l)) J := by
  refine CtV_of (by decide) rfl (Nat.le_of_ble_eq_true rfl) ?_
  refine V_il i_X11_law_0 rfl ?_
  refine V_i2l i_X11_law_1 ?_
  refine V_cl i_X11_law_2 ?_
  refine V_cl i_X11_law_3 ?_
  refine P_callS3v i_X11_law_6 ms_X11_in (by decide) (Nat.le_of_ble_eq_true rfl) (c_M_in _ _ _ _ _) ?_
  refine V_if_ne_t i_X11_law_9 (by rw [show (3 : Int64) = lN 3 from rfl, in_lit (by decide), hasN_nI (by decide) hl]; decide) ?_
  refine V_al i_X11_law_14 rfl ?_
  refine V_getI i_X11_law_15 rfl ?_
  rw [hK.lw]
  refine V_is (L' := [(0, _), (1, _), (2, _)]) i_X11_law_18 (by decide) ⟨rfl, rfl, rfl, trivial⟩ ?_
  refine V_al i_X11_law_19 rfl ?_
  refine V_il i_X11_law_20 rfl ?_
  refine V_putI i_X11_law_21 rfl ?_
  refine V_il i_X11_law_24 rfl ?_
  exact P_iret i_X11_law_25 rfl ⟨rfl, rfl, rfl⟩
theorem p_law {I : IntM} {J : LngM} (h : Inv I J) (x : Int32) : Pair 1 m_X10_law [.ref 0, .int x] 2 m_X11_law [.ref 146, .int x] I J := by
  obtain ⟨n, kd, nd, od, lw, pot, hP, hK, hM⟩ := h.K
  by_cases hx : hasC 4 x = 0
  · exact Pair.q h (fun _ => no_f) (c_law0 I J hK hx) (fun I1 J1 e1 e2 => m_law0 I1 J1 hx)
  · obtain ⟨l, hl, rfl⟩ := hasN_yes (by decide) hx
    refine Pair.m (c_law1 I J hK hl) (m_law1 _ J (hM (uI I 8 4 (nI l)) (fun x k hx => by rw [uI_ne _ _ (by intro z; injection z with z1 z2; omega)])) hl) ?_
    have U : ∀ x q, ¬ (x = 8 ∧ q = 4) → ¬ (x = 146 ∧ q = 18) → uI (uI I 8 4 (nI l)) 146 18 (nI l) x q = I x q := fun x q a b => by
      rw [uI_ne _ _ (fun z => b (by cases z; exact ⟨rfl, rfl⟩)), uI_ne _ _ (fun z => a (by cases z; exact ⟨rfl, rfl⟩))]
    obtain ⟨h1, h2, h3, ⟨c1, c2, c3, c4, c5, c6, c7⟩, h5, h6, ⟨m1, m2, m3⟩, h8, h9, h10⟩ := hP.1
    refine Inv.co hP h.2.1 hK.Z (fun x k a b c => U x k (by omega) (by omega)) (kd' := kd) (nd' := nd) (od' := od) (lw' := l) (pot' := pot) ⟨h1, by omega, h3, ⟨by rw [U _ _ (by omega) (by omega)]; exact c1, AtI.congr (fun k => U _ _ (by omega) (by omega)) c2, AtI.congr (fun k => U _ _ (by omega) (by omega)) c3, AtI.congr (fun k => U _ _ (by omega) (by omega)) c4, by rw [U _ _ (by omega) (by omega)]; exact c5, by rw [U _ _ (by omega) (by omega)]; exact c6, by rw [U _ _ (by omega) (by omega)]; exact c7⟩, ?_, by rw [U _ _ (by omega) (by omega)]; exact h6, ⟨by rw [U _ _ (by omega) (by omega)]; exact m1, AtI.congr (fun k => U _ _ (by omega) (by omega)) m2, AtI.congr (fun k => U _ _ (by omega) (by omega)) m3⟩, AtI.congr (fun k => U _ _ (by omega) (by omega)) h8, ?_, by rw [U _ _ (by omega) (by omega)]; exact h10⟩
    · rw [uI_ne _ _ (by intro z; injection z with z1 z2; omega), uI_eq]
    · rw [uI_eq]
set_option maxRecDepth 100000 in
set_option maxHeartbeats 4000000 in
theorem c_pot0 (I : IntM) (J : LngM) {n : Nat} {kd nd od : Nat → Nat} {lw pot : Nat} (hK : CK I n kd nd od lw pot) {x : Int32} (h : x < 1) : CtP 1 m_X10_pot [.ref 0, .int x] I J (QC I J (.int (-1)) none none none) := by
  refine CtP_of (by decide) rfl (Nat.le_of_ble_eq_true rfl) ?_
  refine V_il i_X10_pot_0 rfl ?_
  refine V_c i_X10_pot_1 ?_
  refine V_ic_lt_t i_X10_pot_2 h ?_
  refine V_c i_X10_pot_12 ?_
  exact P_iret i_X10_pot_13 rfl ⟨rfl, I, J, FrC.rf, hK.Z, rfl, rfl⟩
set_option maxRecDepth 100000 in
set_option maxHeartbeats 4000000 in
theorem c_pot1 (I : IntM) (J : LngM) {n : Nat} {kd nd od : Nat → Nat} {lw pot : Nat} (hK : CK I n kd nd od lw pot) {x : Int32} (h1 : ¬ x < 1) (h : 999 < x) : CtP 1 m_X10_pot [.ref 0, .int x] I J (QC I J (.int (-1)) none none none) := by
  refine CtP_of (by decide) rfl (Nat.le_of_ble_eq_true rfl) ?_
  refine V_il i_X10_pot_0 rfl ?_
  refine V_c i_X10_pot_1 ?_
  refine V_ic_lt_f i_X10_pot_2 h1 ?_
  refine V_il i_X10_pot_5 rfl ?_
  refine V_c i_X10_pot_6 ?_
  refine V_ic_le_f i_X10_pot_9 (Int32.not_le.mpr h) ?_
  refine V_c i_X10_pot_12 ?_
  exact P_iret i_X10_pot_13 rfl ⟨rfl, I, J, FrC.rf, hK.Z, rfl, rfl⟩
set_option maxRecDepth 100000 in
set_option maxHeartbeats 4000000 in
theorem c_pot2 (I : IntM) (J : LngM) {n : Nat} {kd nd od : Nat → Nat} {lw pot : Nat} (hK : CK I n kd nd od lw pot) {l : Nat} (h1 : 1 ≤ l) (h2 : l ≤ 999) : CtV 1 m_X10_pot [.ref 0, .int (nI l)] I J (.int (nI pot)) (uI I 8 5 (nI l)) J := by
  refine CtV_of (by decide) rfl (Nat.le_of_ble_eq_true rfl) ?_
  refine V_il i_X10_pot_0 rfl ?_
  refine V_c i_X10_pot_1 ?_
  refine V_ic_lt_f i_X10_pot_2 (nI_nlt (b := 1) h1 (by omega)) ?_
  refine V_il i_X10_pot_5 rfl ?_
  refine V_c i_X10_pot_6 ?_
  refine V_ic_le_t i_X10_pot_9 (nI_le h2 (by decide)) ?_
  refine V_al i_X10_pot_14 rfl ?_
  refine V_getR i_X10_pot_15 rfl rfl ?_
  refine V_getI i_X10_pot_18 rfl ?_
  rw [hK.pt]
  refine V_is (L' := [(0, _), (1, _), (2, _)]) i_X10_pot_21 (by decide) ⟨rfl, rfl, rfl, trivial⟩ ?_
  refine V_al i_X10_pot_22 rfl ?_
  refine V_getR i_X10_pot_23 rfl rfl ?_
  refine V_il i_X10_pot_26 rfl ?_
  refine V_putI i_X10_pot_27 rfl ?_
  refine V_il i_X10_pot_30 rfl ?_
  exact P_iret i_X10_pot_31 rfl ⟨rfl, rfl, rfl⟩
set_option maxRecDepth 100000 in
set_option maxHeartbeats 4000000 in
theorem m_pot0 (I : IntM) (J : LngM) {x : Int32} (h : x < 1 ∨ 999 < x) : CtP 2 m_X11_pot [.ref 146, .int x] I J (QM I J (.int (-1)) none none none) := by
  refine CtP_of (by decide) rfl (Nat.le_of_ble_eq_true rfl) ?_
  refine V_il i_X11_pot_0 rfl ?_
  refine V_i2l i_X11_pot_1 ?_
  refine V_cl i_X11_pot_2 ?_
  refine V_cl i_X11_pot_3 ?_
  refine P_callS3v i_X11_pot_6 ms_X11_in (by decide) (Nat.le_of_ble_eq_true rfl) (c_M_in _ _ _ _ _) ?_
  refine V_if_ne_f i_X11_pot_9 (in_no2 (m := 999) (by decide) h) ?_
  refine V_c i_X11_pot_12 ?_
  exact P_iret i_X11_pot_13 rfl ⟨rfl, I, J, FrM.rf, rfl, rfl⟩
set_option maxRecDepth 100000 in
set_option maxHeartbeats 4000000 in
theorem m_pot2 (I : IntM) (J : LngM) {n : Nat} {kd nd od : Nat → Nat} {lw pot : Nat} (hK : MK I n kd nd od lw pot) {l : Nat} (h1 : 1 ≤ l) (h2 : l ≤ 999) : CtV 2 m_X11_pot [.ref 146, .int (nI l)] I J (.int (nI pot)) (uI I 146 17 (nI l)) J := by
  refine CtV_of (by decide) rfl (Nat.le_of_ble_eq_true rfl) ?_
  refine V_il i_X11_pot_0 rfl ?_
  refine V_i2l i_X11_pot_1 ?_
  refine V_cl i_X11_pot_2 ?_
  refine V_cl i_X11_pot_3 ?_
  refine P_callS3v i_X11_pot_6 ms_X11_in (by decide) (Nat.le_of_ble_eq_true rfl) (c_M_in _ _ _ _ _) ?_
  refine V_if_ne_t i_X11_pot_9 (by rw [show inL (nI l).toInt64 1 999 = 1 from in_yes (lo := 1) (hi := 999) h1 h2 (by decide)]; decide) ?_
  refine V_al i_X11_pot_14 rfl ?_
  refine V_getI i_X11_pot_15 rfl ?_
  rw [hK.pt]
  refine V_is (L' := [(0, _), (1, _), (2, _)]) i_X11_pot_18 (by decide) ⟨rfl, rfl, rfl, trivial⟩ ?_
  refine V_al i_X11_pot_19 rfl ?_
  refine V_il i_X11_pot_20 rfl ?_
  refine V_putI i_X11_pot_21 rfl ?_
  refine V_il i_X11_pot_24 rfl ?_
  exact P_iret i_X11_pot_25 rfl ⟨rfl, rfl, rfl⟩
theorem p_pot {I : IntM} {J : LngM} (h : Inv I J) (x : Int32) : Pair 1 m_X10_pot [.ref 0, .int x] 2 m_X11_pot [.ref 146, .int x] I J := by
  obtain ⟨n, kd, nd, od, lw, pot, hP, hK, hM⟩ := h.K
  by_cases h1 : x < 1
  · exact Pair.q h (fun _ => no_f) (c_pot0 I J hK h1) (fun I1 J1 e1 e2 => m_pot0 I1 J1 (Or.inl h1))
  by_cases h2 : 999 < x
  · exact Pair.q h (fun _ => no_f) (c_pot1 I J hK h1 h2) (fun I1 J1 e1 e2 => m_pot0 I1 J1 (Or.inr h2))
  · obtain ⟨l, hl1, hl2, rfl⟩ := days2 (m := 999) (by decide) h1 h2
    refine Pair.m (c_pot2 I J hK hl1 hl2) (m_pot2 _ J (hM (uI I 8 5 (nI l)) (fun x k hx => by rw [uI_ne _ _ (by intro z; injection z with z1 z2; omega)])) hl1 hl2) ?_
    have U : ∀ x q, ¬ (x = 8 ∧ q = 5) → ¬ (x = 146 ∧ q = 17) → uI (uI I 8 5 (nI l)) 146 17 (nI l) x q = I x q := fun x q a b => by
      rw [uI_ne _ _ (fun z => b (by cases z; exact ⟨rfl, rfl⟩)), uI_ne _ _ (fun z => a (by cases z; exact ⟨rfl, rfl⟩))]
    obtain ⟨h1, h2, h3, ⟨c1, c2, c3, c4, c5, c6, c7⟩, h5, h6, ⟨m1, m2, m3⟩, h8, h9, h10⟩ := hP.1
    refine Inv.co hP h.2.1 hK.Z (fun x k a b c => U x k (by omega) (by omega)) (kd' := kd) (nd' := nd) (od' := od) (lw' := lw) (pot' := l) ⟨h1, h2, hl2, ⟨by rw [U _ _ (by omega) (by omega)]; exact c1, AtI.congr (fun k => U _ _ (by omega) (by omega)) c2, AtI.congr (fun k => U _ _ (by omega) (by omega)) c3, AtI.congr (fun k => U _ _ (by omega) (by omega)) c4, by rw [U _ _ (by omega) (by omega)]; exact c5, by rw [U _ _ (by omega) (by omega)]; exact c6, by rw [U _ _ (by omega) (by omega)]; exact c7⟩, by rw [U _ _ (by omega) (by omega)]; exact h5, ?_, ⟨by rw [U _ _ (by omega) (by omega)]; exact m1, AtI.congr (fun k => U _ _ (by omega) (by omega)) m2, AtI.congr (fun k => U _ _ (by omega) (by omega)) m3⟩, AtI.congr (fun k => U _ _ (by omega) (by omega)) h8, by rw [U _ _ (by omega) (by omega)]; exact h9, ?_⟩
    · rw [uI_ne _ _ (by intro z; injection z with z1 z2; omega), uI_eq]
    · rw [uI_eq]
set_option maxRecDepth 100000 in
set_option maxHeartbeats 4000000 in
theorem c_need0 (I : IntM) (J : LngM) {n : Nat} {kd nd od : Nat → Nat} {lw pot : Nat} (hK : CK I n kd nd od lw pot) {x v : Int32} (h : hasC n x = 0 ∨ hasC 100 v = 0) : CtP 3 m_X10_need [.ref 0, .int x, .int v] I J (QC I J (.int (-1)) none none none) := by
  refine CtP_of (by decide) rfl (Nat.le_of_ble_eq_true rfl) ?_
  refine V_al i_X10_need_0 rfl ?_
  refine V_getR i_X10_need_1 rfl rfl ?_
  refine V_il i_X10_need_4 rfl ?_
  refine P_callV1v i_X10_need_5 mi_X0_has rfl ⟨_, _, rfl⟩ (by decide) (Nat.le_of_ble_eq_true rfl) (c_C_has _ _ hK.sz _) ?_
  refine V_if_eq i_X10_need_8 (fun c8 => ?_) (fun c8 => ?_)
  · refine V_c i_X10_need_21 ?_
    exact P_iret i_X10_need_22 rfl ⟨rfl, I, J, FrC.rf, hK.Z, rfl, rfl⟩
  · refine V_il i_X10_need_11 rfl ?_
    refine V_if_lt i_X10_need_12 (fun c12 => ?_) (fun c12 => ?_)
    · refine V_c i_X10_need_21 ?_
      exact P_iret i_X10_need_22 rfl ⟨rfl, I, J, FrC.rf, hK.Z, rfl, rfl⟩
    · refine V_il i_X10_need_15 rfl ?_
      refine V_c i_X10_need_16 ?_
      refine V_ic_le_f i_X10_need_18 (le_pr (by decide) (hasC_no (by rcases h with h | h; exact absurd h c8; exact h) c12)) ?_
      refine V_c i_X10_need_21 ?_
      exact P_iret i_X10_need_22 rfl ⟨rfl, I, J, FrC.rf, hK.Z, rfl, rfl⟩
set_option maxRecDepth 100000 in
set_option maxHeartbeats 4000000 in
theorem c_need1 (I : IntM) (J : LngM) {n : Nat} {kd nd od : Nat → Nat} {lw pot : Nat} (hK : CK I n kd nd od lw pot) {k v : Nat} (hk : k < n) (hv : v < 100) : CtV 3 m_X10_need [.ref 0, .int (nI k), .int (nI v)] I J (.int (nI (nd k))) (uI I 12 k (nI v)) J := by
  refine CtV_of (by decide) rfl (Nat.le_of_ble_eq_true rfl) ?_
  refine V_al i_X10_need_0 rfl ?_
  refine V_getR i_X10_need_1 rfl rfl ?_
  refine V_il i_X10_need_4 rfl ?_
  refine P_callV1v i_X10_need_5 mi_X0_has rfl ⟨_, _, rfl⟩ (by decide) (Nat.le_of_ble_eq_true rfl) (c_C_has _ _ hK.sz _) ?_
  refine V_if_eq_f i_X10_need_8 (by rw [hasC_nI hK.n7 hk]; decide) ?_
  refine V_il i_X10_need_11 rfl ?_
  refine V_if_lt_f i_X10_need_12 (nI_pos (by omega)) ?_
  refine V_il i_X10_need_15 rfl ?_
  refine V_c i_X10_need_16 ?_
  refine V_ic_le_t i_X10_need_18 (nI_le (show v ≤ 99 by omega) (by decide)) ?_
  refine V_al i_X10_need_23 rfl ?_
  refine V_getR i_X10_need_24 rfl rfl ?_
  refine V_getR i_X10_need_27 rfl rfl ?_
  refine V_il i_X10_need_30 rfl ?_
  refine P_callV1v i_X10_need_31 mi_X3_get rfl ⟨_, _, rfl⟩ (by decide) (Nat.le_of_ble_eq_true rfl) (c_I_getN (x := 11) (n := 7) (s := 7) (k := k) _ _ ⟨rfl, rfl, rfl, by decide⟩ hK.C.2.2.2.2.2.1 rfl (by have := hK.n7; omega) (by decide)) ?_
  rw [show I (11 + 1) k = nI (nd k) from hK.C.2.2.1 k hk]
  refine V_is (L' := [(0, _), (1, _), (2, _), (3, _)]) i_X10_need_34 (by decide) ⟨rfl, rfl, rfl, rfl, trivial⟩ ?_
  refine V_al i_X10_need_35 rfl ?_
  refine V_getR i_X10_need_36 rfl rfl ?_
  refine V_getR i_X10_need_39 rfl rfl ?_
  refine V_il i_X10_need_42 rfl ?_
  refine V_il i_X10_need_43 rfl ?_
  refine P_callV2u i_X10_need_44 mi_X3_set rfl ⟨_, _, rfl⟩ (by decide) (Nat.le_of_ble_eq_true rfl) (c_I_setN (x := 11) (n := 7) (s := 7) (k := k) _ _ _ ⟨rfl, rfl, rfl, by decide⟩ hK.C.2.2.2.2.2.1 rfl (by have := hK.n7; omega) (by decide)) ?_
  refine V_il i_X10_need_47 rfl ?_
  exact P_iret i_X10_need_48 rfl ⟨rfl, rfl, rfl⟩
set_option maxRecDepth 100000 in
set_option maxHeartbeats 4000000 in
theorem m_need0 (I : IntM) (J : LngM) {n : Nat} {kd nd od : Nat → Nat} {lw pot : Nat} (hK : MK I n kd nd od lw pot) {x v : Int32} (h : hasC n x = 0 ∨ hasC 100 v = 0) : CtP 3 m_X11_need [.ref 146, .int x, .int v] I J (QM I J (.int (-1)) none none none) := by
  refine CtP_of (by decide) rfl (Nat.le_of_ble_eq_true rfl) ?_
  refine V_al i_X11_need_0 rfl ?_
  refine V_il i_X11_need_1 rfl ?_
  refine P_callV1v i_X11_need_2 mi_X11_isEater rfl ⟨_, _, rfl⟩ (by decide) (Nat.le_of_ble_eq_true rfl) (c_M_isEater _ _ hK.n7 hK.sz _) ?_
  refine V_if_eq i_X11_need_5 (fun c5 => ?_) (fun c5 => ?_)
  · refine V_c i_X11_need_20 ?_
    exact P_iret i_X11_need_21 rfl ⟨rfl, I, J, FrM.rf, rfl, rfl⟩
  · refine V_il i_X11_need_8 rfl ?_
    refine V_i2l i_X11_need_9 ?_
    refine V_cl i_X11_need_10 ?_
    refine V_cl i_X11_need_11 ?_
    refine P_callS3v i_X11_need_14 ms_X11_in (by decide) (Nat.le_of_ble_eq_true rfl) (c_M_in _ _ _ _ _) ?_
    refine V_if_ne_f i_X11_need_17 (by rw [show (99 : Int64) = lN 99 from rfl, in_lit (by decide)]; rcases h with h | h; exact absurd h c5; exact h) ?_
    refine V_c i_X11_need_20 ?_
    exact P_iret i_X11_need_21 rfl ⟨rfl, I, J, FrM.rf, rfl, rfl⟩
set_option maxRecDepth 100000 in
set_option maxHeartbeats 4000000 in
theorem m_need1 (I : IntM) (J : LngM) {n : Nat} {kd nd od : Nat → Nat} {lw pot : Nat} (hK : MK I n kd nd od lw pot) {k v : Nat} (hk : k < n) (hv : v < 100) : CtV 3 m_X11_need [.ref 146, .int (nI k), .int (nI v)] I J (.int (nI (nd k))) (uI I 155 k (nI v)) J := by
  refine CtV_of (by decide) rfl (Nat.le_of_ble_eq_true rfl) ?_
  refine V_al i_X11_need_0 rfl ?_
  refine V_il i_X11_need_1 rfl ?_
  refine P_callV1v i_X11_need_2 mi_X11_isEater rfl ⟨_, _, rfl⟩ (by decide) (Nat.le_of_ble_eq_true rfl) (c_M_isEater _ _ hK.n7 hK.sz _) ?_
  refine V_if_eq_f i_X11_need_5 (by rw [hasC_nI hK.n7 hk]; decide) ?_
  refine V_il i_X11_need_8 rfl ?_
  refine V_i2l i_X11_need_9 ?_
  refine V_cl i_X11_need_10 ?_
  refine V_cl i_X11_need_11 ?_
  refine P_callS3v i_X11_need_14 ms_X11_in (by decide) (Nat.le_of_ble_eq_true rfl) (c_M_in _ _ _ _ _) ?_
  refine V_if_ne_t i_X11_need_17 (by rw [show (99 : Int64) = lN 99 from rfl, in_lit (by decide), hasN_nI (by decide) hv]; decide) ?_
  refine V_al i_X11_need_22 rfl ?_
  refine V_getR i_X11_need_23 rfl rfl ?_
  refine V_il i_X11_need_26 rfl ?_
  refine K_iald k i_X11_need_27 rfl rfl (by have := hK.n7; omega) (by omega) ?_
  rw [hK.M.2.2 k hk]
  refine V_is (L' := [(0, _), (1, _), (2, _), (3, _)]) i_X11_need_28 (by decide) ⟨rfl, rfl, rfl, rfl, trivial⟩ ?_
  refine V_al i_X11_need_29 rfl ?_
  refine V_getR i_X11_need_30 rfl rfl ?_
  refine V_il i_X11_need_33 rfl ?_
  refine V_il i_X11_need_34 rfl ?_
  refine K_iast k i_X11_need_35 rfl rfl (by have := hK.n7; omega) (by omega) ?_
  refine V_il i_X11_need_36 rfl ?_
  exact P_iret i_X11_need_37 rfl ⟨rfl, rfl, rfl⟩
theorem p_need {I : IntM} {J : LngM} (h : Inv I J) (x v : Int32) : Pair 3 m_X10_need [.ref 0, .int x, .int v] 3 m_X11_need [.ref 146, .int x, .int v] I J := by
  obtain ⟨n, kd, nd, od, lw, pot, hP, hK, hM⟩ := h.K
  by_cases hx : hasC n x = 0
  · exact Pair.q h (fun _ => no_f) (c_need0 I J hK (Or.inl hx)) (fun I1 J1 e1 e2 => m_need0 I1 J1 (hM I1 e1) (Or.inl hx))
  obtain ⟨kx, hkx, rfl⟩ := hasC_yes hK.n7 hx
  by_cases hv : hasC 100 v = 0
  · exact Pair.q h (fun _ => no_f) (c_need0 I J hK (Or.inr hv)) (fun I1 J1 e1 e2 => m_need0 I1 J1 (hM I1 e1) (Or.inr hv))
  · obtain ⟨l, hl, rfl⟩ := hasN_yes (by decide) hv
    refine Pair.m (c_need1 I J hK hkx hl) (m_need1 _ J (hM (uI I 12 kx (nI l)) (fun x k hx => by rw [uI_ne _ _ (by intro z; injection z with z1 z2; omega)])) hkx hl) ?_
    have U : ∀ x q, ¬ (x = 12 ∧ q = kx) → ¬ (x = 155 ∧ q = kx) → uI (uI I 12 kx (nI l)) 155 kx (nI l) x q = I x q := fun x q a b => by
      rw [uI_ne _ _ (fun z => b (by cases z; exact ⟨rfl, rfl⟩)), uI_ne _ _ (fun z => a (by cases z; exact ⟨rfl, rfl⟩))]
    obtain ⟨h1, h2, h3, ⟨c1, c2, c3, c4, c5, c6, c7⟩, h5, h6, ⟨m1, m2, m3⟩, h8, h9, h10⟩ := hP.1
    refine Inv.co hP h.2.1 hK.Z (fun x k a b c => U x k (by omega) (by omega)) (kd' := kd) (nd' := fun q => if q = kx then l else nd q) (od' := od) (lw' := lw) (pot' := pot) ⟨⟨h1.1, h1.2.1, fun q hq => ?_, h1.2.2.2⟩, h2, h3, ⟨by rw [U _ _ (by omega) (by omega)]; exact c1, AtI.congr (fun k => U _ _ (by omega) (by omega)) c2, fun q hq => ?_, AtI.congr (fun k => U _ _ (by omega) (by omega)) c4, by rw [U _ _ (by omega) (by omega)]; exact c5, by rw [U _ _ (by omega) (by omega)]; exact c6, by rw [U _ _ (by omega) (by omega)]; exact c7⟩, by rw [U _ _ (by omega) (by omega)]; exact h5, by rw [U _ _ (by omega) (by omega)]; exact h6, ⟨by rw [U _ _ (by omega) (by omega)]; exact m1, AtI.congr (fun k => U _ _ (by omega) (by omega)) m2, fun q hq => ?_⟩, AtI.congr (fun k => U _ _ (by omega) (by omega)) h8, by rw [U _ _ (by omega) (by omega)]; exact h9, by rw [U _ _ (by omega) (by omega)]; exact h10⟩
    · show (if q = kx then l else nd q) ≤ 99
      split
      · omega
      · exact h1.2.2.1 q hq
    · show _ = nI (if q = kx then l else nd q)
      by_cases e : q = kx
      · rw [if_pos e, e, uI_ne _ _ (by intro z; injection z with z1 z2; omega), uI_eq]
      · rw [if_neg e, U _ _ (by omega) (by omega)]; exact c3 q hq
    · show _ = nI (if q = kx then l else nd q)
      by_cases e : q = kx
      · rw [if_pos e, e, uI_eq]
      · rw [if_neg e, U _ _ (by omega) (by omega)]; exact m3 q hq
set_option maxRecDepth 100000 in
set_option maxHeartbeats 4000000 in
theorem c_eater0 (I : IntM) (J : LngM) {n : Nat} {kd nd od : Nat → Nat} {lw pot : Nat} (hK : CK I n kd nd od lw pot) {x v : Int32} (h : hasC n x = 0 ∨ hasC 3 v = 0) : CtP 5 m_X10_eater [.ref 0, .int x, .int v] I J (QC I J (.int (-1)) none none none) := by
  refine CtP_of (by decide) rfl (Nat.le_of_ble_eq_true rfl) ?_
  refine V_al i_X10_eater_0 rfl ?_
  refine V_getR i_X10_eater_1 rfl rfl ?_
  refine V_il i_X10_eater_4 rfl ?_
  refine P_callV1v i_X10_eater_5 mi_X0_has rfl ⟨_, _, rfl⟩ (by decide) (Nat.le_of_ble_eq_true rfl) (c_C_has _ _ hK.sz _) ?_
  refine V_if_eq i_X10_eater_8 (fun c8 => ?_) (fun c8 => ?_)
  · refine V_c i_X10_eater_20 ?_
    exact P_iret i_X10_eater_21 rfl ⟨rfl, I, J, FrC.rf, hK.Z, rfl, rfl⟩
  · refine V_il i_X10_eater_11 rfl ?_
    refine V_if_lt i_X10_eater_12 (fun c12 => ?_) (fun c12 => ?_)
    · refine V_c i_X10_eater_20 ?_
      exact P_iret i_X10_eater_21 rfl ⟨rfl, I, J, FrC.rf, hK.Z, rfl, rfl⟩
    · refine V_il i_X10_eater_15 rfl ?_
      refine V_c i_X10_eater_16 ?_
      refine V_ic_le_f i_X10_eater_17 (le_pr (by decide) (hasC_no (by rcases h with h | h; exact absurd h c8; exact h) c12)) ?_
      refine V_c i_X10_eater_20 ?_
      exact P_iret i_X10_eater_21 rfl ⟨rfl, I, J, FrC.rf, hK.Z, rfl, rfl⟩
set_option maxRecDepth 100000 in
set_option maxHeartbeats 4000000 in
theorem c_eater1 (I : IntM) (J : LngM) {n : Nat} {kd nd od : Nat → Nat} {lw pot : Nat} (hK : CK I n kd nd od lw pot) {k v : Nat} (hk : k < n) (hv : v < 3) : CtP 5 m_X10_eater [.ref 0, .int (nI k), .int (nI v)] I J (QC I J (.int 1) (some (nI (abN kd nd od n k v))) none none) := by
  refine CtP_of (by decide) rfl (Nat.le_of_ble_eq_true rfl) ?_
  refine V_al i_X10_eater_0 rfl ?_
  refine V_getR i_X10_eater_1 rfl rfl ?_
  refine V_il i_X10_eater_4 rfl ?_
  refine P_callV1v i_X10_eater_5 mi_X0_has rfl ⟨_, _, rfl⟩ (by decide) (Nat.le_of_ble_eq_true rfl) (c_C_has _ _ hK.sz _) ?_
  refine V_if_eq_f i_X10_eater_8 (by rw [hasC_nI hK.n7 hk]; decide) ?_
  refine V_il i_X10_eater_11 rfl ?_
  refine V_if_lt_f i_X10_eater_12 (nI_pos (by omega)) ?_
  refine V_il i_X10_eater_15 rfl ?_
  refine V_c i_X10_eater_16 ?_
  refine V_ic_le_t i_X10_eater_17 (nI_le (show v ≤ 2 by omega) (by decide)) ?_
  refine V_al i_X10_eater_22 rfl ?_
  refine V_al i_X10_eater_23 rfl ?_
  refine V_getR i_X10_eater_24 rfl rfl ?_
  refine V_il i_X10_eater_27 rfl ?_
  refine V_il i_X10_eater_28 rfl ?_
  refine P_callV2v i_X10_eater_29 mi_X0_about rfl ⟨_, _, rfl⟩ (by decide) (Nat.le_of_ble_eq_true rfl) (c_C_about _ _ hK.1 hK.C hk (show v ≤ 2 by omega)) ?_
  refine V_putI i_X10_eater_32 rfl ?_
  refine V_c i_X10_eater_35 ?_
  exact P_iret i_X10_eater_36 rfl ⟨rfl, I, J, FrC.rf, hK.Z, rfl, rfl⟩
set_option maxRecDepth 100000 in
set_option maxHeartbeats 4000000 in
theorem m_eater0 (I : IntM) (J : LngM) {n : Nat} {kd nd od : Nat → Nat} {lw pot : Nat} (hK : MK I n kd nd od lw pot) {x v : Int32} (h : hasC n x = 0 ∨ hasC 3 v = 0) : CtP 3 m_X11_eater [.ref 146, .int x, .int v] I J (QM I J (.int (-1)) none none none) := by
  refine CtP_of (by decide) rfl (Nat.le_of_ble_eq_true rfl) ?_
  refine V_al i_X11_eater_0 rfl ?_
  refine V_il i_X11_eater_1 rfl ?_
  refine P_callV1v i_X11_eater_2 mi_X11_isEater rfl ⟨_, _, rfl⟩ (by decide) (Nat.le_of_ble_eq_true rfl) (c_M_isEater _ _ hK.n7 hK.sz _) ?_
  refine V_if_eq i_X11_eater_5 (fun c5 => ?_) (fun c5 => ?_)
  · refine V_c i_X11_eater_20 ?_
    exact P_iret i_X11_eater_21 rfl ⟨rfl, I, J, FrM.rf, rfl, rfl⟩
  · refine V_il i_X11_eater_8 rfl ?_
    refine V_i2l i_X11_eater_9 ?_
    refine V_cl i_X11_eater_10 ?_
    refine V_cl i_X11_eater_11 ?_
    refine P_callS3v i_X11_eater_14 ms_X11_in (by decide) (Nat.le_of_ble_eq_true rfl) (c_M_in _ _ _ _ _) ?_
    refine V_if_ne_f i_X11_eater_17 (by rw [show (2 : Int64) = lN 2 from rfl, in_lit (by decide)]; rcases h with h | h; exact absurd h c5; exact h) ?_
    refine V_c i_X11_eater_20 ?_
    exact P_iret i_X11_eater_21 rfl ⟨rfl, I, J, FrM.rf, rfl, rfl⟩
set_option maxRecDepth 100000 in
set_option maxHeartbeats 4000000 in
theorem m_eater1 (I : IntM) (J : LngM) {n : Nat} {kd nd od : Nat → Nat} {lw pot : Nat} (hK : MK I n kd nd od lw pot) {k v : Nat} (hk : k < n) (hv : v < 3) : CtP 3 m_X11_eater [.ref 146, .int (nI k), .int (nI v)] I J (QM I J (.int 1) (some (nI (abN kd nd od n k v))) none none) := by
  refine CtP_of (by decide) rfl (Nat.le_of_ble_eq_true rfl) ?_
  refine V_al i_X11_eater_0 rfl ?_
  refine V_il i_X11_eater_1 rfl ?_
  refine P_callV1v i_X11_eater_2 mi_X11_isEater rfl ⟨_, _, rfl⟩ (by decide) (Nat.le_of_ble_eq_true rfl) (c_M_isEater _ _ hK.n7 hK.sz _) ?_
  refine V_if_eq_f i_X11_eater_5 (by rw [hasC_nI hK.n7 hk]; decide) ?_
  refine V_il i_X11_eater_8 rfl ?_
  refine V_i2l i_X11_eater_9 ?_
  refine V_cl i_X11_eater_10 ?_
  refine V_cl i_X11_eater_11 ?_
  refine P_callS3v i_X11_eater_14 ms_X11_in (by decide) (Nat.le_of_ble_eq_true rfl) (c_M_in _ _ _ _ _) ?_
  refine V_if_ne_t i_X11_eater_17 (by rw [show (2 : Int64) = lN 2 from rfl, in_lit (by decide), hasN_nI (by decide) hv]; decide) ?_
  refine V_al i_X11_eater_22 rfl ?_
  refine V_al i_X11_eater_23 rfl ?_
  refine V_il i_X11_eater_24 rfl ?_
  refine V_il i_X11_eater_25 rfl ?_
  refine P_callV2v i_X11_eater_26 mi_X11_eaterBy rfl ⟨_, _, rfl⟩ (by decide) (Nat.le_of_ble_eq_true rfl) (c_M_eaterBy _ _ hK.n7 hK.M hK.od hK.P hk (show v ≤ 2 by omega)) ?_
  refine V_putI i_X11_eater_29 rfl ?_
  refine V_c i_X11_eater_32 ?_
  exact P_iret i_X11_eater_33 rfl ⟨rfl, I, J, FrM.rf, rfl, rfl⟩
theorem p_eater {I : IntM} {J : LngM} (h : Inv I J) (x v : Int32) : Pair 5 m_X10_eater [.ref 0, .int x, .int v] 3 m_X11_eater [.ref 146, .int x, .int v] I J := by
  obtain ⟨n, kd, nd, od, lw, pot, hP, hK, hM⟩ := h.K
  by_cases hx : hasC n x = 0
  · exact Pair.q h (fun _ => no_f) (c_eater0 I J hK (Or.inl hx)) (fun I1 J1 e1 e2 => m_eater0 I1 J1 (hM I1 e1) (Or.inl hx))
  obtain ⟨kx, hkx, rfl⟩ := hasC_yes hK.n7 hx
  by_cases hv : hasC 3 v = 0
  · exact Pair.q h (fun _ => no_f) (c_eater0 I J hK (Or.inr hv)) (fun I1 J1 e1 e2 => m_eater0 I1 J1 (hM I1 e1) (Or.inr hv))
  · obtain ⟨l, hl, rfl⟩ := hasN_yes (by decide) hv
    exact Pair.q h (fun _ => no_f) (c_eater1 I J hK hkx hl) (fun I1 J1 e1 e2 => m_eater1 I1 J1 (hM I1 e1) hkx hl)

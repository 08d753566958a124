
/-! ===== mark ===== -/
theorem ro_eqm {A u b : Nat} (hu : 0 < u) : roN (A : Int) u = ((b * rdN (A : Int) u : Nat) : Int) ↔ A = b * u := by
  have e := ro_cross (A : Int) u
  have hy := rd_pos (A := (A : Int)) hu
  have hu2 : (u : Int) ≠ 0 := by omega
  generalize rdN (A : Int) u = Y at *
  generalize roN (A : Int) u = X at *
  have hy2 : (Y : Int) ≠ 0 := by omega
  rw [Int.natCast_mul]
  constructor
  · intro h
    rw [h, Int.mul_right_comm] at e
    have h4 := Int.eq_of_mul_eq_mul_right hy2 e
    rw [← Int.natCast_mul] at h4
    omega
  · intro h
    refine Int.eq_of_mul_eq_mul_right hu2 ?_
    rw [e, Int.mul_right_comm, h, Int.natCast_mul]
def jtV (nd : Nat → Nat) (how e : Nat) (ln te : Nat → Nat) (n k : Nat) : Int32 := if plN ln k n < e ∧ te (plN ln k n) = nd k * un how then 1 else 0
theorem may_dn {p d : Nat} (hd : d = 2 ∨ d = 3 ∨ d = 4) : may p d = p - p / d - (if p % d = 0 then 0 else 1) := by
  unfold may
  rcases hd with rfl | rfl | rfl
  · split <;> omega
  · split <;> omega
  · split <;> omega

set_option maxRecDepth 100000 in
set_option maxHeartbeats 4000000 in
theorem c_E_just (I : IntM) (J : LngM) {n : Nat} {kd nd od : Nat → Nat} {lw pot : Nat} (hK : CK I n kd nd od lw pot) {e how gr : Nat} {ln te : Nat → Nat} (hE : EvOK n how e ln gr te) (hC : EvC I J 15 n how e ln gr te) {k : Nat} (hk : k < n) : CtV 2 m_X2_tookJust [.ref 15, .int (nI k), .int (nI (nd k))] I J (.int (jtV nd how e ln te n k)) I J := by
  refine CtV_of (by decide) rfl (Nat.le_of_ble_eq_true rfl) ?_
  obtain ⟨hh, hen, hPm, hgr, h24, hte⟩ := id hE
  obtain ⟨c1, c2, c3, c4, c5, c6⟩ := id hC
  have hnd := hK.nd _ hk
  have b0 := Nat.mul_le_mul hnd (un_le how)
  have b3 := un_le how
  refine V_al i_X2_tookJust_0 rfl ?_
  refine V_il i_X2_tookJust_1 rfl ?_
  refine P_callV1v i_X2_tookJust_2 mi_X2_hasEaten rfl ⟨_, _, rfl⟩ (by decide) (Nat.le_of_ble_eq_true rfl) (c_E_has I J hK.n7 hE hC hk) ?_
  refine V_if_eq i_X2_tookJust_5 (fun c5 => ?_) (fun c5 => ?_)
  · have c9 : ¬ (plN ln k n < e ∧ te (plN ln k n) = nd k * un how) := fun q => no01 c5 ((whoN_pl hPm hen hk).mpr q.1)
    refine V_c i_X2_tookJust_34 ?_
    exact P_zret i_X2_tookJust_35 rfl (by decide) ⟨by unfold jtV; first | rw [if_pos c9] | rw [if_neg c9], rfl, rfl⟩
  · have b1 := (whoN_pl hPm hen hk).mp (yes01 c5)
    have b2 := hte _ b1
    have e1 : J 19 k = lN (te (plN ln k n)) := by have := c6 _ b1; rwa [(Pm_place hPm hk).2] at this
    refine V_al i_X2_tookJust_8 rfl ?_
    refine V_getR i_X2_tookJust_9 rfl rfl ?_
    refine V_il i_X2_tookJust_12 rfl ?_
    refine P_callV1v i_X2_tookJust_13 mi_X4_get rfl ⟨_, _, rfl⟩ (by decide) (Nat.le_of_ble_eq_true rfl) (c_L_get _ _ (x := 18) (n := 7) ⟨rfl, rfl, rfl, by decide⟩ (k := k) (by have := hK.n7; omega)) ?_
    rw [show J (18 + 1) k = lN (te (plN ln k n)) from e1]
    refine V_il i_X2_tookJust_16 rfl ?_
    refine V_i2l i_X2_tookJust_17 ?_
    rw [nI_long (by omega)]
    refine V_al i_X2_tookJust_18 rfl ?_
    refine V_getI i_X2_tookJust_19 rfl ?_
    rw [c1]
    refine P_callS1v i_X2_tookJust_22 ms_X8_unit (by decide) (Nat.le_of_ble_eq_true rfl) (c_unit _ _ hh) ?_
    refine V_lmul i_X2_tookJust_25 ?_
    rw [lN_mul]
    refine V_lcmp i_X2_tookJust_26 ?_
    refine V_if_ne i_X2_tookJust_27 (fun c27 => ?_) (fun c27 => ?_)
    · have c9 : ¬ (plN ln k n < e ∧ te (plN ln k n) = nd k * un how) := fun q => c27 (lgc_eq.mpr (by rw [q.2]))
      refine V_c i_X2_tookJust_34 ?_
      exact P_zret i_X2_tookJust_35 rfl (by decide) ⟨by unfold jtV; first | rw [if_pos c9] | rw [if_neg c9], rfl, rfl⟩
    · have c9 : plN ln k n < e ∧ te (plN ln k n) = nd k * un how := ⟨b1, (pk_lEQ (by omega) (by omega)).mp (lgc_eq.mp c27)⟩
      refine V_c i_X2_tookJust_30 ?_
      refine V_goto i_X2_tookJust_31 ?_
      exact P_zret i_X2_tookJust_35 rfl (by decide) ⟨by unfold jtV; first | rw [if_pos c9] | rw [if_neg c9], rfl, rfl⟩
set_option maxRecDepth 100000 in
set_option maxHeartbeats 4000000 in
theorem c_mark0 (I : IntM) (J : LngM) {n : Nat} {kd nd od : Nat → Nat} {lw pot : Nat} (hK : CK I n kd nd od lw pot) {x y : Int32} (h : hasC n x = 0 ∨ y ≤ 0 ∨ 5 < y) : CtP 5 m_X10_mark [.ref 0, .int x, .int y] I J (QC I J (.int (-1)) none none none) := by
  refine CtP_of (by decide) rfl (Nat.le_of_ble_eq_true rfl) ?_
  refine V_al i_X10_mark_0 rfl ?_
  refine V_getR i_X10_mark_1 rfl rfl ?_
  refine V_il i_X10_mark_4 rfl ?_
  refine P_callV1v i_X10_mark_5 mi_X0_has rfl ⟨_, _, rfl⟩ (by decide) (Nat.le_of_ble_eq_true rfl) (c_C_has _ _ hK.sz _) ?_
  refine V_if_eq i_X10_mark_8 (fun c8 => ?_) (fun c8 => ?_)
  · refine V_c i_X10_mark_20 ?_
    exact P_iret i_X10_mark_21 rfl ⟨rfl, I, J, FrC.rf, hK.Z, rfl, rfl⟩
  · refine V_il i_X10_mark_11 rfl ?_
    refine V_if_le i_X10_mark_12 (fun c12 => ?_) (fun c12 => ?_)
    · refine V_c i_X10_mark_20 ?_
      exact P_iret i_X10_mark_21 rfl ⟨rfl, I, J, FrC.rf, hK.Z, rfl, rfl⟩
    · refine V_il i_X10_mark_15 rfl ?_
      refine V_c i_X10_mark_16 ?_
      refine V_ic_le_f i_X10_mark_17 (by rcases h with h | h | h; exact absurd h c8; exact absurd h c12; exact Int32.not_le.mpr h) ?_
      refine V_c i_X10_mark_20 ?_
      exact P_iret i_X10_mark_21 rfl ⟨rfl, I, J, FrC.rf, hK.Z, rfl, rfl⟩
set_option maxRecDepth 100000 in
set_option maxHeartbeats 4000000 in
theorem c_mark9 (I : IntM) (J : LngM) {n : Nat} {kd nd od : Nat → Nat} {lw pot : Nat} (hK : CK I n kd nd od lw pot) {k K : Nat} (hk : k < n) (hK1 : 1 ≤ K) (hkd5 : K ≤ 5) (hi : ¬ isK kd K k = true) : CtP 5 m_X10_mark [.ref 0, .int (nI k), .int (nI K)] I J (QC I J (.int (-3)) none none (some 3)) := by
  refine CtP_of (by decide) rfl (Nat.le_of_ble_eq_true rfl) ?_
  refine V_al i_X10_mark_0 rfl ?_
  refine V_getR i_X10_mark_1 rfl rfl ?_
  refine V_il i_X10_mark_4 rfl ?_
  refine P_callV1v i_X10_mark_5 mi_X0_has rfl ⟨_, _, rfl⟩ (by decide) (Nat.le_of_ble_eq_true rfl) (c_C_has _ _ hK.sz _) ?_
  refine V_if_eq_f i_X10_mark_8 (by rw [hasC_nI hK.n7 hk]; decide) ?_
  refine V_il i_X10_mark_11 rfl ?_
  refine V_if_le_f i_X10_mark_12 (fun q => absurd (Int32.le_iff_toInt_le.mp q) (by rw [nI_toInt (by omega)]; have e0 : (0 : Int32).toInt = 0 := rfl; omega)) ?_
  refine V_il i_X10_mark_15 rfl ?_
  refine V_c i_X10_mark_16 ?_
  refine V_ic_le_t i_X10_mark_17 (nI_le hkd5 (by decide)) ?_
  refine V_al i_X10_mark_22 rfl ?_
  refine V_getR i_X10_mark_23 rfl rfl ?_
  refine V_il i_X10_mark_26 rfl ?_
  refine V_il i_X10_mark_27 rfl ?_
  refine P_callV2v i_X10_mark_28 mi_X0_isOf rfl ⟨_, _, rfl⟩ (by decide) (Nat.le_of_ble_eq_true rfl) (c_C_isOf _ _ hK.1 hK.C hk hkd5) ?_
  refine V_if_ne_f i_X10_mark_31 (if_neg hi) ?_
  refine V_al i_X10_mark_34 rfl ?_
  refine V_c i_X10_mark_35 ?_
  refine P_callV1v i_X10_mark_36 mi_X10_refuse rfl ⟨_, _, rfl⟩ (by decide) (Nat.le_of_ble_eq_true rfl) (c_refuse I J (f := 3) (by decide)) ?_
  exact P_iret i_X10_mark_39 rfl ⟨rfl, I, J, FrC.rf, hK.Z, rfl, rfl⟩
set_option maxRecDepth 100000 in
set_option maxHeartbeats 4000000 in
theorem c_mark1 (I : IntM) (J : LngM) {n : Nat} {kd nd od : Nat → Nat} {lw pot : Nat} (hK : CK I n kd nd od lw pot) {k : Nat} (hk : k < n) (hi : isK kd 1 k = true) : CtP 5 m_X10_mark [.ref 0, .int (nI k), .int (nI 1)] I J (QC I J (.int (nI (plN od k n))) none none none) := by
  refine CtP_of (by decide) rfl (Nat.le_of_ble_eq_true rfl) ?_
  refine V_al i_X10_mark_0 rfl ?_
  refine V_getR i_X10_mark_1 rfl rfl ?_
  refine V_il i_X10_mark_4 rfl ?_
  refine P_callV1v i_X10_mark_5 mi_X0_has rfl ⟨_, _, rfl⟩ (by decide) (Nat.le_of_ble_eq_true rfl) (c_C_has _ _ hK.sz _) ?_
  refine V_if_eq_f i_X10_mark_8 (by rw [hasC_nI hK.n7 hk]; decide) ?_
  refine V_il i_X10_mark_11 rfl ?_
  refine V_if_le_f i_X10_mark_12 (by decide) ?_
  refine V_il i_X10_mark_15 rfl ?_
  refine V_c i_X10_mark_16 ?_
  refine V_ic_le_t i_X10_mark_17 (by decide) ?_
  refine V_al i_X10_mark_22 rfl ?_
  refine V_getR i_X10_mark_23 rfl rfl ?_
  refine V_il i_X10_mark_26 rfl ?_
  refine V_il i_X10_mark_27 rfl ?_
  refine P_callV2v i_X10_mark_28 mi_X0_isOf rfl ⟨_, _, rfl⟩ (by decide) (Nat.le_of_ble_eq_true rfl) (c_C_isOf _ _ hK.1 hK.C hk (by decide)) ?_
  refine V_if_ne_t i_X10_mark_31 (by rw [if_pos hi]; decide) ?_
  refine V_il i_X10_mark_40 rfl ?_
  refine V_tswIn (tgt := 72) i_X10_mark_41 (by decide) (by decide) rfl (by decide) ?_
  refine V_al i_X10_mark_72 rfl ?_
  refine V_getR i_X10_mark_73 rfl rfl ?_
  refine V_il i_X10_mark_76 rfl ?_
  refine P_callV1v i_X10_mark_77 mi_X0_placeOf rfl ⟨_, _, rfl⟩ (by decide) (Nat.le_of_ble_eq_true rfl) (c_C_place _ _ hK.1 hK.C hk) ?_
  exact P_iret i_X10_mark_80 rfl ⟨rfl, I, J, FrC.rf, hK.Z, rfl, rfl⟩
set_option maxRecDepth 100000 in
set_option maxHeartbeats 4000000 in
theorem c_mark2 (I : IntM) (J : LngM) {n : Nat} {kd nd od : Nat → Nat} {lw pot : Nat} (hK : CK I n kd nd od lw pot) {k : Nat} (hk : k < n) (hi : isK kd 2 k = true) : CtP 5 m_X10_mark [.ref 0, .int (nI k), .int (nI 2)] I J (QC I J (.int (nI (n - 1 - plN od k n))) none none none) := by
  refine CtP_of (by decide) rfl (Nat.le_of_ble_eq_true rfl) ?_
  refine V_al i_X10_mark_0 rfl ?_
  refine V_getR i_X10_mark_1 rfl rfl ?_
  refine V_il i_X10_mark_4 rfl ?_
  refine P_callV1v i_X10_mark_5 mi_X0_has rfl ⟨_, _, rfl⟩ (by decide) (Nat.le_of_ble_eq_true rfl) (c_C_has _ _ hK.sz _) ?_
  refine V_if_eq_f i_X10_mark_8 (by rw [hasC_nI hK.n7 hk]; decide) ?_
  refine V_il i_X10_mark_11 rfl ?_
  refine V_if_le_f i_X10_mark_12 (by decide) ?_
  refine V_il i_X10_mark_15 rfl ?_
  refine V_c i_X10_mark_16 ?_
  refine V_ic_le_t i_X10_mark_17 (by decide) ?_
  refine V_al i_X10_mark_22 rfl ?_
  refine V_getR i_X10_mark_23 rfl rfl ?_
  refine V_il i_X10_mark_26 rfl ?_
  refine V_il i_X10_mark_27 rfl ?_
  refine P_callV2v i_X10_mark_28 mi_X0_isOf rfl ⟨_, _, rfl⟩ (by decide) (Nat.le_of_ble_eq_true rfl) (c_C_isOf _ _ hK.1 hK.C hk (by decide)) ?_
  refine V_if_ne_t i_X10_mark_31 (by rw [if_pos hi]; decide) ?_
  refine V_il i_X10_mark_40 rfl ?_
  refine V_tswIn (tgt := 81) i_X10_mark_41 (by decide) (by decide) rfl (by decide) ?_
  refine V_al i_X10_mark_81 rfl ?_
  refine V_getR i_X10_mark_82 rfl rfl ?_
  refine V_getI i_X10_mark_85 rfl ?_
  rw [hK.sz]
  refine V_c i_X10_mark_88 ?_
  refine V_isub i_X10_mark_89 ?_
  refine V_al i_X10_mark_90 rfl ?_
  refine V_getR i_X10_mark_91 rfl rfl ?_
  refine V_il i_X10_mark_94 rfl ?_
  refine P_callV1v i_X10_mark_95 mi_X0_placeOf rfl ⟨_, _, rfl⟩ (by decide) (Nat.le_of_ble_eq_true rfl) (c_C_place _ _ hK.1 hK.C hk) ?_
  refine V_isub i_X10_mark_98 ?_
  rw [show (1 : Int32) = nI 1 from rfl, pk_sub (by omega), pk_sub (by have := plN_lt (od := od) (k := k) (n := n) (by omega); omega)]
  exact P_iret i_X10_mark_99 rfl ⟨rfl, I, J, FrC.rf, hK.Z, rfl, rfl⟩
set_option maxRecDepth 100000 in
set_option maxHeartbeats 4000000 in
theorem c_mark3 (I : IntM) (J : LngM) {n : Nat} {kd nd od : Nat → Nat} {lw pot : Nat} (hK : CK I n kd nd od lw pot) {k : Nat} (hk : k < n) (hi : isK kd 3 k = true) : CtP 5 m_X10_mark [.ref 0, .int (nI k), .int (nI 3)] I J (QC I J (.int (nI (may pot (dv lw 0)) - nI (nd k))) none none none) := by
  refine CtP_of (by decide) rfl (Nat.le_of_ble_eq_true rfl) ?_
  refine V_al i_X10_mark_0 rfl ?_
  refine V_getR i_X10_mark_1 rfl rfl ?_
  refine V_il i_X10_mark_4 rfl ?_
  refine P_callV1v i_X10_mark_5 mi_X0_has rfl ⟨_, _, rfl⟩ (by decide) (Nat.le_of_ble_eq_true rfl) (c_C_has _ _ hK.sz _) ?_
  refine V_if_eq_f i_X10_mark_8 (by rw [hasC_nI hK.n7 hk]; decide) ?_
  refine V_il i_X10_mark_11 rfl ?_
  refine V_if_le_f i_X10_mark_12 (by decide) ?_
  refine V_il i_X10_mark_15 rfl ?_
  refine V_c i_X10_mark_16 ?_
  refine V_ic_le_t i_X10_mark_17 (by decide) ?_
  refine V_al i_X10_mark_22 rfl ?_
  refine V_getR i_X10_mark_23 rfl rfl ?_
  refine V_il i_X10_mark_26 rfl ?_
  refine V_il i_X10_mark_27 rfl ?_
  refine P_callV2v i_X10_mark_28 mi_X0_isOf rfl ⟨_, _, rfl⟩ (by decide) (Nat.le_of_ble_eq_true rfl) (c_C_isOf _ _ hK.1 hK.C hk (by decide)) ?_
  refine V_if_ne_t i_X10_mark_31 (by rw [if_pos hi]; decide) ?_
  refine V_il i_X10_mark_40 rfl ?_
  refine V_tswIn (tgt := 100) i_X10_mark_41 (by decide) (by decide) rfl (by decide) ?_
  refine V_al i_X10_mark_100 rfl ?_
  refine V_getR i_X10_mark_101 rfl rfl ?_
  refine V_getI i_X10_mark_104 rfl ?_
  rw [hK.pt]
  refine V_i2l i_X10_mark_107 ?_
  rw [nI_long (by have := hK.p9; omega)]
  refine V_al i_X10_mark_108 rfl ?_
  refine V_getR i_X10_mark_109 rfl rfl ?_
  refine V_getI i_X10_mark_112 rfl ?_
  rw [hK.lw]
  refine V_c i_X10_mark_115 ?_
  refine P_callS2v i_X10_mark_116 ms_X8_divisor (by decide) (Nat.le_of_ble_eq_true rfl) (c_divisor _ _ (e := 0) hK.l3 (by decide)) ?_
  refine P_callS2v i_X10_mark_119 ms_X8_may (by decide) (Nat.le_of_ble_eq_true rfl) (c_may _ _ (by have := hK.p9; omega) (dv_cases lw 0)) ?_
  refine V_l2i i_X10_mark_122 ?_
  rw [lN_i]
  refine V_al i_X10_mark_123 rfl ?_
  refine V_getR i_X10_mark_124 rfl rfl ?_
  refine V_getR i_X10_mark_127 rfl rfl ?_
  refine V_il i_X10_mark_130 rfl ?_
  refine P_callV1v i_X10_mark_131 mi_X3_get rfl ⟨_, _, rfl⟩ (by decide) (Nat.le_of_ble_eq_true rfl) (c_I_getN (x := 11) (n := 7) (s := 7) (k := k) _ _ ⟨rfl, rfl, rfl, by decide⟩ hK.C.2.2.2.2.2.1 rfl (by have := hK.n7; omega) (by decide)) ?_
  rw [show I (11 + 1) k = nI (nd k) from hK.C.2.2.1 k hk]
  refine V_isub i_X10_mark_134 ?_
  exact P_iret i_X10_mark_135 rfl ⟨rfl, I, J, FrC.rf, hK.Z, rfl, rfl⟩
set_option maxRecDepth 100000 in
set_option maxHeartbeats 4000000 in
theorem c_mark4 (I : IntM) (J : LngM) {n : Nat} {kd nd od : Nat → Nat} {lw pot : Nat} (hK : CK I n kd nd od lw pot) {k : Nat} (hk : k < n) (hi : isK kd 4 k = true) : CtP 5 m_X10_mark [.ref 0, .int (nI k), .int (nI 4)] I J (QC I J (.int (nI (cntN (fdE kd nd lw 1 (pot * un 1) (mvS od (plN od k n) k (n - 1)) n) n))) none none none) := by
  refine CtP_of (by decide) rfl (Nat.le_of_ble_eq_true rfl) ?_
  refine V_al i_X10_mark_0 rfl ?_
  refine V_getR i_X10_mark_1 rfl rfl ?_
  refine V_il i_X10_mark_4 rfl ?_
  refine P_callV1v i_X10_mark_5 mi_X0_has rfl ⟨_, _, rfl⟩ (by decide) (Nat.le_of_ble_eq_true rfl) (c_C_has _ _ hK.sz _) ?_
  refine V_if_eq_f i_X10_mark_8 (by rw [hasC_nI hK.n7 hk]; decide) ?_
  refine V_il i_X10_mark_11 rfl ?_
  refine V_if_le_f i_X10_mark_12 (by decide) ?_
  refine V_il i_X10_mark_15 rfl ?_
  refine V_c i_X10_mark_16 ?_
  refine V_ic_le_t i_X10_mark_17 (by decide) ?_
  refine V_al i_X10_mark_22 rfl ?_
  refine V_getR i_X10_mark_23 rfl rfl ?_
  refine V_il i_X10_mark_26 rfl ?_
  refine V_il i_X10_mark_27 rfl ?_
  refine P_callV2v i_X10_mark_28 mi_X0_isOf rfl ⟨_, _, rfl⟩ (by decide) (Nat.le_of_ble_eq_true rfl) (c_C_isOf _ _ hK.1 hK.C hk (by decide)) ?_
  refine V_if_ne_t i_X10_mark_31 (by rw [if_pos hi]; decide) ?_
  refine V_il i_X10_mark_40 rfl ?_
  refine V_tswIn (tgt := 136) i_X10_mark_41 (by decide) (by decide) rfl (by decide) ?_
  refine V_al i_X10_mark_136 rfl ?_
  refine V_il i_X10_mark_137 rfl ?_
  refine V_al i_X10_mark_138 rfl ?_
  refine V_getR i_X10_mark_139 rfl rfl ?_
  refine V_getI i_X10_mark_142 rfl ?_
  rw [hK.sz]
  refine V_c i_X10_mark_145 ?_
  refine V_isub i_X10_mark_146 ?_
  rw [show (1 : Int32) = nI 1 from rfl, pk_sub (by omega)]
  refine V_c i_X10_mark_147 ?_
  refine P_callV3 i_X10_mark_148 mi_X10_serveMoved rfl ⟨_, _, rfl⟩ (by decide) (Nat.le_of_ble_eq_true rfl) (c_srvMoved I J hK (how := 1) (by decide) hk (show n - 1 < n by omega)) (fun r I1 J1 q => ?_)
  obtain ⟨rfl, f1, s1, d1⟩ := q
  have k1 := FrS.K (Or.inl rfl) f1 hK
  refine V_al i_X10_mark_151 rfl ?_
  refine V_getR i_X10_mark_152 rfl rfl ?_
  refine P_callV0v i_X10_mark_155 mi_X7_fedAll rfl ⟨_, _, rfl⟩ (by decide) (Nat.le_of_ble_eq_true rfl) (c_S_fedAll _ _ LS_21 k1.Z21 k1.n7 s1) ?_
  rw [(d1.1 n (Nat.le_refl n)).2, fdS_set (Pm_mv hK.P (Pm_place hK.P hk).1 (Pm_place hK.P hk).2 (show n - 1 < n by omega))]
  refine P_callS1v i_X10_mark_158 ms_J6_bitCount_0f7a4 (by decide) (Nat.le_of_ble_eq_true rfl) (c_bitCount _ _ _) ?_
  rw [bc_set hK.n7]
  exact P_iret i_X10_mark_161 rfl ⟨rfl, I1, J1, FrS.C (by decide) (by decide) f1, k1.Z, rfl, rfl⟩
set_option maxRecDepth 100000 in
set_option maxHeartbeats 4000000 in
theorem c_mark5 (I : IntM) (J : LngM) {n : Nat} {kd nd od : Nat → Nat} {lw pot : Nat} (hK : CK I n kd nd od lw pot) {e how gr : Nat} {ln te : Nat → Nat} (hE : EvOK n how e ln gr te) (hC : EvC I J 15 n how e ln gr te) {k : Nat} (hk : k < n) (hi : isK kd 5 k = true) : CtP 5 m_X10_mark [.ref 0, .int (nI k), .int (nI 5)] I J (QC I J (.int (jtV nd how e ln te n k)) none none none) := by
  refine CtP_of (by decide) rfl (Nat.le_of_ble_eq_true rfl) ?_
  refine V_al i_X10_mark_0 rfl ?_
  refine V_getR i_X10_mark_1 rfl rfl ?_
  refine V_il i_X10_mark_4 rfl ?_
  refine P_callV1v i_X10_mark_5 mi_X0_has rfl ⟨_, _, rfl⟩ (by decide) (Nat.le_of_ble_eq_true rfl) (c_C_has _ _ hK.sz _) ?_
  refine V_if_eq_f i_X10_mark_8 (by rw [hasC_nI hK.n7 hk]; decide) ?_
  refine V_il i_X10_mark_11 rfl ?_
  refine V_if_le_f i_X10_mark_12 (by decide) ?_
  refine V_il i_X10_mark_15 rfl ?_
  refine V_c i_X10_mark_16 ?_
  refine V_ic_le_t i_X10_mark_17 (by decide) ?_
  refine V_al i_X10_mark_22 rfl ?_
  refine V_getR i_X10_mark_23 rfl rfl ?_
  refine V_il i_X10_mark_26 rfl ?_
  refine V_il i_X10_mark_27 rfl ?_
  refine P_callV2v i_X10_mark_28 mi_X0_isOf rfl ⟨_, _, rfl⟩ (by decide) (Nat.le_of_ble_eq_true rfl) (c_C_isOf _ _ hK.1 hK.C hk (by decide)) ?_
  refine V_if_ne_t i_X10_mark_31 (by rw [if_pos hi]; decide) ?_
  refine V_il i_X10_mark_40 rfl ?_
  refine V_tswOut (tgt := 162) i_X10_mark_41 (by decide) (by decide) ?_
  refine V_al i_X10_mark_162 rfl ?_
  refine V_getR i_X10_mark_163 rfl rfl ?_
  refine V_il i_X10_mark_166 rfl ?_
  refine V_al i_X10_mark_167 rfl ?_
  refine V_getR i_X10_mark_168 rfl rfl ?_
  refine V_getR i_X10_mark_171 rfl rfl ?_
  refine V_il i_X10_mark_174 rfl ?_
  refine P_callV1v i_X10_mark_175 mi_X3_get rfl ⟨_, _, rfl⟩ (by decide) (Nat.le_of_ble_eq_true rfl) (c_I_getN (x := 11) (n := 7) (s := 7) (k := k) _ _ ⟨rfl, rfl, rfl, by decide⟩ hK.C.2.2.2.2.2.1 rfl (by have := hK.n7; omega) (by decide)) ?_
  rw [show I (11 + 1) k = nI (nd k) from hK.C.2.2.1 k hk]
  refine P_callV2v i_X10_mark_178 mi_X2_tookJust rfl ⟨_, _, rfl⟩ (by decide) (Nat.le_of_ble_eq_true rfl) (c_E_just I J hK hE hC hk) ?_
  refine V_if_eq i_X10_mark_181 (fun c181 => ?_) (fun c181 => ?_)
  · refine V_c i_X10_mark_188 ?_
    exact P_iret i_X10_mark_189 rfl ⟨by unfold jtV at c181 ⊢; first | rw [if_pos (yes01 c181)] | rw [if_neg (no01 c181)], I, J, FrC.rf, hK.Z, rfl, rfl⟩
  · refine V_c i_X10_mark_184 ?_
    refine V_goto i_X10_mark_185 ?_
    exact P_iret i_X10_mark_189 rfl ⟨by unfold jtV at c181 ⊢; first | rw [if_pos (yes01 c181)] | rw [if_neg (no01 c181)], I, J, FrC.rf, hK.Z, rfl, rfl⟩
theorem lt1 {y : Int32} (h : y ≤ 0) : y < 1 := by
  have a := Int32.le_iff_toInt_le.mp h
  have e0 : (0 : Int32).toInt = 0 := rfl
  have e1 : (1 : Int32).toInt = 1 := rfl
  exact Int32.lt_iff_toInt_lt.mpr (by omega)
theorem lt1' {y : Int32} (h : ¬ y ≤ 0) : ¬ y < 1 := by
  intro q
  have a := Int32.lt_iff_toInt_lt.mp q
  have e0 : (0 : Int32).toInt = 0 := rfl
  have e1 : (1 : Int32).toInt = 1 := rfl
  exact h (Int32.le_iff_toInt_le.mpr (by omega))
set_option maxRecDepth 100000 in
set_option maxHeartbeats 4000000 in
theorem m_mark0 (I : IntM) (J : LngM) {n : Nat} {kd nd od : Nat → Nat} {lw pot : Nat} (hK : MK I n kd nd od lw pot) {x y : Int32} (h : hasC n x = 0 ∨ y ≤ 0 ∨ 5 < y) : CtP 7 m_X11_mark [.ref 146, .int x, .int y] I J (QM I J (.int (-1)) none none none) := by
  refine CtP_of (by decide) rfl (Nat.le_of_ble_eq_true rfl) ?_
  refine V_al i_X11_mark_0 rfl ?_
  refine V_il i_X11_mark_1 rfl ?_
  refine P_callV1v i_X11_mark_2 mi_X11_isEater rfl ⟨_, _, rfl⟩ (by decide) (Nat.le_of_ble_eq_true rfl) (c_M_isEater _ _ hK.n7 hK.sz _) ?_
  refine V_if_eq i_X11_mark_5 (fun c5 => ?_) (fun c5 => ?_)
  · refine V_c i_X11_mark_20 ?_
    exact P_iret i_X11_mark_21 rfl ⟨rfl, I, J, FrM.rf, rfl, rfl⟩
  · refine V_il i_X11_mark_8 rfl ?_
    refine V_i2l i_X11_mark_9 ?_
    refine V_cl i_X11_mark_10 ?_
    refine V_cl i_X11_mark_11 ?_
    refine P_callS3v i_X11_mark_14 ms_X11_in (by decide) (Nat.le_of_ble_eq_true rfl) (c_M_in _ _ _ _ _) ?_
    refine V_if_ne_f i_X11_mark_17 (in_no2 (m := 5) (by decide) (by rcases h with h | h | h; exact absurd h c5; exact Or.inl (lt1 h); exact Or.inr h)) ?_
    refine V_c i_X11_mark_20 ?_
    exact P_iret i_X11_mark_21 rfl ⟨rfl, I, J, FrM.rf, rfl, rfl⟩
set_option maxRecDepth 100000 in
set_option maxHeartbeats 4000000 in
theorem m_mark9 (I : IntM) (J : LngM) {n : Nat} {kd nd od : Nat → Nat} {lw pot : Nat} (hK : MK I n kd nd od lw pot) {k K : Nat} (hk : k < n) (hK1 : 1 ≤ K) (hkd5 : K ≤ 5) (hi : ¬ isK kd K k = true) : CtP 7 m_X11_mark [.ref 146, .int (nI k), .int (nI K)] I J (QM I J (.int (-3)) none none (some 3)) := by
  refine CtP_of (by decide) rfl (Nat.le_of_ble_eq_true rfl) ?_
  refine V_al i_X11_mark_0 rfl ?_
  refine V_il i_X11_mark_1 rfl ?_
  refine P_callV1v i_X11_mark_2 mi_X11_isEater rfl ⟨_, _, rfl⟩ (by decide) (Nat.le_of_ble_eq_true rfl) (c_M_isEater _ _ hK.n7 hK.sz _) ?_
  refine V_if_eq_f i_X11_mark_5 (by rw [hasC_nI hK.n7 hk]; decide) ?_
  refine V_il i_X11_mark_8 rfl ?_
  refine V_i2l i_X11_mark_9 ?_
  refine V_cl i_X11_mark_10 ?_
  refine V_cl i_X11_mark_11 ?_
  refine P_callS3v i_X11_mark_14 ms_X11_in (by decide) (Nat.le_of_ble_eq_true rfl) (c_M_in _ _ _ _ _) ?_
  refine V_if_ne_t i_X11_mark_17 (by rw [show inL (nI K).toInt64 1 5 = 1 from in_yes (lo := 1) (hi := 5) hK1 hkd5 (by decide)]; decide) ?_
  refine V_al i_X11_mark_22 rfl ?_
  refine V_il i_X11_mark_23 rfl ?_
  refine V_il i_X11_mark_24 rfl ?_
  refine P_callV2v i_X11_mark_25 mi_X11_isOf rfl ⟨_, _, rfl⟩ (by decide) (Nat.le_of_ble_eq_true rfl) (c_M_isOf _ _ hK.n7 hK.M hK.kd hk hkd5) ?_
  refine V_if_ne_f i_X11_mark_28 (if_neg hi) ?_
  refine V_al i_X11_mark_31 rfl ?_
  refine V_c i_X11_mark_32 ?_
  refine P_callV1v i_X11_mark_33 mi_X11_found rfl ⟨_, _, rfl⟩ (by decide) (Nat.le_of_ble_eq_true rfl) (c_M_found I J (f := 3) (by decide)) ?_
  exact P_iret i_X11_mark_36 rfl ⟨rfl, I, J, FrM.rf, rfl, rfl⟩
set_option maxRecDepth 100000 in
set_option maxHeartbeats 4000000 in
theorem m_mark1 (I : IntM) (J : LngM) {n : Nat} {kd nd od : Nat → Nat} {lw pot : Nat} (hK : MK I n kd nd od lw pot) {k : Nat} (hk : k < n) (hi : isK kd 1 k = true) : CtP 7 m_X11_mark [.ref 146, .int (nI k), .int (nI 1)] I J (QM I J (.int (nI (plN od k n))) none none none) := by
  refine CtP_of (by decide) rfl (Nat.le_of_ble_eq_true rfl) ?_
  refine V_al i_X11_mark_0 rfl ?_
  refine V_il i_X11_mark_1 rfl ?_
  refine P_callV1v i_X11_mark_2 mi_X11_isEater rfl ⟨_, _, rfl⟩ (by decide) (Nat.le_of_ble_eq_true rfl) (c_M_isEater _ _ hK.n7 hK.sz _) ?_
  refine V_if_eq_f i_X11_mark_5 (by rw [hasC_nI hK.n7 hk]; decide) ?_
  refine V_il i_X11_mark_8 rfl ?_
  refine V_i2l i_X11_mark_9 ?_
  refine V_cl i_X11_mark_10 ?_
  refine V_cl i_X11_mark_11 ?_
  refine P_callS3v i_X11_mark_14 ms_X11_in (by decide) (Nat.le_of_ble_eq_true rfl) (c_M_in _ _ _ _ _) ?_
  refine V_if_ne_t i_X11_mark_17 (by decide) ?_
  refine V_al i_X11_mark_22 rfl ?_
  refine V_il i_X11_mark_23 rfl ?_
  refine V_il i_X11_mark_24 rfl ?_
  refine P_callV2v i_X11_mark_25 mi_X11_isOf rfl ⟨_, _, rfl⟩ (by decide) (Nat.le_of_ble_eq_true rfl) (c_M_isOf _ _ hK.n7 hK.M hK.kd hk (by decide)) ?_
  refine V_if_ne_t i_X11_mark_28 (by rw [if_pos hi]; decide) ?_
  refine V_il i_X11_mark_37 rfl ?_
  refine V_tswIn (tgt := 68) i_X11_mark_38 (by decide) (by decide) rfl (by decide) ?_
  refine V_al i_X11_mark_68 rfl ?_
  refine V_il i_X11_mark_69 rfl ?_
  refine P_callV1v i_X11_mark_70 mi_X11_placeOf rfl ⟨_, _, rfl⟩ (by decide) (Nat.le_of_ble_eq_true rfl) (c_M_place _ _ hK.n7 hK.sz hK.od hK.P hk) ?_
  exact P_iret i_X11_mark_73 rfl ⟨rfl, I, J, FrM.rf, rfl, rfl⟩
set_option maxRecDepth 100000 in
set_option maxHeartbeats 4000000 in
theorem m_mark2 (I : IntM) (J : LngM) {n : Nat} {kd nd od : Nat → Nat} {lw pot : Nat} (hK : MK I n kd nd od lw pot) {k : Nat} (hk : k < n) (hi : isK kd 2 k = true) : CtP 7 m_X11_mark [.ref 146, .int (nI k), .int (nI 2)] I J (QM I J (.int (nI (n - 1 - plN od k n))) none none none) := by
  refine CtP_of (by decide) rfl (Nat.le_of_ble_eq_true rfl) ?_
  refine V_al i_X11_mark_0 rfl ?_
  refine V_il i_X11_mark_1 rfl ?_
  refine P_callV1v i_X11_mark_2 mi_X11_isEater rfl ⟨_, _, rfl⟩ (by decide) (Nat.le_of_ble_eq_true rfl) (c_M_isEater _ _ hK.n7 hK.sz _) ?_
  refine V_if_eq_f i_X11_mark_5 (by rw [hasC_nI hK.n7 hk]; decide) ?_
  refine V_il i_X11_mark_8 rfl ?_
  refine V_i2l i_X11_mark_9 ?_
  refine V_cl i_X11_mark_10 ?_
  refine V_cl i_X11_mark_11 ?_
  refine P_callS3v i_X11_mark_14 ms_X11_in (by decide) (Nat.le_of_ble_eq_true rfl) (c_M_in _ _ _ _ _) ?_
  refine V_if_ne_t i_X11_mark_17 (by decide) ?_
  refine V_al i_X11_mark_22 rfl ?_
  refine V_il i_X11_mark_23 rfl ?_
  refine V_il i_X11_mark_24 rfl ?_
  refine P_callV2v i_X11_mark_25 mi_X11_isOf rfl ⟨_, _, rfl⟩ (by decide) (Nat.le_of_ble_eq_true rfl) (c_M_isOf _ _ hK.n7 hK.M hK.kd hk (by decide)) ?_
  refine V_if_ne_t i_X11_mark_28 (by rw [if_pos hi]; decide) ?_
  refine V_il i_X11_mark_37 rfl ?_
  refine V_tswIn (tgt := 74) i_X11_mark_38 (by decide) (by decide) rfl (by decide) ?_
  refine V_al i_X11_mark_74 rfl ?_
  refine V_getI i_X11_mark_75 rfl ?_
  rw [hK.sz]
  refine V_c i_X11_mark_78 ?_
  refine V_isub i_X11_mark_79 ?_
  refine V_al i_X11_mark_80 rfl ?_
  refine V_il i_X11_mark_81 rfl ?_
  refine P_callV1v i_X11_mark_82 mi_X11_placeOf rfl ⟨_, _, rfl⟩ (by decide) (Nat.le_of_ble_eq_true rfl) (c_M_place _ _ hK.n7 hK.sz hK.od hK.P hk) ?_
  refine V_isub i_X11_mark_85 ?_
  rw [show (1 : Int32) = nI 1 from rfl, pk_sub (by omega), pk_sub (by have := plN_lt (od := od) (k := k) (n := n) (by omega); omega)]
  exact P_iret i_X11_mark_86 rfl ⟨rfl, I, J, FrM.rf, rfl, rfl⟩
set_option maxRecDepth 100000 in
set_option maxHeartbeats 4000000 in
theorem m_mark4 (I : IntM) (J : LngM) {n : Nat} {kd nd od : Nat → Nat} {lw pot : Nat} (hK : MK I n kd nd od lw pot) {k : Nat} (hk : k < n) (hi : isK kd 4 k = true) : CtP 7 m_X11_mark [.ref 146, .int (nI k), .int (nI 4)] I J (QM I J (.int (nI (cntN (fdE kd nd lw 1 (pot * un 1) (mvS od (plN od k n) k (n - 1)) n) n))) none none none) := by
  refine CtP_of (by decide) rfl (Nat.le_of_ble_eq_true rfl) ?_
  refine V_al i_X11_mark_0 rfl ?_
  refine V_il i_X11_mark_1 rfl ?_
  refine P_callV1v i_X11_mark_2 mi_X11_isEater rfl ⟨_, _, rfl⟩ (by decide) (Nat.le_of_ble_eq_true rfl) (c_M_isEater _ _ hK.n7 hK.sz _) ?_
  refine V_if_eq_f i_X11_mark_5 (by rw [hasC_nI hK.n7 hk]; decide) ?_
  refine V_il i_X11_mark_8 rfl ?_
  refine V_i2l i_X11_mark_9 ?_
  refine V_cl i_X11_mark_10 ?_
  refine V_cl i_X11_mark_11 ?_
  refine P_callS3v i_X11_mark_14 ms_X11_in (by decide) (Nat.le_of_ble_eq_true rfl) (c_M_in _ _ _ _ _) ?_
  refine V_if_ne_t i_X11_mark_17 (by decide) ?_
  refine V_al i_X11_mark_22 rfl ?_
  refine V_il i_X11_mark_23 rfl ?_
  refine V_il i_X11_mark_24 rfl ?_
  refine P_callV2v i_X11_mark_25 mi_X11_isOf rfl ⟨_, _, rfl⟩ (by decide) (Nat.le_of_ble_eq_true rfl) (c_M_isOf _ _ hK.n7 hK.M hK.kd hk (by decide)) ?_
  refine V_if_ne_t i_X11_mark_28 (by rw [if_pos hi]; decide) ?_
  refine V_il i_X11_mark_37 rfl ?_
  refine V_tswIn (tgt := 135) i_X11_mark_38 (by decide) (by decide) rfl (by decide) ?_
  refine V_al i_X11_mark_135 rfl ?_
  refine V_il i_X11_mark_136 rfl ?_
  refine V_al i_X11_mark_137 rfl ?_
  refine V_getI i_X11_mark_138 rfl ?_
  rw [hK.sz]
  refine V_c i_X11_mark_141 ?_
  refine V_isub i_X11_mark_142 ?_
  rw [show (1 : Int32) = nI 1 from rfl, pk_sub (by omega)]
  refine P_callV2 i_X11_mark_143 mi_X11_seatsWith rfl ⟨_, _, rfl⟩ (by decide) (Nat.le_of_ble_eq_true rfl) (m_with I J hK hk (show n - 1 < n by omega)) (fun r I1 Jx q => ?_)
  obtain ⟨rfl, f1, a1, rfl⟩ := q
  have k1 := FrM.K f1 hK
  refine V_al i_X11_mark_146 rfl ?_
  refine V_c i_X11_mark_147 ?_
  refine V_al i_X11_mark_148 rfl ?_
  refine V_getI i_X11_mark_149 rfl ?_
  rw [k1.pt]
  refine V_al i_X11_mark_152 rfl ?_
  refine V_getI i_X11_mark_153 rfl ?_
  rw [k1.lw]
  refine V_c i_X11_mark_156 ?_
  refine P_callV4 i_X11_mark_157 mi_X11_goes rfl ⟨_, _, rfl⟩ (by decide) (Nat.le_of_ble_eq_true rfl) (m_goes0 I1 J k1 (how := 1) (by decide) k1.l3 k1.p9 a1 (Pm_mv hK.P (Pm_place hK.P hk).1 (Pm_place hK.P hk).2 (show n - 1 < n by omega))) (fun r Ix J1 q => ?_)
  obtain ⟨rfl, rfl, j1, g1⟩ := q
  refine V_al i_X11_mark_160 rfl ?_
  refine P_callV0v i_X11_mark_161 mi_X11_fedSet rfl ⟨_, _, rfl⟩ (by decide) (Nat.le_of_ble_eq_true rfl) (m_fset I1 J1 k1 k1.p9 g1) ?_
  refine P_callS1v i_X11_mark_164 ms_X11_ones (by decide) (Nat.le_of_ble_eq_true rfl) (c_M_ones _ _ (setN_lt _ n hK.n7)) ?_
  rw [popc_set hK.n7]
  exact P_iret i_X11_mark_167 rfl ⟨rfl, I1, J1, FrM.tr f1 (FrJ.M _ j1), rfl, rfl⟩
set_option maxRecDepth 100000 in
set_option maxHeartbeats 4000000 in
theorem m_mark3 (I : IntM) (J : LngM) {n : Nat} {kd nd od : Nat → Nat} {lw pot : Nat} (hK : MK I n kd nd od lw pot) {k : Nat} (hk : k < n) (hi : isK kd 3 k = true) : CtP 7 m_X11_mark [.ref 146, .int (nI k), .int (nI 3)] I J (QM I J (.int (nI (may pot (dv lw 0)) - nI (nd k))) none none none) := by
  refine CtP_of (by decide) rfl (Nat.le_of_ble_eq_true rfl) ?_
  have hp := hK.p9
  have hd0 : 0 < dv lw 0 := by rcases dv_cases lw 0 with e | e | e <;> omega
  have hd4 : dv lw 0 ≤ 4 := by rcases dv_cases lw 0 with e | e | e <;> omega
  have hr : pot % dv lw 0 < dv lw 0 := Nat.mod_lt _ hd0
  refine V_al i_X11_mark_0 rfl ?_
  refine V_il i_X11_mark_1 rfl ?_
  refine P_callV1v i_X11_mark_2 mi_X11_isEater rfl ⟨_, _, rfl⟩ (by decide) (Nat.le_of_ble_eq_true rfl) (c_M_isEater _ _ hK.n7 hK.sz _) ?_
  refine V_if_eq_f i_X11_mark_5 (by rw [hasC_nI hK.n7 hk]; decide) ?_
  refine V_il i_X11_mark_8 rfl ?_
  refine V_i2l i_X11_mark_9 ?_
  refine V_cl i_X11_mark_10 ?_
  refine V_cl i_X11_mark_11 ?_
  refine P_callS3v i_X11_mark_14 ms_X11_in (by decide) (Nat.le_of_ble_eq_true rfl) (c_M_in _ _ _ _ _) ?_
  refine V_if_ne_t i_X11_mark_17 (by decide) ?_
  refine V_al i_X11_mark_22 rfl ?_
  refine V_il i_X11_mark_23 rfl ?_
  refine V_il i_X11_mark_24 rfl ?_
  refine P_callV2v i_X11_mark_25 mi_X11_isOf rfl ⟨_, _, rfl⟩ (by decide) (Nat.le_of_ble_eq_true rfl) (c_M_isOf _ _ hK.n7 hK.M hK.kd hk (by decide)) ?_
  refine V_if_ne_t i_X11_mark_28 (by rw [if_pos hi]; decide) ?_
  refine V_il i_X11_mark_37 rfl ?_
  refine V_tswIn (tgt := 87) i_X11_mark_38 (by decide) (by decide) rfl (by decide) ?_
  refine V_al i_X11_mark_87 rfl ?_
  refine V_getI i_X11_mark_88 rfl ?_
  rw [hK.pt]
  refine V_al i_X11_mark_91 rfl ?_
  refine V_getI i_X11_mark_92 rfl ?_
  rw [hK.pt]
  refine V_al i_X11_mark_95 rfl ?_
  refine V_getI i_X11_mark_96 rfl ?_
  rw [hK.lw]
  refine V_c i_X11_mark_99 ?_
  refine P_callS2v i_X11_mark_100 ms_X11_parts (by decide) (Nat.le_of_ble_eq_true rfl) (c_M_parts _ _ (e := 0) hK.l3 (by decide)) ?_
  refine V_idiv i_X11_mark_103 (nI_ne0 hd0 (by omega)) ?_
  rw [pk_div (by omega) hd0 (by omega)]
  refine V_isub i_X11_mark_104 ?_
  rw [pk_sub (Nat.div_le_self _ _)]
  refine V_al i_X11_mark_105 rfl ?_
  refine V_getI i_X11_mark_106 rfl ?_
  rw [hK.pt]
  refine V_al i_X11_mark_109 rfl ?_
  refine V_getI i_X11_mark_110 rfl ?_
  rw [hK.lw]
  refine V_c i_X11_mark_113 ?_
  refine P_callS2v i_X11_mark_114 ms_X11_parts (by decide) (Nat.le_of_ble_eq_true rfl) (c_M_parts _ _ (e := 0) hK.l3 (by decide)) ?_
  refine V_irem i_X11_mark_117 (nI_ne0 hd0 (by omega)) ?_
  rw [pk_rem (by omega) hd0 (by omega)]
  refine V_if_le i_X11_mark_118 (fun c118 => ?_) (fun c118 => ?_)
  · have c9 : pot % dv lw 0 = 0 := by
      have := (nI_leI (b := 0) (by omega) (by decide)).mp c118
      omega
    have hm : nI (pot - pot / dv lw 0) - (0 : Int32) = nI (may pot (dv lw 0)) := by
      rw [may_dn (dv_cases lw 0), if_pos c9]
      exact pk_sub (b := 0) (Nat.zero_le _)
    refine V_c i_X11_mark_125 ?_
    refine V_isub i_X11_mark_126 ?_
    refine V_al i_X11_mark_127 rfl ?_
    refine V_getR i_X11_mark_128 rfl rfl ?_
    refine V_il i_X11_mark_131 rfl ?_
    refine K_iald k i_X11_mark_132 rfl rfl (by have := hK.n7; omega) (by omega) ?_
    rw [hK.M.2.2 k hk]
    refine V_isub i_X11_mark_133 ?_
    exact P_iret i_X11_mark_134 rfl ⟨by rw [hm], I, J, FrM.rf, rfl, rfl⟩
  · have c9 : ¬ pot % dv lw 0 = 0 := fun q => c118 (by rw [q]; decide)
    have hm : nI (pot - pot / dv lw 0) - (1 : Int32) = nI (may pot (dv lw 0)) := by
      rw [may_dn (dv_cases lw 0), if_neg c9]
      exact pk_sub (b := 1) (by rcases dv_cases lw 0 with e | e | e <;> rw [e] at c9 ⊢ <;> omega)
    refine V_c i_X11_mark_121 ?_
    refine V_goto i_X11_mark_122 ?_
    refine V_isub i_X11_mark_126 ?_
    refine V_al i_X11_mark_127 rfl ?_
    refine V_getR i_X11_mark_128 rfl rfl ?_
    refine V_il i_X11_mark_131 rfl ?_
    refine K_iald k i_X11_mark_132 rfl rfl (by have := hK.n7; omega) (by omega) ?_
    rw [hK.M.2.2 k hk]
    refine V_isub i_X11_mark_133 ?_
    exact P_iret i_X11_mark_134 rfl ⟨by rw [hm], I, J, FrM.rf, rfl, rfl⟩
set_option maxRecDepth 100000 in
set_option maxHeartbeats 4000000 in
theorem m_mark5 (I : IntM) (J : LngM) {n : Nat} {kd nd od : Nat → Nat} {lw pot : Nat} (hK : MK I n kd nd od lw pot) {e how gr : Nat} {ln te : Nat → Nat} (hE : EvOK n how e ln gr te) (hV : EvM I J n how e ln gr te) {k : Nat} (hk : k < n) (hi : isK kd 5 k = true) : CtP 7 m_X11_mark [.ref 146, .int (nI k), .int (nI 5)] I J (QM I J (.int (jtV nd how e ln te n k)) none none none) := by
  refine CtP_of (by decide) rfl (Nat.le_of_ble_eq_true rfl) ?_
  obtain ⟨hh, hen, hPm, hgr, h24, hte⟩ := id hE
  obtain ⟨v1, v2, v3, v4, v5⟩ := id hV
  have hnd := hK.nd _ hk
  have b6 := un_le how
  have hu := un_pos how
  refine V_al i_X11_mark_0 rfl ?_
  refine V_il i_X11_mark_1 rfl ?_
  refine P_callV1v i_X11_mark_2 mi_X11_isEater rfl ⟨_, _, rfl⟩ (by decide) (Nat.le_of_ble_eq_true rfl) (c_M_isEater _ _ hK.n7 hK.sz _) ?_
  refine V_if_eq_f i_X11_mark_5 (by rw [hasC_nI hK.n7 hk]; decide) ?_
  refine V_il i_X11_mark_8 rfl ?_
  refine V_i2l i_X11_mark_9 ?_
  refine V_cl i_X11_mark_10 ?_
  refine V_cl i_X11_mark_11 ?_
  refine P_callS3v i_X11_mark_14 ms_X11_in (by decide) (Nat.le_of_ble_eq_true rfl) (c_M_in _ _ _ _ _) ?_
  refine V_if_ne_t i_X11_mark_17 (by decide) ?_
  refine V_al i_X11_mark_22 rfl ?_
  refine V_il i_X11_mark_23 rfl ?_
  refine V_il i_X11_mark_24 rfl ?_
  refine P_callV2v i_X11_mark_25 mi_X11_isOf rfl ⟨_, _, rfl⟩ (by decide) (Nat.le_of_ble_eq_true rfl) (c_M_isOf _ _ hK.n7 hK.M hK.kd hk (by decide)) ?_
  refine V_if_ne_t i_X11_mark_28 (by rw [if_pos hi]; decide) ?_
  refine V_il i_X11_mark_37 rfl ?_
  refine V_tswOut (tgt := 168) i_X11_mark_38 (by decide) (by decide) ?_
  refine V_al i_X11_mark_168 rfl ?_
  refine V_il i_X11_mark_169 rfl ?_
  refine P_callV1v i_X11_mark_170 mi_X11_hasEaten rfl ⟨_, _, rfl⟩ (by decide) (Nat.le_of_ble_eq_true rfl) (m_E_has I J hK.n7 hE hV hk) ?_
  refine V_if_eq i_X11_mark_173 (fun c173 => ?_) (fun c173 => ?_)
  · have c9 : ¬ (plN ln k n < e ∧ te (plN ln k n) = nd k * un how) := fun q => no01 c173 ((whoN_pl hPm hen hk).mpr q.1)
    refine V_c i_X11_mark_204 ?_
    exact P_iret i_X11_mark_205 rfl ⟨by unfold jtV; first | rw [if_pos c9] | rw [if_neg c9], I, J, FrM.rf, rfl, rfl⟩
  · have b1 := (whoN_pl hPm hen hk).mp (yes01 c173)
    have b2 := hte _ b1
    have e9 := (Pm_place hPm hk).2
    obtain ⟨x1, x2⟩ := v5 _ b1
    rw [e9] at x1 x2
    have b4 := ro_abs (A := ((te (plN ln k n) : Nat) : Int)) hu
    rw [Int.natAbs_natCast] at b4
    have b5 := rd_le (A := ((te (plN ln k n) : Nat) : Int)) hu
    have b7 : nd k * rdN ((te (plN ln k n) : Nat) : Int) (un how) ≤ 99 * 4586471424 := Nat.mul_le_mul hnd (by omega)
    refine V_al i_X11_mark_176 rfl ?_
    refine V_getR i_X11_mark_177 rfl rfl ?_
    refine V_il i_X11_mark_180 rfl ?_
    refine K_lald k i_X11_mark_181 rfl rfl (by have := hK.n7; omega) (by omega) ?_
    refine V_al i_X11_mark_182 rfl ?_
    refine V_getR i_X11_mark_183 rfl rfl ?_
    refine V_il i_X11_mark_186 rfl ?_
    refine K_iald k i_X11_mark_187 rfl rfl (by have := hK.n7; omega) (by omega) ?_
    rw [hK.M.2.2 k hk]
    refine V_i2l i_X11_mark_188 ?_
    rw [nI_long (by omega)]
    refine V_al i_X11_mark_189 rfl ?_
    refine V_getR i_X11_mark_190 rfl rfl ?_
    refine V_il i_X11_mark_193 rfl ?_
    refine K_lald k i_X11_mark_194 rfl rfl (by have := hK.n7; omega) (by omega) ?_
    refine V_lmul i_X11_mark_195 ?_
    rw [x2, lN_mul, x1]
    refine V_lcmp i_X11_mark_196 ?_
    refine V_if_ne i_X11_mark_197 (fun c197 => ?_) (fun c197 => ?_)
    · have c9 : ¬ (plN ln k n < e ∧ te (plN ln k n) = nd k * un how) := fun q => c197 (lgc_eq.mpr (by rw [(ro_eqm hu).mpr q.2, ← lZ_N]))
      refine V_c i_X11_mark_204 ?_
      exact P_iret i_X11_mark_205 rfl ⟨by unfold jtV; first | rw [if_pos c9] | rw [if_neg c9], I, J, FrM.rf, rfl, rfl⟩
    · have c9 : plN ln k n < e ∧ te (plN ln k n) = nd k * un how := ⟨b1, (ro_eqm hu).mp (by
        have q3 := lgc_eq.mp c197
        rw [lZ_N, lZ_eq (by omega) (by omega) (by omega) (by omega)] at q3
        exact q3)⟩
      refine V_c i_X11_mark_200 ?_
      refine V_goto i_X11_mark_201 ?_
      exact P_iret i_X11_mark_205 rfl ⟨by unfold jtV; first | rw [if_pos c9] | rw [if_neg c9], I, J, FrM.rf, rfl, rfl⟩
theorem p_mark {I : IntM} {J : LngM} (h : Inv I J) (x y : Int32) : Pair 5 m_X10_mark [.ref 0, .int x, .int y] 7 m_X11_mark [.ref 146, .int x, .int y] I J := by
  obtain ⟨n, kd, nd, od, lw, pot, hP, hK, hM⟩ := h.K
  by_cases hx : hasC n x = 0
  · exact Pair.q h (fun _ => no_f) (c_mark0 I J hK (Or.inl hx)) (fun I1 J1 e1 e2 => m_mark0 I1 J1 (hM I1 e1) (Or.inl hx))
  obtain ⟨kx, hkx, rfl⟩ := hasC_yes hK.n7 hx
  by_cases hy1 : y ≤ 0
  · exact Pair.q h (fun _ => no_f) (c_mark0 I J hK (Or.inr (Or.inl hy1))) (fun I1 J1 e1 e2 => m_mark0 I1 J1 (hM I1 e1) (Or.inr (Or.inl hy1)))
  by_cases hy2 : 5 < y
  · exact Pair.q h (fun _ => no_f) (c_mark0 I J hK (Or.inr (Or.inr hy2))) (fun I1 J1 e1 e2 => m_mark0 I1 J1 (hM I1 e1) (Or.inr (Or.inr hy2)))
  obtain ⟨K, h1, h5, rfl⟩ := days2 (m := 5) (by decide) (lt1' hy1) hy2
  by_cases hi : isK kd K kx = true
  · obtain rfl | rfl | rfl | rfl | rfl : K = 1 ∨ K = 2 ∨ K = 3 ∨ K = 4 ∨ K = 5 := by omega
    · exact Pair.q h (fun _ => no_f) (c_mark1 I J hK hkx hi) (fun I1 J1 e1 e2 => m_mark1 I1 J1 (hM I1 e1) hkx hi)
    · exact Pair.q h (fun _ => no_f) (c_mark2 I J hK hkx hi) (fun I1 J1 e1 e2 => m_mark2 I1 J1 (hM I1 e1) hkx hi)
    · exact Pair.q h (fun _ => no_f) (c_mark3 I J hK hkx hi) (fun I1 J1 e1 e2 => m_mark3 I1 J1 (hM I1 e1) hkx hi)
    · exact Pair.q h (fun _ => no_f) (c_mark4 I J hK hkx hi) (fun I1 J1 e1 e2 => m_mark4 I1 J1 (hM I1 e1) hkx hi)
    · obtain ⟨how, e, ln, gr, te, hE, hC, hV⟩ := hP.2.1
      exact Pair.q h (fun _ => no_f) (c_mark5 I J hK hE hC hkx hi) (fun I1 J1 e1 e2 => m_mark5 I1 J1 (hM I1 e1) hE (EvM.to e1 e2 hV) hkx hi)
  · exact Pair.q h (fun f9 h9 => by cases h9; decide) (c_mark9 I J hK hkx h1 h5 hi) (fun I1 J1 e1 e2 => m_mark9 I1 J1 (hM I1 e1) hkx h1 h5 hi)

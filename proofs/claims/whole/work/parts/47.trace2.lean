/-! ===== bones, last, ahead ===== -/

theorem c1000_no {x : Int32} (h : hasC 1000 x = 0) (h0 : ¬ x < 0) : ¬ x ≤ 999 := fun q => hasC_no h h0 (hasv_le999 q)
theorem in1000 (x : Int32) : inL x.toInt64 0 999 = hasC 1000 x := in_lit (m := 999) (by decide) x
theorem ahT_le {n k j : Nat} {R : (Nat → Nat) → Nat} {v : Nat} : True := trivial

set_option maxRecDepth 100000 in
set_option maxHeartbeats 4000000 in
theorem c_bones0 (I : IntM) (J : LngM) {n : Nat} {kd nd od : Nat → Nat} {lw pot : Nat} (hK : CK I n kd nd od lw pot) {x : Int32} (h : hasC 1000 x = 0) : CtP 6 m_X10_bones [.ref 0, .int x] I J (QC I J (.int (-1)) none none none) := by
  refine CtP_of (by decide) rfl (Nat.le_of_ble_eq_true rfl) ?_
  refine V_il i_X10_bones_0 rfl ?_
  refine V_if_lt i_X10_bones_1 (fun c1 => ?_) (fun c1 => ?_)
  · refine V_c i_X10_bones_11 ?_
    exact P_iret i_X10_bones_12 rfl ⟨rfl, I, J, FrC.rf, hK.Z, rfl, rfl⟩
  · refine V_il i_X10_bones_4 rfl ?_
    refine V_c i_X10_bones_5 ?_
    refine V_ic_le_f i_X10_bones_8 (c1000_no h c1) ?_
    refine V_c i_X10_bones_11 ?_
    exact P_iret i_X10_bones_12 rfl ⟨rfl, I, J, FrC.rf, hK.Z, rfl, rfl⟩
set_option maxRecDepth 100000 in
set_option maxHeartbeats 4000000 in
theorem c_bones1 (I : IntM) (J : LngM) {n : Nat} {kd nd od : Nat → Nat} {lw pot : Nat} (hK : CK I n kd nd od lw pot) {v : Nat} (hv : v < 1000) (h0 : n = 0) : CtP 6 m_X10_bones [.ref 0, .int (nI v)] I J (QC I J (.int (-4)) none none none) := by
  refine CtP_of (by decide) rfl (Nat.le_of_ble_eq_true rfl) ?_
  refine V_il i_X10_bones_0 rfl ?_
  refine V_if_lt_f i_X10_bones_1 (nI_pos (by omega)) ?_
  refine V_il i_X10_bones_4 rfl ?_
  refine V_c i_X10_bones_5 ?_
  refine V_ic_le_t i_X10_bones_8 (le999_nI hv) ?_
  refine V_al i_X10_bones_13 rfl ?_
  refine V_getR i_X10_bones_14 rfl rfl ?_
  refine V_getI i_X10_bones_17 rfl ?_
  refine V_if_ne_f i_X10_bones_20 (by rw [hK.sz, h0]; rfl) ?_
  refine V_c i_X10_bones_23 ?_
  exact P_iret i_X10_bones_25 rfl ⟨rfl, I, J, FrC.rf, hK.Z, rfl, rfl⟩
set_option maxRecDepth 100000 in
set_option maxHeartbeats 4000000 in
theorem c_bones (I : IntM) (J : LngM) {n : Nat} {kd nd od : Nat → Nat} {lw pot : Nat} (hK : CK I n kd nd od lw pot) {v : Nat} (hv : v < 1000) (h0 : 0 < n) : CtP 6 m_X10_bones [.ref 0, .int (nI v)] I J (QC I J (.int (nI (wyT kd nd lw pot n v).1)) none (some (((wyT kd nd lw pot n v).1 : Int), (wyT kd nd lw pot n v).2.1)) none) := by
  refine CtP_of (by decide) rfl (Nat.le_of_ble_eq_true rfl) ?_
  refine V_il i_X10_bones_0 rfl ?_
  refine V_if_lt_f i_X10_bones_1 (nI_pos (by omega)) ?_
  refine V_il i_X10_bones_4 rfl ?_
  refine V_c i_X10_bones_5 ?_
  refine V_ic_le_t i_X10_bones_8 (le999_nI hv) ?_
  refine V_al i_X10_bones_13 rfl ?_
  refine V_getR i_X10_bones_14 rfl rfl ?_
  refine V_getI i_X10_bones_17 rfl ?_
  refine V_if_ne_t i_X10_bones_20 (by rw [hK.sz]; exact nI_ne0 h0 (by have := hK.n7; omega)) ?_
  refine V_al i_X10_bones_26 rfl ?_
  refine V_getR i_X10_bones_27 rfl rfl ?_
  refine V_al i_X10_bones_30 rfl ?_
  refine V_getR i_X10_bones_31 rfl rfl ?_
  refine V_il i_X10_bones_34 rfl ?_
  refine V_c i_X10_bones_35 ?_
  refine V_c i_X10_bones_36 ?_
  refine P_callV4 i_X10_bones_37 mi_X9_follow rfl ⟨_, _, rfl⟩ (by decide) (Nat.le_of_ble_eq_true rfl) (c_follow I J hK hv h0 (G := False) (k0 := 0) (j0 := 0) (fun z => z.elim)) (fun r I1 J1 q => ?_)
  obtain ⟨rfl, c1, k1, t1, g1⟩ := q
  refine V_al i_X10_bones_40 rfl ?_
  refine V_al i_X10_bones_41 rfl ?_
  refine V_getR i_X10_bones_42 rfl rfl ?_
  refine V_getI i_X10_bones_45 rfl ?_
  rw [t1.1]
  refine V_i2l i_X10_bones_48 ?_
  have b := stW_b (R := reN kd nd lw pot n) (v := v) (n := n) 5040 (0, 0, 0, 0) (fun i => i)
  have b2 := stW_pos (R := reN kd nd lw pot n) (v := v) (n := n) 5039 (0, 0, 0, 0) (fun i => i)
  change (wyT kd nd lw pot n v).1 ≤ 0 + 5040 ∧ (wyT kd nd lw pot n v).2.1 ≤ 0 + 5040 ∧ 0 ≤ (wyT kd nd lw pot n v).2.1 at b
  change 0 < (wyT kd nd lw pot n v).2.1 at b2
  rw [nI_long (by omega), lZ_N]
  refine V_al i_X10_bones_49 rfl ?_
  refine V_getR i_X10_bones_50 rfl rfl ?_
  refine V_getI i_X10_bones_53 rfl ?_
  rw [t1.2.1]
  refine V_i2l i_X10_bones_56 ?_
  rw [nI_long (by omega)]
  refine P_callV2u i_X10_bones_57 mi_X10_tellFraction rfl ⟨_, _, rfl⟩ (by decide) (Nat.le_of_ble_eq_true rfl) (c_tellF I1 J1 (by rw [Int.natAbs_natCast]; omega) (by omega) b2) ?_
  refine V_al i_X10_bones_60 rfl ?_
  refine V_getR i_X10_bones_61 rfl rfl ?_
  refine V_getI i_X10_bones_64 rfl ?_
  rw [t1.1]
  exact P_iret i_X10_bones_67 rfl ⟨rfl, I1, J1, c1, k1.Z, rfl, rfl⟩
set_option maxRecDepth 100000 in
set_option maxHeartbeats 4000000 in
theorem c_last0 (I : IntM) (J : LngM) {n : Nat} {kd nd od : Nat → Nat} {lw pot : Nat} (hK : CK I n kd nd od lw pot) {x : Int32} (h : hasC 1000 x = 0) : CtP 6 m_X10_last [.ref 0, .int x] I J (QC I J (.int (-1)) none none none) := by
  refine CtP_of (by decide) rfl (Nat.le_of_ble_eq_true rfl) ?_
  refine V_il i_X10_last_0 rfl ?_
  refine V_if_lt i_X10_last_1 (fun c1 => ?_) (fun c1 => ?_)
  · refine V_c i_X10_last_11 ?_
    exact P_iret i_X10_last_12 rfl ⟨rfl, I, J, FrC.rf, hK.Z, rfl, rfl⟩
  · refine V_il i_X10_last_4 rfl ?_
    refine V_c i_X10_last_5 ?_
    refine V_ic_le_f i_X10_last_8 (c1000_no h c1) ?_
    refine V_c i_X10_last_11 ?_
    exact P_iret i_X10_last_12 rfl ⟨rfl, I, J, FrC.rf, hK.Z, rfl, rfl⟩
set_option maxRecDepth 100000 in
set_option maxHeartbeats 4000000 in
theorem c_last1 (I : IntM) (J : LngM) {n : Nat} {kd nd od : Nat → Nat} {lw pot : Nat} (hK : CK I n kd nd od lw pot) {v : Nat} (hv : v < 1000) (h0 : n = 0) : CtP 6 m_X10_last [.ref 0, .int (nI v)] I J (QC I J (.int (-3)) none none (some 4)) := by
  refine CtP_of (by decide) rfl (Nat.le_of_ble_eq_true rfl) ?_
  refine V_il i_X10_last_0 rfl ?_
  refine V_if_lt_f i_X10_last_1 (nI_pos (by omega)) ?_
  refine V_il i_X10_last_4 rfl ?_
  refine V_c i_X10_last_5 ?_
  refine V_ic_le_t i_X10_last_8 (le999_nI hv) ?_
  refine V_al i_X10_last_13 rfl ?_
  refine V_getR i_X10_last_14 rfl rfl ?_
  refine V_al i_X10_last_17 rfl ?_
  refine V_getR i_X10_last_18 rfl rfl ?_
  refine V_il i_X10_last_21 rfl ?_
  refine V_c i_X10_last_22 ?_
  refine V_c i_X10_last_23 ?_
  refine P_callV4 i_X10_last_24 mi_X9_follow rfl ⟨_, _, rfl⟩ (by decide) (Nat.le_of_ble_eq_true rfl) (c_follow0 I J hK h0 _ _) (fun r I1 J1 q => ?_)
  obtain ⟨rfl, c1, k1, t1⟩ := q
  refine V_al i_X10_last_27 rfl ?_
  refine V_getR i_X10_last_28 rfl rfl ?_
  refine V_getI i_X10_last_31 rfl ?_
  refine V_if_ne_f i_X10_last_34 (by rw [t1.1]; rfl) ?_
  refine V_al i_X10_last_37 rfl ?_
  refine V_c i_X10_last_38 ?_
  refine P_callV1v i_X10_last_39 mi_X10_refuse rfl ⟨_, _, rfl⟩ (by decide) (Nat.le_of_ble_eq_true rfl) (c_refuse _ _ (f := 4) (by decide)) ?_
  exact P_iret i_X10_last_42 rfl ⟨rfl, I1, J1, c1, k1.Z, rfl, rfl⟩
set_option maxRecDepth 100000 in
set_option maxHeartbeats 4000000 in
theorem c_last2 (I : IntM) (J : LngM) {n : Nat} {kd nd od : Nat → Nat} {lw pot : Nat} (hK : CK I n kd nd od lw pot) {v : Nat} (hv : v < 1000) (h0 : 0 < n) (hw : (wyT kd nd lw pot n v).1 = 0) : CtP 6 m_X10_last [.ref 0, .int (nI v)] I J (QC I J (.int (-3)) none none (some 4)) := by
  refine CtP_of (by decide) rfl (Nat.le_of_ble_eq_true rfl) ?_
  refine V_il i_X10_last_0 rfl ?_
  refine V_if_lt_f i_X10_last_1 (nI_pos (by omega)) ?_
  refine V_il i_X10_last_4 rfl ?_
  refine V_c i_X10_last_5 ?_
  refine V_ic_le_t i_X10_last_8 (le999_nI hv) ?_
  refine V_al i_X10_last_13 rfl ?_
  refine V_getR i_X10_last_14 rfl rfl ?_
  refine V_al i_X10_last_17 rfl ?_
  refine V_getR i_X10_last_18 rfl rfl ?_
  refine V_il i_X10_last_21 rfl ?_
  refine V_c i_X10_last_22 ?_
  refine V_c i_X10_last_23 ?_
  refine P_callV4 i_X10_last_24 mi_X9_follow rfl ⟨_, _, rfl⟩ (by decide) (Nat.le_of_ble_eq_true rfl) (c_follow I J hK hv h0 (G := False) (k0 := 0) (j0 := 0) (fun z => z.elim)) (fun r I1 J1 q => ?_)
  obtain ⟨rfl, c1, k1, t1, g1⟩ := q
  refine V_al i_X10_last_27 rfl ?_
  refine V_getR i_X10_last_28 rfl rfl ?_
  refine V_getI i_X10_last_31 rfl ?_
  refine V_if_ne_f i_X10_last_34 (by rw [t1.1, hw]; rfl) ?_
  refine V_al i_X10_last_37 rfl ?_
  refine V_c i_X10_last_38 ?_
  refine P_callV1v i_X10_last_39 mi_X10_refuse rfl ⟨_, _, rfl⟩ (by decide) (Nat.le_of_ble_eq_true rfl) (c_refuse _ _ (f := 4) (by decide)) ?_
  exact P_iret i_X10_last_42 rfl ⟨rfl, I1, J1, c1, k1.Z, rfl, rfl⟩
set_option maxRecDepth 100000 in
set_option maxHeartbeats 4000000 in
theorem c_last3 (I : IntM) (J : LngM) {n : Nat} {kd nd od : Nat → Nat} {lw pot : Nat} (hK : CK I n kd nd od lw pot) {v : Nat} (hv : v < 1000) (h0 : 0 < n) (hw : 0 < (wyT kd nd lw pot n v).1) : CtP 6 m_X10_last [.ref 0, .int (nI v)] I J (QC I J (.int (wyT kd nd lw pot n v).2.2.1) (some (wyT kd nd lw pot n v).2.2.2) none none) := by
  refine CtP_of (by decide) rfl (Nat.le_of_ble_eq_true rfl) ?_
  refine V_il i_X10_last_0 rfl ?_
  refine V_if_lt_f i_X10_last_1 (nI_pos (by omega)) ?_
  refine V_il i_X10_last_4 rfl ?_
  refine V_c i_X10_last_5 ?_
  refine V_ic_le_t i_X10_last_8 (le999_nI hv) ?_
  refine V_al i_X10_last_13 rfl ?_
  refine V_getR i_X10_last_14 rfl rfl ?_
  refine V_al i_X10_last_17 rfl ?_
  refine V_getR i_X10_last_18 rfl rfl ?_
  refine V_il i_X10_last_21 rfl ?_
  refine V_c i_X10_last_22 ?_
  refine V_c i_X10_last_23 ?_
  refine P_callV4 i_X10_last_24 mi_X9_follow rfl ⟨_, _, rfl⟩ (by decide) (Nat.le_of_ble_eq_true rfl) (c_follow I J hK hv h0 (G := False) (k0 := 0) (j0 := 0) (fun z => z.elim)) (fun r I1 J1 q => ?_)
  obtain ⟨rfl, c1, k1, t1, g1⟩ := q
  refine V_al i_X10_last_27 rfl ?_
  refine V_getR i_X10_last_28 rfl rfl ?_
  refine V_getI i_X10_last_31 rfl ?_
  have b := (stW_b (R := reN kd nd lw pot n) (v := v) (n := n) 5040 (0, 0, 0, 0) (fun i => i)).1
  change (wyT kd nd lw pot n v).1 ≤ 0 + 5040 at b
  refine V_if_ne_t i_X10_last_34 (by rw [t1.1]; exact nI_ne0 hw (by omega)) ?_
  refine V_al i_X10_last_43 rfl ?_
  refine V_al i_X10_last_44 rfl ?_
  refine V_getR i_X10_last_45 rfl rfl ?_
  refine V_getI i_X10_last_48 rfl ?_
  rw [t1.2.2.2]
  refine V_putI i_X10_last_51 rfl ?_
  refine V_al i_X10_last_54 rfl ?_
  refine V_getR i_X10_last_55 rfl rfl ?_
  refine V_getI i_X10_last_58 rfl ?_
  rw [show uI I1 0 13 _ 76 3 = (wyT kd nd lw pot n v).2.2.1 from t1.2.2.1]
  exact P_iret i_X10_last_61 rfl ⟨rfl, I1, J1, c1, k1.Z, rfl, rfl⟩
set_option maxRecDepth 100000 in
set_option maxHeartbeats 4000000 in
theorem c_ahead0 (I : IntM) (J : LngM) {n : Nat} {kd nd od : Nat → Nat} {lw pot : Nat} (hK : CK I n kd nd od lw pot) {x y z : Int32} (h : hasC n x = 0 ∨ hasC n y = 0 ∨ x = y ∨ hasC 1000 z = 0) : CtP 6 m_X10_ahead [.ref 0, .int x, .int y, .int z] I J (QC I J (.int (-1)) none none none) := by
  refine CtP_of (by decide) rfl (Nat.le_of_ble_eq_true rfl) ?_
  refine V_al i_X10_ahead_0 rfl ?_
  refine V_getR i_X10_ahead_1 rfl rfl ?_
  refine V_il i_X10_ahead_4 rfl ?_
  refine P_callV1v i_X10_ahead_5 mi_X0_has rfl ⟨_, _, rfl⟩ (by decide) (Nat.le_of_ble_eq_true rfl) (c_C_has _ _ hK.sz _) ?_
  refine V_if_eq i_X10_ahead_8 (fun c8 => ?_) (fun c8 => ?_)
  · refine V_c i_X10_ahead_38 ?_
    exact P_iret i_X10_ahead_39 rfl ⟨rfl, I, J, FrC.rf, hK.Z, rfl, rfl⟩
  · refine V_al i_X10_ahead_11 rfl ?_
    refine V_getR i_X10_ahead_12 rfl rfl ?_
    refine V_il i_X10_ahead_15 rfl ?_
    refine P_callV1v i_X10_ahead_16 mi_X0_has rfl ⟨_, _, rfl⟩ (by decide) (Nat.le_of_ble_eq_true rfl) (c_C_has _ _ hK.sz _) ?_
    refine V_if_eq i_X10_ahead_19 (fun c19 => ?_) (fun c19 => ?_)
    · refine V_c i_X10_ahead_38 ?_
      exact P_iret i_X10_ahead_39 rfl ⟨rfl, I, J, FrC.rf, hK.Z, rfl, rfl⟩
    · refine V_il i_X10_ahead_22 rfl ?_
      refine V_il i_X10_ahead_23 rfl ?_
      refine V_ic_eq i_X10_ahead_24 (fun c24 => ?_) (fun c24 => ?_)
      · refine V_c i_X10_ahead_38 ?_
        exact P_iret i_X10_ahead_39 rfl ⟨rfl, I, J, FrC.rf, hK.Z, rfl, rfl⟩
      · refine V_il i_X10_ahead_27 rfl ?_
        refine V_if_lt i_X10_ahead_28 (fun c28 => ?_) (fun c28 => ?_)
        · refine V_c i_X10_ahead_38 ?_
          exact P_iret i_X10_ahead_39 rfl ⟨rfl, I, J, FrC.rf, hK.Z, rfl, rfl⟩
        · refine V_il i_X10_ahead_31 rfl ?_
          refine V_c i_X10_ahead_32 ?_
          refine V_ic_le_f i_X10_ahead_35 (by rcases h with h | h | h | h; exact absurd h c8; exact absurd h c19; exact absurd h c24; exact c1000_no h c28) ?_
          refine V_c i_X10_ahead_38 ?_
          exact P_iret i_X10_ahead_39 rfl ⟨rfl, I, J, FrC.rf, hK.Z, rfl, rfl⟩
set_option maxRecDepth 100000 in
set_option maxHeartbeats 4000000 in
theorem c_ahead1 (I : IntM) (J : LngM) {n : Nat} {kd nd od : Nat → Nat} {lw pot : Nat} (hK : CK I n kd nd od lw pot) {k j v : Nat} (hk : k < n) (hj : j < n) (hkj : k ≠ j) (hv : v < 1000) (h0 : 0 < n) (hw : (wyT kd nd lw pot n v).1 = 0) : CtP 6 m_X10_ahead [.ref 0, .int (nI k), .int (nI j), .int (nI v)] I J (QC I J (.int (-3)) none none (some 4)) := by
  refine CtP_of (by decide) rfl (Nat.le_of_ble_eq_true rfl) ?_
  refine V_al i_X10_ahead_0 rfl ?_
  refine V_getR i_X10_ahead_1 rfl rfl ?_
  refine V_il i_X10_ahead_4 rfl ?_
  refine P_callV1v i_X10_ahead_5 mi_X0_has rfl ⟨_, _, rfl⟩ (by decide) (Nat.le_of_ble_eq_true rfl) (c_C_has _ _ hK.sz _) ?_
  refine V_if_eq_f i_X10_ahead_8 (by rw [hasC_nI hK.n7 hk]; decide) ?_
  refine V_al i_X10_ahead_11 rfl ?_
  refine V_getR i_X10_ahead_12 rfl rfl ?_
  refine V_il i_X10_ahead_15 rfl ?_
  refine P_callV1v i_X10_ahead_16 mi_X0_has rfl ⟨_, _, rfl⟩ (by decide) (Nat.le_of_ble_eq_true rfl) (c_C_has _ _ hK.sz _) ?_
  refine V_if_eq_f i_X10_ahead_19 (by rw [hasC_nI hK.n7 hj]; decide) ?_
  refine V_il i_X10_ahead_22 rfl ?_
  refine V_il i_X10_ahead_23 rfl ?_
  refine V_ic_eq_f i_X10_ahead_24 (fun z => hkj ((nI_eq (by have := hK.n7; omega) (by have := hK.n7; omega)).mp z)) ?_
  refine V_il i_X10_ahead_27 rfl ?_
  refine V_if_lt_f i_X10_ahead_28 (nI_pos (by omega)) ?_
  refine V_il i_X10_ahead_31 rfl ?_
  refine V_c i_X10_ahead_32 ?_
  refine V_ic_le_t i_X10_ahead_35 (le999_nI hv) ?_
  refine V_al i_X10_ahead_40 rfl ?_
  refine V_getR i_X10_ahead_41 rfl rfl ?_
  refine V_al i_X10_ahead_44 rfl ?_
  refine V_getR i_X10_ahead_45 rfl rfl ?_
  refine V_il i_X10_ahead_48 rfl ?_
  refine V_il i_X10_ahead_49 rfl ?_
  refine V_il i_X10_ahead_50 rfl ?_
  refine P_callV4 i_X10_ahead_51 mi_X9_follow rfl ⟨_, _, rfl⟩ (by decide) (Nat.le_of_ble_eq_true rfl) (c_follow I J hK hv h0 (G := True) (k0 := k) (j0 := j) (fun _ => ⟨rfl, rfl, hk, hj, hkj⟩)) (fun r I1 J1 q => ?_)
  obtain ⟨rfl, c1, k1, t1, g1⟩ := q
  refine V_al i_X10_ahead_54 rfl ?_
  refine V_getR i_X10_ahead_55 rfl rfl ?_
  refine V_getI i_X10_ahead_58 rfl ?_
  refine V_if_ne_f i_X10_ahead_61 (by rw [t1.1, hw]; rfl) ?_
  refine V_al i_X10_ahead_64 rfl ?_
  refine V_c i_X10_ahead_65 ?_
  refine P_callV1v i_X10_ahead_66 mi_X10_refuse rfl ⟨_, _, rfl⟩ (by decide) (Nat.le_of_ble_eq_true rfl) (c_refuse _ _ (f := 4) (by decide)) ?_
  exact P_iret i_X10_ahead_69 rfl ⟨rfl, I1, J1, c1, k1.Z, rfl, rfl⟩
def ahV (a w : Int32) : Int32 := if a = 0 then 0 else if a = w then 1 else 2
set_option maxRecDepth 100000 in
set_option maxHeartbeats 4000000 in
theorem c_ahead2 (I : IntM) (J : LngM) {n : Nat} {kd nd od : Nat → Nat} {lw pot : Nat} (hK : CK I n kd nd od lw pot) {k j v : Nat} (hk : k < n) (hj : j < n) (hkj : k ≠ j) (hv : v < 1000) (h0 : 0 < n) (hw : 0 < (wyT kd nd lw pot n v).1) : CtP 6 m_X10_ahead [.ref 0, .int (nI k), .int (nI j), .int (nI v)] I J (QC I J (.int (ahV (nI (ahT kd nd lw pot n v k j)) (nI (wyT kd nd lw pot n v).1))) none none none) := by
  refine CtP_of (by decide) rfl (Nat.le_of_ble_eq_true rfl) ?_
  refine V_al i_X10_ahead_0 rfl ?_
  refine V_getR i_X10_ahead_1 rfl rfl ?_
  refine V_il i_X10_ahead_4 rfl ?_
  refine P_callV1v i_X10_ahead_5 mi_X0_has rfl ⟨_, _, rfl⟩ (by decide) (Nat.le_of_ble_eq_true rfl) (c_C_has _ _ hK.sz _) ?_
  refine V_if_eq_f i_X10_ahead_8 (by rw [hasC_nI hK.n7 hk]; decide) ?_
  refine V_al i_X10_ahead_11 rfl ?_
  refine V_getR i_X10_ahead_12 rfl rfl ?_
  refine V_il i_X10_ahead_15 rfl ?_
  refine P_callV1v i_X10_ahead_16 mi_X0_has rfl ⟨_, _, rfl⟩ (by decide) (Nat.le_of_ble_eq_true rfl) (c_C_has _ _ hK.sz _) ?_
  refine V_if_eq_f i_X10_ahead_19 (by rw [hasC_nI hK.n7 hj]; decide) ?_
  refine V_il i_X10_ahead_22 rfl ?_
  refine V_il i_X10_ahead_23 rfl ?_
  refine V_ic_eq_f i_X10_ahead_24 (fun z => hkj ((nI_eq (by have := hK.n7; omega) (by have := hK.n7; omega)).mp z)) ?_
  refine V_il i_X10_ahead_27 rfl ?_
  refine V_if_lt_f i_X10_ahead_28 (nI_pos (by omega)) ?_
  refine V_il i_X10_ahead_31 rfl ?_
  refine V_c i_X10_ahead_32 ?_
  refine V_ic_le_t i_X10_ahead_35 (le999_nI hv) ?_
  refine V_al i_X10_ahead_40 rfl ?_
  refine V_getR i_X10_ahead_41 rfl rfl ?_
  refine V_al i_X10_ahead_44 rfl ?_
  refine V_getR i_X10_ahead_45 rfl rfl ?_
  refine V_il i_X10_ahead_48 rfl ?_
  refine V_il i_X10_ahead_49 rfl ?_
  refine V_il i_X10_ahead_50 rfl ?_
  refine P_callV4 i_X10_ahead_51 mi_X9_follow rfl ⟨_, _, rfl⟩ (by decide) (Nat.le_of_ble_eq_true rfl) (c_follow I J hK hv h0 (G := True) (k0 := k) (j0 := j) (fun _ => ⟨rfl, rfl, hk, hj, hkj⟩)) (fun r I1 J1 q => ?_)
  obtain ⟨rfl, c1, k1, t1, g1⟩ := q
  refine V_al i_X10_ahead_54 rfl ?_
  refine V_getR i_X10_ahead_55 rfl rfl ?_
  refine V_getI i_X10_ahead_58 rfl ?_
  have b := (stW_b (R := reN kd nd lw pot n) (v := v) (n := n) 5040 (0, 0, 0, 0) (fun i => i)).1
  change (wyT kd nd lw pot n v).1 ≤ 0 + 5040 at b
  refine V_if_ne_t i_X10_ahead_61 (by rw [t1.1]; exact nI_ne0 hw (by omega)) ?_
  refine V_al i_X10_ahead_70 rfl ?_
  refine V_getR i_X10_ahead_71 rfl rfl ?_
  refine V_getI i_X10_ahead_74 rfl ?_
  rw [g1 trivial]
  refine V_if_ne i_X10_ahead_77 (fun c77 => ?_) (fun c77 => ?_)
  · refine V_al i_X10_ahead_82 rfl ?_
    refine V_getR i_X10_ahead_83 rfl rfl ?_
    refine V_getI i_X10_ahead_86 rfl ?_
    rw [g1 trivial]
    refine V_al i_X10_ahead_89 rfl ?_
    refine V_getR i_X10_ahead_90 rfl rfl ?_
    refine V_getI i_X10_ahead_93 rfl ?_
    rw [t1.1]
    refine V_ic_ne i_X10_ahead_96 (fun c96 => ?_) (fun c96 => ?_)
    · refine V_c i_X10_ahead_103 ?_
      exact P_iret i_X10_ahead_104 rfl ⟨by unfold ahV; rw [if_neg c77, if_neg c96], I1, J1, c1, k1.Z, rfl, rfl⟩
    · refine V_c i_X10_ahead_99 ?_
      refine V_goto i_X10_ahead_100 ?_
      exact P_iret i_X10_ahead_104 rfl ⟨by unfold ahV; rw [if_neg c77, if_pos c96], I1, J1, c1, k1.Z, rfl, rfl⟩
  · refine V_c i_X10_ahead_80 ?_
    exact P_iret i_X10_ahead_81 rfl ⟨by unfold ahV; rw [if_pos c77], I1, J1, c1, k1.Z, rfl, rfl⟩

theorem if_i {p q : Prop} [Decidable p] [Decidable q] (h : p ↔ q) : (if p then (1 : Int32) else 0) = if q then 1 else 0 := by
  by_cases hp : p
  · rw [if_pos hp, if_pos (h.mp hp)]
  · rw [if_neg hp, if_neg (fun z => hp (h.mpr z))]

set_option maxRecDepth 100000 in
set_option maxHeartbeats 4000000 in
theorem lp_M_tw1 (I : IntM) (J : LngM) {n : Nat} {f : Nat → Nat} (hn : n ≤ 7) (hsz : I 146 19 = nI n) (hA : AtI I 157 n f) (hP : Pm n f) {p : Nat} (hp : p < n) (Q : Option Value → IntM → LngM → Prop) (hq : ∀ I1 : IntM, (∀ a b, a ≠ 173 → I1 a b = I a b) → (∀ k j, k < n → j < n → k ≠ j → I1 173 (7 * k + j) = I 173 (7 * k + j) + (if (plN f k n < plN f j n ∧ (plN f k n < p ∨ (plN f k n = p ∧ plN f j n < n))) then 1 else 0)) → VP m_X11_takesWay 1 102 [(0, .ref 146), (1, .int (nI p))] [] I1 J Q) (I0 : IntM) (f0 : (∀ a b, a ≠ 173 → I0 a b = I a b)) (h0 : ∀ k j, k < n → j < n → k ≠ j → I0 173 (7 * k + j) = I 173 (7 * k + j) + (if (plN f k n < plN f j n ∧ (plN f k n < p ∨ (plN f k n = p ∧ plN f j n < (p + 1)))) then 1 else 0)) : VP m_X11_takesWay 1 63 [(0, .ref 146), (1, .int (nI p)), (2, .int (nI (p + 1)))] [] I0 J Q := by
  have key : ∀ i, i ≤ n → p < i → ∀ I1 : IntM, (∀ a b, a ≠ 173 → I1 a b = I a b) → (∀ k j, k < n → j < n → k ≠ j → I1 173 (7 * k + j) = I 173 (7 * k + j) + (if (plN f k n < plN f j n ∧ (plN f k n < p ∨ (plN f k n = p ∧ plN f j n < i))) then 1 else 0)) → VP m_X11_takesWay 1 63 [(0, .ref 146), (1, .int (nI p)), (2, .int (nI i))] [] I1 J Q := by
    refine down n ?_ (fun i hi ih => ?_)
    · intro hpi I1 fr h1
      refine V_il i_X11_takesWay_63 rfl ?_
      refine V_al i_X11_takesWay_64 rfl ?_
      refine V_getI i_X11_takesWay_65 rfl ?_
      refine V_ic_ge_t i_X11_takesWay_68 (by rw [fr _ _ (by decide), hsz]; exact Int32.le_refl _) ?_
      exact V_L (L' := [(0, _), (1, _)]) ⟨rfl, rfl, trivial⟩ (hq I1 fr h1)
    · intro hpi I1 fr h1
      have hfp := hP.1 p hp
      have hfi := hP.1 i hi
      have hm : 7 * f p + f i < 49 := by omega
      refine V_il i_X11_takesWay_63 rfl ?_
      refine V_al i_X11_takesWay_64 rfl ?_
      refine V_getI i_X11_takesWay_65 rfl ?_
      refine V_ic_ge_f i_X11_takesWay_68 (by rw [fr _ _ (by decide), hsz]; exact nI_ge hi (by omega)) ?_
      refine V_al i_X11_takesWay_71 rfl ?_
      refine V_getR i_X11_takesWay_72 rfl rfl ?_
      refine V_c i_X11_takesWay_75 ?_
      refine V_al i_X11_takesWay_77 rfl ?_
      refine V_getR i_X11_takesWay_78 rfl rfl ?_
      refine V_il i_X11_takesWay_81 rfl ?_
      refine K_iald p i_X11_takesWay_82 rfl rfl (by omega) (by omega) ?_
      rw [show I1 157 p = nI (f p) from by rw [fr _ _ (by decide)]; exact hA p hp]
      refine V_imul i_X11_takesWay_83 ?_
      refine V_al i_X11_takesWay_84 rfl ?_
      refine V_getR i_X11_takesWay_85 rfl rfl ?_
      refine V_il i_X11_takesWay_88 rfl ?_
      refine K_iald i i_X11_takesWay_89 rfl rfl (by omega) (by omega) ?_
      rw [show I1 157 i = nI (f i) from by rw [fr _ _ (by decide)]; exact hA i hi]
      refine V_iadd i_X11_takesWay_90 ?_
      rw [show (7 : Int32) = nI 7 from rfl, pk_mul, nI_add]
      refine V_dup2 i_X11_takesWay_91 rfl rfl ?_
      refine K_iald (7 * f p + f i) i_X11_takesWay_92 rfl rfl (by omega) (by omega) ?_
      refine V_c i_X11_takesWay_93 ?_
      refine V_iadd i_X11_takesWay_94 ?_
      refine K_iast (7 * f p + f i) i_X11_takesWay_95 rfl rfl (by omega) (by omega) ?_
      refine V_iinc (L' := [(0, _), (1, _), (2, _)]) (n' := 1) i_X11_takesWay_96 (by decide) rfl (by decide) ⟨rfl, rfl, rfl, trivial⟩ ?_
      refine V_goto i_X11_takesWay_99 ?_
      refine V_L (L' := [(0, _), (1, _), (2, _)]) ⟨rfl, rfl, rfl, trivial⟩ ?_
      rw [show nI i + 1 = nI (i + 1) from nI_1 i]
      refine ih (by omega) _ (fun a b h => by rw [uI_nx h]; exact fr a b h) (fun k j hk hj hkj => ?_)
      have pk := Pm_place hP hk
      have pj := Pm_place hP hj
      by_cases hc : k = f p ∧ j = f i
      · obtain ⟨rfl, rfl⟩ := hc
        have q1 := Pm_at hP hp
        have q2 := Pm_at hP hi
        rw [uI_eq, h1 _ _ hk hj hkj, if_neg (by omega), if_pos (by omega), Int32.add_zero]
      · rw [uI_nk (by omega), h1 k j hk hj hkj]
        congr 1
        refine if_i ?_
        have hne : ¬ (plN f k n = p ∧ plN f j n = i) := fun z => hc ⟨by rw [← z.1]; exact pk.2.symm, by rw [← z.2]; exact pj.2.symm⟩
        omega
  exact key (p + 1) (by omega) (Nat.lt_succ_self p) I0 f0 h0
set_option maxRecDepth 100000 in
set_option maxHeartbeats 4000000 in
theorem lp_M_tw2 (I : IntM) (J : LngM) {n : Nat} {f : Nat → Nat} (hn : n ≤ 7) (hsz : I 146 19 = nI n) (hA : AtI I 157 n f) (hP : Pm n f) (Q : Option Value → IntM → LngM → Prop) (hq : ∀ I1 : IntM, (∀ a b, a ≠ 173 → I1 a b = I a b) → (∀ k j, k < n → j < n → k ≠ j → I1 173 (7 * k + j) = I 173 (7 * k + j) + (if plN f k n < plN f j n then 1 else 0)) → Q none I1 J) : VP m_X11_takesWay 1 51 [(0, .ref 146), (1, .int 0)] [] I J Q := by
  have key : ∀ i, i ≤ n → ∀ I1 : IntM, (∀ a b, a ≠ 173 → I1 a b = I a b) → (∀ k j, k < n → j < n → k ≠ j → I1 173 (7 * k + j) = I 173 (7 * k + j) + (if plN f k n < plN f j n ∧ plN f k n < i then 1 else 0)) → VP m_X11_takesWay 1 51 [(0, .ref 146), (1, .int (nI i))] [] I1 J Q := by
    refine down n ?_ (fun i hi ih => ?_)
    · intro I1 fr h1
      refine V_il i_X11_takesWay_51 rfl ?_
      refine V_al i_X11_takesWay_52 rfl ?_
      refine V_getI i_X11_takesWay_53 rfl ?_
      refine V_ic_ge_t i_X11_takesWay_56 (by rw [fr _ _ (by decide), hsz]; exact Int32.le_refl _) ?_
      exact P_vret i_X11_takesWay_108 rfl (hq I1 fr (fun k j hk hj hkj => by
        have pk := (Pm_place hP hk).1
        rw [h1 k j hk hj hkj]
        congr 1
        exact if_i (by omega)))
    · intro I1 fr h1
      refine V_il i_X11_takesWay_51 rfl ?_
      refine V_al i_X11_takesWay_52 rfl ?_
      refine V_getI i_X11_takesWay_53 rfl ?_
      refine V_ic_ge_f i_X11_takesWay_56 (by rw [fr _ _ (by decide), hsz]; exact nI_ge hi (by omega)) ?_
      refine V_il i_X11_takesWay_59 rfl ?_
      refine V_c i_X11_takesWay_60 ?_
      refine V_iadd i_X11_takesWay_61 ?_
      rw [show nI i + 1 = nI (i + 1) from nI_1 i]
      refine V_is (L' := [(0, _), (1, _), (2, _)]) i_X11_takesWay_62 (by decide) ⟨rfl, rfl, rfl, trivial⟩ ?_
      refine V_L (L' := [(0, _), (1, _), (2, _)]) ⟨rfl, rfl, rfl, trivial⟩ ?_
      refine lp_M_tw1 I J hn hsz hA hP hi Q (fun I2 fr2 h2 => ?_) I1 fr (fun k j hk hj hkj => by
        rw [h1 k j hk hj hkj]
        congr 1
        exact if_i (by omega))
      refine V_iinc (L' := [(0, _), (1, _)]) (n' := 1) i_X11_takesWay_102 (by decide) rfl (by decide) ⟨rfl, rfl, trivial⟩ ?_
      refine V_goto i_X11_takesWay_105 ?_
      refine V_L (L' := [(0, _), (1, _)]) ⟨rfl, rfl, trivial⟩ ?_
      rw [show nI i + 1 = nI (i + 1) from nI_1 i]
      exact ih I2 fr2 (fun k j hk hj hkj => by
        have pj := (Pm_place hP hj).1
        rw [h2 k j hk hj hkj]
        congr 1
        exact if_i (by omega))
  exact key 0 (Nat.zero_le _) I (fun _ _ _ => rfl) (fun k j _ _ _ => by rw [if_neg (by omega)]; exact (Int32.add_zero _).symm)
set_option maxRecDepth 100000 in
set_option maxHeartbeats 4000000 in
theorem c_M_tw (I : IntM) (J : LngM)  {n : Nat} {f : Nat → Nat} (h1 : 1 ≤ n) (hn : n ≤ 7) (hsz : I 146 19 = nI n) (hA : AtI I 157 n f) (hP : Pm n f) : CtP 1 m_X11_takesWay [.ref 146] I J (fun r I1 J1 => r = none ∧ J = J1 ∧ (∀ w : Wys, TrW I 146 47 48 49 50 w → TrW I1 146 47 48 49 50 (w.1 + 1, w.2.1, w.2.2.1 ||| shB (f (n - 1)), w.2.2.2 ||| shB (f 0))) ∧ (∀ k j, k < n → j < n → k ≠ j → I1 173 (7 * k + j) = I 173 (7 * k + j) + (if plN f k n < plN f j n then 1 else 0)) ∧ ∀ a b, a ≠ 173 → ¬ (a = 146 ∧ 47 ≤ b ∧ b ≤ 50) → I1 a b = I a b) := by
  refine CtP_of (by decide) rfl (Nat.le_of_ble_eq_true rfl) ?_
  refine V_al i_X11_takesWay_0 rfl ?_
  refine V_dup i_X11_takesWay_1 rfl ?_
  refine V_getI i_X11_takesWay_2 rfl ?_
  refine V_c i_X11_takesWay_5 ?_
  refine V_iadd i_X11_takesWay_6 ?_
  refine V_putI i_X11_takesWay_7 rfl ?_
  obtain ⟨I1, hI1⟩ : ∃ x, x = uI I 146 47 (I 146 47 + 1) := ⟨_, rfl⟩
  rw [← hI1]
  have fI1 : ∀ a b, a ≠ 146 → I1 a b = I a b := fun a b h => by rw [hI1, uI_nx h]
  refine V_al i_X11_takesWay_10 rfl ?_
  refine V_dup i_X11_takesWay_11 rfl ?_
  refine V_getI i_X11_takesWay_12 rfl ?_
  refine V_c i_X11_takesWay_15 ?_
  refine V_al i_X11_takesWay_16 rfl ?_
  refine V_getR i_X11_takesWay_17 rfl rfl ?_
  refine V_c i_X11_takesWay_20 ?_
  refine K_iald 0 i_X11_takesWay_21 rfl rfl (by decide) (by omega) ?_
  rw [show I1 157 0 = nI (f 0) from by rw [fI1 _ _ (by decide)]; exact hA 0 h1]
  refine V_ishl i_X11_takesWay_22 ?_
  refine V_ior i_X11_takesWay_23 ?_
  refine V_putI i_X11_takesWay_24 rfl ?_
  obtain ⟨I2, hI2⟩ : ∃ x, x = uI I1 146 50 (I1 146 50 ||| 1 <<< (nI (f 0) &&& 31)) := ⟨_, rfl⟩
  rw [← hI2]
  have fI2 : ∀ a b, a ≠ 146 → I2 a b = I1 a b := fun a b h => by rw [hI2, uI_nx h]
  refine V_al i_X11_takesWay_27 rfl ?_
  refine V_dup i_X11_takesWay_28 rfl ?_
  refine V_getI i_X11_takesWay_29 rfl ?_
  refine V_c i_X11_takesWay_32 ?_
  refine V_al i_X11_takesWay_33 rfl ?_
  refine V_getR i_X11_takesWay_34 rfl rfl ?_
  refine V_al i_X11_takesWay_37 rfl ?_
  refine V_getI i_X11_takesWay_38 rfl ?_
  rw [show I2 146 19 = nI n from by rw [hI2, uI_nk (by decide), hI1, uI_nk (by decide)]; exact hsz]
  refine V_c i_X11_takesWay_41 ?_
  refine V_isub i_X11_takesWay_42 ?_
  rw [nI_sub1 h1]
  refine K_iald (n - 1) i_X11_takesWay_43 rfl rfl (by omega) (by omega) ?_
  rw [show I2 157 (n - 1) = nI (f (n - 1)) from by rw [fI2 _ _ (by decide), fI1 _ _ (by decide)]; exact hA _ (by omega)]
  refine V_ishl i_X11_takesWay_44 ?_
  refine V_ior i_X11_takesWay_45 ?_
  refine V_putI i_X11_takesWay_46 rfl ?_
  obtain ⟨I3, hI3⟩ : ∃ x, x = uI I2 146 49 (I2 146 49 ||| 1 <<< (nI (f (n - 1)) &&& 31)) := ⟨_, rfl⟩
  rw [← hI3]
  have fI3 : ∀ a b, a ≠ 146 → I3 a b = I2 a b := fun a b h => by rw [hI3, uI_nx h]
  refine V_c i_X11_takesWay_49 ?_
  refine V_is (L' := [(0, _), (1, _)]) i_X11_takesWay_50 (by decide) ⟨rfl, rfl, trivial⟩ ?_
  refine V_L (L' := [(0, _), (1, _)]) ⟨rfl, rfl, trivial⟩ ?_
  refine lp_M_tw2 I3 J hn (by rw [hI3, uI_nk (by decide), hI2, uI_nk (by decide), hI1, uI_nk (by decide)]; exact hsz) (fun p hp => by rw [fI3 _ _ (by decide), fI2 _ _ (by decide), fI1 _ _ (by decide)]; exact hA p hp) hP _ (fun I4 fr h4 => ⟨rfl, rfl, fun w ⟨w1, w2, w3, w4⟩ => ⟨?_, ?_, ?_, ?_⟩, fun k j hk hj hkj => ?_, fun a b ha hb => ?_⟩)
  · rw [fr _ _ (by decide), hI3, uI_nk (by decide), hI2, uI_nk (by decide), hI1, uI_eq, w1, nI_1]
  · rw [fr _ _ (by decide), hI3, uI_nk (by decide), hI2, uI_nk (by decide), hI1, uI_nk (by decide)]
    exact w2
  · rw [fr _ _ (by decide), hI3, uI_eq, hI2, uI_nk (by decide), hI1, uI_nk (by decide), w3]
    rfl
  · rw [fr _ _ (by decide), hI3, uI_nk (by decide), hI2, uI_eq, hI1, uI_nk (by decide), w4]
    rfl
  · rw [h4 k j hk hj hkj, fI3 _ _ (by decide), fI2 _ _ (by decide), fI1 _ _ (by decide)]
  · rw [fr _ _ ha, hI3, hI2, hI1]
    unfold uI
    rw [if_neg (by omega), if_neg (by omega), if_neg (by omega)]
theorem FrM.free {I I' : IntM} (J : LngM) (h : ∀ a b, a ≠ 173 → ¬ (a = 146 ∧ 47 ≤ b ∧ b ≤ 50) → I' a b = I a b) : FrM I J I' J := ⟨fun x k q => h x k (by unfold pI at q; omega) (by unfold pI at q; omega), fun _ _ _ => rfl⟩

set_option maxRecDepth 100000 in
set_option maxHeartbeats 4000000 in
theorem lp_M_fw1 (I : IntM) (J : LngM) {v : Nat} (Q : Option Value → IntM → LngM → Prop) (hq : ∀ I1 : IntM, (∀ a b, a ≠ 173 → I1 a b = I a b) → (∀ m, m < 49 → I1 173 m = 0) → VP m_X11_findWays 7 41 [(0, .ref 146), (1, .int (nI v))] [] I1 J Q) : VP m_X11_findWays 7 22 [(0, .ref 146), (1, .int (nI v)), (2, .int 0)] [] I J Q := by
  have key : ∀ i, i ≤ 49 → ∀ I1 : IntM, (∀ a b, a ≠ 173 → I1 a b = I a b) → (∀ m, m < i → I1 173 m = 0) → VP m_X11_findWays 7 22 [(0, .ref 146), (1, .int (nI v)), (2, .int (nI i))] [] I1 J Q := by
    refine down 49 ?_ (fun i hi ih => ?_)
    · intro I1 fr h1
      refine V_il i_X11_findWays_22 rfl ?_
      refine V_c i_X11_findWays_23 ?_
      refine V_ic_ge_t i_X11_findWays_25 (Int32.le_refl _) ?_
      exact V_L (L' := [(0, _), (1, _)]) ⟨rfl, rfl, trivial⟩ (hq I1 fr h1)
    · intro I1 fr h1
      refine V_il i_X11_findWays_22 rfl ?_
      refine V_c i_X11_findWays_23 ?_
      refine V_ic_ge_f i_X11_findWays_25 (nI_ge (show i < 49 by omega) (by decide)) ?_
      refine V_al i_X11_findWays_28 rfl ?_
      refine V_getR i_X11_findWays_29 rfl rfl ?_
      refine V_il i_X11_findWays_32 rfl ?_
      refine V_c i_X11_findWays_33 ?_
      refine K_iast i i_X11_findWays_34 rfl rfl (by omega) (by omega) ?_
      refine V_iinc (L' := [(0, _), (1, _), (2, _)]) (n' := 1) i_X11_findWays_35 (by decide) rfl (by decide) ⟨rfl, rfl, rfl, trivial⟩ ?_
      refine V_goto i_X11_findWays_38 ?_
      refine V_L (L' := [(0, _), (1, _), (2, _)]) ⟨rfl, rfl, rfl, trivial⟩ ?_
      rw [show nI i + 1 = nI (i + 1) from nI_1 i]
      exact ih _ (fun a b h => by rw [uI_nx h]; exact fr a b h) (fun m hm => by
        by_cases hmi : m = i
        · rw [hmi, uI_eq]
        · rw [uI_nk hmi]; exact h1 m (by omega))
  exact key 0 (Nat.zero_le _) I (fun _ _ _ => rfl) (fun m hm => absurd hm (Nat.not_lt_zero m))
theorem FrM.w {I I' : IntM} {J : LngM} {w : Wys} : True := trivial
theorem next_x {I I1 : IntM} {n : Nat} (h : RowF I I1 157 n) : ∀ a b, a ≠ 157 → I1 a b = I a b := fun a b q => h a b (fun z => q z.1)
theorem m_nextX (I : IntM) (J : LngM) {n : Nat} {kd nd od : Nat → Nat} {lw pot : Nat} (hK : MK I n kd nd od lw pot) {ln : Nat → Nat} (h1 : 1 ≤ n) (hA : AtI I 157 n ln) (hP : Pm n ln) : CtP 2 m_X11_nextSeats [.ref 146] I J (fun r I1 J1 => J = J1 ∧ FrM I J I1 J1 ∧ (∀ a b, a ≠ 157 → I1 a b = I a b) ∧ match nx n ln with | none => r = some (.int 0) | some q => r = some (.int 1) ∧ AtI I1 157 n q.2 ∧ Pm n q.2) := by
  refine CtP_mono (c_M_next I J h1 hK.n7 hK.sz hA hP) (fun r I1 J1 q => ?_)
  obtain ⟨rfl, q⟩ := q
  cases hx : nx n ln with
  | none =>
    rw [hx] at q
    obtain ⟨rfl, rfl⟩ := q
    exact ⟨rfl, FrM.rf, fun _ _ _ => rfl, rfl⟩
  | some z =>
    rw [hx] at q
    exact ⟨rfl, RowF.M _ q.2.2, fun a b h => q.2.2 a b (fun z => h z.1), q.1, q.2.1, Pm_nx h1 hP hx⟩
set_option maxRecDepth 100000 in
set_option maxHeartbeats 4000000 in
theorem lp_M_fw2 (I : IntM) (J : LngM) {n : Nat} {kd nd od : Nat → Nat} {lw pot : Nat} (hK : MK I n kd nd od lw pot) {v : Nat} (hv : v < 1000) (h1 : 1 ≤ n) {T : Wys} {T2 : Nat → Nat → Nat} (Q : Option Value → IntM → LngM → Prop) (hq : ∀ I1 J1, FrM I J I1 J1 → TrW I1 146 47 48 49 50 T → (∀ k j, k < n → j < n → k ≠ j → I1 173 (7 * k + j) = nI (T2 k j)) → Q none I1 J1) : ∀ c f s (a : Nat → Nat → Nat), ends n c f → Pm n f → foC n (stW (reN kd nd lw pot n) v n) c s f = T → (∀ k j, k < n → j < n → k ≠ j → foC n (stA n k j (reN kd nd lw pot n) v) c (a k j) f = T2 k j) → ∀ I1 J1, FrM I J I1 J1 → AtI I1 157 n f → TrW I1 146 47 48 49 50 s → (∀ k j, k < n → j < n → k ≠ j → I1 173 (7 * k + j) = nI (a k j)) → VP m_X11_findWays 7 58 [(0, .ref 146), (1, .int (nI v)), (2, .int 1)] [] I1 J1 Q := by
  intro c
  induction c with
  | zero => intro f s a he; exact he.elim
  | succ c ih =>
    intro f s a he hPf hT hT2 I1 J1 f1 hA t1 a1
    have k1 := FrM.K f1 hK
    have tail : ∀ s' (a' : Nat → Nat → Nat) I3 J2, stW (reN kd nd lw pot n) v n s f = s' → (∀ k j, k < n → j < n → k ≠ j → stA n k j (reN kd nd lw pot n) v (a k j) f = a' k j) → FrM I J I3 J2 → AtI I3 157 n f → TrW I3 146 47 48 49 50 s' → (∀ k j, k < n → j < n → k ≠ j → I3 173 (7 * k + j) = nI (a' k j)) → VP m_X11_findWays 7 100 [(0, .ref 146), (1, .int (nI v))] [] I3 J2 Q := by
      intro s' a' I3 J2 hs ha f3 a3 t3 g3
      have k3 := FrM.K f3 hK
      refine V_al i_X11_findWays_100 rfl ?_
      refine P_callV0 i_X11_findWays_101 mi_X11_nextSeats rfl ⟨_, _, rfl⟩ (by decide) (Nat.le_of_ble_eq_true rfl) (m_nextX I3 J2 k3 h1 a3 hPf) (fun r I4 J4 q => ?_)
      rcases nx_or n f with hx | ⟨z, hx⟩
      · rw [hx] at q
        obtain ⟨rfl, f4, x4, rfl⟩ := q
        refine V_is (L' := [(0, _), (1, _), (2, _)]) i_X11_findWays_104 (by decide) ⟨rfl, rfl, rfl, trivial⟩ ?_
        refine V_goto i_X11_findWays_105 ?_
        refine V_L (L' := [(0, _), (1, _), (2, _)]) ⟨rfl, rfl, rfl, trivial⟩ ?_
        rw [foC_n hx, hs] at hT
        refine V_il i_X11_findWays_58 rfl ?_
        refine V_if_eq_t i_X11_findWays_59 rfl ?_
        exact P_vret i_X11_findWays_108 rfl (hq I4 J2 (FrM.tr f3 f4) (by rw [← hT]; exact (TrW.fr (fun _ _ => x4 _ _ (by decide)) t3)) (fun k j hk hj hkj => by rw [x4 _ _ (by decide), g3 k j hk hj hkj, ← hT2 k j hk hj hkj, foC_n hx, ha k j hk hj hkj]))
      · rw [hx] at q
        obtain ⟨rfl, f4, x4, rfl, a4, hPz⟩ := q
        refine V_is (L' := [(0, _), (1, _), (2, _)]) i_X11_findWays_104 (by decide) ⟨rfl, rfl, rfl, trivial⟩ ?_
        refine V_goto i_X11_findWays_105 ?_
        refine V_L (L' := [(0, _), (1, _), (2, _)]) ⟨rfl, rfl, rfl, trivial⟩ ?_
        rw [foC_s hx, hs] at hT
        exact ih z.2 s' a' (ends_s he hx) hPz hT (fun k j hk hj hkj => by rw [← ha k j hk hj hkj, ← foC_s hx]; exact hT2 k j hk hj hkj) I4 J2 (FrM.tr f3 f4) a4 (TrW.fr (fun _ _ => x4 _ _ (by decide)) t3) (fun k j hk hj hkj => by rw [x4 _ _ (by decide)]; exact g3 k j hk hj hkj)
    refine V_il i_X11_findWays_58 rfl ?_
    refine V_if_eq_f i_X11_findWays_59 (by decide) ?_
    refine V_al i_X11_findWays_62 rfl ?_
    refine V_c i_X11_findWays_63 ?_
    refine V_al i_X11_findWays_64 rfl ?_
    refine V_getI i_X11_findWays_65 rfl ?_
    rw [k1.pt]
    refine V_al i_X11_findWays_68 rfl ?_
    refine V_getI i_X11_findWays_69 rfl ?_
    rw [k1.lw]
    refine V_c i_X11_findWays_72 ?_
    refine P_callV4 i_X11_findWays_73 mi_X11_goes rfl ⟨_, _, rfl⟩ (by decide) (Nat.le_of_ble_eq_true rfl) (m_goes0 (how := 1) I1 J1 k1 (by decide) k1.l3 k1.p9 hA hPf) (fun r Ix J2 q => ?_)
    obtain ⟨rfl, rfl, j2, g2⟩ := q
    have f2 := FrM.tr f1 (FrJ.M I1 j2)
    refine V_al i_X11_findWays_76 rfl ?_
    refine V_dup i_X11_findWays_77 rfl ?_
    refine V_getI i_X11_findWays_78 rfl ?_
    rw [t1.2.1]
    refine V_c i_X11_findWays_81 ?_
    refine V_iadd i_X11_findWays_82 ?_
    rw [nI_1]
    refine V_putI i_X11_findWays_83 rfl ?_
    obtain ⟨I3, hI3⟩ : ∃ x, x = uI I1 146 48 (nI (s.2.1 + 1)) := ⟨_, rfl⟩
    rw [← hI3]
    have x3 : ∀ a b, a ≠ 173 → ¬ (a = 146 ∧ 47 ≤ b ∧ b ≤ 50) → I3 a b = I1 a b := fun a b _ hb => by
      rw [hI3]
      unfold uI
      rw [if_neg (by omega)]
    have f3 := FrM.tr f2 (FrM.free J2 x3)
    have k3 := FrM.K f3 hK
    have a3 : AtI I3 157 n f := fun p hp => (x3 _ _ (by decide) (by omega)).trans (hA p hp)
    have g3 : ∀ k j, k < n → j < n → k ≠ j → I3 173 (7 * k + j) = nI (a k j) := fun k j hk hj hkj => by rw [hI3, uI_nx (by decide)]; exact a1 k j hk hj hkj
    refine V_al i_X11_findWays_86 rfl ?_
    refine V_getJ i_X11_findWays_87 rfl ?_
    rw [Fr_un1 g2.1, show lN (thS kd nd lw 1 (pot * un 1) f n) = lN ((reN kd nd lw pot n) f) from rfl]
    refine V_il i_X11_findWays_90 rfl ?_
    refine V_i2l i_X11_findWays_91 ?_
    rw [nI_long (by omega)]
    refine V_lcmp i_X11_findWays_92 ?_
    refine V_if_ne i_X11_findWays_93 (fun c93 => ?_) (fun c93 => ?_)
    · have d1 : ¬ (reN kd nd lw pot n) f = v := fun z => c93 (lgc_eq.mpr (congrArg lN z))
      refine V_L (L' := [(0, _), (1, _)]) ⟨rfl, rfl, trivial⟩ ?_
      exact tail (s.1, s.2.1 + 1, s.2.2.1, s.2.2.2) a I3 J2 (stW_f d1) (fun k j _ _ _ => stA_f d1) f3 a3 ⟨by rw [hI3, uI_nk (by decide)]; exact t1.1, by rw [hI3, uI_eq], by rw [hI3, uI_nk (by decide)]; exact t1.2.2.1, by rw [hI3, uI_nk (by decide)]; exact t1.2.2.2⟩ g3
    · have d1 : (reN kd nd lw pot n) f = v := (pk_lEQ (Nat.lt_trans (thB hK.p9 n) (by decide)) (by omega)).mp (lgc_eq.mp c93)
      refine V_al i_X11_findWays_96 rfl ?_
      refine P_callV0 i_X11_findWays_97 mi_X11_takesWay rfl ⟨_, _, rfl⟩ (by decide) (Nat.le_of_ble_eq_true rfl) (c_M_tw I3 J2 h1 hK.n7 k3.sz a3 hPf) (fun r I4 J4 q => ?_)
      obtain ⟨rfl, rfl, b1, b2, b3⟩ := q
      refine V_L (L' := [(0, _), (1, _)]) ⟨rfl, rfl, trivial⟩ ?_
      exact tail _ (fun k j => a k j + (if plN f k n < plN f j n then 1 else 0)) I4 J2 (stW_t d1) (fun k j _ _ _ => stA_t d1) (FrM.tr f3 (FrM.free J2 b3)) (fun p hp => (b3 _ _ (by decide) (by omega)).trans (a3 p hp)) (b1 (s.1, s.2.1 + 1, s.2.2.1, s.2.2.2) ⟨by rw [hI3, uI_nk (by decide)]; exact t1.1, by rw [hI3, uI_eq], by rw [hI3, uI_nk (by decide)]; exact t1.2.2.1, by rw [hI3, uI_nk (by decide)]; exact t1.2.2.2⟩) (fun k j hk hj hkj => by rw [b2 k j hk hj hkj, g3 k j hk hj hkj, nI_add01])
theorem m_firstX (I : IntM) (J : LngM) {n : Nat} {kd nd od : Nat → Nat} {lw pot : Nat} (hK : MK I n kd nd od lw pot) : CtP 1 m_X11_firstSeats [.ref 146] I J (fun r I1 J1 => r = none ∧ (∀ a b, a ≠ 157 → I1 a b = I a b) ∧ FrM I J I1 J1 ∧ AtI I1 157 n (fun i => i) ∧ J = J1) := by
  refine CtP_mono (c_M_first I J hK.n7 hK.sz) (fun r I1 J1 q => ?_)
  obtain ⟨rfl, rfl, rfl⟩ := q
  exact ⟨rfl, fun a b h => by unfold putI; rw [if_neg (fun z => h z.1)], putI_M _ _ _ _, putI_At (fun _ _ => rfl), rfl⟩
set_option maxRecDepth 100000 in
set_option maxHeartbeats 4000000 in
theorem m_findWays (I : IntM) (J : LngM) {n : Nat} {kd nd od : Nat → Nat} {lw pot : Nat} (hK : MK I n kd nd od lw pot) {v : Nat} (hv : v < 1000) (h1 : 1 ≤ n) : CtP 7 m_X11_findWays [.ref 146, .int (nI v)] I J (fun r I1 J1 => r = none ∧ FrM I J I1 J1 ∧ TrW I1 146 47 48 49 50 (wyT kd nd lw pot n v) ∧ ∀ k j, k < n → j < n → k ≠ j → I1 173 (7 * k + j) = nI (ahT kd nd lw pot n v k j)) := by
  refine CtP_of (by decide) rfl (Nat.le_of_ble_eq_true rfl) ?_
  refine V_al i_X11_findWays_0 rfl ?_
  refine V_c i_X11_findWays_1 ?_
  refine V_putI i_X11_findWays_2 rfl ?_
  refine V_al i_X11_findWays_5 rfl ?_
  refine V_c i_X11_findWays_6 ?_
  refine V_putI i_X11_findWays_7 rfl ?_
  refine V_al i_X11_findWays_10 rfl ?_
  refine V_c i_X11_findWays_11 ?_
  refine V_putI i_X11_findWays_12 rfl ?_
  refine V_al i_X11_findWays_15 rfl ?_
  refine V_c i_X11_findWays_16 ?_
  refine V_putI i_X11_findWays_17 rfl ?_
  obtain ⟨I1, hI1⟩ : ∃ x, x = uI (uI (uI (uI I 146 47 0) 146 48 0) 146 49 0) 146 50 0 := ⟨_, rfl⟩
  rw [← hI1]
  have x1 : ∀ a b, a ≠ 173 → ¬ (a = 146 ∧ 47 ≤ b ∧ b ≤ 50) → I1 a b = I a b := fun a b _ hb => by
    rw [hI1]
    unfold uI
    rw [if_neg (by omega), if_neg (by omega), if_neg (by omega), if_neg (by omega)]
  have t1 : TrW I1 146 47 48 49 50 (0, 0, 0, 0) := by rw [hI1]; exact ⟨rfl, rfl, rfl, rfl⟩
  refine V_c i_X11_findWays_20 ?_
  refine V_is (L' := [(0, _), (1, _), (2, _)]) i_X11_findWays_21 (by decide) ⟨rfl, rfl, rfl, trivial⟩ ?_
  refine V_L (L' := [(0, _), (1, _), (2, _)]) ⟨rfl, rfl, rfl, trivial⟩ ?_
  refine lp_M_fw1 I1 J _ (fun I2 fr2 z2 => ?_)
  have x2 : ∀ a b, a ≠ 173 → ¬ (a = 146 ∧ 47 ≤ b ∧ b ≤ 50) → I2 a b = I a b := fun a b h h2 => (fr2 a b h).trans (x1 a b h h2)
  have f2 := FrM.free J x2
  have k2 := FrM.K f2 hK
  refine V_al i_X11_findWays_41 rfl ?_
  refine P_callV0 i_X11_findWays_42 mi_X11_firstSeats rfl ⟨_, _, rfl⟩ (by decide) (Nat.le_of_ble_eq_true rfl) (m_firstX I2 J k2) (fun r I3 Jx q => ?_)
  obtain ⟨rfl, y3, f3, a3, rfl⟩ := q
  refine V_al i_X11_findWays_45 rfl ?_
  refine V_getI i_X11_findWays_46 rfl ?_
  refine V_if_le_f i_X11_findWays_49 (by rw [(FrM.K f3 k2).sz]; exact fun z => nI_ne0 h1 (by have := hK.n7; omega) (Int32.le_antisymm z (nI_pos' (by have := hK.n7; omega)))) ?_
  refine V_c i_X11_findWays_52 ?_
  refine V_goto i_X11_findWays_53 ?_
  refine V_is (L' := [(0, _), (1, _), (2, _)]) i_X11_findWays_57 (by decide) ⟨rfl, rfl, rfl, trivial⟩ ?_
  refine V_L (L' := [(0, _), (1, _), (2, _)]) ⟨rfl, rfl, rfl, trivial⟩ ?_
  exact lp_M_fw2 I J hK hv h1 (T := wyT kd nd lw pot n v) (T2 := fun k j => ahT kd nd lw pot n v k j) _ (fun I5 J5 f5 t5 a5 => ⟨rfl, f5, t5, a5⟩) 5040 (fun i => i) (0, 0, 0, 0) (fun _ _ => 0) (ends_id h1 hK.n7) (Pm_id n) rfl (fun k j _ _ _ => rfl) I3 J (FrM.tr f2 f3) a3 (TrW.fr (fun _ _ => (y3 _ _ (by decide)).trans (fr2 _ _ (by decide))) t1) (fun k j hk hj hkj => by have := hK.n7; rw [y3 _ _ (by decide), z2 _ (by omega)]; rfl)
set_option maxRecDepth 100000 in
set_option maxHeartbeats 4000000 in
theorem m_findWays0 (I : IntM) (J : LngM) {n : Nat} {kd nd od : Nat → Nat} {lw pot : Nat} (hK : MK I n kd nd od lw pot) {v : Nat} (h0 : n = 0) : CtP 7 m_X11_findWays [.ref 146, .int (nI v)] I J (fun r I1 J1 => r = none ∧ FrM I J I1 J1 ∧ TrW I1 146 47 48 49 50 (0, 0, 0, 0)) := by
  refine CtP_of (by decide) rfl (Nat.le_of_ble_eq_true rfl) ?_
  refine V_al i_X11_findWays_0 rfl ?_
  refine V_c i_X11_findWays_1 ?_
  refine V_putI i_X11_findWays_2 rfl ?_
  refine V_al i_X11_findWays_5 rfl ?_
  refine V_c i_X11_findWays_6 ?_
  refine V_putI i_X11_findWays_7 rfl ?_
  refine V_al i_X11_findWays_10 rfl ?_
  refine V_c i_X11_findWays_11 ?_
  refine V_putI i_X11_findWays_12 rfl ?_
  refine V_al i_X11_findWays_15 rfl ?_
  refine V_c i_X11_findWays_16 ?_
  refine V_putI i_X11_findWays_17 rfl ?_
  obtain ⟨I1, hI1⟩ : ∃ x, x = uI (uI (uI (uI I 146 47 0) 146 48 0) 146 49 0) 146 50 0 := ⟨_, rfl⟩
  rw [← hI1]
  have x1 : ∀ a b, a ≠ 173 → ¬ (a = 146 ∧ 47 ≤ b ∧ b ≤ 50) → I1 a b = I a b := fun a b _ hb => by
    rw [hI1]
    unfold uI
    rw [if_neg (by omega), if_neg (by omega), if_neg (by omega), if_neg (by omega)]
  have t1 : TrW I1 146 47 48 49 50 (0, 0, 0, 0) := by rw [hI1]; exact ⟨rfl, rfl, rfl, rfl⟩
  refine V_c i_X11_findWays_20 ?_
  refine V_is (L' := [(0, _), (1, _), (2, _)]) i_X11_findWays_21 (by decide) ⟨rfl, rfl, rfl, trivial⟩ ?_
  refine V_L (L' := [(0, _), (1, _), (2, _)]) ⟨rfl, rfl, rfl, trivial⟩ ?_
  refine lp_M_fw1 I1 J _ (fun I2 fr2 z2 => ?_)
  have x2 : ∀ a b, a ≠ 173 → ¬ (a = 146 ∧ 47 ≤ b ∧ b ≤ 50) → I2 a b = I a b := fun a b h h2 => (fr2 a b h).trans (x1 a b h h2)
  have f2 := FrM.free J x2
  have k2 := FrM.K f2 hK
  refine V_al i_X11_findWays_41 rfl ?_
  refine P_callV0 i_X11_findWays_42 mi_X11_firstSeats rfl ⟨_, _, rfl⟩ (by decide) (Nat.le_of_ble_eq_true rfl) (m_firstX I2 J k2) (fun r I3 Jx q => ?_)
  obtain ⟨rfl, y3, f3, a3, rfl⟩ := q
  refine V_al i_X11_findWays_45 rfl ?_
  refine V_getI i_X11_findWays_46 rfl ?_
  refine V_if_le_t i_X11_findWays_49 (by rw [(FrM.K f3 k2).sz, h0]; decide) ?_
  refine V_c i_X11_findWays_56 ?_
  refine V_is (L' := [(0, _), (1, _), (2, _)]) i_X11_findWays_57 (by decide) ⟨rfl, rfl, rfl, trivial⟩ ?_
  refine V_L (L' := [(0, _), (1, _), (2, _)]) ⟨rfl, rfl, rfl, trivial⟩ ?_
  refine V_il i_X11_findWays_58 rfl ?_
  refine V_if_eq_t i_X11_findWays_59 rfl ?_
  exact P_vret i_X11_findWays_108 rfl ⟨rfl, FrM.tr f2 f3, (TrW.fr (fun _ _ => (y3 _ _ (by decide)).trans (fr2 _ _ (by decide))) t1)⟩
set_option maxRecDepth 100000 in
set_option maxHeartbeats 4000000 in
theorem m_bones0 (I : IntM) (J : LngM) {n : Nat} {kd nd od : Nat → Nat} {lw pot : Nat} (hK : MK I n kd nd od lw pot) {x : Int32} (h : hasC 1000 x = 0) : CtP 8 m_X11_bones [.ref 146, .int x] I J (QM I J (.int (-1)) none none none) := by
  refine CtP_of (by decide) rfl (Nat.le_of_ble_eq_true rfl) ?_
  refine V_il i_X11_bones_0 rfl ?_
  refine V_i2l i_X11_bones_1 ?_
  refine V_cl i_X11_bones_2 ?_
  refine V_cl i_X11_bones_3 ?_
  refine P_callS3v i_X11_bones_6 ms_X11_in (by decide) (Nat.le_of_ble_eq_true rfl) (c_M_in _ _ _ _ _) ?_
  rw [in1000]
  refine V_if_ne_f i_X11_bones_9 h ?_
  refine V_c i_X11_bones_12 ?_
  exact P_iret i_X11_bones_13 rfl ⟨rfl, I, J, FrM.rf, rfl, rfl⟩
set_option maxRecDepth 100000 in
set_option maxHeartbeats 4000000 in
theorem m_bones1 (I : IntM) (J : LngM) {n : Nat} {kd nd od : Nat → Nat} {lw pot : Nat} (hK : MK I n kd nd od lw pot) {v : Nat} (hv : v < 1000) (h0 : n = 0) : CtP 8 m_X11_bones [.ref 146, .int (nI v)] I J (QM I J (.int (-4)) none none none) := by
  refine CtP_of (by decide) rfl (Nat.le_of_ble_eq_true rfl) ?_
  refine V_il i_X11_bones_0 rfl ?_
  refine V_i2l i_X11_bones_1 ?_
  refine V_cl i_X11_bones_2 ?_
  refine V_cl i_X11_bones_3 ?_
  refine P_callS3v i_X11_bones_6 ms_X11_in (by decide) (Nat.le_of_ble_eq_true rfl) (c_M_in _ _ _ _ _) ?_
  rw [in1000]
  refine V_if_ne_t i_X11_bones_9 (by rw [hasN_nI (by decide) hv]; decide) ?_
  refine V_al i_X11_bones_14 rfl ?_
  refine V_getI i_X11_bones_15 rfl ?_
  refine V_if_ne_f i_X11_bones_18 (by rw [hK.sz, h0]; rfl) ?_
  refine V_c i_X11_bones_21 ?_
  exact P_iret i_X11_bones_23 rfl ⟨rfl, I, J, FrM.rf, rfl, rfl⟩
set_option maxRecDepth 100000 in
set_option maxHeartbeats 4000000 in
theorem m_bones (I : IntM) (J : LngM) {n : Nat} {kd nd od : Nat → Nat} {lw pot : Nat} (hK : MK I n kd nd od lw pot) {v : Nat} (hv : v < 1000) (h0 : 0 < n) : CtP 8 m_X11_bones [.ref 146, .int (nI v)] I J (QM I J (.int (nI (wyT kd nd lw pot n v).1)) none (some (((wyT kd nd lw pot n v).1 : Int), (wyT kd nd lw pot n v).2.1)) none) := by
  refine CtP_of (by decide) rfl (Nat.le_of_ble_eq_true rfl) ?_
  refine V_il i_X11_bones_0 rfl ?_
  refine V_i2l i_X11_bones_1 ?_
  refine V_cl i_X11_bones_2 ?_
  refine V_cl i_X11_bones_3 ?_
  refine P_callS3v i_X11_bones_6 ms_X11_in (by decide) (Nat.le_of_ble_eq_true rfl) (c_M_in _ _ _ _ _) ?_
  rw [in1000]
  refine V_if_ne_t i_X11_bones_9 (by rw [hasN_nI (by decide) hv]; decide) ?_
  refine V_al i_X11_bones_14 rfl ?_
  refine V_getI i_X11_bones_15 rfl ?_
  refine V_if_ne_t i_X11_bones_18 (by rw [hK.sz]; exact nI_ne0 h0 (by have := hK.n7; omega)) ?_
  refine V_al i_X11_bones_24 rfl ?_
  refine V_il i_X11_bones_25 rfl ?_
  refine P_callV1 i_X11_bones_26 mi_X11_findWays rfl ⟨_, _, rfl⟩ (by decide) (Nat.le_of_ble_eq_true rfl) (m_findWays I J hK hv h0) (fun r I1 J1 q => ?_)
  obtain ⟨rfl, f1, t1, g1⟩ := q
  refine V_al i_X11_bones_29 rfl ?_
  refine V_al i_X11_bones_30 rfl ?_
  refine V_getI i_X11_bones_31 rfl ?_
  rw [t1.1]
  refine V_al i_X11_bones_34 rfl ?_
  refine V_getI i_X11_bones_35 rfl ?_
  rw [t1.1]
  refine V_i2l i_X11_bones_38 ?_
  have b := stW_b (R := reN kd nd lw pot n) (v := v) (n := n) 5040 (0, 0, 0, 0) (fun i => i)
  have b2 := stW_pos (R := reN kd nd lw pot n) (v := v) (n := n) 5039 (0, 0, 0, 0) (fun i => i)
  change (wyT kd nd lw pot n v).1 ≤ 0 + 5040 ∧ (wyT kd nd lw pot n v).2.1 ≤ 0 + 5040 ∧ 0 ≤ (wyT kd nd lw pot n v).2.1 at b
  change 0 < (wyT kd nd lw pot n v).2.1 at b2
  rw [nI_long (by omega), lZ_N]
  refine V_al i_X11_bones_39 rfl ?_
  refine V_getI i_X11_bones_40 rfl ?_
  rw [t1.2.1]
  refine V_i2l i_X11_bones_43 ?_
  rw [nI_long (by omega)]
  refine P_callV3v i_X11_bones_44 mi_X11_tells rfl ⟨_, _, rfl⟩ (by decide) (Nat.le_of_ble_eq_true rfl) (c_M_tells I1 J1 (by rw [Int.natAbs_natCast]; omega) (by omega) b2) ?_
  exact P_iret i_X11_bones_47 rfl ⟨rfl, I1, loJ J1 (((wyT kd nd lw pot n v).1 : Nat) : Int) (wyT kd nd lw pot n v).2.1, FrM.tr f1 (FrJ.M _ (FrJ.lo _ _ _)), rfl, rfl⟩
set_option maxRecDepth 100000 in
set_option maxHeartbeats 4000000 in
theorem m_last0 (I : IntM) (J : LngM) {n : Nat} {kd nd od : Nat → Nat} {lw pot : Nat} (hK : MK I n kd nd od lw pot) {x : Int32} (h : hasC 1000 x = 0) : CtP 8 m_X11_last [.ref 146, .int x] I J (QM I J (.int (-1)) none none none) := by
  refine CtP_of (by decide) rfl (Nat.le_of_ble_eq_true rfl) ?_
  refine V_il i_X11_last_0 rfl ?_
  refine V_i2l i_X11_last_1 ?_
  refine V_cl i_X11_last_2 ?_
  refine V_cl i_X11_last_3 ?_
  refine P_callS3v i_X11_last_6 ms_X11_in (by decide) (Nat.le_of_ble_eq_true rfl) (c_M_in _ _ _ _ _) ?_
  rw [in1000]
  refine V_if_ne_f i_X11_last_9 h ?_
  refine V_c i_X11_last_12 ?_
  exact P_iret i_X11_last_13 rfl ⟨rfl, I, J, FrM.rf, rfl, rfl⟩
set_option maxRecDepth 100000 in
set_option maxHeartbeats 4000000 in
theorem m_last1 (I : IntM) (J : LngM) {n : Nat} {kd nd od : Nat → Nat} {lw pot : Nat} (hK : MK I n kd nd od lw pot) {v : Nat} (hv : v < 1000) (h0 : n = 0) : CtP 8 m_X11_last [.ref 146, .int (nI v)] I J (QM I J (.int (-3)) none none (some 4)) := by
  refine CtP_of (by decide) rfl (Nat.le_of_ble_eq_true rfl) ?_
  refine V_il i_X11_last_0 rfl ?_
  refine V_i2l i_X11_last_1 ?_
  refine V_cl i_X11_last_2 ?_
  refine V_cl i_X11_last_3 ?_
  refine P_callS3v i_X11_last_6 ms_X11_in (by decide) (Nat.le_of_ble_eq_true rfl) (c_M_in _ _ _ _ _) ?_
  rw [in1000]
  refine V_if_ne_t i_X11_last_9 (by rw [hasN_nI (by decide) hv]; decide) ?_
  refine V_al i_X11_last_14 rfl ?_
  refine V_il i_X11_last_15 rfl ?_
  refine P_callV1 i_X11_last_16 mi_X11_findWays rfl ⟨_, _, rfl⟩ (by decide) (Nat.le_of_ble_eq_true rfl) (m_findWays0 I J hK h0) (fun r I1 J1 q => ?_)
  obtain ⟨rfl, f1, t1⟩ := q
  refine V_al i_X11_last_19 rfl ?_
  refine V_getI i_X11_last_20 rfl ?_
  refine V_if_ne_f i_X11_last_23 (by rw [t1.1]; rfl) ?_
  refine V_al i_X11_last_26 rfl ?_
  refine V_c i_X11_last_27 ?_
  refine P_callV1v i_X11_last_28 mi_X11_found rfl ⟨_, _, rfl⟩ (by decide) (Nat.le_of_ble_eq_true rfl) (c_M_found _ _ (f := 4) (by decide)) ?_
  exact P_iret i_X11_last_31 rfl ⟨rfl, I1, J1, f1, rfl, rfl⟩
set_option maxRecDepth 100000 in
set_option maxHeartbeats 4000000 in
theorem m_last2 (I : IntM) (J : LngM) {n : Nat} {kd nd od : Nat → Nat} {lw pot : Nat} (hK : MK I n kd nd od lw pot) {v : Nat} (hv : v < 1000) (h0 : 0 < n) (hw : (wyT kd nd lw pot n v).1 = 0) : CtP 8 m_X11_last [.ref 146, .int (nI v)] I J (QM I J (.int (-3)) none none (some 4)) := by
  refine CtP_of (by decide) rfl (Nat.le_of_ble_eq_true rfl) ?_
  refine V_il i_X11_last_0 rfl ?_
  refine V_i2l i_X11_last_1 ?_
  refine V_cl i_X11_last_2 ?_
  refine V_cl i_X11_last_3 ?_
  refine P_callS3v i_X11_last_6 ms_X11_in (by decide) (Nat.le_of_ble_eq_true rfl) (c_M_in _ _ _ _ _) ?_
  rw [in1000]
  refine V_if_ne_t i_X11_last_9 (by rw [hasN_nI (by decide) hv]; decide) ?_
  refine V_al i_X11_last_14 rfl ?_
  refine V_il i_X11_last_15 rfl ?_
  refine P_callV1 i_X11_last_16 mi_X11_findWays rfl ⟨_, _, rfl⟩ (by decide) (Nat.le_of_ble_eq_true rfl) (m_findWays I J hK hv h0) (fun r I1 J1 q => ?_)
  obtain ⟨rfl, f1, t1, g1⟩ := q
  refine V_al i_X11_last_19 rfl ?_
  refine V_getI i_X11_last_20 rfl ?_
  refine V_if_ne_f i_X11_last_23 (by rw [t1.1, hw]; rfl) ?_
  refine V_al i_X11_last_26 rfl ?_
  refine V_c i_X11_last_27 ?_
  refine P_callV1v i_X11_last_28 mi_X11_found rfl ⟨_, _, rfl⟩ (by decide) (Nat.le_of_ble_eq_true rfl) (c_M_found _ _ (f := 4) (by decide)) ?_
  exact P_iret i_X11_last_31 rfl ⟨rfl, I1, J1, f1, rfl, rfl⟩
set_option maxRecDepth 100000 in
set_option maxHeartbeats 4000000 in
theorem m_last3 (I : IntM) (J : LngM) {n : Nat} {kd nd od : Nat → Nat} {lw pot : Nat} (hK : MK I n kd nd od lw pot) {v : Nat} (hv : v < 1000) (h0 : 0 < n) (hw : 0 < (wyT kd nd lw pot n v).1) : CtP 8 m_X11_last [.ref 146, .int (nI v)] I J (QM I J (.int (wyT kd nd lw pot n v).2.2.1) (some (wyT kd nd lw pot n v).2.2.2) none none) := by
  refine CtP_of (by decide) rfl (Nat.le_of_ble_eq_true rfl) ?_
  refine V_il i_X11_last_0 rfl ?_
  refine V_i2l i_X11_last_1 ?_
  refine V_cl i_X11_last_2 ?_
  refine V_cl i_X11_last_3 ?_
  refine P_callS3v i_X11_last_6 ms_X11_in (by decide) (Nat.le_of_ble_eq_true rfl) (c_M_in _ _ _ _ _) ?_
  rw [in1000]
  refine V_if_ne_t i_X11_last_9 (by rw [hasN_nI (by decide) hv]; decide) ?_
  refine V_al i_X11_last_14 rfl ?_
  refine V_il i_X11_last_15 rfl ?_
  refine P_callV1 i_X11_last_16 mi_X11_findWays rfl ⟨_, _, rfl⟩ (by decide) (Nat.le_of_ble_eq_true rfl) (m_findWays I J hK hv h0) (fun r I1 J1 q => ?_)
  obtain ⟨rfl, f1, t1, g1⟩ := q
  refine V_al i_X11_last_19 rfl ?_
  refine V_getI i_X11_last_20 rfl ?_
  have b := (stW_b (R := reN kd nd lw pot n) (v := v) (n := n) 5040 (0, 0, 0, 0) (fun i => i)).1
  change (wyT kd nd lw pot n v).1 ≤ 0 + 5040 at b
  refine V_if_ne_t i_X11_last_23 (by rw [t1.1]; exact nI_ne0 hw (by omega)) ?_
  refine V_al i_X11_last_32 rfl ?_
  refine V_al i_X11_last_33 rfl ?_
  refine V_getI i_X11_last_34 rfl ?_
  rw [t1.2.2.2]
  refine V_putI i_X11_last_37 rfl ?_
  refine V_al i_X11_last_40 rfl ?_
  refine V_getI i_X11_last_41 rfl ?_
  rw [show uI I1 146 2 _ 146 49 = (wyT kd nd lw pot n v).2.2.1 from t1.2.2.1]
  exact P_iret i_X11_last_44 rfl ⟨rfl, I1, J1, f1, rfl, rfl⟩
set_option maxRecDepth 100000 in
set_option maxHeartbeats 4000000 in
theorem m_ahead0 (I : IntM) (J : LngM) {n : Nat} {kd nd od : Nat → Nat} {lw pot : Nat} (hK : MK I n kd nd od lw pot) {x y z : Int32} (h : hasC n x = 0 ∨ hasC n y = 0 ∨ x = y ∨ hasC 1000 z = 0) : CtP 8 m_X11_ahead [.ref 146, .int x, .int y, .int z] I J (QM I J (.int (-1)) none none none) := by
  refine CtP_of (by decide) rfl (Nat.le_of_ble_eq_true rfl) ?_
  refine V_al i_X11_ahead_0 rfl ?_
  refine V_il i_X11_ahead_1 rfl ?_
  refine P_callV1v i_X11_ahead_2 mi_X11_isEater rfl ⟨_, _, rfl⟩ (by decide) (Nat.le_of_ble_eq_true rfl) (c_M_isEater _ _ hK.n7 hK.sz _) ?_
  refine V_if_eq i_X11_ahead_5 (fun c5 => ?_) (fun c5 => ?_)
  · refine V_c i_X11_ahead_33 ?_
    exact P_iret i_X11_ahead_34 rfl ⟨rfl, I, J, FrM.rf, rfl, rfl⟩
  · refine V_al i_X11_ahead_8 rfl ?_
    refine V_il i_X11_ahead_9 rfl ?_
    refine P_callV1v i_X11_ahead_10 mi_X11_isEater rfl ⟨_, _, rfl⟩ (by decide) (Nat.le_of_ble_eq_true rfl) (c_M_isEater _ _ hK.n7 hK.sz _) ?_
    refine V_if_eq i_X11_ahead_13 (fun c13 => ?_) (fun c13 => ?_)
    · refine V_c i_X11_ahead_33 ?_
      exact P_iret i_X11_ahead_34 rfl ⟨rfl, I, J, FrM.rf, rfl, rfl⟩
    · refine V_il i_X11_ahead_16 rfl ?_
      refine V_il i_X11_ahead_17 rfl ?_
      refine V_ic_eq i_X11_ahead_18 (fun c18 => ?_) (fun c18 => ?_)
      · refine V_c i_X11_ahead_33 ?_
        exact P_iret i_X11_ahead_34 rfl ⟨rfl, I, J, FrM.rf, rfl, rfl⟩
      · refine V_il i_X11_ahead_21 rfl ?_
        refine V_i2l i_X11_ahead_22 ?_
        refine V_cl i_X11_ahead_23 ?_
        refine V_cl i_X11_ahead_24 ?_
        refine P_callS3v i_X11_ahead_27 ms_X11_in (by decide) (Nat.le_of_ble_eq_true rfl) (c_M_in _ _ _ _ _) ?_
        rw [in1000]
        refine V_if_ne_f i_X11_ahead_30 (by rcases h with h | h | h | h; exact absurd h c5; exact absurd h c13; exact absurd h c18; exact h) ?_
        refine V_c i_X11_ahead_33 ?_
        exact P_iret i_X11_ahead_34 rfl ⟨rfl, I, J, FrM.rf, rfl, rfl⟩
set_option maxRecDepth 100000 in
set_option maxHeartbeats 4000000 in
theorem m_ahead1 (I : IntM) (J : LngM) {n : Nat} {kd nd od : Nat → Nat} {lw pot : Nat} (hK : MK I n kd nd od lw pot) {k j v : Nat} (hk : k < n) (hj : j < n) (hkj : k ≠ j) (hv : v < 1000) (h0 : 0 < n) (hw : (wyT kd nd lw pot n v).1 = 0) : CtP 8 m_X11_ahead [.ref 146, .int (nI k), .int (nI j), .int (nI v)] I J (QM I J (.int (-3)) none none (some 4)) := by
  refine CtP_of (by decide) rfl (Nat.le_of_ble_eq_true rfl) ?_
  refine V_al i_X11_ahead_0 rfl ?_
  refine V_il i_X11_ahead_1 rfl ?_
  refine P_callV1v i_X11_ahead_2 mi_X11_isEater rfl ⟨_, _, rfl⟩ (by decide) (Nat.le_of_ble_eq_true rfl) (c_M_isEater _ _ hK.n7 hK.sz _) ?_
  refine V_if_eq_f i_X11_ahead_5 (by rw [hasC_nI hK.n7 hk]; decide) ?_
  refine V_al i_X11_ahead_8 rfl ?_
  refine V_il i_X11_ahead_9 rfl ?_
  refine P_callV1v i_X11_ahead_10 mi_X11_isEater rfl ⟨_, _, rfl⟩ (by decide) (Nat.le_of_ble_eq_true rfl) (c_M_isEater _ _ hK.n7 hK.sz _) ?_
  refine V_if_eq_f i_X11_ahead_13 (by rw [hasC_nI hK.n7 hj]; decide) ?_
  refine V_il i_X11_ahead_16 rfl ?_
  refine V_il i_X11_ahead_17 rfl ?_
  refine V_ic_eq_f i_X11_ahead_18 (fun z => hkj ((nI_eq (by have := hK.n7; omega) (by have := hK.n7; omega)).mp z)) ?_
  refine V_il i_X11_ahead_21 rfl ?_
  refine V_i2l i_X11_ahead_22 ?_
  refine V_cl i_X11_ahead_23 ?_
  refine V_cl i_X11_ahead_24 ?_
  refine P_callS3v i_X11_ahead_27 ms_X11_in (by decide) (Nat.le_of_ble_eq_true rfl) (c_M_in _ _ _ _ _) ?_
  rw [in1000]
  refine V_if_ne_t i_X11_ahead_30 (by rw [hasN_nI (by decide) hv]; decide) ?_
  refine V_al i_X11_ahead_35 rfl ?_
  refine V_il i_X11_ahead_36 rfl ?_
  refine P_callV1 i_X11_ahead_37 mi_X11_findWays rfl ⟨_, _, rfl⟩ (by decide) (Nat.le_of_ble_eq_true rfl) (m_findWays I J hK hv h0) (fun r I1 J1 q => ?_)
  obtain ⟨rfl, f1, t1, g1⟩ := q
  refine V_al i_X11_ahead_40 rfl ?_
  refine V_getI i_X11_ahead_41 rfl ?_
  refine V_if_ne_f i_X11_ahead_44 (by rw [t1.1, hw]; rfl) ?_
  refine V_al i_X11_ahead_47 rfl ?_
  refine V_c i_X11_ahead_48 ?_
  refine P_callV1v i_X11_ahead_49 mi_X11_found rfl ⟨_, _, rfl⟩ (by decide) (Nat.le_of_ble_eq_true rfl) (c_M_found _ _ (f := 4) (by decide)) ?_
  exact P_iret i_X11_ahead_52 rfl ⟨rfl, I1, J1, f1, rfl, rfl⟩
set_option maxRecDepth 100000 in
set_option maxHeartbeats 4000000 in
theorem m_ahead2 (I : IntM) (J : LngM) {n : Nat} {kd nd od : Nat → Nat} {lw pot : Nat} (hK : MK I n kd nd od lw pot) {k j v : Nat} (hk : k < n) (hj : j < n) (hkj : k ≠ j) (hv : v < 1000) (h0 : 0 < n) (hw : 0 < (wyT kd nd lw pot n v).1) : CtP 8 m_X11_ahead [.ref 146, .int (nI k), .int (nI j), .int (nI v)] I J (QM I J (.int (ahV (nI (ahT kd nd lw pot n v k j)) (nI (wyT kd nd lw pot n v).1))) none none none) := by
  refine CtP_of (by decide) rfl (Nat.le_of_ble_eq_true rfl) ?_
  refine V_al i_X11_ahead_0 rfl ?_
  refine V_il i_X11_ahead_1 rfl ?_
  refine P_callV1v i_X11_ahead_2 mi_X11_isEater rfl ⟨_, _, rfl⟩ (by decide) (Nat.le_of_ble_eq_true rfl) (c_M_isEater _ _ hK.n7 hK.sz _) ?_
  refine V_if_eq_f i_X11_ahead_5 (by rw [hasC_nI hK.n7 hk]; decide) ?_
  refine V_al i_X11_ahead_8 rfl ?_
  refine V_il i_X11_ahead_9 rfl ?_
  refine P_callV1v i_X11_ahead_10 mi_X11_isEater rfl ⟨_, _, rfl⟩ (by decide) (Nat.le_of_ble_eq_true rfl) (c_M_isEater _ _ hK.n7 hK.sz _) ?_
  refine V_if_eq_f i_X11_ahead_13 (by rw [hasC_nI hK.n7 hj]; decide) ?_
  refine V_il i_X11_ahead_16 rfl ?_
  refine V_il i_X11_ahead_17 rfl ?_
  refine V_ic_eq_f i_X11_ahead_18 (fun z => hkj ((nI_eq (by have := hK.n7; omega) (by have := hK.n7; omega)).mp z)) ?_
  refine V_il i_X11_ahead_21 rfl ?_
  refine V_i2l i_X11_ahead_22 ?_
  refine V_cl i_X11_ahead_23 ?_
  refine V_cl i_X11_ahead_24 ?_
  refine P_callS3v i_X11_ahead_27 ms_X11_in (by decide) (Nat.le_of_ble_eq_true rfl) (c_M_in _ _ _ _ _) ?_
  rw [in1000]
  refine V_if_ne_t i_X11_ahead_30 (by rw [hasN_nI (by decide) hv]; decide) ?_
  refine V_al i_X11_ahead_35 rfl ?_
  refine V_il i_X11_ahead_36 rfl ?_
  refine P_callV1 i_X11_ahead_37 mi_X11_findWays rfl ⟨_, _, rfl⟩ (by decide) (Nat.le_of_ble_eq_true rfl) (m_findWays I J hK hv h0) (fun r I1 J1 q => ?_)
  obtain ⟨rfl, f1, t1, g1⟩ := q
  refine V_al i_X11_ahead_40 rfl ?_
  refine V_getI i_X11_ahead_41 rfl ?_
  have b := (stW_b (R := reN kd nd lw pot n) (v := v) (n := n) 5040 (0, 0, 0, 0) (fun i => i)).1
  change (wyT kd nd lw pot n v).1 ≤ 0 + 5040 at b
  refine V_if_ne_t i_X11_ahead_44 (by rw [t1.1]; exact nI_ne0 hw (by omega)) ?_
  refine V_al i_X11_ahead_53 rfl ?_
  refine V_getR i_X11_ahead_54 rfl rfl ?_
  refine V_c i_X11_ahead_57 ?_
  refine V_il i_X11_ahead_59 rfl ?_
  refine V_imul i_X11_ahead_60 ?_
  refine V_il i_X11_ahead_61 rfl ?_
  refine V_iadd i_X11_ahead_62 ?_
  rw [show (7 : Int32) = nI 7 from rfl, pk_mul, nI_add]
  refine K_iald (7 * k + j) i_X11_ahead_63 rfl rfl (by have := hK.n7; omega) (by omega) ?_
  rw [g1 k j hk hj hkj]
  refine V_is (L' := [(0, _), (4, _)]) i_X11_ahead_64 (by decide) ⟨rfl, rfl, trivial⟩ ?_
  refine V_il i_X11_ahead_66 rfl ?_
  refine V_al i_X11_ahead_68 rfl ?_
  refine V_getI i_X11_ahead_69 rfl ?_
  rw [t1.1]
  refine V_ic_ne i_X11_ahead_72 (fun c72 => ?_) (fun c72 => ?_)
  · refine V_il i_X11_ahead_79 rfl ?_
    refine V_if_ne i_X11_ahead_81 (fun c81 => ?_) (fun c81 => ?_)
    · refine V_c i_X11_ahead_88 ?_
      exact P_iret i_X11_ahead_89 rfl ⟨by unfold ahV; rw [if_neg c81, if_neg c72], I1, J1, f1, rfl, rfl⟩
    · refine V_c i_X11_ahead_84 ?_
      refine V_goto i_X11_ahead_85 ?_
      exact P_iret i_X11_ahead_89 rfl ⟨by unfold ahV; rw [if_pos c81], I1, J1, f1, rfl, rfl⟩
  · refine V_c i_X11_ahead_75 ?_
    refine V_goto i_X11_ahead_76 ?_
    exact P_iret i_X11_ahead_89 rfl ⟨by unfold ahV; rw [if_neg (by rw [c72]; exact nI_ne0 hw (by omega)), if_pos c72], I1, J1, f1, rfl, rfl⟩
theorem p_bones {I : IntM} {J : LngM} (h : Inv I J) (x : Int32) : Pair 6 m_X10_bones [.ref 0, .int x] 8 m_X11_bones [.ref 146, .int x] I J := by
  obtain ⟨n, kd, nd, od, lw, pot, hP, hK, hM⟩ := h.K
  by_cases hx : hasC 1000 x = 0
  · exact Pair.q h (fun _ => no_f) (c_bones0 I J hK hx) (fun I1 J1 e1 e2 => m_bones0 I1 J1 (hM I1 e1) hx)
  obtain ⟨v, hv, rfl⟩ := hasN_yes (by decide) hx
  rcases Nat.eq_zero_or_pos n with h0 | h0
  · exact Pair.q h (fun _ => no_f) (c_bones1 I J hK hv h0) (fun I1 J1 e1 e2 => m_bones1 I1 J1 (hM I1 e1) hv h0)
  exact Pair.q h (fun _ => no_f) (c_bones I J hK hv h0) (fun I1 J1 e1 e2 => m_bones I1 J1 (hM I1 e1) hv h0)
theorem p_last {I : IntM} {J : LngM} (h : Inv I J) (x : Int32) : Pair 6 m_X10_last [.ref 0, .int x] 8 m_X11_last [.ref 146, .int x] I J := by
  obtain ⟨n, kd, nd, od, lw, pot, hP, hK, hM⟩ := h.K
  by_cases hx : hasC 1000 x = 0
  · exact Pair.q h (fun _ => no_f) (c_last0 I J hK hx) (fun I1 J1 e1 e2 => m_last0 I1 J1 (hM I1 e1) hx)
  obtain ⟨v, hv, rfl⟩ := hasN_yes (by decide) hx
  rcases Nat.eq_zero_or_pos n with h0 | h0
  · exact Pair.q h (fun f9 h9 => by cases h9; decide) (c_last1 I J hK hv h0) (fun I1 J1 e1 e2 => m_last1 I1 J1 (hM I1 e1) hv h0)
  rcases Nat.eq_zero_or_pos (wyT kd nd lw pot n v).1 with hw | hw
  · exact Pair.q h (fun f9 h9 => by cases h9; decide) (c_last2 I J hK hv h0 hw) (fun I1 J1 e1 e2 => m_last2 I1 J1 (hM I1 e1) hv h0 hw)
  exact Pair.q h (fun _ => no_f) (c_last3 I J hK hv h0 hw) (fun I1 J1 e1 e2 => m_last3 I1 J1 (hM I1 e1) hv h0 hw)
theorem p_ahead {I : IntM} {J : LngM} (h : Inv I J) (x y z : Int32) : Pair 6 m_X10_ahead [.ref 0, .int x, .int y, .int z] 8 m_X11_ahead [.ref 146, .int x, .int y, .int z] I J := by
  obtain ⟨n, kd, nd, od, lw, pot, hP, hK, hM⟩ := h.K
  by_cases hx : hasC n x = 0
  · exact Pair.q h (fun _ => no_f) (c_ahead0 I J hK (Or.inl hx)) (fun I1 J1 e1 e2 => m_ahead0 I1 J1 (hM I1 e1) (Or.inl hx))
  obtain ⟨k, hk, rfl⟩ := hasC_yes hK.n7 hx
  by_cases hy : hasC n y = 0
  · exact Pair.q h (fun _ => no_f) (c_ahead0 I J hK (Or.inr (Or.inl hy))) (fun I1 J1 e1 e2 => m_ahead0 I1 J1 (hM I1 e1) (Or.inr (Or.inl hy)))
  obtain ⟨j, hj, rfl⟩ := hasC_yes hK.n7 hy
  by_cases hkj : nI k = nI j
  · exact Pair.q h (fun _ => no_f) (c_ahead0 I J hK (Or.inr (Or.inr (Or.inl hkj)))) (fun I1 J1 e1 e2 => m_ahead0 I1 J1 (hM I1 e1) (Or.inr (Or.inr (Or.inl hkj))))
  have hkj : k ≠ j := fun z => hkj (by rw [z])
  by_cases hz : hasC 1000 z = 0
  · exact Pair.q h (fun _ => no_f) (c_ahead0 I J hK (Or.inr (Or.inr (Or.inr hz)))) (fun I1 J1 e1 e2 => m_ahead0 I1 J1 (hM I1 e1) (Or.inr (Or.inr (Or.inr hz))))
  obtain ⟨v, hv, rfl⟩ := hasN_yes (by decide) hz
  have h0 : 0 < n := by omega
  rcases Nat.eq_zero_or_pos (wyT kd nd lw pot n v).1 with hw | hw
  · exact Pair.q h (fun f9 h9 => by cases h9; decide) (c_ahead1 I J hK hk hj hkj hv h0 hw) (fun I1 J1 e1 e2 => m_ahead1 I1 J1 (hM I1 e1) hk hj hkj hv h0 hw)
  exact Pair.q h (fun _ => no_f) (c_ahead2 I J hK hk hj hkj hv h0 hw) (fun I1 J1 e1 e2 => m_ahead2 I1 J1 (hM I1 e1) hk hj hkj hv h0 hw)

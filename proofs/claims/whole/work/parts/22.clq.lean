
/-! ===== the class's calls that keep the state ===== -/
theorem CK.n7 {I : IntM} {n : Nat} {kd nd od : Nat → Nat} {lw pot : Nat} (h : CK I n kd nd od lw pot) : n ≤ 7 := h.1.1
theorem CK.sz {I : IntM} {n : Nat} {kd nd od : Nat → Nat} {lw pot : Nat} (h : CK I n kd nd od lw pot) : I 8 3 = nI n := h.2.2.2.1.1
theorem CK.od {I : IntM} {n : Nat} {kd nd od : Nat → Nat} {lw pot : Nat} (h : CK I n kd nd od lw pot) : AtI I 14 n od := h.2.2.2.1.2.2.2.1
theorem CK.z13 {I : IntM} {n : Nat} {kd nd od : Nat → Nat} {lw pot : Nat} (h : CK I n kd nd od lw pot) : I 13 1 = nI 7 := h.2.2.2.1.2.2.2.2.2.2
theorem CK.lw {I : IntM} {n : Nat} {kd nd od : Nat → Nat} {lw pot : Nat} (h : CK I n kd nd od lw pot) : I 8 4 = nI lw := h.2.2.2.2.1
theorem CK.pt {I : IntM} {n : Nat} {kd nd od : Nat → Nat} {lw pot : Nat} (h : CK I n kd nd od lw pot) : I 8 5 = nI pot := h.2.2.2.2.2.1
theorem CK.C {I : IntM} {n : Nat} {kd nd od : Nat → Nat} {lw pot : Nat} (h : CK I n kd nd od lw pot) : CCo I n kd nd od := h.2.2.2.1
theorem CK.Z {I : IntM} {n : Nat} {kd nd od : Nat → Nat} {lw pot : Nat} (h : CK I n kd nd od lw pot) : ISz I := h.2.2.2.2.2.2
theorem CK.Z21 {I : IntM} {n : Nat} {kd nd od : Nat → Nat} {lw pot : Nat} (h : CK I n kd nd od lw pot) : SzS I 21 := h.Z.1
theorem CK.Z34 {I : IntM} {n : Nat} {kd nd od : Nat → Nat} {lw pot : Nat} (h : CK I n kd nd od lw pot) : SzS I 34 := h.Z.2.1
theorem CK.Z48 {I : IntM} {n : Nat} {kd nd od : Nat → Nat} {lw pot : Nat} (h : CK I n kd nd od lw pot) : SzS I 48 := h.Z.2.2.1
theorem CK.Z61 {I : IntM} {n : Nat} {kd nd od : Nat → Nat} {lw pot : Nat} (h : CK I n kd nd od lw pot) : SzS I 61 := h.Z.2.2.2.1
theorem CK.Z77 {I : IntM} {n : Nat} {kd nd od : Nat → Nat} {lw pot : Nat} (h : CK I n kd nd od lw pot) : SzS I 77 := h.Z.2.2.2.2.1
theorem CK.Z91 {I : IntM} {n : Nat} {kd nd od : Nat → Nat} {lw pot : Nat} (h : CK I n kd nd od lw pot) : SzS I 91 := h.Z.2.2.2.2.2.1
theorem CK.P {I : IntM} {n : Nat} {kd nd od : Nat → Nat} {lw pot : Nat} (h : CK I n kd nd od lw pot) : Pm n od := CoOK.P h.1
theorem CK.kd {I : IntM} {n : Nat} {kd nd od : Nat → Nat} {lw pot : Nat} (h : CK I n kd nd od lw pot) : ∀ k, k < n → kd k ≤ 5 := h.1.2.1
theorem CK.nd {I : IntM} {n : Nat} {kd nd od : Nat → Nat} {lw pot : Nat} (h : CK I n kd nd od lw pot) : ∀ k, k < n → nd k ≤ 99 := h.1.2.2.1
theorem CK.l3 {I : IntM} {n : Nat} {kd nd od : Nat → Nat} {lw pot : Nat} (h : CK I n kd nd od lw pot) : lw ≤ 3 := h.2.1
theorem CK.p9 {I : IntM} {n : Nat} {kd nd od : Nat → Nat} {lw pot : Nat} (h : CK I n kd nd od lw pot) : pot ≤ 999 := h.2.2.1
theorem hon_le {n : Nat} {kd : Nat → Nat} (h : ∀ k, k < n → kd k ≤ 5) (w : Nat) : ∀ k, k < n → hon kd w k ≤ 5 := fun k hk => by
  unfold hon
  split
  · omega
  · exact h k hk
/-- an evening gone through aside, at sitting a -/
def SvG (I : IntM) (J : LngM) (a n : Nat) (kd nd : Nat → Nat) (lw how pot : Nat) (ln : Nat → Nat) (I1 : IntM) (J1 : LngM) : Prop := FrS a I J I1 J1 ∧ I1 a 6 = nI n ∧ SvD I1 J1 a n kd nd lw how (pot * un how) ln
theorem thB {kd nd : Nat → Nat} {lw how pot : Nat} {ln : Nat → Nat} (hp : pot ≤ 999) (i : Nat) : thS kd nd lw how (pot * un how) ln i < 2 ^ 43 := by
  have := mul_un (how := how) hp
  have := thS_le kd nd lw how (pot * un how) ln i
  omega
theorem tkB {kd nd : Nat → Nat} {lw how pot : Nat} {ln : Nat → Nat} (hp : pot ≤ 999) (i : Nat) : tkS kd nd lw how (pot * un how) ln i < 2 ^ 43 := by
  have := thB (kd := kd) (nd := nd) (lw := lw) (how := how) (ln := ln) hp i
  have := tkS_le kd nd lw how (pot * un how) ln i
  omega

theorem q_turn0 (I : IntM) (J : LngM) {a : Nat} (hL : LSit a) (hZ : SzS I a) {n : Nat} {kd nd : Nat → Nat} {lw how P0 : Nat} (hn : n ≤ 7) (hQ : SQ I a n kd nd) (hR : SR I J a lw how P0) {y : Nat} (hO : LI y 7) (hOz : I y 1 = nI 7) (hy : y + 1 < a ∨ a + 13 ≤ y) {od : Nat → Nat} (hod : AtI I (y + 1) n od) : CtP 3 m_X7_seatTurned [.ref a, .ref y, .int 0] I J (fun r I1 J1 => r = none ∧ FrS a I J I1 J1 ∧ SQ I1 a n kd nd ∧ SR I1 J1 a lw how P0 ∧ AtI I1 (a + 6) n od ∧ J1 = J) := by
  refine CtP_mono (q_turn I J hL hZ hn hQ hR hO hOz hy hod (t := 0) (by decide)) (fun r I1 J1 q => ?_)
  obtain ⟨h1, h2, h3, h4, h5, h6⟩ := q
  exact ⟨h1, h2, h3, h4, fun k hk => by rw [h5 k hk]; show nI (od ((k + 0) % n)) = nI (od k); rw [Nat.add_zero, Nat.mod_eq_of_lt hk], h6⟩
set_option maxRecDepth 100000 in
set_option maxHeartbeats 4000000 in
theorem c_srvMoved (I : IntM) (J : LngM) {n : Nat} {kd nd od : Nat → Nat} {lw pot : Nat} (hK : CK I n kd nd od lw pot) {k at' how : Nat} (hh : how ≤ 1) (hk : k < n) (hat : at' < n) : CtP 4 m_X10_serveMoved [.ref 0, .int (nI k), .int (nI at'), .int (nI how)] I J (fun r I1 J1 => r = none ∧ SvG I J 21 n kd nd lw how pot (mvS od (plN od k n) k at') I1 J1) := by
  refine CtP_of (by decide) rfl (Nat.le_of_ble_eq_true rfl) ?_
  have k0 := hK
  have z0 := hK.Z21
  have hpos := Pm_place hK.P hk
  refine V_al i_X10_serveMoved_0 rfl ?_
  refine V_getR i_X10_serveMoved_1 rfl rfl ?_
  refine V_al i_X10_serveMoved_4 rfl ?_
  refine V_getR i_X10_serveMoved_5 rfl rfl ?_
  refine P_callV1 i_X10_serveMoved_8 mi_X7_invite rfl ⟨_, _, rfl⟩ (by decide) (Nat.le_of_ble_eq_true rfl) (q_invite I J LS_21 z0 k0.n7 k0.C) (fun r I1 J1 q => ?_)
  obtain ⟨rfl, f1, s1, -⟩ := q
  have k1 : CK I1 n kd nd od lw pot := FrS.K (by decide) f1 k0
  have z1 := FrS.Z f1 z0
  refine V_al i_X10_serveMoved_11 rfl ?_
  refine V_getR i_X10_serveMoved_12 rfl rfl ?_
  refine V_al i_X10_serveMoved_15 rfl ?_
  refine V_getR i_X10_serveMoved_16 rfl rfl ?_
  refine V_getI i_X10_serveMoved_19 rfl ?_
  rw [k1.lw]
  refine V_il i_X10_serveMoved_22 rfl ?_
  refine V_al i_X10_serveMoved_23 rfl ?_
  refine V_getR i_X10_serveMoved_24 rfl rfl ?_
  refine V_getI i_X10_serveMoved_27 rfl ?_
  rw [k1.pt]
  refine P_callV3 i_X10_serveMoved_30 mi_X7_rules rfl ⟨_, _, rfl⟩ (by decide) (Nat.le_of_ble_eq_true rfl) (q_rules I1 J1 LS_21 z1 hh k1.p9 s1) (fun r I2 J2 q => ?_)
  obtain ⟨rfl, f2, s2, r2, -⟩ := q
  have k2 : CK I2 n kd nd od lw pot := FrS.K (by decide) f2 k1
  have z2 := FrS.Z f2 z1
  refine V_al i_X10_serveMoved_33 rfl ?_
  refine V_getR i_X10_serveMoved_34 rfl rfl ?_
  refine V_al i_X10_serveMoved_37 rfl ?_
  refine V_getR i_X10_serveMoved_38 rfl rfl ?_
  refine V_getR i_X10_serveMoved_41 rfl rfl ?_
  refine V_il i_X10_serveMoved_44 rfl ?_
  refine V_il i_X10_serveMoved_45 rfl ?_
  refine P_callV3 i_X10_serveMoved_46 mi_X7_seatMoved rfl ⟨_, _, rfl⟩ (by decide) (Nat.le_of_ble_eq_true rfl) (q_moved I2 J2 LS_21 z2 k2.n7 s2 r2 (y := 13) ⟨rfl, rfl, rfl, by decide⟩ k2.z13 (by decide) k2.od k2.P hpos.1 hpos.2 hat) (fun r I3 J3 q => ?_)
  obtain ⟨rfl, f3, s3, r3, a3, -⟩ := q
  have k3 : CK I3 n kd nd od lw pot := FrS.K (by decide) f3 k2
  have z3 := FrS.Z f3 z2
  refine V_al i_X10_serveMoved_49 rfl ?_
  refine V_getR i_X10_serveMoved_50 rfl rfl ?_
  refine V_c i_X10_serveMoved_53 ?_
  refine P_callV1 i_X10_serveMoved_54 mi_X7_serve rfl ⟨_, _, rfl⟩ (by decide) (Nat.le_of_ble_eq_true rfl) (q_serve I3 J3 LS_21 z3 k3.n7 hh k3.l3 k3.p9 k3.kd k3.nd (Pm_mv k3.P hpos.1 hpos.2 hat) s3 r3 a3) (fun r I4 J4 q => ?_)
  obtain ⟨rfl, f4, s4, r4, a4, d4⟩ := q
  have k4 : CK I4 n kd nd od lw pot := FrS.K (by decide) f4 k3
  have z4 := FrS.Z f4 z3
  exact P_vret i_X10_serveMoved_57 rfl ⟨rfl, (FrS.tr (FrS.tr (FrS.tr f1 f2) f3) f4), s4.1, d4⟩
set_option maxRecDepth 100000 in
set_option maxHeartbeats 4000000 in
theorem c_restH (I : IntM) (J : LngM) {n : Nat} {kd nd od : Nat → Nat} {lw pot : Nat} (hK : CK I n kd nd od lw pot) {w : Nat} (hw : w < 128) : CtP 4 m_X10_restWithHonest [.ref 0, .int (nI w)] I J (fun r I1 J1 => r = some (.long (lN (thS (hon kd w) nd lw 0 (pot * un 0) od n))) ∧ SvG I J 21 n (hon kd w) nd lw 0 pot od I1 J1) := by
  refine CtP_of (by decide) rfl (Nat.le_of_ble_eq_true rfl) ?_
  have k0 := hK
  have z0 := hK.Z21
  refine V_al i_X10_restWithHonest_0 rfl ?_
  refine V_getR i_X10_restWithHonest_1 rfl rfl ?_
  refine V_al i_X10_restWithHonest_4 rfl ?_
  refine V_getR i_X10_restWithHonest_5 rfl rfl ?_
  refine P_callV1 i_X10_restWithHonest_8 mi_X7_invite rfl ⟨_, _, rfl⟩ (by decide) (Nat.le_of_ble_eq_true rfl) (q_invite I J LS_21 z0 k0.n7 k0.C) (fun r I1 J1 q => ?_)
  obtain ⟨rfl, f1, s1, -⟩ := q
  have k1 : CK I1 n kd nd od lw pot := FrS.K (by decide) f1 k0
  have z1 := FrS.Z f1 z0
  refine V_al i_X10_restWithHonest_11 rfl ?_
  refine V_getR i_X10_restWithHonest_12 rfl rfl ?_
  refine V_il i_X10_restWithHonest_15 rfl ?_
  refine P_callV1 i_X10_restWithHonest_16 mi_X7_makeEaters rfl ⟨_, _, rfl⟩ (by decide) (Nat.le_of_ble_eq_true rfl) (q_mk I1 J1 LS_21 z1 k1.n7 hw s1) (fun r I2 J2 q => ?_)
  obtain ⟨rfl, f2, s2, -⟩ := q
  have k2 : CK I2 n kd nd od lw pot := FrS.K (by decide) f2 k1
  have z2 := FrS.Z f2 z1
  refine V_al i_X10_restWithHonest_19 rfl ?_
  refine V_getR i_X10_restWithHonest_20 rfl rfl ?_
  refine V_al i_X10_restWithHonest_23 rfl ?_
  refine V_getR i_X10_restWithHonest_24 rfl rfl ?_
  refine V_getI i_X10_restWithHonest_27 rfl ?_
  rw [k2.lw]
  refine V_c i_X10_restWithHonest_30 ?_
  refine V_al i_X10_restWithHonest_31 rfl ?_
  refine V_getR i_X10_restWithHonest_32 rfl rfl ?_
  refine V_getI i_X10_restWithHonest_35 rfl ?_
  rw [k2.pt]
  refine P_callV3 i_X10_restWithHonest_38 mi_X7_rules rfl ⟨_, _, rfl⟩ (by decide) (Nat.le_of_ble_eq_true rfl) (q_rules I2 J2 LS_21 z2 (how := 0) (by decide) k2.p9 s2) (fun r I3 J3 q => ?_)
  obtain ⟨rfl, f3, s3, r3, -⟩ := q
  have k3 : CK I3 n kd nd od lw pot := FrS.K (by decide) f3 k2
  have z3 := FrS.Z f3 z2
  refine V_al i_X10_restWithHonest_41 rfl ?_
  refine V_getR i_X10_restWithHonest_42 rfl rfl ?_
  refine V_al i_X10_restWithHonest_45 rfl ?_
  refine V_getR i_X10_restWithHonest_46 rfl rfl ?_
  refine V_getR i_X10_restWithHonest_49 rfl rfl ?_
  refine V_c i_X10_restWithHonest_52 ?_
  refine P_callV2 i_X10_restWithHonest_53 mi_X7_seatTurned rfl ⟨_, _, rfl⟩ (by decide) (Nat.le_of_ble_eq_true rfl) (q_turn0 I3 J3 LS_21 z3 k3.n7 s3 r3 (y := 13) ⟨rfl, rfl, rfl, by decide⟩ k3.z13 (by decide) k3.od) (fun r I4 J4 q => ?_)
  obtain ⟨rfl, f4, s4, r4, a4, -⟩ := q
  have k4 : CK I4 n kd nd od lw pot := FrS.K (by decide) f4 k3
  have z4 := FrS.Z f4 z3
  refine V_al i_X10_restWithHonest_56 rfl ?_
  refine V_getR i_X10_restWithHonest_57 rfl rfl ?_
  refine V_c i_X10_restWithHonest_60 ?_
  refine P_callV1 i_X10_restWithHonest_61 mi_X7_serve rfl ⟨_, _, rfl⟩ (by decide) (Nat.le_of_ble_eq_true rfl) (q_serve I4 J4 LS_21 z4 k4.n7 (how := 0) (by decide) k4.l3 k4.p9 (hon_le k4.kd _) k4.nd k4.P s4 r4 a4) (fun r I5 J5 q => ?_)
  obtain ⟨rfl, f5, s5, r5, a5, d5⟩ := q
  have k5 : CK I5 n kd nd od lw pot := FrS.K (by decide) f5 k4
  have z5 := FrS.Z f5 z4
  refine V_al i_X10_restWithHonest_64 rfl ?_
  refine V_getR i_X10_restWithHonest_65 rfl rfl ?_
  refine P_callV0v i_X10_restWithHonest_68 mi_X7_rest rfl ⟨_, _, rfl⟩ (by decide) (Nat.le_of_ble_eq_true rfl) (c_S_rest _ _ LS_21 z5 k5.n7 s5.1) ?_
  rw [(d5.1 n (Nat.le_refl n)).1]
  exact P_lret i_X10_restWithHonest_71 rfl ⟨rfl, (FrS.tr (FrS.tr (FrS.tr (FrS.tr f1 f2) f3) f4) f5), s5.1, d5⟩
set_option maxRecDepth 100000 in
set_option maxHeartbeats 4000000 in
theorem c_evening0 (I : IntM) (J : LngM) {n : Nat} {kd nd od : Nat → Nat} {lw pot : Nat} (hK : CK I n kd nd od lw pot) {x : Int32} (h : howv x = 0) : CtP 5 m_X10_evening [.ref 0, .int x] I J (QC I J (.int (-1)) none none none) := by
  refine CtP_of (by decide) rfl (Nat.le_of_ble_eq_true rfl) ?_
  refine V_il i_X10_evening_0 rfl ?_
  refine P_callS1v i_X10_evening_1 ms_X10_isHow (by decide) (Nat.le_of_ble_eq_true rfl) (c_isHow _ _ _) ?_
  refine V_if_ne_f i_X10_evening_4 h ?_
  refine V_c i_X10_evening_7 ?_
  exact P_iret i_X10_evening_8 rfl ⟨rfl, I, J, FrC.rf, hK.Z, rfl, rfl⟩
set_option maxRecDepth 100000 in
set_option maxHeartbeats 4000000 in
theorem c_evening (I : IntM) (J : LngM) {n : Nat} {kd nd od : Nat → Nat} {lw pot : Nat} (hK : CK I n kd nd od lw pot) {how : Nat} (hh : how ≤ 1) : CtP 5 m_X10_evening [.ref 0, .int (nI how)] I J (QC I J (.int (nI (setN (fdE kd nd lw how (pot * un how) od n) n))) (some (nI (popc (setN (fdE kd nd lw how (pot * un how) od n) n)))) (some (((thS kd nd lw how (pot * un how) od n : Nat) : Int), un how)) none) := by
  refine CtP_of (by decide) rfl (Nat.le_of_ble_eq_true rfl) ?_
  have k0 := hK
  have z0 := hK.Z21
  refine V_il i_X10_evening_0 rfl ?_
  refine P_callS1v i_X10_evening_1 ms_X10_isHow (by decide) (Nat.le_of_ble_eq_true rfl) (c_isHow _ _ _) ?_
  refine V_if_ne_t i_X10_evening_4 (by rw [howv_nI hh]; decide) ?_
  refine V_al i_X10_evening_9 rfl ?_
  refine V_getR i_X10_evening_10 rfl rfl ?_
  refine V_al i_X10_evening_13 rfl ?_
  refine V_getR i_X10_evening_14 rfl rfl ?_
  refine P_callV1 i_X10_evening_17 mi_X7_invite rfl ⟨_, _, rfl⟩ (by decide) (Nat.le_of_ble_eq_true rfl) (q_invite I J LS_21 z0 k0.n7 k0.C) (fun r I1 J1 q => ?_)
  obtain ⟨rfl, f1, s1, -⟩ := q
  have k1 : CK I1 n kd nd od lw pot := FrS.K (by decide) f1 k0
  have z1 := FrS.Z f1 z0
  refine V_al i_X10_evening_20 rfl ?_
  refine V_getR i_X10_evening_21 rfl rfl ?_
  refine V_al i_X10_evening_24 rfl ?_
  refine V_getR i_X10_evening_25 rfl rfl ?_
  refine V_getI i_X10_evening_28 rfl ?_
  rw [k1.lw]
  refine V_il i_X10_evening_31 rfl ?_
  refine V_al i_X10_evening_32 rfl ?_
  refine V_getR i_X10_evening_33 rfl rfl ?_
  refine V_getI i_X10_evening_36 rfl ?_
  rw [k1.pt]
  refine P_callV3 i_X10_evening_39 mi_X7_rules rfl ⟨_, _, rfl⟩ (by decide) (Nat.le_of_ble_eq_true rfl) (q_rules I1 J1 LS_21 z1 hh k1.p9 s1) (fun r I2 J2 q => ?_)
  obtain ⟨rfl, f2, s2, r2, -⟩ := q
  have k2 : CK I2 n kd nd od lw pot := FrS.K (by decide) f2 k1
  have z2 := FrS.Z f2 z1
  refine V_al i_X10_evening_42 rfl ?_
  refine V_getR i_X10_evening_43 rfl rfl ?_
  refine V_al i_X10_evening_46 rfl ?_
  refine V_getR i_X10_evening_47 rfl rfl ?_
  refine V_getR i_X10_evening_50 rfl rfl ?_
  refine V_c i_X10_evening_53 ?_
  refine P_callV2 i_X10_evening_54 mi_X7_seatTurned rfl ⟨_, _, rfl⟩ (by decide) (Nat.le_of_ble_eq_true rfl) (q_turn0 I2 J2 LS_21 z2 k2.n7 s2 r2 (y := 13) ⟨rfl, rfl, rfl, by decide⟩ k2.z13 (by decide) k2.od) (fun r I3 J3 q => ?_)
  obtain ⟨rfl, f3, s3, r3, a3, -⟩ := q
  have k3 : CK I3 n kd nd od lw pot := FrS.K (by decide) f3 k2
  have z3 := FrS.Z f3 z2
  refine V_al i_X10_evening_57 rfl ?_
  refine V_getR i_X10_evening_58 rfl rfl ?_
  refine V_c i_X10_evening_61 ?_
  refine P_callV1 i_X10_evening_62 mi_X7_serve rfl ⟨_, _, rfl⟩ (by decide) (Nat.le_of_ble_eq_true rfl) (q_serve I3 J3 LS_21 z3 k3.n7 hh k3.l3 k3.p9 k3.kd k3.nd k3.P s3 r3 a3) (fun r I4 J4 q => ?_)
  obtain ⟨rfl, f4, s4, r4, a4, d4⟩ := q
  have k4 : CK I4 n kd nd od lw pot := FrS.K (by decide) f4 k3
  have z4 := FrS.Z f4 z3
  refine V_al i_X10_evening_65 rfl ?_
  refine V_al i_X10_evening_66 rfl ?_
  refine V_getR i_X10_evening_67 rfl rfl ?_
  refine P_callV0v i_X10_evening_70 mi_X7_rest rfl ⟨_, _, rfl⟩ (by decide) (Nat.le_of_ble_eq_true rfl) (c_S_rest _ _ LS_21 z4 k4.n7 s4.1) ?_
  rw [(d4.1 n (Nat.le_refl n)).1, lZ_N]
  refine V_il i_X10_evening_73 rfl ?_
  refine P_callV2u i_X10_evening_74 mi_X10_tellShare rfl ⟨_, _, rfl⟩ (by decide) (Nat.le_of_ble_eq_true rfl) (c_tellS I4 J4 hh (by rw [Int.natAbs_natCast]; exact Nat.lt_trans (thB hK.p9 n) (by decide))) ?_
  refine V_al i_X10_evening_77 rfl ?_
  refine V_al i_X10_evening_78 rfl ?_
  refine V_getR i_X10_evening_79 rfl rfl ?_
  refine P_callV0v i_X10_evening_82 mi_X7_fedAll rfl ⟨_, _, rfl⟩ (by decide) (Nat.le_of_ble_eq_true rfl) (c_S_fedAll _ _ LS_21 z4 k4.n7 s4.1) ?_
  rw [(d4.1 n (Nat.le_refl n)).2, fdS_set hK.P]
  refine P_callV1v i_X10_evening_85 mi_X10_tellBits rfl ⟨_, _, rfl⟩ (by decide) (Nat.le_of_ble_eq_true rfl) (c_tellB I4 _ _) ?_
  exact P_iret i_X10_evening_88 rfl ⟨rfl, I4, J4, FrS.C (by decide) (by decide) (FrS.tr (FrS.tr (FrS.tr f1 f2) f3) f4), k4.Z, by rw [bc_tab _ (setN_lt _ n hK.n7)]; rfl, rfl⟩
set_option maxRecDepth 100000 in
set_option maxHeartbeats 4000000 in
theorem c_place0 (I : IntM) (J : LngM) {n : Nat} {kd nd od : Nat → Nat} {lw pot : Nat} (hK : CK I n kd nd od lw pot) {x y z : Int32} (h : hasC n x = 0 ∨ hasC n y = 0 ∨ howv z = 0) : CtP 5 m_X10_place [.ref 0, .int x, .int y, .int z] I J (QC I J (.int (-1)) none none none) := by
  refine CtP_of (by decide) rfl (Nat.le_of_ble_eq_true rfl) ?_
  refine V_al i_X10_place_0 rfl ?_
  refine V_getR i_X10_place_1 rfl rfl ?_
  refine V_il i_X10_place_4 rfl ?_
  refine P_callV1v i_X10_place_5 mi_X0_has rfl ⟨_, _, rfl⟩ (by decide) (Nat.le_of_ble_eq_true rfl) (c_C_has _ _ hK.sz _) ?_
  refine V_if_eq i_X10_place_8 (fun c8 => ?_) (fun c8 => ?_)
  · refine V_c i_X10_place_29 ?_
    exact P_iret i_X10_place_30 rfl ⟨rfl, I, J, FrC.rf, hK.Z, rfl, rfl⟩
  · refine V_al i_X10_place_11 rfl ?_
    refine V_getR i_X10_place_12 rfl rfl ?_
    refine V_il i_X10_place_15 rfl ?_
    refine P_callV1v i_X10_place_16 mi_X0_has rfl ⟨_, _, rfl⟩ (by decide) (Nat.le_of_ble_eq_true rfl) (c_C_has _ _ hK.sz _) ?_
    refine V_if_eq i_X10_place_19 (fun c19 => ?_) (fun c19 => ?_)
    · refine V_c i_X10_place_29 ?_
      exact P_iret i_X10_place_30 rfl ⟨rfl, I, J, FrC.rf, hK.Z, rfl, rfl⟩
    · refine V_il i_X10_place_22 rfl ?_
      refine P_callS1v i_X10_place_23 ms_X10_isHow (by decide) (Nat.le_of_ble_eq_true rfl) (c_isHow _ _ _) ?_
      refine V_if_ne_f i_X10_place_26 (by rcases h with h | h | h; exact absurd h c8; exact absurd h c19; exact h) ?_
      refine V_c i_X10_place_29 ?_
      exact P_iret i_X10_place_30 rfl ⟨rfl, I, J, FrC.rf, hK.Z, rfl, rfl⟩
def mvT (kd nd : Nat → Nat) (lw how P : Nat) (od : Nat → Nat) (n k at' : Nat) : Nat := tkS kd nd lw how P (mvS od (plN od k n) k at') (plN (mvS od (plN od k n) k at') k n)
set_option maxRecDepth 100000 in
set_option maxHeartbeats 4000000 in
theorem c_place (I : IntM) (J : LngM) {n : Nat} {kd nd od : Nat → Nat} {lw pot : Nat} (hK : CK I n kd nd od lw pot) {k at' how : Nat} (hh : how ≤ 1) (hk : k < n) (hat : at' < n) : CtP 5 m_X10_place [.ref 0, .int (nI k), .int (nI at'), .int (nI how)] I J (QC I J (.int 1) none (some (((mvT kd nd lw how (pot * un how) od n k at' : Nat) : Int), un how)) none) := by
  refine CtP_of (by decide) rfl (Nat.le_of_ble_eq_true rfl) ?_
  refine V_al i_X10_place_0 rfl ?_
  refine V_getR i_X10_place_1 rfl rfl ?_
  refine V_il i_X10_place_4 rfl ?_
  refine P_callV1v i_X10_place_5 mi_X0_has rfl ⟨_, _, rfl⟩ (by decide) (Nat.le_of_ble_eq_true rfl) (c_C_has _ _ hK.sz _) ?_
  refine V_if_eq_f i_X10_place_8 (by rw [hasC_nI hK.n7 hk]; decide) ?_
  refine V_al i_X10_place_11 rfl ?_
  refine V_getR i_X10_place_12 rfl rfl ?_
  refine V_il i_X10_place_15 rfl ?_
  refine P_callV1v i_X10_place_16 mi_X0_has rfl ⟨_, _, rfl⟩ (by decide) (Nat.le_of_ble_eq_true rfl) (c_C_has _ _ hK.sz _) ?_
  refine V_if_eq_f i_X10_place_19 (by rw [hasC_nI hK.n7 hat]; decide) ?_
  refine V_il i_X10_place_22 rfl ?_
  refine P_callS1v i_X10_place_23 ms_X10_isHow (by decide) (Nat.le_of_ble_eq_true rfl) (c_isHow _ _ _) ?_
  refine V_if_ne_t i_X10_place_26 (by rw [howv_nI hh]; decide) ?_
  refine V_al i_X10_place_31 rfl ?_
  refine V_il i_X10_place_32 rfl ?_
  refine V_il i_X10_place_33 rfl ?_
  refine V_il i_X10_place_34 rfl ?_
  refine P_callV3 i_X10_place_35 mi_X10_serveMoved rfl ⟨_, _, rfl⟩ (by decide) (Nat.le_of_ble_eq_true rfl) (c_srvMoved I J hK hh hk hat) (fun r I1 J1 q => ?_)
  obtain ⟨rfl, f1, s1, d1⟩ := q
  have k1 := FrS.K (Or.inl rfl) f1 hK
  have e1 : J1 29 k = _ := d1.2 k hk
  refine V_al i_X10_place_38 rfl ?_
  refine V_al i_X10_place_39 rfl ?_
  refine V_getR i_X10_place_40 rfl rfl ?_
  refine V_getR i_X10_place_43 rfl rfl ?_
  refine V_il i_X10_place_46 rfl ?_
  refine P_callV1v i_X10_place_47 mi_X4_get rfl ⟨_, _, rfl⟩ (by decide) (Nat.le_of_ble_eq_true rfl) (c_L_get _ _ (x := 28) (n := 7) ⟨rfl, rfl, rfl, by decide⟩ (k := k) (by have := hK.n7; omega)) ?_
  rw [e1, lZ_N]
  refine V_il i_X10_place_50 rfl ?_
  refine P_callV2u i_X10_place_51 mi_X10_tellShare rfl ⟨_, _, rfl⟩ (by decide) (Nat.le_of_ble_eq_true rfl) (c_tellS I1 J1 hh (by rw [Int.natAbs_natCast]; exact Nat.lt_trans (tkB hK.p9 _) (by decide))) ?_
  refine V_c i_X10_place_54 ?_
  exact P_iret i_X10_place_55 rfl ⟨rfl, I1, J1, FrS.C (by decide) (by decide) f1, k1.Z, rfl, rfl⟩

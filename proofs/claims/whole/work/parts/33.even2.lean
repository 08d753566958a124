
/-! ===== an evening, one by one: looking ===== -/
theorem gr_62 {g how : Nat} (h : g ≤ 999 * un how) : ((g : Nat) : Int).natAbs < 2 ^ 62 := by
  rw [Int.natAbs_natCast]
  have := un_le how
  omega
theorem gr_60 {g how : Nat} (h : g ≤ 999 * un how) : ((g : Nat) : Int).natAbs < 2 ^ 60 := by
  rw [Int.natAbs_natCast]
  have := un_le how
  omega
theorem EvM.to {I I1 : IntM} {J J1 : LngM} {n how e : Nat} {ln : Nat → Nat} {gr : Nat} {te : Nat → Nat} (e1 : ∀ x k, 146 ≤ x → I1 x k = I x k) (e2 : ∀ x k, 146 ≤ x → J1 x k = J x k) (h : EvM I J n how e ln gr te) : EvM I1 J1 n how e ln gr te := EvM.congr (fun x k q => e1 x k (by omega)) (fun x k q => e2 x k (by omega)) h

set_option maxRecDepth 100000 in
set_option maxHeartbeats 4000000 in
theorem c_left (I : IntM) (J : LngM) {n : Nat} {kd nd od : Nat → Nat} {lw pot : Nat} (hK : CK I n kd nd od lw pot) {e how gr : Nat} {ln te : Nat → Nat} (hE : EvOK n how e ln gr te) (hC : EvC I J 15 n how e ln gr te) : CtP 5 m_X10_left [.ref 0] I J (QC I J (.int (nI e)) none (some ((gr : Int), un how)) none) := by
  refine CtP_of (by decide) rfl (Nat.le_of_ble_eq_true rfl) ?_
  obtain ⟨hh, hen, hPm, hgr, h24, hte⟩ := id hE
  obtain ⟨c1, c2, c3, c4, c5, c6⟩ := id hC
  refine V_al i_X10_left_0 rfl ?_
  refine V_al i_X10_left_1 rfl ?_
  refine V_getR i_X10_left_2 rfl rfl ?_
  refine V_getJ i_X10_left_5 rfl ?_
  rw [c3, lZ_N]
  refine V_al i_X10_left_8 rfl ?_
  refine V_getR i_X10_left_9 rfl rfl ?_
  refine V_getI i_X10_left_12 rfl ?_
  rw [c1]
  refine P_callV2u i_X10_left_15 mi_X10_tellShare rfl ⟨_, _, rfl⟩ (by decide) (Nat.le_of_ble_eq_true rfl) (c_tellS I J hh (gr_62 hgr)) ?_
  refine V_al i_X10_left_18 rfl ?_
  refine V_getR i_X10_left_19 rfl rfl ?_
  refine V_getI i_X10_left_22 rfl ?_
  rw [c2]
  exact P_iret i_X10_left_25 rfl ⟨rfl, I, J, FrC.rf, hK.Z, rfl, rfl⟩
set_option maxRecDepth 100000 in
set_option maxHeartbeats 4000000 in
theorem m_left (I : IntM) (J : LngM) {n : Nat} {e how gr : Nat} {ln te : Nat → Nat} (hE : EvOK n how e ln gr te) (hV : EvM I J n how e ln gr te) : CtP 4 m_X11_left [.ref 146] I J (QM I J (.int (nI e)) none (some ((gr : Int), un how)) none) := by
  refine CtP_of (by decide) rfl (Nat.le_of_ble_eq_true rfl) ?_
  obtain ⟨hh, hen, hPm, hgr, h24, hte⟩ := id hE
  obtain ⟨v1, v2, v3, v4, v5⟩ := id hV
  refine V_al i_X11_left_0 rfl ?_
  refine V_al i_X11_left_1 rfl ?_
  refine V_getI i_X11_left_2 rfl ?_
  refine V_al i_X11_left_5 rfl ?_
  refine V_getJ i_X11_left_6 rfl ?_
  refine V_al i_X11_left_9 rfl ?_
  refine V_getJ i_X11_left_10 rfl ?_
  rw [v2]
  refine P_callV3v i_X11_left_13 mi_X11_tells rfl ⟨_, _, rfl⟩ (by decide) (Nat.le_of_ble_eq_true rfl) (m_tells I J (un_pos how) (un_62 how) (gr_62 hgr) v3) ?_
  exact P_iret i_X11_left_16 rfl ⟨rfl, I, _, FrJ.M _ (FrJ.lo _ _ _), rfl, rfl⟩
theorem p_left {I : IntM} {J : LngM} (h : Inv I J) : Pair 5 m_X10_left [.ref 0] 4 m_X11_left [.ref 146] I J := by
  obtain ⟨n, kd, nd, od, lw, pot, hP, hK, hM⟩ := h.K
  obtain ⟨how, e, ln, gr, te, hE, hC, hV⟩ := hP.2.1
  exact Pair.q h (fun _ => no_f) (c_left I J hK hE hC) (fun I1 J1 e1 e2 => m_left I1 J1 hE (EvM.to e1 e2 hV))
set_option maxRecDepth 100000 in
set_option maxHeartbeats 4000000 in
theorem c_E_has (I : IntM) (J : LngM) {n : Nat} (hn : n ≤ 7) {e how gr : Nat} {ln te : Nat → Nat} (hE : EvOK n how e ln gr te) (hC : EvC I J 15 n how e ln gr te) {k : Nat} (hk : k < n) : CtV 1 m_X2_hasEaten [.ref 15, .int (nI k)] I J (.int (if (whoN ln e).testBit k = true then 1 else 0)) I J := by
  refine CtV_of (by decide) rfl (Nat.le_of_ble_eq_true rfl) ?_
  obtain ⟨hh, hen, hPm, hgr, h24, hte⟩ := id hE
  obtain ⟨c1, c2, c3, c4, c5, c6⟩ := id hC
  have hk7 : k < 7 := by omega
  have hw : whoN ln e < 128 := whoN_lt hn (fun i hi => hPm.1 i (by omega))
  refine V_al i_X2_hasEaten_0 rfl ?_
  refine V_getI i_X2_hasEaten_1 rfl ?_
  refine V_c i_X2_hasEaten_4 ?_
  refine V_il i_X2_hasEaten_5 rfl ?_
  refine V_ishl i_X2_hasEaten_6 ?_
  refine V_iand i_X2_hasEaten_7 ?_
  rw [c4]
  refine V_if_eq i_X2_hasEaten_8 (fun c8 => ?_) (fun c8 => ?_)
  · have c9 : ¬ (whoN ln e).testBit k = true := by rw [(bit_and hw hk7).mp c8]; decide
    refine V_c i_X2_hasEaten_15 ?_
    exact P_zret i_X2_hasEaten_16 rfl (by decide) ⟨by simp [*], rfl, rfl⟩
  · have c9 : (whoN ln e).testBit k = true := by
      by_cases b : (whoN ln e).testBit k = true
      · exact b
      · exact absurd ((bit_and hw hk7).mpr (Bool.eq_false_iff.mpr b)) c8
    refine V_c i_X2_hasEaten_11 ?_
    refine V_goto i_X2_hasEaten_12 ?_
    exact P_zret i_X2_hasEaten_16 rfl (by decide) ⟨by simp [*], rfl, rfl⟩
set_option maxRecDepth 100000 in
set_option maxHeartbeats 4000000 in
theorem lp_M_has (I : IntM) (J : LngM) {n : Nat} (hn : n ≤ 7) {e how gr : Nat} {ln te : Nat → Nat} (hE : EvOK n how e ln gr te) (hV : EvM I J n how e ln gr te) {k : Nat} (hk : k < n) (Q : Option Value → IntM → LngM → Prop) (hq : Q (some (.int (if (whoN ln e).testBit k = true then 1 else 0))) I J) : VP m_X11_hasEaten 1 4 [(0, .ref 146), (1, .int (nI k)), (2, .int 0), (3, .int 0)] [] I J Q := by
  obtain ⟨hh, hen, hPm, hgr, h24, hte⟩ := id hE
  obtain ⟨v1, v2, v3, v4, v5⟩ := id hV
  have key : ∀ i, i ≤ e → VP m_X11_hasEaten 1 4 [(0, .ref 146), (1, .int (nI k)), (2, .int (if (whoN ln i).testBit k = true then 1 else 0)), (3, .int (nI i))] [] I J Q := by
    refine down e ?_ (fun i hi ih => ?_)
    · refine V_il i_X11_hasEaten_4 rfl ?_
      refine V_al i_X11_hasEaten_5 rfl ?_
      refine V_getI i_X11_hasEaten_6 rfl ?_
      refine V_ic_ge_t i_X11_hasEaten_9 (by rw [v2]; exact Int32.le_refl _) ?_
      refine V_il i_X11_hasEaten_38 rfl ?_
      exact P_zret i_X11_hasEaten_39 rfl (by split <;> simp) hq
    · refine V_il i_X11_hasEaten_4 rfl ?_
      refine V_al i_X11_hasEaten_5 rfl ?_
      refine V_getI i_X11_hasEaten_6 rfl ?_
      refine V_ic_ge_f i_X11_hasEaten_9 (by rw [v2]; exact nI_ge hi (by omega)) ?_
      refine V_il i_X11_hasEaten_12 rfl ?_
      refine V_if_ne i_X11_hasEaten_13 (fun c13 => ?_) (fun c13 => ?_)
      · have d8 := yes01 c13
        refine V_c i_X11_hasEaten_26 ?_
        refine V_goto i_X11_hasEaten_27 ?_
        refine V_is (L' := [(0, _), (1, _), (2, _), (3, _)]) i_X11_hasEaten_31 (by decide) ⟨rfl, rfl, rfl, rfl, trivial⟩ ?_
        refine V_iinc (L' := [(0, _), (1, _), (2, _), (3, _)]) (n' := 1) i_X11_hasEaten_32 (by decide) rfl (by decide) ⟨rfl, rfl, rfl, rfl, trivial⟩ ?_
        refine V_goto i_X11_hasEaten_35 ?_
        refine V_L (L' := [(0, _), (1, _), (2, _), (3, _)]) ⟨rfl, rfl, rfl, rfl, trivial⟩ ?_
        rw [show nI i + 1 = nI (i + 1) from nI_1 i]
        have ih2 := ih
        rw [if_pos ((whoN_bit ln k (i + 1)).mpr (by obtain ⟨j, hj, e9⟩ := (whoN_bit ln k i).mp d8; exact ⟨j, by omega, e9⟩))] at ih2
        exact ih2
      · have d8 := no01 c13
        refine V_al i_X11_hasEaten_16 rfl ?_
        refine V_getR i_X11_hasEaten_17 rfl rfl ?_
        refine V_il i_X11_hasEaten_20 rfl ?_
        refine K_iald _ i_X11_hasEaten_21 rfl rfl (by omega) (by omega) ?_
        refine V_il i_X11_hasEaten_22 rfl ?_
        rw [v4 i (by omega)]
        refine V_ic_ne i_X11_hasEaten_23 (fun c23 => ?_) (fun c23 => ?_)
        · have d9 : ¬ ln i = k := fun q => c23 (by rw [q])
          refine V_c i_X11_hasEaten_30 ?_
          refine V_is (L' := [(0, _), (1, _), (2, _), (3, _)]) i_X11_hasEaten_31 (by decide) ⟨rfl, rfl, rfl, rfl, trivial⟩ ?_
          refine V_iinc (L' := [(0, _), (1, _), (2, _), (3, _)]) (n' := 1) i_X11_hasEaten_32 (by decide) rfl (by decide) ⟨rfl, rfl, rfl, rfl, trivial⟩ ?_
          refine V_goto i_X11_hasEaten_35 ?_
          refine V_L (L' := [(0, _), (1, _), (2, _), (3, _)]) ⟨rfl, rfl, rfl, rfl, trivial⟩ ?_
          rw [show nI i + 1 = nI (i + 1) from nI_1 i]
          have ih2 := ih
          rw [if_neg (fun q => by obtain ⟨j, hj, e9⟩ := (whoN_bit ln k (i + 1)).mp q; exact d8 ((whoN_bit ln k i).mpr ⟨j, by rcases Nat.lt_or_ge j i with z | z; exact z; exact absurd (by rw [← e9]; congr 1; omega) d9, e9⟩))] at ih2
          exact ih2
        · have d9 : ln i = k := (nI_eq (by have := hPm.1 i (by omega); omega) (by omega)).mp c23
          refine V_c i_X11_hasEaten_26 ?_
          refine V_goto i_X11_hasEaten_27 ?_
          refine V_is (L' := [(0, _), (1, _), (2, _), (3, _)]) i_X11_hasEaten_31 (by decide) ⟨rfl, rfl, rfl, rfl, trivial⟩ ?_
          refine V_iinc (L' := [(0, _), (1, _), (2, _), (3, _)]) (n' := 1) i_X11_hasEaten_32 (by decide) rfl (by decide) ⟨rfl, rfl, rfl, rfl, trivial⟩ ?_
          refine V_goto i_X11_hasEaten_35 ?_
          refine V_L (L' := [(0, _), (1, _), (2, _), (3, _)]) ⟨rfl, rfl, rfl, rfl, trivial⟩ ?_
          rw [show nI i + 1 = nI (i + 1) from nI_1 i]
          have ih2 := ih
          rw [if_pos ((whoN_bit ln k (i + 1)).mpr ⟨i, by omega, d9⟩)] at ih2
          exact ih2
  have h0 := key 0 (Nat.zero_le _)
  rw [show (whoN ln 0).testBit k = false from Nat.zero_testBit k] at h0
  exact h0
set_option maxRecDepth 100000 in
set_option maxHeartbeats 4000000 in
theorem m_E_has (I : IntM) (J : LngM) {n : Nat} (hn : n ≤ 7) {e how gr : Nat} {ln te : Nat → Nat} (hE : EvOK n how e ln gr te) (hV : EvM I J n how e ln gr te) {k : Nat} (hk : k < n) : CtV 1 m_X11_hasEaten [.ref 146, .int (nI k)] I J (.int (if (whoN ln e).testBit k = true then 1 else 0)) I J := by
  refine CtV_of (by decide) rfl (Nat.le_of_ble_eq_true rfl) ?_
  refine V_c i_X11_hasEaten_0 ?_
  refine V_is (L' := [(0, _), (1, _), (2, _)]) i_X11_hasEaten_1 (by decide) ⟨rfl, rfl, rfl, trivial⟩ ?_
  refine V_c i_X11_hasEaten_2 ?_
  refine V_is (L' := [(0, _), (1, _), (2, _), (3, _)]) i_X11_hasEaten_3 (by decide) ⟨rfl, rfl, rfl, rfl, trivial⟩ ?_
  refine V_L (L' := [(0, _), (1, _), (2, _), (3, _)]) ⟨rfl, rfl, rfl, rfl, trivial⟩ ?_
  exact lp_M_has I J hn hE hV hk _ ⟨rfl, rfl, rfl⟩
set_option maxRecDepth 100000 in
set_option maxHeartbeats 4000000 in
theorem c_took0 (I : IntM) (J : LngM) {n : Nat} {kd nd od : Nat → Nat} {lw pot : Nat} (hK : CK I n kd nd od lw pot) {x : Int32} (h : hasC n x = 0) : CtP 5 m_X10_took [.ref 0, .int x] I J (QC I J (.int (-1)) none none none) := by
  refine CtP_of (by decide) rfl (Nat.le_of_ble_eq_true rfl) ?_
  refine V_al i_X10_took_0 rfl ?_
  refine V_getR i_X10_took_1 rfl rfl ?_
  refine V_il i_X10_took_4 rfl ?_
  refine P_callV1v i_X10_took_5 mi_X0_has rfl ⟨_, _, rfl⟩ (by decide) (Nat.le_of_ble_eq_true rfl) (c_C_has _ _ hK.sz _) ?_
  refine V_if_ne_f i_X10_took_8 h ?_
  refine V_c i_X10_took_11 ?_
  exact P_iret i_X10_took_12 rfl ⟨rfl, I, J, FrC.rf, hK.Z, rfl, rfl⟩
set_option maxRecDepth 100000 in
set_option maxHeartbeats 4000000 in
theorem c_took1 (I : IntM) (J : LngM) {n : Nat} {kd nd od : Nat → Nat} {lw pot : Nat} (hK : CK I n kd nd od lw pot) {e how gr : Nat} {ln te : Nat → Nat} (hE : EvOK n how e ln gr te) (hC : EvC I J 15 n how e ln gr te) {k : Nat} (hk : k < n) (hb : ¬ (whoN ln e).testBit k = true) : CtP 5 m_X10_took [.ref 0, .int (nI k)] I J (QC I J (.int (-4)) none none none) := by
  refine CtP_of (by decide) rfl (Nat.le_of_ble_eq_true rfl) ?_
  refine V_al i_X10_took_0 rfl ?_
  refine V_getR i_X10_took_1 rfl rfl ?_
  refine V_il i_X10_took_4 rfl ?_
  refine P_callV1v i_X10_took_5 mi_X0_has rfl ⟨_, _, rfl⟩ (by decide) (Nat.le_of_ble_eq_true rfl) (c_C_has _ _ hK.sz _) ?_
  refine V_if_ne_t i_X10_took_8 (by rw [hasC_nI hK.n7 hk]; decide) ?_
  refine V_al i_X10_took_13 rfl ?_
  refine V_getR i_X10_took_14 rfl rfl ?_
  refine V_il i_X10_took_17 rfl ?_
  refine P_callV1v i_X10_took_18 mi_X2_hasEaten rfl ⟨_, _, rfl⟩ (by decide) (Nat.le_of_ble_eq_true rfl) (c_E_has I J hK.n7 hE hC hk) ?_
  refine V_if_ne_f i_X10_took_21 (if_neg hb) ?_
  refine V_c i_X10_took_24 ?_
  exact P_iret i_X10_took_26 rfl ⟨rfl, I, J, FrC.rf, hK.Z, rfl, rfl⟩
set_option maxRecDepth 100000 in
set_option maxHeartbeats 4000000 in
theorem c_took2 (I : IntM) (J : LngM) {n : Nat} {kd nd od : Nat → Nat} {lw pot : Nat} (hK : CK I n kd nd od lw pot) {e how gr : Nat} {ln te : Nat → Nat} (hE : EvOK n how e ln gr te) (hC : EvC I J 15 n how e ln gr te) {k i : Nat} (hk : k < n) (hi : i < e) (hik : ln i = k) : CtP 5 m_X10_took [.ref 0, .int (nI k)] I J (QC I J (.int 1) none (some ((te i : Int), un how)) none) := by
  refine CtP_of (by decide) rfl (Nat.le_of_ble_eq_true rfl) ?_
  obtain ⟨hh, hen, hPm, hgr, h24, hte⟩ := id hE
  obtain ⟨c1, c2, c3, c4, c5, c6⟩ := id hC
  refine V_al i_X10_took_0 rfl ?_
  refine V_getR i_X10_took_1 rfl rfl ?_
  refine V_il i_X10_took_4 rfl ?_
  refine P_callV1v i_X10_took_5 mi_X0_has rfl ⟨_, _, rfl⟩ (by decide) (Nat.le_of_ble_eq_true rfl) (c_C_has _ _ hK.sz _) ?_
  refine V_if_ne_t i_X10_took_8 (by rw [hasC_nI hK.n7 hk]; decide) ?_
  refine V_al i_X10_took_13 rfl ?_
  refine V_getR i_X10_took_14 rfl rfl ?_
  refine V_il i_X10_took_17 rfl ?_
  refine P_callV1v i_X10_took_18 mi_X2_hasEaten rfl ⟨_, _, rfl⟩ (by decide) (Nat.le_of_ble_eq_true rfl) (c_E_has I J hK.n7 hE hC hk) ?_
  refine V_if_ne_t i_X10_took_21 (by rw [if_pos ((whoN_bit ln k e).mpr ⟨i, hi, hik⟩)]; decide) ?_
  refine V_al i_X10_took_27 rfl ?_
  refine V_al i_X10_took_28 rfl ?_
  refine V_getR i_X10_took_29 rfl rfl ?_
  refine V_getR i_X10_took_32 rfl rfl ?_
  refine V_il i_X10_took_35 rfl ?_
  refine P_callV1v i_X10_took_36 mi_X4_get rfl ⟨_, _, rfl⟩ (by decide) (Nat.le_of_ble_eq_true rfl) (c_L_get _ _ (x := 18) (n := 7) ⟨rfl, rfl, rfl, by decide⟩ (k := k) (by have := hK.n7; omega)) ?_
  rw [show J (18 + 1) k = lN (te i) from by rw [← hik]; exact c6 i hi, lZ_N]
  refine V_al i_X10_took_39 rfl ?_
  refine V_getR i_X10_took_40 rfl rfl ?_
  refine V_getI i_X10_took_43 rfl ?_
  rw [c1]
  refine P_callV2u i_X10_took_46 mi_X10_tellShare rfl ⟨_, _, rfl⟩ (by decide) (Nat.le_of_ble_eq_true rfl) (c_tellS I J hh (gr_62 (hte i hi))) ?_
  refine V_c i_X10_took_49 ?_
  exact P_iret i_X10_took_50 rfl ⟨rfl, I, J, FrC.rf, hK.Z, rfl, rfl⟩
set_option maxRecDepth 100000 in
set_option maxHeartbeats 4000000 in
theorem m_took0 (I : IntM) (J : LngM) {n : Nat} {kd nd od : Nat → Nat} {lw pot : Nat} (hK : MK I n kd nd od lw pot) {x : Int32} (h : hasC n x = 0) : CtP 4 m_X11_took [.ref 146, .int x] I J (QM I J (.int (-1)) none none none) := by
  refine CtP_of (by decide) rfl (Nat.le_of_ble_eq_true rfl) ?_
  refine V_al i_X11_took_0 rfl ?_
  refine V_il i_X11_took_1 rfl ?_
  refine P_callV1v i_X11_took_2 mi_X11_isEater rfl ⟨_, _, rfl⟩ (by decide) (Nat.le_of_ble_eq_true rfl) (c_M_isEater _ _ hK.n7 hK.sz _) ?_
  refine V_if_ne_f i_X11_took_5 h ?_
  refine V_c i_X11_took_8 ?_
  exact P_iret i_X11_took_9 rfl ⟨rfl, I, J, FrM.rf, rfl, rfl⟩
set_option maxRecDepth 100000 in
set_option maxHeartbeats 4000000 in
theorem m_took1 (I : IntM) (J : LngM) {n : Nat} {kd nd od : Nat → Nat} {lw pot : Nat} (hK : MK I n kd nd od lw pot) {e how gr : Nat} {ln te : Nat → Nat} (hE : EvOK n how e ln gr te) (hV : EvM I J n how e ln gr te) {k : Nat} (hk : k < n) (hb : ¬ (whoN ln e).testBit k = true) : CtP 4 m_X11_took [.ref 146, .int (nI k)] I J (QM I J (.int (-4)) none none none) := by
  refine CtP_of (by decide) rfl (Nat.le_of_ble_eq_true rfl) ?_
  refine V_al i_X11_took_0 rfl ?_
  refine V_il i_X11_took_1 rfl ?_
  refine P_callV1v i_X11_took_2 mi_X11_isEater rfl ⟨_, _, rfl⟩ (by decide) (Nat.le_of_ble_eq_true rfl) (c_M_isEater _ _ hK.n7 hK.sz _) ?_
  refine V_if_ne_t i_X11_took_5 (by rw [hasC_nI hK.n7 hk]; decide) ?_
  refine V_al i_X11_took_10 rfl ?_
  refine V_il i_X11_took_11 rfl ?_
  refine P_callV1v i_X11_took_12 mi_X11_hasEaten rfl ⟨_, _, rfl⟩ (by decide) (Nat.le_of_ble_eq_true rfl) (m_E_has I J hK.n7 hE hV hk) ?_
  refine V_if_eq_t i_X11_took_15 (if_neg hb) ?_
  refine V_c i_X11_took_38 ?_
  exact P_iret i_X11_took_40 rfl ⟨rfl, I, J, FrM.rf, rfl, rfl⟩
set_option maxRecDepth 100000 in
set_option maxHeartbeats 4000000 in
theorem m_took2 (I : IntM) (J : LngM) {n : Nat} {kd nd od : Nat → Nat} {lw pot : Nat} (hK : MK I n kd nd od lw pot) {e how gr : Nat} {ln te : Nat → Nat} (hE : EvOK n how e ln gr te) (hV : EvM I J n how e ln gr te) {k i : Nat} (hk : k < n) (hi : i < e) (hik : ln i = k) : CtP 4 m_X11_took [.ref 146, .int (nI k)] I J (QM I J (.int 1) none (some ((te i : Int), un how)) none) := by
  refine CtP_of (by decide) rfl (Nat.le_of_ble_eq_true rfl) ?_
  obtain ⟨hh, hen, hPm, hgr, h24, hte⟩ := id hE
  obtain ⟨v1, v2, v3, v4, v5⟩ := id hV
  refine V_al i_X11_took_0 rfl ?_
  refine V_il i_X11_took_1 rfl ?_
  refine P_callV1v i_X11_took_2 mi_X11_isEater rfl ⟨_, _, rfl⟩ (by decide) (Nat.le_of_ble_eq_true rfl) (c_M_isEater _ _ hK.n7 hK.sz _) ?_
  refine V_if_ne_t i_X11_took_5 (by rw [hasC_nI hK.n7 hk]; decide) ?_
  refine V_al i_X11_took_10 rfl ?_
  refine V_il i_X11_took_11 rfl ?_
  refine P_callV1v i_X11_took_12 mi_X11_hasEaten rfl ⟨_, _, rfl⟩ (by decide) (Nat.le_of_ble_eq_true rfl) (m_E_has I J hK.n7 hE hV hk) ?_
  refine V_if_eq_f i_X11_took_15 (by rw [if_pos ((whoN_bit ln k e).mpr ⟨i, hi, hik⟩)]; decide) ?_
  refine V_al i_X11_took_18 rfl ?_
  refine V_c i_X11_took_19 ?_
  refine V_al i_X11_took_20 rfl ?_
  refine V_getR i_X11_took_21 rfl rfl ?_
  refine V_il i_X11_took_24 rfl ?_
  refine K_lald k i_X11_took_25 rfl rfl (by have := hK.n7; omega) (by omega) ?_
  refine V_al i_X11_took_26 rfl ?_
  refine V_getR i_X11_took_27 rfl rfl ?_
  refine V_il i_X11_took_30 rfl ?_
  refine K_lald k i_X11_took_31 rfl rfl (by have := hK.n7; omega) (by omega) ?_
  refine P_callV3v i_X11_took_32 mi_X11_tells rfl ⟨_, _, rfl⟩ (by decide) (Nat.le_of_ble_eq_true rfl) (m_tells I J (un_pos how) (un_62 how) (gr_62 (hte i hi)) (by rw [← hik]; exact v5 i hi)) ?_
  refine V_goto i_X11_took_35 ?_
  exact P_iret i_X11_took_40 rfl ⟨rfl, I, _, FrJ.M _ (FrJ.lo _ _ _), rfl, rfl⟩
theorem p_took {I : IntM} {J : LngM} (h : Inv I J) (x : Int32) : Pair 5 m_X10_took [.ref 0, .int x] 4 m_X11_took [.ref 146, .int x] I J := by
  obtain ⟨n, kd, nd, od, lw, pot, hP, hK, hM⟩ := h.K
  obtain ⟨how, e, ln, gr, te, hE, hC, hV⟩ := hP.2.1
  by_cases hx : hasC n x = 0
  · exact Pair.q h (fun _ => no_f) (c_took0 I J hK hx) (fun I1 J1 e1 e2 => m_took0 I1 J1 (hM I1 e1) hx)
  obtain ⟨kx, hkx, rfl⟩ := hasC_yes hK.n7 hx
  by_cases hb : (whoN ln e).testBit kx = true
  · obtain ⟨i, hi, hik⟩ := (whoN_bit ln kx e).mp hb
    exact Pair.q h (fun _ => no_f) (c_took2 I J hK hE hC hkx hi hik) (fun I1 J1 e1 e2 => m_took2 I1 J1 (hM I1 e1) hE (EvM.to e1 e2 hV) hkx hi hik)
  · exact Pair.q h (fun _ => no_f) (c_took1 I J hK hE hC hkx hb) (fun I1 J1 e1 e2 => m_took1 I1 J1 (hM I1 e1) hE (EvM.to e1 e2 hV) hkx hb)


/-! ===== an evening, one by one: who is fed, eating ===== -/
def fsB (nd : Nat → Nat) (how e : Nat) (ln te : Nat → Nat) (n k : Nat) : Bool := decide (plN ln k n < e ∧ nd k * un how ≤ te (plN ln k n))
def foS (nd : Nat → Nat) (how : Nat) (ln te : Nat → Nat) : Nat → Nat := fun i => match i with
  | 0 => 0
  | i + 1 => if nd (ln i) * un how ≤ te i then foS nd how ln te i ||| 2 ^ ln i else foS nd how ln te i
theorem foS_bit (nd : Nat → Nat) (how : Nat) (ln te : Nat → Nat) (k : Nat) : ∀ i, (foS nd how ln te i).testBit k = true ↔ ∃ j, j < i ∧ ln j = k ∧ nd (ln j) * un how ≤ te j
  | 0 => by
    unfold foS
    simp
  | i + 1 => by
    unfold foS
    by_cases h : nd (ln i) * un how ≤ te i
    · rw [if_pos h, Nat.testBit_or, Bool.or_eq_true, foS_bit nd how ln te k i, Nat.testBit_two_pow, decide_eq_true_eq]
      constructor
      · rintro (⟨j, hj, e⟩ | e)
        · exact ⟨j, by omega, e⟩
        · exact ⟨i, by omega, e, h⟩
      · rintro ⟨j, hj, e⟩
        by_cases hji : j = i
        · exact Or.inr (by rw [← hji]; exact e.1)
        · exact Or.inl ⟨j, by omega, e⟩
    · rw [if_neg h, foS_bit nd how ln te k i]
      constructor
      · rintro ⟨j, hj, e⟩
        exact ⟨j, by omega, e⟩
      · rintro ⟨j, hj, e⟩
        by_cases hji : j = i
        · rw [hji] at e
          exact absurd e.2 h
        · exact ⟨j, by omega, e⟩
theorem foS_set {nd : Nat → Nat} {how n e : Nat} {ln te : Nat → Nat} (hP : Pm n ln) (he : e ≤ n) : foS nd how ln te e = setN (fsB nd how e ln te n) n := by
  refine Nat.eq_of_testBit_eq (fun k => Bool.eq_iff_iff.mpr ?_)
  rw [foS_bit, setN_bit, Bool.and_eq_true, decide_eq_true_eq]
  unfold fsB
  rw [decide_eq_true_eq]
  constructor
  · rintro ⟨j, hj, rfl, h⟩
    rw [Pm_at hP (by omega)]
    exact ⟨hP.1 j (by omega), hj, h⟩
  · rintro ⟨hk, h1, h2⟩
    exact ⟨_, h1, (Pm_place hP hk).2, by rw [(Pm_place hP hk).2]; exact h2⟩

set_option maxRecDepth 100000 in
set_option maxHeartbeats 4000000 in
theorem lp_E_fed (I : IntM) (J : LngM) {n : Nat} {kd nd od : Nat → Nat} {lw pot : Nat} (hK : CK I n kd nd od lw pot) {e how gr : Nat} {ln te : Nat → Nat} (hE : EvOK n how e ln gr te) (hC : EvC I J 15 n how e ln gr te) (Q : Option Value → IntM → LngM → Prop) (hq : Q (some (.int (nI (setN (fsB nd how e ln te n) n)))) I J) : VP m_X2_fedSoFar 3 4 [(0, .ref 15), (1, .ref 8), (2, .int 0), (3, .int 0)] [] I J Q := by
  obtain ⟨hh, hen, hPm, hgr, h24, hte⟩ := id hE
  obtain ⟨c1, c2, c3, c4, c5, c6⟩ := id hC
  have key : ∀ i, i ≤ n → VP m_X2_fedSoFar 3 4 [(0, .ref 15), (1, .ref 8), (2, .int (nI (setN (fsB nd how e ln te n) i))), (3, .int (nI i))] [] I J Q := by
    refine down n ?_ (fun i hi ih => ?_)
    · refine V_il i_X2_fedSoFar_4 rfl ?_
      refine V_al i_X2_fedSoFar_5 rfl ?_
      refine V_getI i_X2_fedSoFar_6 rfl ?_
      refine V_ic_ge_t i_X2_fedSoFar_9 (by rw [hK.sz]; exact Int32.le_refl _) ?_
      refine V_il i_X2_fedSoFar_61 rfl ?_
      exact P_iret i_X2_fedSoFar_62 rfl hq
    · have hnd := hK.nd i hi
      have b0 := Nat.mul_le_mul hnd (un_le how)
      have b3 := un_le how
      refine V_il i_X2_fedSoFar_4 rfl ?_
      refine V_al i_X2_fedSoFar_5 rfl ?_
      refine V_getI i_X2_fedSoFar_6 rfl ?_
      refine V_ic_ge_f i_X2_fedSoFar_9 (by rw [hK.sz]; exact nI_ge hi (by have := hK.n7; omega)) ?_
      refine V_al i_X2_fedSoFar_12 rfl ?_
      refine V_il i_X2_fedSoFar_13 rfl ?_
      refine P_callV1v i_X2_fedSoFar_14 mi_X2_hasEaten rfl ⟨_, _, rfl⟩ (by decide) (Nat.le_of_ble_eq_true rfl) (c_E_has I J hK.n7 hE hC hi) ?_
      refine V_if_eq i_X2_fedSoFar_17 (fun c17 => ?_) (fun c17 => ?_)
      · have c9 : ¬ fsB nd how e ln te n i = true := fun q => no01 c17 ((whoN_pl hPm hen hi).mpr (of_decide_eq_true q).1)
        refine V_iinc (L' := [(0, _), (1, _), (2, _), (3, _)]) (n' := 1) i_X2_fedSoFar_55 (by decide) rfl (by decide) ⟨rfl, rfl, rfl, rfl, trivial⟩ ?_
        refine V_goto i_X2_fedSoFar_58 ?_
        refine V_L (L' := [(0, _), (1, _), (2, _), (3, _)]) ⟨rfl, rfl, rfl, rfl, trivial⟩ ?_
        rw [show nI i + 1 = nI (i + 1) from nI_1 i]
        have ih2 := ih
        rw [show setN (fsB nd how e ln te n) (i + 1) = setN (fsB nd how e ln te n) i from if_neg c9] at ih2
        exact ih2
      · have b1 := (whoN_pl hPm hen hi).mp (yes01 c17)
        have b2 := hte _ b1
        have e1 : J 19 i = lN (te (plN ln i n)) := by have := c6 _ b1; rwa [(Pm_place hPm hi).2] at this
        refine V_al i_X2_fedSoFar_20 rfl ?_
        refine V_getR i_X2_fedSoFar_21 rfl rfl ?_
        refine V_il i_X2_fedSoFar_24 rfl ?_
        refine P_callV1v i_X2_fedSoFar_25 mi_X4_get rfl ⟨_, _, rfl⟩ (by decide) (Nat.le_of_ble_eq_true rfl) (c_L_get _ _ (x := 18) (n := 7) ⟨rfl, rfl, rfl, by decide⟩ (k := i) (by have := hK.n7; omega)) ?_
        rw [show J (18 + 1) i = lN (te (plN ln i n)) from e1]
        refine V_al i_X2_fedSoFar_28 rfl ?_
        refine V_getR i_X2_fedSoFar_29 rfl rfl ?_
        refine V_il i_X2_fedSoFar_32 rfl ?_
        refine P_callV1v i_X2_fedSoFar_33 mi_X3_get rfl ⟨_, _, rfl⟩ (by decide) (Nat.le_of_ble_eq_true rfl) (c_I_getN (x := 11) (n := 7) (s := 7) (k := i) _ _ ⟨rfl, rfl, rfl, by decide⟩ hK.C.2.2.2.2.2.1 rfl (by have := hK.n7; omega) (by decide)) ?_
        rw [show I (11 + 1) i = nI (nd i) from hK.C.2.2.1 i hi]
        refine V_i2l i_X2_fedSoFar_36 ?_
        rw [nI_long (by omega)]
        refine V_al i_X2_fedSoFar_37 rfl ?_
        refine V_getI i_X2_fedSoFar_38 rfl ?_
        rw [c1]
        refine P_callS1v i_X2_fedSoFar_41 ms_X8_unit (by decide) (Nat.le_of_ble_eq_true rfl) (c_unit _ _ hh) ?_
        refine V_lmul i_X2_fedSoFar_44 ?_
        rw [lN_mul]
        refine V_lcmp i_X2_fedSoFar_45 ?_
        refine V_if_lt i_X2_fedSoFar_46 (fun c46 => ?_) (fun c46 => ?_)
        · have c9 : ¬ fsB nd how e ln te n i = true := fun q => by have q2 := (of_decide_eq_true q).2; have := (pk_lLT (by omega) (by omega)).mp (lgc_lt.mp c46); omega
          refine V_iinc (L' := [(0, _), (1, _), (2, _), (3, _)]) (n' := 1) i_X2_fedSoFar_55 (by decide) rfl (by decide) ⟨rfl, rfl, rfl, rfl, trivial⟩ ?_
          refine V_goto i_X2_fedSoFar_58 ?_
          refine V_L (L' := [(0, _), (1, _), (2, _), (3, _)]) ⟨rfl, rfl, rfl, rfl, trivial⟩ ?_
          rw [show nI i + 1 = nI (i + 1) from nI_1 i]
          have ih2 := ih
          rw [show setN (fsB nd how e ln te n) (i + 1) = setN (fsB nd how e ln te n) i from if_neg c9] at ih2
          exact ih2
        · have c9 : fsB nd how e ln te n i = true := decide_eq_true ⟨b1, Nat.le_of_not_lt (fun q => c46 (lgc_lt.mpr ((pk_lLT (by omega) (by omega)).mpr q)))⟩
          refine V_il i_X2_fedSoFar_49 rfl ?_
          refine V_c i_X2_fedSoFar_50 ?_
          refine V_il i_X2_fedSoFar_51 rfl ?_
          refine V_ishl i_X2_fedSoFar_52 ?_
          rw [shl1 (by have := hK.n7; omega)]
          refine V_ior i_X2_fedSoFar_53 ?_
          rw [or_nI]
          refine V_is (L' := [(0, _), (1, _), (2, _), (3, _)]) i_X2_fedSoFar_54 (by decide) ⟨rfl, rfl, rfl, rfl, trivial⟩ ?_
          refine V_iinc (L' := [(0, _), (1, _), (2, _), (3, _)]) (n' := 1) i_X2_fedSoFar_55 (by decide) rfl (by decide) ⟨rfl, rfl, rfl, rfl, trivial⟩ ?_
          refine V_goto i_X2_fedSoFar_58 ?_
          refine V_L (L' := [(0, _), (1, _), (2, _), (3, _)]) ⟨rfl, rfl, rfl, rfl, trivial⟩ ?_
          rw [show nI i + 1 = nI (i + 1) from nI_1 i]
          have ih2 := ih
          rw [show setN (fsB nd how e ln te n) (i + 1) = setN (fsB nd how e ln te n) i ||| 2 ^ i from if_pos c9] at ih2
          exact ih2
  exact key 0 (Nat.zero_le _)
set_option maxRecDepth 100000 in
set_option maxHeartbeats 4000000 in
theorem c_E_fed (I : IntM) (J : LngM) {n : Nat} {kd nd od : Nat → Nat} {lw pot : Nat} (hK : CK I n kd nd od lw pot) {e how gr : Nat} {ln te : Nat → Nat} (hE : EvOK n how e ln gr te) (hC : EvC I J 15 n how e ln gr te) : CtV 3 m_X2_fedSoFar [.ref 15, .ref 8] I J (.int (nI (setN (fsB nd how e ln te n) n))) I J := by
  refine CtV_of (by decide) rfl (Nat.le_of_ble_eq_true rfl) ?_
  refine V_c i_X2_fedSoFar_0 ?_
  refine V_is (L' := [(0, _), (1, _), (2, _)]) i_X2_fedSoFar_1 (by decide) ⟨rfl, rfl, rfl, trivial⟩ ?_
  refine V_c i_X2_fedSoFar_2 ?_
  refine V_is (L' := [(0, _), (1, _), (2, _), (3, _)]) i_X2_fedSoFar_3 (by decide) ⟨rfl, rfl, rfl, rfl, trivial⟩ ?_
  refine V_L (L' := [(0, _), (1, _), (2, _), (3, _)]) ⟨rfl, rfl, rfl, rfl, trivial⟩ ?_
  exact lp_E_fed I J hK hE hC _ ⟨rfl, rfl, rfl⟩
set_option maxRecDepth 100000 in
set_option maxHeartbeats 4000000 in
theorem c_fed (I : IntM) (J : LngM) {n : Nat} {kd nd od : Nat → Nat} {lw pot : Nat} (hK : CK I n kd nd od lw pot) {e how gr : Nat} {ln te : Nat → Nat} (hE : EvOK n how e ln gr te) (hC : EvC I J 15 n how e ln gr te) : CtP 4 m_X10_fed [.ref 0] I J (QC I J (.int (nI (setN (fsB nd how e ln te n) n))) (some (nI (popc (setN (fsB nd how e ln te n) n)))) none none) := by
  refine CtP_of (by decide) rfl (Nat.le_of_ble_eq_true rfl) ?_
  refine V_al i_X10_fed_0 rfl ?_
  refine V_al i_X10_fed_1 rfl ?_
  refine V_getR i_X10_fed_2 rfl rfl ?_
  refine V_al i_X10_fed_5 rfl ?_
  refine V_getR i_X10_fed_6 rfl rfl ?_
  refine P_callV1v i_X10_fed_9 mi_X2_fedSoFar rfl ⟨_, _, rfl⟩ (by decide) (Nat.le_of_ble_eq_true rfl) (c_E_fed I J hK hE hC) ?_
  refine P_callV1v i_X10_fed_12 mi_X10_tellBits rfl ⟨_, _, rfl⟩ (by decide) (Nat.le_of_ble_eq_true rfl) (c_tellB I _ _) ?_
  exact P_iret i_X10_fed_15 rfl ⟨rfl, I, J, FrC.rf, hK.Z, by rw [bc_tab _ (setN_lt _ n hK.n7)]; rfl, rfl⟩
set_option maxRecDepth 100000 in
set_option maxHeartbeats 4000000 in
theorem lp_M_fed (I : IntM) (J : LngM) {n : Nat} {kd nd od : Nat → Nat} {lw pot : Nat} (hK : MK I n kd nd od lw pot) {e how gr : Nat} {ln te : Nat → Nat} (hE : EvOK n how e ln gr te) (hV : EvM I J n how e ln gr te) (Q : Option Value → IntM → LngM → Prop) (hq : VP m_X11_fed 3 59 [(0, .ref 146), (1, .int (nI (foS nd how ln te e)))] [] I J Q) : VP m_X11_fed 3 4 [(0, .ref 146), (1, .int 0), (2, .int 0)] [] I J Q := by
  obtain ⟨hh, hen, hPm, hgr, h24, hte⟩ := id hE
  obtain ⟨v1, v2, v3, v4, v5⟩ := id hV
  have hu := un_pos how
  have key : ∀ i, i ≤ e → VP m_X11_fed 3 4 [(0, .ref 146), (1, .int (nI (foS nd how ln te i))), (2, .int (nI i))] [] I J Q := by
    refine down e ?_ (fun i hi ih => ?_)
    · refine V_il i_X11_fed_4 rfl ?_
      refine V_al i_X11_fed_5 rfl ?_
      refine V_getI i_X11_fed_6 rfl ?_
      refine V_ic_ge_t i_X11_fed_9 (by rw [v2]; exact Int32.le_refl _) ?_
      exact V_L (L' := [(0, _), (1, _)]) ⟨rfl, rfl, trivial⟩ hq
    · have hl := hPm.1 i (by omega)
      have hnd := hK.nd _ hl
      obtain ⟨x1, x2⟩ := v5 i hi
      have b4 := ro_abs (A := ((te i : Nat) : Int)) hu
      rw [Int.natAbs_natCast] at b4
      have b5 := rd_le (A := ((te i : Nat) : Int)) hu
      have b6 := un_le how
      have b7 : nd (ln i) * rdN ((te i : Nat) : Int) (un how) ≤ 99 * 4586471424 := Nat.mul_le_mul hnd (by omega)
      have b8 := hte i hi
      refine V_il i_X11_fed_4 rfl ?_
      refine V_al i_X11_fed_5 rfl ?_
      refine V_getI i_X11_fed_6 rfl ?_
      refine V_ic_ge_f i_X11_fed_9 (by rw [v2]; exact nI_ge hi (by have := hK.n7; omega)) ?_
      refine V_al i_X11_fed_12 rfl ?_
      refine V_getR i_X11_fed_13 rfl rfl ?_
      refine V_il i_X11_fed_16 rfl ?_
      refine K_iald i i_X11_fed_17 rfl rfl (by have := hK.n7; omega) (by omega) ?_
      rw [v4 i (by omega)]
      refine V_is (L' := [(0, _), (1, _), (2, _), (3, _)]) i_X11_fed_18 (by decide) ⟨rfl, rfl, rfl, rfl, trivial⟩ ?_
      refine V_il i_X11_fed_19 rfl ?_
      refine V_al i_X11_fed_20 rfl ?_
      refine V_getR i_X11_fed_21 rfl rfl ?_
      refine V_il i_X11_fed_24 rfl ?_
      refine K_lald (ln i) i_X11_fed_25 rfl rfl (by have := hK.n7; omega) (by omega) ?_
      refine V_al i_X11_fed_26 rfl ?_
      refine V_getR i_X11_fed_27 rfl rfl ?_
      refine V_il i_X11_fed_30 rfl ?_
      refine K_iald (ln i) i_X11_fed_31 rfl rfl (by have := hK.n7; omega) (by omega) ?_
      rw [hK.M.2.2 _ hl]
      refine V_i2l i_X11_fed_32 ?_
      rw [nI_long (by omega)]
      refine V_al i_X11_fed_33 rfl ?_
      refine V_getR i_X11_fed_34 rfl rfl ?_
      refine V_il i_X11_fed_37 rfl ?_
      refine K_lald (ln i) i_X11_fed_38 rfl rfl (by have := hK.n7; omega) (by omega) ?_
      refine V_lmul i_X11_fed_39 ?_
      rw [x2, lN_mul, x1]
      refine V_lcmp i_X11_fed_40 ?_
      refine V_if_lt i_X11_fed_41 (fun c41 => ?_) (fun c41 => ?_)
      · have c9 : ¬ nd (ln i) * un how ≤ te i := fun q => by
          have q3 := (ro_ge hu (b := nd (ln i))).mpr q
          exact absurd (lgc_lt.mp c41) (Int64.not_lt.mpr (by rw [lZ_N, lZ_le (by omega) (by omega) (by omega) (by omega)]; exact q3))
        refine V_c i_X11_fed_50 ?_
        refine V_ior i_X11_fed_51 ?_
        first | rw [or_n0] | rw [shl1 (by have := hK.n7; omega), or_nI]
        refine V_is (L' := [(0, _), (1, _), (2, _)]) i_X11_fed_52 (by decide) ⟨rfl, rfl, rfl, trivial⟩ ?_
        refine V_iinc (L' := [(0, _), (1, _), (2, _)]) (n' := 1) i_X11_fed_53 (by decide) rfl (by decide) ⟨rfl, rfl, rfl, trivial⟩ ?_
        refine V_goto i_X11_fed_56 ?_
        refine V_L (L' := [(0, _), (1, _), (2, _)]) ⟨rfl, rfl, rfl, trivial⟩ ?_
        rw [show nI i + 1 = nI (i + 1) from nI_1 i]
        have ih2 := ih
        rw [show foS nd how ln te (i + 1) = foS nd how ln te i from if_neg c9] at ih2
        exact ih2
      · have c9 : nd (ln i) * un how ≤ te i := (ro_ge hu (b := nd (ln i))).mp (by
          have q3 := Int64.not_lt.mp (fun q => c41 (lgc_lt.mpr q))
          rw [lZ_N, lZ_le (by omega) (by omega) (by omega) (by omega)] at q3
          exact q3)
        refine V_c i_X11_fed_44 ?_
        refine V_il i_X11_fed_45 rfl ?_
        refine V_ishl i_X11_fed_46 ?_
        refine V_goto i_X11_fed_47 ?_
        refine V_ior i_X11_fed_51 ?_
        first | rw [or_n0] | rw [shl1 (by have := hK.n7; omega), or_nI]
        refine V_is (L' := [(0, _), (1, _), (2, _)]) i_X11_fed_52 (by decide) ⟨rfl, rfl, rfl, trivial⟩ ?_
        refine V_iinc (L' := [(0, _), (1, _), (2, _)]) (n' := 1) i_X11_fed_53 (by decide) rfl (by decide) ⟨rfl, rfl, rfl, trivial⟩ ?_
        refine V_goto i_X11_fed_56 ?_
        refine V_L (L' := [(0, _), (1, _), (2, _)]) ⟨rfl, rfl, rfl, trivial⟩ ?_
        rw [show nI i + 1 = nI (i + 1) from nI_1 i]
        have ih2 := ih
        rw [show foS nd how ln te (i + 1) = foS nd how ln te i ||| 2 ^ ln i from if_pos c9] at ih2
        exact ih2
  exact key 0 (Nat.zero_le _)
set_option maxRecDepth 100000 in
set_option maxHeartbeats 4000000 in
theorem m_fed (I : IntM) (J : LngM) {n : Nat} {kd nd od : Nat → Nat} {lw pot : Nat} (hK : MK I n kd nd od lw pot) {e how gr : Nat} {ln te : Nat → Nat} (hE : EvOK n how e ln gr te) (hV : EvM I J n how e ln gr te) : CtP 3 m_X11_fed [.ref 146] I J (QM I J (.int (nI (setN (fsB nd how e ln te n) n))) (some (nI (popc (setN (fsB nd how e ln te n) n)))) none none) := by
  refine CtP_of (by decide) rfl (Nat.le_of_ble_eq_true rfl) ?_
  refine V_c i_X11_fed_0 ?_
  refine V_is (L' := [(0, _), (1, _)]) i_X11_fed_1 (by decide) ⟨rfl, rfl, trivial⟩ ?_
  refine V_c i_X11_fed_2 ?_
  refine V_is (L' := [(0, _), (1, _), (2, _)]) i_X11_fed_3 (by decide) ⟨rfl, rfl, rfl, trivial⟩ ?_
  refine V_L (L' := [(0, _), (1, _), (2, _)]) ⟨rfl, rfl, rfl, trivial⟩ ?_
  refine lp_M_fed I J hK hE hV _ ?_
  refine V_al i_X11_fed_59 rfl ?_
  refine V_il i_X11_fed_60 rfl ?_
  rw [foS_set hE.2.2.1 hE.2.1]
  refine P_callV1v i_X11_fed_61 mi_X11_tellsSet rfl ⟨_, _, rfl⟩ (by decide) (Nat.le_of_ble_eq_true rfl) (c_M_tellsSet I J (setN_lt _ n hK.n7)) ?_
  exact P_iret i_X11_fed_64 rfl ⟨rfl, I, J, FrM.rf, rfl, rfl⟩
theorem p_fed {I : IntM} {J : LngM} (h : Inv I J) : Pair 4 m_X10_fed [.ref 0] 3 m_X11_fed [.ref 146] I J := by
  obtain ⟨n, kd, nd, od, lw, pot, hP, hK, hM⟩ := h.K
  obtain ⟨how, e, ln, gr, te, hE, hC, hV⟩ := hP.2.1
  exact Pair.q h (fun _ => no_f) (c_fed I J hK hE hC) (fun I1 J1 e1 e2 => m_fed I1 J1 (hM I1 e1) hE (EvM.to e1 e2 hV))

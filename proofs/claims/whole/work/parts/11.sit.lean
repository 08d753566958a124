
/-! ===== Sitting ===== -/
def AtI (I : IntM) (a n : Nat) (f : Nat → Nat) : Prop := ∀ k, k < n → I a k = nI (f k)
def AtJ (J : LngM) (a n : Nat) (f : Nat → Nat) : Prop := ∀ k, k < n → J a k = lN (f k)
def LSit (a : Nat) : Prop := SH[a]? = some (0, 7) ∧ RF a 0 = some (a + 1) ∧ RF a 1 = some (a + 3) ∧ RF a 2 = some (a + 5) ∧ RF a 3 = some (a + 7) ∧ RF a 4 = some (a + 9) ∧ RF a 5 = some (a + 11) ∧ LI (a + 1) 7 ∧ LI (a + 3) 7 ∧ LI (a + 5) 7 ∧ LG (a + 7) 7 ∧ LG (a + 9) 8 ∧ LI (a + 11) 8 ∧ 21 ≤ a
/-- the sizes of a Sitting's rows, and the first place of fed -/
def SzS (I : IntM) (a : Nat) : Prop := I (a + 1) 1 = nI 7 ∧ I (a + 3) 1 = nI 7 ∧ I (a + 5) 1 = nI 7 ∧ I (a + 11) 1 = nI 8 ∧ I (a + 12) 0 = 0
def CSz (I : IntM) : Prop := I 9 1 = nI 7 ∧ I 11 1 = nI 7 ∧ I 13 1 = nI 7
def thS (kd nd : Nat → Nat) (lw how P : Nat) (ln : Nat → Nat) : Nat → Nat := fun i => match i with
  | 0 => P
  | i + 1 => thS kd nd lw how P ln i - tk (kd (ln i)) (nd (ln i) * un how) (thS kd nd lw how P ln i) (dv lw i)
def tkS (kd nd : Nat → Nat) (lw how P : Nat) (ln : Nat → Nat) (i : Nat) : Nat := tk (kd (ln i)) (nd (ln i) * un how) (thS kd nd lw how P ln i) (dv lw i)
def fdS (kd nd : Nat → Nat) (lw how P : Nat) (ln : Nat → Nat) : Nat → Nat := fun i => match i with
  | 0 => 0
  | i + 1 => if nd (ln i) * un how ≤ tkS kd nd lw how P ln i then fdS kd nd lw how P ln i ||| 2 ^ ln i else fdS kd nd lw how P ln i
theorem thS_le (kd nd : Nat → Nat) (lw how P : Nat) (ln : Nat → Nat) : ∀ i, thS kd nd lw how P ln i ≤ P
  | 0 => Nat.le_refl _
  | i + 1 => Nat.le_trans (Nat.sub_le _ _) (thS_le kd nd lw how P ln i)
theorem tkS_le (kd nd : Nat → Nat) (lw how P : Nat) (ln : Nat → Nat) (i : Nat) : tkS kd nd lw how P ln i ≤ thS kd nd lw how P ln i := tk_le _ _ _ _ (dv_cases lw i)
theorem fdS_lt (kd nd : Nat → Nat) (lw how P : Nat) {n : Nat} (hn : n ≤ 7) {ln : Nat → Nat} (hl : ∀ i, i < n → ln i < n) : ∀ i, i ≤ n → fdS kd nd lw how P ln i < 128
  | 0, _ => by unfold fdS; omega
  | i + 1, hi => by
    have h1 := fdS_lt kd nd lw how P hn hl i (by omega)
    have h2 := hl i (by omega)
    unfold fdS
    split
    · refine Nat.or_lt_two_pow (n := 7) h1 (Nat.pow_lt_pow_right (by omega) (by omega))
    · exact h1
theorem shl1 {k : Nat} (hk : k < 7) : (1 : Int32) <<< (nI k &&& 31) = nI (2 ^ k) := by
  obtain rfl | rfl | rfl | rfl | rfl | rfl | rfl : k = 0 ∨ k = 1 ∨ k = 2 ∨ k = 3 ∨ k = 4 ∨ k = 5 ∨ k = 6 := by omega
  all_goals decide
theorem bit_tab : ∀ w, w < 128 → ∀ k, k < 7 → (nI w &&& nI (2 ^ k) = 0 ↔ w.testBit k = false) := by decide +kernel
theorem bit_and {w k : Nat} (hw : w < 128) (hk : k < 7) : nI w &&& ((1 : Int32) <<< (nI k &&& 31)) = 0 ↔ w.testBit k = false := by
  rw [shl1 hk]
  exact bit_tab w hw k hk
theorem un_le (how : Nat) : un how ≤ 4586471424 := by unfold un; split <;> omega

def inviteI (I : IntM) (a : Nat) : IntM := cpI (cpI (uI I a 6 (I 8 3)) 10 0 (a + 2) 0 7) 12 0 (a + 4) 0 7
set_option maxRecDepth 100000 in
set_option maxHeartbeats 4000000 in
theorem c_S_invite (I : IntM) (J : LngM) {a : Nat} (hL : LSit a) (hZ : SzS I a) (hC : CSz I) : CtU 3 m_X7_invite [.ref a, .ref 8] I J (inviteI I a) J := by
  refine CtU_of (by decide) rfl (Nat.le_of_ble_eq_true rfl) ?_
  obtain ⟨s0, s1, s2, s3, s4, s5, s6, hk1, hk2, hk3, hk4, hk5, hk6, ha⟩ := id hL
  obtain ⟨z1, z2, z3, z4, z5⟩ := id hZ
  refine V_al i_X7_invite_0 rfl ?_
  refine V_al i_X7_invite_1 rfl ?_
  refine V_getI i_X7_invite_2 (by first | assumption | exact hk1.1 | exact hk2.1 | exact hk3.1 | exact hk4.1 | exact hk5.1 | exact hk6.1 | rfl) ?_
  refine V_putI i_X7_invite_5 (by first | assumption | exact hk1.1 | exact hk2.1 | exact hk3.1 | exact hk4.1 | exact hk5.1 | exact hk6.1 | rfl) ?_
  refine V_al i_X7_invite_8 rfl ?_
  refine V_getR i_X7_invite_9 (by first | assumption | exact hk1.1 | exact hk2.1 | exact hk3.1 | exact hk4.1 | exact hk5.1 | exact hk6.1 | rfl) (by first | assumption | rfl) ?_
  refine V_al i_X7_invite_12 rfl ?_
  refine V_getR i_X7_invite_13 (by first | assumption | exact hk1.1 | exact hk2.1 | exact hk3.1 | exact hk4.1 | exact hk5.1 | exact hk6.1 | rfl) (by first | assumption | rfl) ?_
  refine V_c i_X7_invite_16 ?_
  refine V_c i_X7_invite_17 ?_
  refine V_c i_X7_invite_18 ?_
  refine P_callV4u i_X7_invite_20 mi_X3_moveTo (by first | assumption | exact hk1.1 | exact hk2.1 | exact hk3.1 | exact hk4.1 | exact hk5.1 | exact hk6.1 | rfl) ⟨_, _, rfl⟩ (by decide) (Nat.le_of_ble_eq_true rfl) (c_I_moveTo (s := 7) (t := 7) (a := 0) (b := 0) (c := 7) _ _ (x := 9) (y := a + 1) ⟨rfl, rfl, rfl, by decide⟩ hk1 (by rw [uI_ne _ _ (by simp)]; exact hC.1) (by rw [uI_ne _ _ (by simp)]; exact z1) (by decide) (by decide) (by decide) (by decide)) ?_
  refine V_al i_X7_invite_23 rfl ?_
  refine V_getR i_X7_invite_24 (by first | assumption | exact hk1.1 | exact hk2.1 | exact hk3.1 | exact hk4.1 | exact hk5.1 | exact hk6.1 | rfl) (by first | assumption | rfl) ?_
  refine V_al i_X7_invite_27 rfl ?_
  refine V_getR i_X7_invite_28 (by first | assumption | exact hk1.1 | exact hk2.1 | exact hk3.1 | exact hk4.1 | exact hk5.1 | exact hk6.1 | rfl) (by first | assumption | rfl) ?_
  refine V_c i_X7_invite_31 ?_
  refine V_c i_X7_invite_32 ?_
  refine V_c i_X7_invite_33 ?_
  refine P_callV4u i_X7_invite_35 mi_X3_moveTo (by first | assumption | exact hk1.1 | exact hk2.1 | exact hk3.1 | exact hk4.1 | exact hk5.1 | exact hk6.1 | rfl) ⟨_, _, rfl⟩ (by decide) (Nat.le_of_ble_eq_true rfl) (c_I_moveTo (s := 7) (t := 7) (a := 0) (b := 0) (c := 7) _ _ (x := 11) (y := a + 3) ⟨rfl, rfl, rfl, by decide⟩ hk2 (by unfold cpI; rw [if_neg (by omega), uI_ne _ _ (by simp)]; exact hC.2.1) (by unfold cpI; rw [if_neg (by omega), uI_ne _ _ (by simp)]; exact z2) (by decide) (by decide) (by decide) (by decide)) ?_
  exact P_vret i_X7_invite_38 rfl ⟨rfl, rfl, rfl⟩
set_option maxRecDepth 100000 in
set_option maxHeartbeats 4000000 in
theorem c_S_rules (I : IntM) (J : LngM) {a : Nat} (hL : LSit a) (hZ : SzS I a) {how pot : Nat} {lw : Int32} (hh : how ≤ 1) (hp : pot < 2 ^ 31) : CtU 2 m_X7_rules [.ref a, .int lw, .int (nI how), .int (nI pot)] I J (uI (uI I a 7 lw) a 8 (nI how)) (uJ J (a + 10) 0 (lN (pot * un how))) := by
  refine CtU_of (by decide) rfl (Nat.le_of_ble_eq_true rfl) ?_
  obtain ⟨s0, s1, s2, s3, s4, s5, s6, hk1, hk2, hk3, hk4, hk5, hk6, ha⟩ := id hL
  obtain ⟨z1, z2, z3, z4, z5⟩ := id hZ
  refine V_al i_X7_rules_0 rfl ?_
  refine V_il i_X7_rules_1 rfl ?_
  refine V_putI i_X7_rules_2 (by first | assumption | exact hk1.1 | exact hk2.1 | exact hk3.1 | exact hk4.1 | exact hk5.1 | exact hk6.1 | rfl) ?_
  refine V_al i_X7_rules_5 rfl ?_
  refine V_il i_X7_rules_6 rfl ?_
  refine V_putI i_X7_rules_7 (by first | assumption | exact hk1.1 | exact hk2.1 | exact hk3.1 | exact hk4.1 | exact hk5.1 | exact hk6.1 | rfl) ?_
  refine V_al i_X7_rules_10 rfl ?_
  refine V_getR i_X7_rules_11 (by first | assumption | exact hk1.1 | exact hk2.1 | exact hk3.1 | exact hk4.1 | exact hk5.1 | exact hk6.1 | rfl) (by first | assumption | rfl) ?_
  refine V_c i_X7_rules_14 ?_
  refine V_il i_X7_rules_15 rfl ?_
  refine V_i2l i_X7_rules_16 ?_
  refine V_il i_X7_rules_17 rfl ?_
  refine P_callS1v i_X7_rules_18 ms_X8_unit (by decide) (Nat.le_of_ble_eq_true rfl) (c_unit _ _ hh) ?_
  refine V_lmul i_X7_rules_21 ?_
  refine P_callV2u i_X7_rules_22 mi_X4_set (by first | assumption | exact hk1.1 | exact hk2.1 | exact hk3.1 | exact hk4.1 | exact hk5.1 | exact hk6.1 | rfl) ⟨_, _, rfl⟩ (by decide) (Nat.le_of_ble_eq_true rfl) (c_L_set _ _ hk5 (k := 0) (by decide) _) ?_
  exact P_vret i_X7_rules_25 rfl ⟨rfl, rfl, by rw [nI_long (by omega), lN_mul]⟩
set_option maxRecDepth 100000 in
set_option maxHeartbeats 4000000 in
theorem c_S_fedAll (I : IntM) (J : LngM) {a : Nat} (hL : LSit a) (hZ : SzS I a) {n : Nat} (hn : n ≤ 7) (hs : I a 6 = nI n) : CtV 3 m_X7_fedAll [.ref a] I J (.int (I (a + 12) n)) I J := by
  refine CtV_of (by decide) rfl (Nat.le_of_ble_eq_true rfl) ?_
  obtain ⟨s0, s1, s2, s3, s4, s5, s6, hk1, hk2, hk3, hk4, hk5, hk6, ha⟩ := id hL
  obtain ⟨z1, z2, z3, z4, z5⟩ := id hZ
  refine V_al i_X7_fedAll_0 rfl ?_
  refine V_getR i_X7_fedAll_1 (by first | assumption | exact hk1.1 | exact hk2.1 | exact hk3.1 | exact hk4.1 | exact hk5.1 | exact hk6.1 | rfl) (by first | assumption | rfl) ?_
  refine V_al i_X7_fedAll_4 rfl ?_
  refine V_getI i_X7_fedAll_5 (by first | assumption | exact hk1.1 | exact hk2.1 | exact hk3.1 | exact hk4.1 | exact hk5.1 | exact hk6.1 | rfl) ?_
  refine P_callV1v i_X7_fedAll_8 mi_X3_get (by first | assumption | exact hk1.1 | exact hk2.1 | exact hk3.1 | exact hk4.1 | exact hk5.1 | exact hk6.1 | rfl) ⟨_, _, rfl⟩ (by decide) (Nat.le_of_ble_eq_true rfl) (c_I_getN _ _ hk6 z4 (k := n) hs (by omega) (by decide)) ?_
  exact P_iret i_X7_fedAll_11 rfl ⟨rfl, rfl, rfl⟩
set_option maxRecDepth 100000 in
set_option maxHeartbeats 4000000 in
theorem c_S_rest (I : IntM) (J : LngM) {a : Nat} (hL : LSit a) (hZ : SzS I a) {n : Nat} (hn : n ≤ 7) (hs : I a 6 = nI n) : CtV 2 m_X7_rest [.ref a] I J (.long (J (a + 10) n)) I J := by
  refine CtV_of (by decide) rfl (Nat.le_of_ble_eq_true rfl) ?_
  obtain ⟨s0, s1, s2, s3, s4, s5, s6, hk1, hk2, hk3, hk4, hk5, hk6, ha⟩ := id hL
  obtain ⟨z1, z2, z3, z4, z5⟩ := id hZ
  refine V_al i_X7_rest_0 rfl ?_
  refine V_getR i_X7_rest_1 (by first | assumption | exact hk1.1 | exact hk2.1 | exact hk3.1 | exact hk4.1 | exact hk5.1 | exact hk6.1 | rfl) (by first | assumption | rfl) ?_
  refine V_al i_X7_rest_4 rfl ?_
  refine V_getI i_X7_rest_5 (by first | assumption | exact hk1.1 | exact hk2.1 | exact hk3.1 | exact hk4.1 | exact hk5.1 | exact hk6.1 | rfl) ?_
  rw [hs]
  refine P_callV1v i_X7_rest_8 mi_X4_get (by first | assumption | exact hk1.1 | exact hk2.1 | exact hk3.1 | exact hk4.1 | exact hk5.1 | exact hk6.1 | rfl) ⟨_, _, rfl⟩ (by decide) (Nat.le_of_ble_eq_true rfl) (c_L_get _ _ hk5 (k := n) (by omega)) ?_
  exact P_lret i_X7_rest_11 rfl ⟨rfl, rfl, rfl⟩
set_option maxRecDepth 100000 in
set_option maxHeartbeats 4000000 in
theorem c_S_isAll (I : IntM) (J : LngM) {a : Nat} (hL : LSit a) (hZ : SzS I a) (v : Int32) : CtV 2 m_X7_isAll [.ref a, .int v] I J (.int (if bcI v = I a 6 then 1 else 0)) I J := by
  refine CtV_of (by decide) rfl (Nat.le_of_ble_eq_true rfl) ?_
  obtain ⟨s0, s1, s2, s3, s4, s5, s6, hk1, hk2, hk3, hk4, hk5, hk6, ha⟩ := id hL
  obtain ⟨z1, z2, z3, z4, z5⟩ := id hZ
  refine V_il i_X7_isAll_0 rfl ?_
  refine P_callS1v i_X7_isAll_1 ms_J6_bitCount_0f7a4 (by decide) (Nat.le_of_ble_eq_true rfl) (c_bitCount _ _ _) ?_
  refine V_al i_X7_isAll_4 rfl ?_
  refine V_getI i_X7_isAll_5 (by first | assumption | exact hk1.1 | exact hk2.1 | exact hk3.1 | exact hk4.1 | exact hk5.1 | exact hk6.1 | rfl) ?_
  refine V_ic_ne i_X7_isAll_8 (fun c8 => ?_) (fun c8 => ?_)
  · refine V_c i_X7_isAll_15 ?_
    exact P_zret i_X7_isAll_16 rfl (by decide) ⟨by simp [*], rfl, rfl⟩
  · refine V_c i_X7_isAll_11 ?_
    refine V_goto i_X7_isAll_12 ?_
    exact P_zret i_X7_isAll_16 rfl (by decide) ⟨by simp [*], rfl, rfl⟩

theorem uI_same {I : IntM} {a k : Nat} {v : Int32} (h : I a k = v) : uI I a k v = I := by
  funext x j
  unfold uI
  by_cases hx : x = a ∧ j = k
  · rw [if_pos hx, hx.1, hx.2, h]
  · rw [if_neg hx]

set_option maxRecDepth 100000 in
set_option maxHeartbeats 4000000 in
theorem lp_S_num (I : IntM) (J : LngM) {a : Nat} (hL : LSit a) (hZ : SzS I a) {n : Nat} (hn : n ≤ 7) (hsz0 : I a 6 = nI n)  (Q : Option Value → IntM → LngM → Prop) (hq : Q none (putI I (a + 6) n (nI)) J) : VP m_X7_seatByNumbers 3 2 [(0, .ref a), (1, .int 0)] [] I J Q := by
  obtain ⟨s0, s1, s2, s3, s4, s5, s6, hk1, hk2, hk3, hk4, hk5, hk6, ha⟩ := id hL
  obtain ⟨z1, z2, z3, z4, z5⟩ := id hZ
  have key : ∀ i, i ≤ n → VP m_X7_seatByNumbers 3 2 [(0, .ref a), (1, .int (nI i))] [] (putI I (a + 6) i (nI)) J Q := by
    have hsz : ∀ i, putI I (a + 6) i (nI) a 6 = nI n := fun i => by unfold putI; rw [if_neg (by omega)]; exact hsz0
    refine down n ?_ (fun i hi ih => ?_)
    · refine V_il i_X7_seatByNumbers_2 rfl ?_
      refine V_al i_X7_seatByNumbers_3 rfl ?_
      refine V_getI i_X7_seatByNumbers_4 s0 ?_
      refine V_ic_ge_t i_X7_seatByNumbers_7 (by rw [hsz]; exact Int32.le_refl _) ?_
      exact P_vret i_X7_seatByNumbers_25 rfl hq
    · have hsz := hsz i
      have hi7 : i < 7 := by omega
      have hx : putI I (a + 6) i (nI) (a + 5) 1 = I (a + 5) 1 := by unfold putI; rw [if_neg (by omega)]
      refine V_il i_X7_seatByNumbers_2 rfl ?_
      refine V_al i_X7_seatByNumbers_3 rfl ?_
      refine V_getI i_X7_seatByNumbers_4 (by first | assumption | exact hk1.1 | exact hk2.1 | exact hk3.1 | exact hk4.1 | exact hk5.1 | exact hk6.1 | rfl) ?_
      refine V_ic_ge_f i_X7_seatByNumbers_7 (by rw [hsz]; exact nI_ge hi (by omega)) ?_
      refine V_al i_X7_seatByNumbers_10 rfl ?_
      refine V_getR i_X7_seatByNumbers_11 (by first | assumption | exact hk1.1 | exact hk2.1 | exact hk3.1 | exact hk4.1 | exact hk5.1 | exact hk6.1 | rfl) (by first | assumption | rfl) ?_
      refine V_il i_X7_seatByNumbers_14 rfl ?_
      refine V_il i_X7_seatByNumbers_15 rfl ?_
      refine P_callV2u i_X7_seatByNumbers_16 mi_X3_set (by first | assumption | exact hk1.1 | exact hk2.1 | exact hk3.1 | exact hk4.1 | exact hk5.1 | exact hk6.1 | rfl) ⟨_, _, rfl⟩ (by decide) (Nat.le_of_ble_eq_true rfl) (c_I_setN _ _ _ hk3 (by rw [hx]; exact z3) rfl hi7 (by decide)) ?_
      refine V_iinc (L' := [(0, _), (1, _)]) (n' := 1) i_X7_seatByNumbers_19 (by decide) rfl (by decide) ⟨rfl, rfl, trivial⟩ ?_
      refine V_goto i_X7_seatByNumbers_22 ?_
      refine V_L (L' := [(0, _), (1, _)]) ⟨rfl, rfl, trivial⟩ ?_
      rw [show nI i + 1 = nI (i + 1) from nI_1 i]
      rw [putI_s]
      exact ih
  have h0 := key 0 (Nat.zero_le _)
  rw [putI_0] at h0
  exact h0
set_option maxRecDepth 100000 in
set_option maxHeartbeats 4000000 in
theorem c_S_num (I : IntM) (J : LngM) {a : Nat} (hL : LSit a) (hZ : SzS I a) {n : Nat} (hn : n ≤ 7) (hsz : I a 6 = nI n) : CtU 3 m_X7_seatByNumbers [.ref a] I J (putI I (a + 6) n nI) J := by
  refine CtU_of (by decide) rfl (Nat.le_of_ble_eq_true rfl) ?_
  obtain ⟨s0, s1, s2, s3, s4, s5, s6, hk1, hk2, hk3, hk4, hk5, hk6, ha⟩ := id hL
  obtain ⟨z1, z2, z3, z4, z5⟩ := id hZ
  refine V_c i_X7_seatByNumbers_0 ?_
  refine V_is (L' := [(0, _), (1, _)]) i_X7_seatByNumbers_1 (by decide) ⟨rfl, rfl, trivial⟩ ?_
  refine V_L (L' := [(0, _), (1, _)]) ⟨rfl, rfl, trivial⟩ ?_
  exact lp_S_num I J hL hZ hn hsz _ ⟨rfl, rfl, rfl⟩
set_option maxRecDepth 100000 in
set_option maxHeartbeats 4000000 in
theorem lp_S_turn (I : IntM) (J : LngM) {a : Nat} (hL : LSit a) (hZ : SzS I a) {n : Nat} (hn : n ≤ 7) (hsz0 : I a 6 = nI n) {y : Nat} (hO : LI y 7) (hOz : I y 1 = nI 7) (hy : y + 1 < a ∨ a + 13 ≤ y) {t : Nat} (ht : t ≤ 100) (Q : Option Value → IntM → LngM → Prop) (hq : Q none (putI I (a + 6) n (fun i => I (y + 1) ((i + t) % n))) J) : VP m_X7_seatTurned 3 2 [(0, .ref a), (1, .ref y), (2, .int (nI t)), (3, .int 0)] [] I J Q := by
  obtain ⟨s0, s1, s2, s3, s4, s5, s6, hk1, hk2, hk3, hk4, hk5, hk6, ha⟩ := id hL
  obtain ⟨z1, z2, z3, z4, z5⟩ := id hZ
  have key : ∀ i, i ≤ n → VP m_X7_seatTurned 3 2 [(0, .ref a), (1, .ref y), (2, .int (nI t)), (3, .int (nI i))] [] (putI I (a + 6) i (fun i => I (y + 1) ((i + t) % n))) J Q := by
    have hsz : ∀ i, putI I (a + 6) i (fun i => I (y + 1) ((i + t) % n)) a 6 = nI n := fun i => by unfold putI; rw [if_neg (by omega)]; exact hsz0
    refine down n ?_ (fun i hi ih => ?_)
    · refine V_il i_X7_seatTurned_2 rfl ?_
      refine V_al i_X7_seatTurned_3 rfl ?_
      refine V_getI i_X7_seatTurned_4 s0 ?_
      refine V_ic_ge_t i_X7_seatTurned_7 (by rw [hsz]; exact Int32.le_refl _) ?_
      exact P_vret i_X7_seatTurned_36 rfl hq
    · have hsz := hsz i
      have hi7 : i < 7 := by omega
      have hx : putI I (a + 6) i (fun i => I (y + 1) ((i + t) % n)) (a + 5) 1 = I (a + 5) 1 := by unfold putI; rw [if_neg (by omega)]
      refine V_il i_X7_seatTurned_2 rfl ?_
      refine V_al i_X7_seatTurned_3 rfl ?_
      refine V_getI i_X7_seatTurned_4 (by first | assumption | exact hk1.1 | exact hk2.1 | exact hk3.1 | exact hk4.1 | exact hk5.1 | exact hk6.1 | rfl) ?_
      refine V_ic_ge_f i_X7_seatTurned_7 (by rw [hsz]; exact nI_ge hi (by omega)) ?_
      refine V_al i_X7_seatTurned_10 rfl ?_
      refine V_getR i_X7_seatTurned_11 (by first | assumption | exact hk1.1 | exact hk2.1 | exact hk3.1 | exact hk4.1 | exact hk5.1 | exact hk6.1 | rfl) (by first | assumption | rfl) ?_
      refine V_il i_X7_seatTurned_14 rfl ?_
      refine V_al i_X7_seatTurned_15 rfl ?_
      refine V_il i_X7_seatTurned_16 rfl ?_
      refine V_il i_X7_seatTurned_17 rfl ?_
      refine V_iadd i_X7_seatTurned_18 ?_
      refine V_al i_X7_seatTurned_19 rfl ?_
      refine V_getI i_X7_seatTurned_20 (by first | assumption | exact hk1.1 | exact hk2.1 | exact hk3.1 | exact hk4.1 | exact hk5.1 | exact hk6.1 | rfl) ?_
      refine V_irem i_X7_seatTurned_23 (by rw [hsz]; exact nI_ne0 (by omega) (by omega)) ?_
      rw [hsz, nI_add, pk_rem (by omega) (by omega) (by omega)]
      refine P_callV1v i_X7_seatTurned_24 mi_X3_get hO.1 ⟨_, _, rfl⟩ (by decide) (Nat.le_of_ble_eq_true rfl) (c_I_getN _ _ hO (by unfold putI; rw [if_neg (by omega)]; exact hOz) rfl (by have := Nat.mod_lt (i + t) (show 0 < n by omega); omega) (by decide)) ?_
      refine P_callV2u i_X7_seatTurned_27 mi_X3_set (by first | assumption | exact hk1.1 | exact hk2.1 | exact hk3.1 | exact hk4.1 | exact hk5.1 | exact hk6.1 | rfl) ⟨_, _, rfl⟩ (by decide) (Nat.le_of_ble_eq_true rfl) (c_I_setN _ _ _ hk3 (by rw [hx]; exact z3) rfl hi7 (by decide)) ?_
      refine V_iinc (L' := [(0, _), (1, _), (2, _), (3, _)]) (n' := 1) i_X7_seatTurned_30 (by decide) rfl (by decide) ⟨rfl, rfl, rfl, rfl, trivial⟩ ?_
      refine V_goto i_X7_seatTurned_33 ?_
      refine V_L (L' := [(0, _), (1, _), (2, _), (3, _)]) ⟨rfl, rfl, rfl, rfl, trivial⟩ ?_
      rw [show nI i + 1 = nI (i + 1) from nI_1 i]
      have e : putI I (a + 6) i (fun i => I (y + 1) ((i + t) % n)) (y + 1) ((i + t) % n) = (fun i => I (y + 1) ((i + t) % n)) i := by unfold putI; rw [if_neg (by omega)]
      rw [e, putI_s]
      exact ih
  have h0 := key 0 (Nat.zero_le _)
  rw [putI_0] at h0
  exact h0
set_option maxRecDepth 100000 in
set_option maxHeartbeats 4000000 in
theorem c_S_turn (I : IntM) (J : LngM) {a : Nat} (hL : LSit a) (hZ : SzS I a) {n : Nat} (hn : n ≤ 7) (hsz : I a 6 = nI n) {y : Nat} (hO : LI y 7) (hOz : I y 1 = nI 7) (hy : y + 1 < a ∨ a + 13 ≤ y) {t : Nat} (ht : t ≤ 100) : CtU 3 m_X7_seatTurned [.ref a, .ref y, .int (nI t)] I J (putI I (a + 6) n (fun i => I (y + 1) ((i + t) % n))) J := by
  refine CtU_of (by decide) rfl (Nat.le_of_ble_eq_true rfl) ?_
  obtain ⟨s0, s1, s2, s3, s4, s5, s6, hk1, hk2, hk3, hk4, hk5, hk6, ha⟩ := id hL
  obtain ⟨z1, z2, z3, z4, z5⟩ := id hZ
  refine V_c i_X7_seatTurned_0 ?_
  refine V_is (L' := [(0, _), (1, _), (2, _), (3, _)]) i_X7_seatTurned_1 (by decide) ⟨rfl, rfl, rfl, rfl, trivial⟩ ?_
  refine V_L (L' := [(0, _), (1, _), (2, _), (3, _)]) ⟨rfl, rfl, rfl, rfl, trivial⟩ ?_
  exact lp_S_turn I J hL hZ hn hsz hO hOz hy ht _ ⟨rfl, rfl, rfl⟩
set_option maxRecDepth 100000 in
set_option maxHeartbeats 4000000 in
theorem lp_S_back (I : IntM) (J : LngM) {a : Nat} (hL : LSit a) (hZ : SzS I a) {n : Nat} (hn : n ≤ 7) (hsz0 : I a 6 = nI n) {y : Nat} (hO : LI y 7) (hOz : I y 1 = nI 7) (hy : y + 1 < a ∨ a + 13 ≤ y) (Q : Option Value → IntM → LngM → Prop) (hq : Q none (putI I (a + 6) n (fun i => I (y + 1) (n - 1 - i))) J) : VP m_X7_seatBackwards 3 2 [(0, .ref a), (1, .ref y), (2, .int 0)] [] I J Q := by
  obtain ⟨s0, s1, s2, s3, s4, s5, s6, hk1, hk2, hk3, hk4, hk5, hk6, ha⟩ := id hL
  obtain ⟨z1, z2, z3, z4, z5⟩ := id hZ
  have key : ∀ i, i ≤ n → VP m_X7_seatBackwards 3 2 [(0, .ref a), (1, .ref y), (2, .int (nI i))] [] (putI I (a + 6) i (fun i => I (y + 1) (n - 1 - i))) J Q := by
    have hsz : ∀ i, putI I (a + 6) i (fun i => I (y + 1) (n - 1 - i)) a 6 = nI n := fun i => by unfold putI; rw [if_neg (by omega)]; exact hsz0
    refine down n ?_ (fun i hi ih => ?_)
    · refine V_il i_X7_seatBackwards_2 rfl ?_
      refine V_al i_X7_seatBackwards_3 rfl ?_
      refine V_getI i_X7_seatBackwards_4 s0 ?_
      refine V_ic_ge_t i_X7_seatBackwards_7 (by rw [hsz]; exact Int32.le_refl _) ?_
      exact P_vret i_X7_seatBackwards_36 rfl hq
    · have hsz := hsz i
      have hi7 : i < 7 := by omega
      have hx : putI I (a + 6) i (fun i => I (y + 1) (n - 1 - i)) (a + 5) 1 = I (a + 5) 1 := by unfold putI; rw [if_neg (by omega)]
      refine V_il i_X7_seatBackwards_2 rfl ?_
      refine V_al i_X7_seatBackwards_3 rfl ?_
      refine V_getI i_X7_seatBackwards_4 (by first | assumption | exact hk1.1 | exact hk2.1 | exact hk3.1 | exact hk4.1 | exact hk5.1 | exact hk6.1 | rfl) ?_
      refine V_ic_ge_f i_X7_seatBackwards_7 (by rw [hsz]; exact nI_ge hi (by omega)) ?_
      refine V_al i_X7_seatBackwards_10 rfl ?_
      refine V_getR i_X7_seatBackwards_11 (by first | assumption | exact hk1.1 | exact hk2.1 | exact hk3.1 | exact hk4.1 | exact hk5.1 | exact hk6.1 | rfl) (by first | assumption | rfl) ?_
      refine V_il i_X7_seatBackwards_14 rfl ?_
      refine V_al i_X7_seatBackwards_15 rfl ?_
      refine V_al i_X7_seatBackwards_16 rfl ?_
      refine V_getI i_X7_seatBackwards_17 (by first | assumption | exact hk1.1 | exact hk2.1 | exact hk3.1 | exact hk4.1 | exact hk5.1 | exact hk6.1 | rfl) ?_
      refine V_c i_X7_seatBackwards_20 ?_
      refine V_isub i_X7_seatBackwards_21 ?_
      refine V_il i_X7_seatBackwards_22 rfl ?_
      refine V_isub i_X7_seatBackwards_23 ?_
      rw [hsz, show (1 : Int32) = nI 1 from rfl, pk_sub (by omega), pk_sub (by omega)]
      refine P_callV1v i_X7_seatBackwards_24 mi_X3_get hO.1 ⟨_, _, rfl⟩ (by decide) (Nat.le_of_ble_eq_true rfl) (c_I_getN _ _ hO (by unfold putI; rw [if_neg (by omega)]; exact hOz) rfl (by omega) (by decide)) ?_
      refine P_callV2u i_X7_seatBackwards_27 mi_X3_set (by first | assumption | exact hk1.1 | exact hk2.1 | exact hk3.1 | exact hk4.1 | exact hk5.1 | exact hk6.1 | rfl) ⟨_, _, rfl⟩ (by decide) (Nat.le_of_ble_eq_true rfl) (c_I_setN _ _ _ hk3 (by rw [hx]; exact z3) rfl hi7 (by decide)) ?_
      refine V_iinc (L' := [(0, _), (1, _), (2, _)]) (n' := 1) i_X7_seatBackwards_30 (by decide) rfl (by decide) ⟨rfl, rfl, rfl, trivial⟩ ?_
      refine V_goto i_X7_seatBackwards_33 ?_
      refine V_L (L' := [(0, _), (1, _), (2, _)]) ⟨rfl, rfl, rfl, trivial⟩ ?_
      rw [show nI i + 1 = nI (i + 1) from nI_1 i]
      have e : putI I (a + 6) i (fun i => I (y + 1) (n - 1 - i)) (y + 1) (n - 1 - i) = (fun i => I (y + 1) (n - 1 - i)) i := by unfold putI; rw [if_neg (by omega)]
      rw [e, putI_s]
      exact ih
  have h0 := key 0 (Nat.zero_le _)
  rw [putI_0] at h0
  exact h0
set_option maxRecDepth 100000 in
set_option maxHeartbeats 4000000 in
theorem c_S_back (I : IntM) (J : LngM) {a : Nat} (hL : LSit a) (hZ : SzS I a) {n : Nat} (hn : n ≤ 7) (hsz : I a 6 = nI n) {y : Nat} (hO : LI y 7) (hOz : I y 1 = nI 7) (hy : y + 1 < a ∨ a + 13 ≤ y) : CtU 3 m_X7_seatBackwards [.ref a, .ref y] I J (putI I (a + 6) n (fun i => I (y + 1) (n - 1 - i))) J := by
  refine CtU_of (by decide) rfl (Nat.le_of_ble_eq_true rfl) ?_
  obtain ⟨s0, s1, s2, s3, s4, s5, s6, hk1, hk2, hk3, hk4, hk5, hk6, ha⟩ := id hL
  obtain ⟨z1, z2, z3, z4, z5⟩ := id hZ
  refine V_c i_X7_seatBackwards_0 ?_
  refine V_is (L' := [(0, _), (1, _), (2, _)]) i_X7_seatBackwards_1 (by decide) ⟨rfl, rfl, rfl, trivial⟩ ?_
  refine V_L (L' := [(0, _), (1, _), (2, _)]) ⟨rfl, rfl, rfl, trivial⟩ ?_
  exact lp_S_back I J hL hZ hn hsz hO hOz hy _ ⟨rfl, rfl, rfl⟩
set_option maxRecDepth 100000 in
set_option maxHeartbeats 4000000 in
theorem lp_S_mk (I : IntM) (J : LngM) {a : Nat} (hL : LSit a) (hZ : SzS I a) {n : Nat} (hn : n ≤ 7) (hsz0 : I a 6 = nI n) {w : Nat} (hw : w < 128) (Q : Option Value → IntM → LngM → Prop) (hq : Q none (putI I (a + 2) n (fun k => if w.testBit k = true then 0 else I (a + 2) k)) J) : VP m_X7_makeEaters 3 2 [(0, .ref a), (1, .int (nI w)), (2, .int 0)] [] I J Q := by
  obtain ⟨s0, s1, s2, s3, s4, s5, s6, hk1, hk2, hk3, hk4, hk5, hk6, ha⟩ := id hL
  obtain ⟨z1, z2, z3, z4, z5⟩ := id hZ
  have key : ∀ i, i ≤ n → VP m_X7_makeEaters 3 2 [(0, .ref a), (1, .int (nI w)), (2, .int (nI i))] [] (putI I (a + 2) i (fun k => if w.testBit k = true then 0 else I (a + 2) k)) J Q := by
    have hsz : ∀ i, putI I (a + 2) i (fun k => if w.testBit k = true then 0 else I (a + 2) k) a 6 = nI n := fun i => by unfold putI; rw [if_neg (by omega)]; exact hsz0
    refine down n ?_ (fun i hi ih => ?_)
    · refine V_il i_X7_makeEaters_2 rfl ?_
      refine V_al i_X7_makeEaters_3 rfl ?_
      refine V_getI i_X7_makeEaters_4 s0 ?_
      refine V_ic_ge_t i_X7_makeEaters_7 (by rw [hsz]; exact Int32.le_refl _) ?_
      exact P_vret i_X7_makeEaters_33 rfl hq
    · have hsz := hsz i
      have hi7 : i < 7 := by omega
      have hx : putI I (a + 2) i (fun k => if w.testBit k = true then 0 else I (a + 2) k) (a + 1) 1 = I (a + 1) 1 := by unfold putI; rw [if_neg (by omega)]
      refine V_il i_X7_makeEaters_2 rfl ?_
      refine V_al i_X7_makeEaters_3 rfl ?_
      refine V_getI i_X7_makeEaters_4 (by first | assumption | exact hk1.1 | exact hk2.1 | exact hk3.1 | exact hk4.1 | exact hk5.1 | exact hk6.1 | rfl) ?_
      refine V_ic_ge_f i_X7_makeEaters_7 (by rw [hsz]; exact nI_ge hi (by omega)) ?_
      refine V_il i_X7_makeEaters_10 rfl ?_
      refine V_c i_X7_makeEaters_11 ?_
      refine V_il i_X7_makeEaters_12 rfl ?_
      refine V_ishl i_X7_makeEaters_13 ?_
      refine V_iand i_X7_makeEaters_14 ?_
      refine V_if_eq i_X7_makeEaters_15 (fun c15 => ?_) (fun c15 => ?_)
      · rw [bit_and hw hi7] at c15
        refine V_iinc (L' := [(0, _), (1, _), (2, _)]) (n' := 1) i_X7_makeEaters_27 (by decide) rfl (by decide) ⟨rfl, rfl, rfl, trivial⟩ ?_
        refine V_goto i_X7_makeEaters_30 ?_
        refine V_L (L' := [(0, _), (1, _), (2, _)]) ⟨rfl, rfl, rfl, trivial⟩ ?_
        rw [show nI i + 1 = nI (i + 1) from nI_1 i]
        rw [← putI_s, if_neg (by simp [c15]), uI_same (by unfold putI; rw [if_neg (by omega)])] at ih
        exact ih
      · rw [bit_and hw hi7, Bool.not_eq_false] at c15
        refine V_al i_X7_makeEaters_18 rfl ?_
        refine V_getR i_X7_makeEaters_19 (by first | assumption | exact hk1.1 | exact hk2.1 | exact hk3.1 | exact hk4.1 | exact hk5.1 | exact hk6.1 | rfl) (by first | assumption | rfl) ?_
        refine V_il i_X7_makeEaters_22 rfl ?_
        refine V_c i_X7_makeEaters_23 ?_
        refine P_callV2u i_X7_makeEaters_24 mi_X3_set (by first | assumption | exact hk1.1 | exact hk2.1 | exact hk3.1 | exact hk4.1 | exact hk5.1 | exact hk6.1 | rfl) ⟨_, _, rfl⟩ (by decide) (Nat.le_of_ble_eq_true rfl) (c_I_setN _ _ _ hk1 (by rw [hx]; exact z1) rfl hi7 (by decide)) ?_
        refine V_iinc (L' := [(0, _), (1, _), (2, _)]) (n' := 1) i_X7_makeEaters_27 (by decide) rfl (by decide) ⟨rfl, rfl, rfl, trivial⟩ ?_
        refine V_goto i_X7_makeEaters_30 ?_
        refine V_L (L' := [(0, _), (1, _), (2, _)]) ⟨rfl, rfl, rfl, trivial⟩ ?_
        rw [show nI i + 1 = nI (i + 1) from nI_1 i]
        rw [← putI_s, if_pos c15] at ih
        exact ih
  have h0 := key 0 (Nat.zero_le _)
  rw [putI_0] at h0
  exact h0
set_option maxRecDepth 100000 in
set_option maxHeartbeats 4000000 in
theorem c_S_mk (I : IntM) (J : LngM) {a : Nat} (hL : LSit a) (hZ : SzS I a) {n : Nat} (hn : n ≤ 7) (hsz : I a 6 = nI n) {w : Nat} (hw : w < 128) : CtU 3 m_X7_makeEaters [.ref a, .int (nI w)] I J (putI I (a + 2) n (fun k => if w.testBit k = true then 0 else I (a + 2) k)) J := by
  refine CtU_of (by decide) rfl (Nat.le_of_ble_eq_true rfl) ?_
  obtain ⟨s0, s1, s2, s3, s4, s5, s6, hk1, hk2, hk3, hk4, hk5, hk6, ha⟩ := id hL
  obtain ⟨z1, z2, z3, z4, z5⟩ := id hZ
  refine V_c i_X7_makeEaters_0 ?_
  refine V_is (L' := [(0, _), (1, _), (2, _)]) i_X7_makeEaters_1 (by decide) ⟨rfl, rfl, rfl, trivial⟩ ?_
  refine V_L (L' := [(0, _), (1, _), (2, _)]) ⟨rfl, rfl, rfl, trivial⟩ ?_
  exact lp_S_mk I J hL hZ hn hsz hw _ ⟨rfl, rfl, rfl⟩
def sumJ (f : Nat → Int64) : Nat → Int64 := fun s => match s with
  | 0 => 0
  | s + 1 => sumJ f s + f s
set_option maxRecDepth 100000 in
set_option maxHeartbeats 4000000 in
theorem lp_S_taken (I : IntM) (J : LngM) {a : Nat} (hL : LSit a) (hZ : SzS I a) {n : Nat} (hn : n ≤ 7) (hsz : I a 6 = nI n) {w : Nat} (hw : w < 128) (Q : Option Value → IntM → LngM → Prop) (hq : Q (some (.long (sumJ (fun k => if w.testBit k = true then J (a + 8) k else 0) n))) I J) : VP m_X7_takenBy 2 5 [(0, .ref a), (1, .int (nI w)), (2, .long 0), (4, .int 0)] [] I J Q := by
  obtain ⟨s0, s1, s2, s3, s4, s5, s6, hk1, hk2, hk3, hk4, hk5, hk6, ha⟩ := id hL
  obtain ⟨z1, z2, z3, z4, z5⟩ := id hZ
  have key : ∀ i, i ≤ n → VP m_X7_takenBy 2 5 [(0, .ref a), (1, .int (nI w)), (2, .long (sumJ (fun k => if w.testBit k = true then J (a + 8) k else 0) i)), (4, .int (nI i))] [] I J Q := by
    refine down n ?_ (fun i hi ih => ?_)
    · refine V_il i_X7_takenBy_5 rfl ?_
      refine V_al i_X7_takenBy_7 rfl ?_
      refine V_getI i_X7_takenBy_8 s0 ?_
      refine V_ic_ge_t i_X7_takenBy_11 (by rw [hsz]; exact Int32.le_refl _) ?_
      refine V_ll i_X7_takenBy_45 rfl ?_
      exact P_lret i_X7_takenBy_46 rfl hq
    · have hi7 : i < 7 := by omega
      have es : sumJ (fun k => if w.testBit k = true then J (a + 8) k else 0) (i + 1) = sumJ (fun k => if w.testBit k = true then J (a + 8) k else 0) i + (if w.testBit i = true then J (a + 8) i else 0) := rfl
      refine V_il i_X7_takenBy_5 rfl ?_
      refine V_al i_X7_takenBy_7 rfl ?_
      refine V_getI i_X7_takenBy_8 (by first | assumption | exact hk1.1 | exact hk2.1 | exact hk3.1 | exact hk4.1 | exact hk5.1 | exact hk6.1 | rfl) ?_
      refine V_ic_ge_f i_X7_takenBy_11 (by rw [hsz]; exact nI_ge hi (by omega)) ?_
      refine V_ll i_X7_takenBy_14 rfl ?_
      refine V_il i_X7_takenBy_15 rfl ?_
      refine V_c i_X7_takenBy_16 ?_
      refine V_il i_X7_takenBy_17 rfl ?_
      refine V_ishl i_X7_takenBy_19 ?_
      refine V_iand i_X7_takenBy_20 ?_
      refine V_if_eq i_X7_takenBy_21 (fun c21 => ?_) (fun c21 => ?_)
      · rw [bit_and hw hi7] at c21
        refine V_cl i_X7_takenBy_36 ?_
        refine V_ladd i_X7_takenBy_37 ?_
        refine V_ls (L' := [(0, _), (1, _), (2, _), (4, _)]) i_X7_takenBy_38 (by decide) ⟨rfl, rfl, rfl, rfl, trivial⟩ ?_
        refine V_iinc (L' := [(0, _), (1, _), (2, _), (4, _)]) (n' := 1) i_X7_takenBy_39 (by decide) rfl (by decide) ⟨rfl, rfl, rfl, rfl, trivial⟩ ?_
        refine V_goto i_X7_takenBy_42 ?_
        refine V_L (L' := [(0, _), (1, _), (2, _), (4, _)]) ⟨rfl, rfl, rfl, rfl, trivial⟩ ?_
        rw [es] at ih
        simp only [c21] at ih
        rw [show nI i + 1 = nI (i + 1) from nI_1 i]
        exact ih
      · rw [bit_and hw hi7, Bool.not_eq_false] at c21
        refine V_al i_X7_takenBy_24 rfl ?_
        refine V_getR i_X7_takenBy_25 (by first | assumption | exact hk1.1 | exact hk2.1 | exact hk3.1 | exact hk4.1 | exact hk5.1 | exact hk6.1 | rfl) (by first | assumption | rfl) ?_
        refine V_il i_X7_takenBy_28 rfl ?_
        refine P_callV1v i_X7_takenBy_30 mi_X4_get (by first | assumption | exact hk1.1 | exact hk2.1 | exact hk3.1 | exact hk4.1 | exact hk5.1 | exact hk6.1 | rfl) ⟨_, _, rfl⟩ (by decide) (Nat.le_of_ble_eq_true rfl) (c_L_get _ _ hk4 (by omega)) ?_
        refine V_goto i_X7_takenBy_33 ?_
        refine V_ladd i_X7_takenBy_37 ?_
        refine V_ls (L' := [(0, _), (1, _), (2, _), (4, _)]) i_X7_takenBy_38 (by decide) ⟨rfl, rfl, rfl, rfl, trivial⟩ ?_
        refine V_iinc (L' := [(0, _), (1, _), (2, _), (4, _)]) (n' := 1) i_X7_takenBy_39 (by decide) rfl (by decide) ⟨rfl, rfl, rfl, rfl, trivial⟩ ?_
        refine V_goto i_X7_takenBy_42 ?_
        refine V_L (L' := [(0, _), (1, _), (2, _), (4, _)]) ⟨rfl, rfl, rfl, rfl, trivial⟩ ?_
        rw [es] at ih
        simp only [c21] at ih
        rw [show nI i + 1 = nI (i + 1) from nI_1 i]
        exact ih
  exact key 0 (Nat.zero_le _)
set_option maxRecDepth 100000 in
set_option maxHeartbeats 4000000 in
theorem c_S_taken (I : IntM) (J : LngM) {a : Nat} (hL : LSit a) (hZ : SzS I a) {n : Nat} (hn : n ≤ 7) (hsz : I a 6 = nI n) {w : Nat} (hw : w < 128) : CtV 2 m_X7_takenBy [.ref a, .int (nI w)] I J (.long (sumJ (fun k => if w.testBit k = true then J (a + 8) k else 0) n)) I J := by
  refine CtV_of (by decide) rfl (Nat.le_of_ble_eq_true rfl) ?_
  obtain ⟨s0, s1, s2, s3, s4, s5, s6, hk1, hk2, hk3, hk4, hk5, hk6, ha⟩ := id hL
  obtain ⟨z1, z2, z3, z4, z5⟩ := id hZ
  refine V_cl i_X7_takenBy_0 ?_
  refine V_ls (L' := [(0, _), (1, _), (2, _)]) i_X7_takenBy_1 (by decide) ⟨rfl, rfl, rfl, trivial⟩ ?_
  refine V_c i_X7_takenBy_2 ?_
  refine V_is (L' := [(0, _), (1, _), (2, _), (4, _)]) i_X7_takenBy_3 (by decide) ⟨rfl, rfl, rfl, rfl, trivial⟩ ?_
  refine V_L (L' := [(0, _), (1, _), (2, _), (4, _)]) ⟨rfl, rfl, rfl, rfl, trivial⟩ ?_
  exact lp_S_taken I J hL hZ hn hsz hw _ ⟨rfl, rfl, rfl⟩

/-- what serve() needs ahead: the eaters, the rules, the line; served till place f -/
def SvP (I : IntM) (J : LngM) (a n : Nat) (kd nd : Nat → Nat) (lw how P : Nat) (ln : Nat → Nat) (f : Nat) : Prop := I a 6 = nI n ∧ I a 7 = nI lw ∧ I a 8 = nI how ∧ AtI I (a + 2) n kd ∧ AtI I (a + 4) n nd ∧ AtI I (a + 6) n ln ∧ J (a + 10) f = lN (thS kd nd lw how P ln f) ∧ I (a + 12) f = nI (fdS kd nd lw how P ln f)
/-- the cells that serve() writes stay, but for its rows' places behind f -/
def SvF (I : IntM) (J : LngM) (a n f : Nat) (ln : Nat → Nat) (I' : IntM) (J' : LngM) : Prop := (∀ x k, ¬ (x = a + 12 ∧ f < k ∧ k ≤ n) → I' x k = I x k) ∧ (∀ x k, ¬ (x = a + 10 ∧ f < k ∧ k ≤ n) → ¬ (x = a + 8 ∧ ∃ i, f ≤ i ∧ i < n ∧ ln i = k) → J' x k = J x k)
def SvQ (a n : Nat) (kd nd : Nat → Nat) (lw how P : Nat) (ln : Nat → Nat) (f : Nat) (I' : IntM) (J' : LngM) : Prop := (∀ i, f ≤ i → i ≤ n → J' (a + 10) i = lN (thS kd nd lw how P ln i) ∧ I' (a + 12) i = nI (fdS kd nd lw how P ln i)) ∧ ∀ i, f ≤ i → i < n → J' (a + 8) (ln i) = lN (tkS kd nd lw how P ln i)
theorem or_nI (a b : Nat) : nI a ||| nI b = nI (a ||| b) := by
  apply Int32.toBitVec_inj.mp
  show BitVec.ofNat 32 a ||| BitVec.ofNat 32 b = BitVec.ofNat 32 (a ||| b)
  apply BitVec.eq_of_getLsbD_eq
  intro i hi
  simp [BitVec.getLsbD_or, BitVec.getLsbD_ofNat, Nat.testBit_or, hi]
theorem mul_un {m how : Nat} (h : m ≤ 999) : m * un how < 2 ^ 43 := by
  have := un_le how
  have h1 : m * un how ≤ 999 * 4586471424 := Nat.mul_le_mul h this
  omega

set_option maxRecDepth 100000 in
set_option maxHeartbeats 4000000 in
theorem lp_S_serve (I : IntM) (J : LngM) {a : Nat} (hL : LSit a) (hZ : SzS I a) {n lw how P : Nat} {kd nd ln : Nat → Nat} (hh : how ≤ 1) (hlw : lw ≤ 3) (hn : n ≤ 7) (hP : P < 2 ^ 50) (hkd : ∀ k, k < n → kd k ≤ 5) (hnd : ∀ k, k < n → nd k ≤ 99) (hln : ∀ i, i < n → ln i < n) (hinj : ∀ i j, i < n → j < n → ln i = ln j → i = j) {f : Nat} (hf : f ≤ n) (hp : SvP I J a n kd nd lw how P ln f) (Q : Option Value → IntM → LngM → Prop) (hq : ∀ I1 J1, SvF I J a n f ln I1 J1 → SvQ a n kd nd lw how P ln f I1 J1 → Q none I1 J1) : VP m_X7_serve 3 11 [(0, .ref a), (2, .long (lN (un how))), (4, .int (nI f))] [] I J Q := by
  obtain ⟨s0, s1, s2, s3, s4, s5, s6, hk1, hk2, hk3, hk4, hk5, hk6, ha⟩ := id hL
  obtain ⟨z1, z2, z3, z4, z5⟩ := id hZ
  have key : ∀ i, i ≤ n → f ≤ i → ∀ I1 J1, SvP I1 J1 a n kd nd lw how P ln i → SvF I J a i f ln I1 J1 → SvQ a i kd nd lw how P ln f I1 J1 → VP m_X7_serve 3 11 [(0, .ref a), (2, .long (lN (un how))), (4, .int (nI i))] [] I1 J1 Q := by
    refine down n ?_ (fun i hi ih => ?_)
    · intro _ I1 J1 hv hF hG
      refine V_il i_X7_serve_11 rfl ?_
      refine V_al i_X7_serve_13 rfl ?_
      refine V_getI i_X7_serve_14 s0 ?_
      refine V_ic_ge_t i_X7_serve_17 (by rw [hv.1]; exact Int32.le_refl _) ?_
      exact P_vret i_X7_serve_164 rfl (hq I1 J1 hF hG)
    · intro hfi I1 J1 hv hF hG
      replace ih := ih (by omega)
      obtain ⟨hv1, hv2, hv3, hv4, hv5, hv6, hv7, hv8⟩ := id hv
      have hi7 : i < 7 := by omega
      have hl := hln i hi
      have hl7 : ln i < 7 := by omega
      have hth : thS kd nd lw how P ln i < 2 ^ 60 := by have := thS_le kd nd lw how P ln i; omega
      have htk : tk (kd (ln i)) (nd (ln i) * un how) (thS kd nd lw how P ln i) (dv lw i) = tkS kd nd lw how P ln i := rfl
      have zz1 : I1 (a + 1) 1 = nI 7 := by rw [hF.1 _ _ (by omega)]; exact z1
      have zz2 : I1 (a + 3) 1 = nI 7 := by rw [hF.1 _ _ (by omega)]; exact z2
      have zz3 : I1 (a + 5) 1 = nI 7 := by rw [hF.1 _ _ (by omega)]; exact z3
      have zz4 : I1 (a + 11) 1 = nI 8 := by rw [hF.1 _ _ (by omega)]; exact z4
      refine V_il i_X7_serve_11 rfl ?_
      refine V_al i_X7_serve_13 rfl ?_
      refine V_getI i_X7_serve_14 (by first | assumption | exact hk1.1 | exact hk2.1 | exact hk3.1 | exact hk4.1 | exact hk5.1 | exact hk6.1 | rfl) ?_
      refine V_ic_ge_f i_X7_serve_17 (by rw [hv1]; exact nI_ge hi (by omega)) ?_
      refine V_al i_X7_serve_20 rfl ?_
      refine V_getR i_X7_serve_21 (by first | assumption | exact hk1.1 | exact hk2.1 | exact hk3.1 | exact hk4.1 | exact hk5.1 | exact hk6.1 | rfl) (by first | assumption | rfl) ?_
      refine V_il i_X7_serve_24 rfl ?_
      refine P_callV1v i_X7_serve_26 mi_X3_get (by first | assumption | exact hk1.1 | exact hk2.1 | exact hk3.1 | exact hk4.1 | exact hk5.1 | exact hk6.1 | rfl) ⟨_, _, rfl⟩ (by decide) (Nat.le_of_ble_eq_true rfl) (c_I_getN _ _ hk3 zz3 rfl hi7 (by decide)) ?_
      rw [show a + 5 + 1 = a + 6 from rfl, hv6 i hi]
      refine V_is (L' := [(0, _), (2, _), (4, _), (5, _)]) i_X7_serve_29 (by decide) ⟨rfl, rfl, rfl, rfl, trivial⟩ ?_
      refine V_al i_X7_serve_31 rfl ?_
      refine V_getR i_X7_serve_32 (by first | assumption | exact hk1.1 | exact hk2.1 | exact hk3.1 | exact hk4.1 | exact hk5.1 | exact hk6.1 | rfl) (by first | assumption | rfl) ?_
      refine V_il i_X7_serve_35 rfl ?_
      refine P_callV1v i_X7_serve_37 mi_X3_get (by first | assumption | exact hk1.1 | exact hk2.1 | exact hk3.1 | exact hk4.1 | exact hk5.1 | exact hk6.1 | rfl) ⟨_, _, rfl⟩ (by decide) (Nat.le_of_ble_eq_true rfl) (c_I_getN _ _ hk2 zz2 rfl hl7 (by decide)) ?_
      rw [show a + 3 + 1 = a + 4 from rfl, hv5 _ hl]
      refine V_i2l i_X7_serve_40 ?_
      refine V_ll i_X7_serve_41 rfl ?_
      rw [nI_long (by have := hnd _ hl; omega)]
      refine V_lmul i_X7_serve_42 ?_
      rw [lN_mul]
      refine V_ls (L' := [(0, _), (2, _), (4, _), (5, _), (6, _)]) i_X7_serve_43 (by decide) ⟨rfl, rfl, rfl, rfl, rfl, trivial⟩ ?_
      refine V_al i_X7_serve_45 rfl ?_
      refine V_getR i_X7_serve_46 (by first | assumption | exact hk1.1 | exact hk2.1 | exact hk3.1 | exact hk4.1 | exact hk5.1 | exact hk6.1 | rfl) (by first | assumption | rfl) ?_
      refine V_il i_X7_serve_49 rfl ?_
      refine P_callV1v i_X7_serve_51 mi_X3_get (by first | assumption | exact hk1.1 | exact hk2.1 | exact hk3.1 | exact hk4.1 | exact hk5.1 | exact hk6.1 | rfl) ⟨_, _, rfl⟩ (by decide) (Nat.le_of_ble_eq_true rfl) (c_I_getN _ _ hk1 zz1 rfl hl7 (by decide)) ?_
      rw [show a + 1 + 1 = a + 2 from rfl, hv4 _ hl]
      refine V_ll i_X7_serve_54 rfl ?_
      refine V_al i_X7_serve_56 rfl ?_
      refine V_getR i_X7_serve_57 (by first | assumption | exact hk1.1 | exact hk2.1 | exact hk3.1 | exact hk4.1 | exact hk5.1 | exact hk6.1 | rfl) (by first | assumption | rfl) ?_
      refine V_il i_X7_serve_60 rfl ?_
      refine P_callV1v i_X7_serve_62 mi_X4_get (by first | assumption | exact hk1.1 | exact hk2.1 | exact hk3.1 | exact hk4.1 | exact hk5.1 | exact hk6.1 | rfl) ⟨_, _, rfl⟩ (by decide) (Nat.le_of_ble_eq_true rfl) (c_L_get _ _ hk5 (by omega)) ?_
      rw [show a + 9 + 1 = a + 10 from rfl, hv7]
      refine V_al i_X7_serve_65 rfl ?_
      refine V_getI i_X7_serve_66 (by first | assumption | exact hk1.1 | exact hk2.1 | exact hk3.1 | exact hk4.1 | exact hk5.1 | exact hk6.1 | rfl) ?_
      rw [hv2]
      refine V_il i_X7_serve_69 rfl ?_
      refine P_callS2v i_X7_serve_71 ms_X8_divisor (by decide) (Nat.le_of_ble_eq_true rfl) (c_divisor _ _ hlw (by omega)) ?_
      refine P_callS4v i_X7_serve_74 ms_X8_take (by decide) (Nat.le_of_ble_eq_true rfl) (c_take _ _ (hkd _ hl) hth (by have := mul_un (how := how) (show nd (ln i) ≤ 999 by have := hnd _ hl; omega); omega) (dv_cases lw i)) ?_
      rw [htk]
      refine V_ls (L' := [(0, _), (2, _), (4, _), (5, _), (6, _), (8, _)]) i_X7_serve_77 (by decide) ⟨rfl, rfl, rfl, rfl, rfl, rfl, trivial⟩ ?_
      refine V_al i_X7_serve_79 rfl ?_
      refine V_getR i_X7_serve_80 (by first | assumption | exact hk1.1 | exact hk2.1 | exact hk3.1 | exact hk4.1 | exact hk5.1 | exact hk6.1 | rfl) (by first | assumption | rfl) ?_
      refine V_il i_X7_serve_83 rfl ?_
      refine V_ll i_X7_serve_85 rfl ?_
      refine P_callV2u i_X7_serve_87 mi_X4_set (by first | assumption | exact hk1.1 | exact hk2.1 | exact hk3.1 | exact hk4.1 | exact hk5.1 | exact hk6.1 | rfl) ⟨_, _, rfl⟩ (by decide) (Nat.le_of_ble_eq_true rfl) (c_L_set _ _ hk4 (by omega) _) ?_
      refine V_al i_X7_serve_90 rfl ?_
      refine V_getR i_X7_serve_91 (by first | assumption | exact hk1.1 | exact hk2.1 | exact hk3.1 | exact hk4.1 | exact hk5.1 | exact hk6.1 | rfl) (by first | assumption | rfl) ?_
      refine V_il i_X7_serve_94 rfl ?_
      refine V_c i_X7_serve_96 ?_
      refine V_iadd i_X7_serve_97 ?_
      refine V_al i_X7_serve_98 rfl ?_
      refine V_getR i_X7_serve_99 (by first | assumption | exact hk1.1 | exact hk2.1 | exact hk3.1 | exact hk4.1 | exact hk5.1 | exact hk6.1 | rfl) (by first | assumption | rfl) ?_
      refine V_il i_X7_serve_102 rfl ?_
      refine P_callV1v i_X7_serve_104 mi_X4_get (by first | assumption | exact hk1.1 | exact hk2.1 | exact hk3.1 | exact hk4.1 | exact hk5.1 | exact hk6.1 | rfl) ⟨_, _, rfl⟩ (by decide) (Nat.le_of_ble_eq_true rfl) (c_L_get _ _ hk5 (by omega)) ?_
      rw [show uJ J1 (a + 7 + 1) (ln i) (lN (tkS kd nd lw how P ln i)) (a + 9 + 1) i = lN (thS kd nd lw how P ln i) from by unfold uJ; rw [if_neg (by omega)]; exact hv7]
      refine V_ll i_X7_serve_107 rfl ?_
      refine V_lsub i_X7_serve_109 ?_
      rw [lN_sub (tkS_le kd nd lw how P ln i), nI_1]
      refine P_callV2u i_X7_serve_110 mi_X4_set (by first | assumption | exact hk1.1 | exact hk2.1 | exact hk3.1 | exact hk4.1 | exact hk5.1 | exact hk6.1 | rfl) ⟨_, _, rfl⟩ (by decide) (Nat.le_of_ble_eq_true rfl) (c_L_set _ _ hk5 (by omega) _) ?_
      refine V_al i_X7_serve_113 rfl ?_
      refine V_getR i_X7_serve_114 (by first | assumption | exact hk1.1 | exact hk2.1 | exact hk3.1 | exact hk4.1 | exact hk5.1 | exact hk6.1 | rfl) (by first | assumption | rfl) ?_
      refine V_il i_X7_serve_117 rfl ?_
      refine V_c i_X7_serve_119 ?_
      refine V_iadd i_X7_serve_120 ?_
      refine V_ll i_X7_serve_121 rfl ?_
      refine V_ll i_X7_serve_123 rfl ?_
      refine V_lcmp i_X7_serve_125 ?_
      refine V_if_lt i_X7_serve_126 (fun c126 => ?_) (fun c126 => ?_)
      · rw [lgc_lt, pk_lLT (by have := tkS_le kd nd lw how P ln i; omega) (by have := mul_un (how := how) (show nd (ln i) ≤ 999 by have := hnd _ hl; omega); omega)] at c126
        refine V_al i_X7_serve_146 rfl ?_
        refine V_getR i_X7_serve_147 (by first | assumption | exact hk1.1 | exact hk2.1 | exact hk3.1 | exact hk4.1 | exact hk5.1 | exact hk6.1 | rfl) (by first | assumption | rfl) ?_
        refine V_il i_X7_serve_150 rfl ?_
        refine P_callV1v i_X7_serve_152 mi_X3_get (by first | assumption | exact hk1.1 | exact hk2.1 | exact hk3.1 | exact hk4.1 | exact hk5.1 | exact hk6.1 | rfl) ⟨_, _, rfl⟩ (by decide) (Nat.le_of_ble_eq_true rfl) (c_I_getN _ _ hk6 zz4 rfl (by omega) (by decide)) ?_
        rw [nI_1]
        refine P_callV2u i_X7_serve_155 mi_X3_set (by first | assumption | exact hk1.1 | exact hk2.1 | exact hk3.1 | exact hk4.1 | exact hk5.1 | exact hk6.1 | rfl) ⟨_, _, rfl⟩ (by decide) (Nat.le_of_ble_eq_true rfl) (c_I_setN _ _ _ hk6 zz4 rfl (by omega) (by decide)) ?_
        refine V_iinc (L' := [(0, _), (2, _), (4, _)]) (n' := 1) i_X7_serve_158 (by decide) rfl (by decide) ⟨rfl, rfl, rfl, trivial⟩ ?_
        refine V_goto i_X7_serve_161 ?_
        refine V_L (L' := [(0, _), (2, _), (4, _)]) ⟨rfl, rfl, rfl, trivial⟩ ?_
        rw [show nI i + 1 = nI (i + 1) from nI_1 i]
        refine ih _ _ ?_ ?_ ?_
        · refine ⟨?_, ?_, ?_, ?_, ?_, ?_, ?_, ?_⟩
          · unfold uI; rw [if_neg (by omega)]; exact hv1
          · unfold uI; rw [if_neg (by omega)]; exact hv2
          · unfold uI; rw [if_neg (by omega)]; exact hv3
          · intro k hk; unfold uI; rw [if_neg (by omega)]; exact hv4 k hk
          · intro k hk; unfold uI; rw [if_neg (by omega)]; exact hv5 k hk
          · intro k hk; unfold uI; rw [if_neg (by omega)]; exact hv6 k hk
          · rw [show a + 9 + 1 = a + 10 from rfl, uJ_eq]; rfl
          · rw [show a + 11 + 1 = a + 12 from rfl, uI_eq]; exact hv8.trans (congrArg nI (if_neg (Nat.not_le.mpr c126)).symm)
        · refine ⟨fun x k h => ?_, fun x k h1 h2 => ?_⟩
          · unfold uI; rw [if_neg (by omega)]; exact hF.1 x k (by omega)
          · unfold uJ
            rw [if_neg (by omega), if_neg (fun q : x = a + 8 ∧ k = ln i => h2 ⟨q.1, i, by omega, by omega, q.2.symm⟩)]
            exact hF.2 x k (by omega) (fun q => h2 ⟨q.1, by obtain ⟨j, h3, h4, h5⟩ := q.2; exact ⟨j, h3, by omega, h5⟩⟩)
        · refine ⟨fun j h1 h2 => ?_, fun j h1 h2 => ?_⟩
          · rcases Nat.lt_or_ge i j with h3 | h3
            · obtain rfl : j = i + 1 := by omega
              refine ⟨?_, ?_⟩
              · rw [show a + 9 + 1 = a + 10 from rfl, uJ_eq]; rfl
              · rw [show a + 11 + 1 = a + 12 from rfl, uI_eq]; exact hv8.trans (congrArg nI (if_neg (Nat.not_le.mpr c126)).symm)
            · obtain ⟨g1, g2⟩ := hG.1 j h1 h3
              refine ⟨?_, ?_⟩
              · unfold uJ; rw [if_neg (by omega), if_neg (by omega)]; exact g1
              · unfold uI; rw [if_neg (by omega)]; exact g2
          · rcases Nat.lt_or_ge j i with h3 | h3
            · unfold uJ; rw [if_neg (by omega), if_neg (fun q : a + 8 = a + 8 ∧ ln j = ln i => by have := hinj j i (by omega) hi q.2; omega)]; exact hG.2 j h1 h3
            · obtain rfl : j = i := by omega
              unfold uJ; rw [if_neg (by omega), if_pos ⟨rfl, rfl⟩]
      · rw [lgc_lt, pk_lLT (by have := tkS_le kd nd lw how P ln i; omega) (by have := mul_un (how := how) (show nd (ln i) ≤ 999 by have := hnd _ hl; omega); omega)] at c126
        refine V_al i_X7_serve_129 rfl ?_
        refine V_getR i_X7_serve_130 (by first | assumption | exact hk1.1 | exact hk2.1 | exact hk3.1 | exact hk4.1 | exact hk5.1 | exact hk6.1 | rfl) (by first | assumption | rfl) ?_
        refine V_il i_X7_serve_133 rfl ?_
        refine P_callV1v i_X7_serve_135 mi_X3_get (by first | assumption | exact hk1.1 | exact hk2.1 | exact hk3.1 | exact hk4.1 | exact hk5.1 | exact hk6.1 | rfl) ⟨_, _, rfl⟩ (by decide) (Nat.le_of_ble_eq_true rfl) (c_I_getN _ _ hk6 zz4 rfl (by omega) (by decide)) ?_
        rw [show a + 11 + 1 = a + 12 from rfl, hv8]
        refine V_c i_X7_serve_138 ?_
        refine V_il i_X7_serve_139 rfl ?_
        refine V_ishl i_X7_serve_141 ?_
        rw [shl1 hl7]
        refine V_ior i_X7_serve_142 ?_
        rw [or_nI]
        refine V_goto i_X7_serve_143 ?_
        rw [nI_1]
        refine P_callV2u i_X7_serve_155 mi_X3_set (by first | assumption | exact hk1.1 | exact hk2.1 | exact hk3.1 | exact hk4.1 | exact hk5.1 | exact hk6.1 | rfl) ⟨_, _, rfl⟩ (by decide) (Nat.le_of_ble_eq_true rfl) (c_I_setN _ _ _ hk6 zz4 rfl (by omega) (by decide)) ?_
        refine V_iinc (L' := [(0, _), (2, _), (4, _)]) (n' := 1) i_X7_serve_158 (by decide) rfl (by decide) ⟨rfl, rfl, rfl, trivial⟩ ?_
        refine V_goto i_X7_serve_161 ?_
        refine V_L (L' := [(0, _), (2, _), (4, _)]) ⟨rfl, rfl, rfl, trivial⟩ ?_
        rw [show nI i + 1 = nI (i + 1) from nI_1 i]
        refine ih _ _ ?_ ?_ ?_
        · refine ⟨?_, ?_, ?_, ?_, ?_, ?_, ?_, ?_⟩
          · unfold uI; rw [if_neg (by omega)]; exact hv1
          · unfold uI; rw [if_neg (by omega)]; exact hv2
          · unfold uI; rw [if_neg (by omega)]; exact hv3
          · intro k hk; unfold uI; rw [if_neg (by omega)]; exact hv4 k hk
          · intro k hk; unfold uI; rw [if_neg (by omega)]; exact hv5 k hk
          · intro k hk; unfold uI; rw [if_neg (by omega)]; exact hv6 k hk
          · rw [show a + 9 + 1 = a + 10 from rfl, uJ_eq]; rfl
          · rw [show a + 11 + 1 = a + 12 from rfl, uI_eq]; exact congrArg nI (if_pos (Nat.not_lt.mp c126)).symm
        · refine ⟨fun x k h => ?_, fun x k h1 h2 => ?_⟩
          · unfold uI; rw [if_neg (by omega)]; exact hF.1 x k (by omega)
          · unfold uJ
            rw [if_neg (by omega), if_neg (fun q : x = a + 8 ∧ k = ln i => h2 ⟨q.1, i, by omega, by omega, q.2.symm⟩)]
            exact hF.2 x k (by omega) (fun q => h2 ⟨q.1, by obtain ⟨j, h3, h4, h5⟩ := q.2; exact ⟨j, h3, by omega, h5⟩⟩)
        · refine ⟨fun j h1 h2 => ?_, fun j h1 h2 => ?_⟩
          · rcases Nat.lt_or_ge i j with h3 | h3
            · obtain rfl : j = i + 1 := by omega
              refine ⟨?_, ?_⟩
              · rw [show a + 9 + 1 = a + 10 from rfl, uJ_eq]; rfl
              · rw [show a + 11 + 1 = a + 12 from rfl, uI_eq]; exact congrArg nI (if_pos (Nat.not_lt.mp c126)).symm
            · obtain ⟨g1, g2⟩ := hG.1 j h1 h3
              refine ⟨?_, ?_⟩
              · unfold uJ; rw [if_neg (by omega), if_neg (by omega)]; exact g1
              · unfold uI; rw [if_neg (by omega)]; exact g2
          · rcases Nat.lt_or_ge j i with h3 | h3
            · unfold uJ; rw [if_neg (by omega), if_neg (fun q : a + 8 = a + 8 ∧ ln j = ln i => by have := hinj j i (by omega) hi q.2; omega)]; exact hG.2 j h1 h3
            · obtain rfl : j = i := by omega
              unfold uJ; rw [if_neg (by omega), if_pos ⟨rfl, rfl⟩]
  refine key f hf (Nat.le_refl _) I J hp ⟨fun _ _ _ => rfl, fun _ _ _ _ => rfl⟩ ⟨fun i h1 h2 => ?_, fun i h1 h2 => by omega⟩
  obtain rfl : i = f := by omega
  exact ⟨hp.2.2.2.2.2.2.1, hp.2.2.2.2.2.2.2⟩
set_option maxRecDepth 100000 in
set_option maxHeartbeats 4000000 in
theorem c_S_serve (I : IntM) (J : LngM) {a : Nat} (hL : LSit a) (hZ : SzS I a) {n lw how P : Nat} {kd nd ln : Nat → Nat} (hh : how ≤ 1) (hlw : lw ≤ 3) (hn : n ≤ 7) (hP : P < 2 ^ 50) (hkd : ∀ k, k < n → kd k ≤ 5) (hnd : ∀ k, k < n → nd k ≤ 99) (hln : ∀ i, i < n → ln i < n) (hinj : ∀ i j, i < n → j < n → ln i = ln j → i = j) {f : Nat} (hf : f ≤ n) (hp : SvP I J a n kd nd lw how P ln f) : CtP 3 m_X7_serve [.ref a, .int (nI f)] I J (fun r I1 J1 => r = none ∧ SvF I J a n f ln I1 J1 ∧ SvQ a n kd nd lw how P ln f I1 J1) := by
  refine CtP_of (by decide) rfl (Nat.le_of_ble_eq_true rfl) ?_
  obtain ⟨s0, s1, s2, s3, s4, s5, s6, hk1, hk2, hk3, hk4, hk5, hk6, ha⟩ := id hL
  obtain ⟨z1, z2, z3, z4, z5⟩ := id hZ
  refine V_al i_X7_serve_0 rfl ?_
  refine V_getI i_X7_serve_1 (by first | assumption | exact hk1.1 | exact hk2.1 | exact hk3.1 | exact hk4.1 | exact hk5.1 | exact hk6.1 | rfl) ?_
  rw [hp.2.2.1]
  refine P_callS1v i_X7_serve_4 ms_X8_unit (by decide) (Nat.le_of_ble_eq_true rfl) (c_unit _ _ hh) ?_
  refine V_ls (L' := [(0, _), (1, _), (2, _)]) i_X7_serve_7 (by decide) ⟨rfl, rfl, rfl, trivial⟩ ?_
  refine V_il i_X7_serve_8 rfl ?_
  refine V_is (L' := [(0, _), (2, _), (4, _)]) i_X7_serve_9 (by decide) ⟨rfl, rfl, rfl, trivial⟩ ?_
  refine V_L (L' := [(0, _), (2, _), (4, _)]) ⟨rfl, rfl, rfl, trivial⟩ ?_
  exact lp_S_serve I J hL hZ hh hlw hn hP hkd hnd hln hinj hf hp _ (fun I1 J1 h1 h2 => ⟨rfl, h1, h2⟩)


/-! ===== an evening, one by one ===== -/
theorem Inv.ev {I I2 : IntM} {J J2 : LngM} {n : Nat} {kd nd od : Nat → Nat} {lw pot : Nat} (hP : InvP I J n kd nd od lw pot) (hZ : ISz I) (hI : ∀ x k, ¬ (x = 0 ∧ k = 13) → ¬ (x = 15 ∨ x = 17) → ¬ (x = 146 ∧ (k = 2 ∨ k = 30 ∨ k = 32)) → x ≠ 160 → I2 x k = I x k) (hJ : ∀ x k, ¬ (x = 0 ∧ (k = 14 ∨ k = 15)) → ¬ (15 ≤ x ∧ x ≤ 19) → ¬ (x = 146 ∧ (k = 3 ∨ k = 4 ∨ (23 ≤ k ∧ k ≤ 29) ∨ k = 35 ∨ k = 36)) → ¬ (158 ≤ x ∧ x ≤ 159) → ¬ (161 ≤ x ∧ x ≤ 162) → J2 x k = J x k) (hE : EvI I2 J2 n) (hT : ToI I2 J2) : Inv I2 J2 := by
  obtain ⟨h1, h2, h3, h4, h5, h6, h7, h8, h9⟩ := hP
  exact ⟨⟨n, kd, nd, od, lw, pot, CoI.congr (fun x k q => hI x k (by omega) (by omega) (by omega) (by omega)) h1, hE,
    fun c hc => KeI.congr h1.1.1 hc (fun x k q => hI x k (by omega) (by omega) (by omega) (by omega)) (fun x k q => hJ x k (by omega) (by omega) (by omega) (by omega) (by omega)) (h3 c hc),
    RoI.congr (fun x k q => hI x k (by omega) (by omega) (by omega) (by omega)) h4, RoI.congr (fun x k q => hI x k (by omega) (by omega) (by omega) (by omega)) h5, FiI.congr (fun x k q => hI x k (by omega) (by omega) (by omega) (by omega)) h6,
    by rw [hI _ _ (by omega) (by omega) (by omega) (by omega)]; exact h7, by rw [hI _ _ (by omega) (by omega) (by omega) (by omega)]; exact h8, by rw [hI _ _ (by omega) (by omega) (by omega) (by omega)]; exact h9⟩, hT, ISz.congr (fun x k q => hI x k (by omega) (by omega) (by omega) (by omega)) hZ⟩
theorem whoN_lt {ln : Nat → Nat} {n : Nat} (hn : n ≤ 7) : ∀ {e}, (∀ i, i < e → ln i < n) → whoN ln e < 128
  | 0, _ => by unfold whoN; omega
  | e + 1, h => by
    unfold whoN
    exact Nat.or_lt_two_pow (n := 7) (whoN_lt hn (fun i hi => h i (by omega))) (p128 (by have := h e (by omega); omega))
theorem whoN_bit (ln : Nat → Nat) (k : Nat) : ∀ e, (whoN ln e).testBit k = true ↔ ∃ i, i < e ∧ ln i = k
  | 0 => by
    unfold whoN
    simp
  | e + 1 => by
    unfold whoN
    rw [Nat.testBit_or, Bool.or_eq_true, whoN_bit ln k e, Nat.testBit_two_pow, decide_eq_true_eq]
    constructor
    · rintro (⟨i, hi, h⟩ | h)
      · exact ⟨i, by omega, h⟩
      · exact ⟨e, by omega, h⟩
    · rintro ⟨i, hi, h⟩
      by_cases hie : i = e
      · exact Or.inr (by rw [← hie]; exact h)
      · exact Or.inl ⟨i, by omega, h⟩
theorem whoN_pl {ln : Nat → Nat} {n k e : Nat} (hP : Pm n ln) (he : e ≤ n) (hk : k < n) : (whoN ln e).testBit k = true ↔ plN ln k n < e := by
  rw [whoN_bit]
  constructor
  · rintro ⟨i, hi, rfl⟩
    rw [Pm_at hP (by omega)]
    exact hi
  · intro h
    exact ⟨_, h, (Pm_place hP hk).2⟩
theorem un24 : 24 ^ 7 ∣ un 0 := ⟨1, rfl⟩
/-- where an evening lies -/
def LE (x : Nat) : Prop := SH[x]? = some (0, 2) ∧ RF x 0 = some (x + 1) ∧ RF x 1 = some (x + 3) ∧ LI (x + 1) 7 ∧ LG (x + 3) 7
theorem LE_15 : LE 15 := ⟨rfl, rfl, rfl, ⟨rfl, rfl, rfl, by decide⟩, ⟨rfl, rfl, rfl, by decide⟩⟩
theorem LE_k {c : Nat} (hc : c < 3) : LE (131 + 5 * c) := by
  obtain rfl | rfl | rfl : c = 0 ∨ c = 1 ∨ c = 2 := by omega
  all_goals exact ⟨rfl, rfl, rfl, ⟨rfl, rfl, rfl, by decide⟩, ⟨rfl, rfl, rfl, by decide⟩⟩

set_option maxRecDepth 100000 in
set_option maxHeartbeats 4000000 in
theorem c_E_start (I : IntM) (J : LngM) {n : Nat} {kd nd od : Nat → Nat} {lw pot : Nat} (hK : CK I n kd nd od lw pot) (h16 : I 16 1 = nI 7) {how : Nat} (hh : how ≤ 1) : CtU 3 m_X2_start [.ref 15, .ref 8, .int (nI how)] I J (cpI (uI (uI (uI I 15 3 (nI how)) 15 4 0) 15 6 0) 14 0 17 0 n) (uJ J 15 5 (lN (pot * un how))) := by
  refine CtU_of (by decide) rfl (Nat.le_of_ble_eq_true rfl) ?_
  refine V_al i_X2_start_0 rfl ?_
  refine V_il i_X2_start_1 rfl ?_
  refine V_putI i_X2_start_2 rfl ?_
  refine V_al i_X2_start_5 rfl ?_
  refine V_c i_X2_start_6 ?_
  refine V_putI i_X2_start_7 rfl ?_
  refine V_al i_X2_start_10 rfl ?_
  refine V_c i_X2_start_11 ?_
  refine V_putI i_X2_start_12 rfl ?_
  refine V_al i_X2_start_15 rfl ?_
  refine V_al i_X2_start_16 rfl ?_
  refine V_getI i_X2_start_17 rfl ?_
  rw [uI_ne _ _ (by simp), uI_ne _ _ (by simp), uI_ne _ _ (by simp), hK.pt]
  refine V_i2l i_X2_start_20 ?_
  rw [nI_long (by have := hK.p9; omega)]
  refine V_il i_X2_start_21 rfl ?_
  refine P_callS1v i_X2_start_22 ms_X8_unit (by decide) (Nat.le_of_ble_eq_true rfl) (c_unit _ _ hh) ?_
  refine V_lmul i_X2_start_25 ?_
  rw [lN_mul]
  refine V_putJ i_X2_start_26 rfl ?_
  refine V_al i_X2_start_29 rfl ?_
  refine V_getR i_X2_start_30 rfl rfl ?_
  refine V_al i_X2_start_33 rfl ?_
  refine V_getR i_X2_start_34 rfl rfl ?_
  refine V_c i_X2_start_37 ?_
  refine V_c i_X2_start_38 ?_
  refine V_al i_X2_start_39 rfl ?_
  refine V_getI i_X2_start_40 rfl ?_
  rw [uI_ne _ _ (by simp), uI_ne _ _ (by simp), uI_ne _ _ (by simp), hK.sz]
  refine P_callV4u i_X2_start_43 mi_X3_moveTo rfl ⟨_, _, rfl⟩ (by decide) (Nat.le_of_ble_eq_true rfl) (c_I_moveTo _ _ (x := 13) (y := 16) (s := 7) (t := 7) (a := 0) (b := 0) (c := n) ⟨rfl, rfl, rfl, by decide⟩ ⟨rfl, rfl, rfl, by decide⟩ (by rw [uI_ne _ _ (by simp), uI_ne _ _ (by simp), uI_ne _ _ (by simp)]; exact hK.z13) (by rw [uI_ne _ _ (by simp), uI_ne _ _ (by simp), uI_ne _ _ (by simp)]; exact h16) (by decide) (by decide) (by have := hK.n7; omega) (by have := hK.n7; omega)) ?_
  exact P_vret i_X2_start_46 rfl ⟨rfl, rfl, rfl⟩
set_option maxRecDepth 100000 in
set_option maxHeartbeats 4000000 in
theorem c_begin0 (I : IntM) (J : LngM) {n : Nat} {kd nd od : Nat → Nat} {lw pot : Nat} (hK : CK I n kd nd od lw pot) {x : Int32} (h : howv x = 0) : CtP 4 m_X10_begin [.ref 0, .int x] I J (QC I J (.int (-1)) none none none) := by
  refine CtP_of (by decide) rfl (Nat.le_of_ble_eq_true rfl) ?_
  refine V_il i_X10_begin_0 rfl ?_
  refine P_callS1v i_X10_begin_1 ms_X10_isHow (by decide) (Nat.le_of_ble_eq_true rfl) (c_isHow _ _ _) ?_
  refine V_if_ne_f i_X10_begin_4 h ?_
  refine V_c i_X10_begin_7 ?_
  exact P_iret i_X10_begin_8 rfl ⟨rfl, I, J, FrC.rf, hK.Z, rfl, rfl⟩
set_option maxRecDepth 100000 in
set_option maxHeartbeats 4000000 in
theorem c_begin1 (I : IntM) (J : LngM) {n : Nat} {kd nd od : Nat → Nat} {lw pot : Nat} (hK : CK I n kd nd od lw pot) (h16 : I 16 1 = nI 7) {how : Nat} (hh : how ≤ 1) : CtV 4 m_X10_begin [.ref 0, .int (nI how)] I J (.int (nI n)) (cpI (uI (uI (uI I 15 3 (nI how)) 15 4 0) 15 6 0) 14 0 17 0 n) (uJ J 15 5 (lN (pot * un how))) := by
  refine CtV_of (by decide) rfl (Nat.le_of_ble_eq_true rfl) ?_
  refine V_il i_X10_begin_0 rfl ?_
  refine P_callS1v i_X10_begin_1 ms_X10_isHow (by decide) (Nat.le_of_ble_eq_true rfl) (c_isHow _ _ _) ?_
  refine V_if_ne_t i_X10_begin_4 (by rw [howv_nI hh]; decide) ?_
  refine V_al i_X10_begin_9 rfl ?_
  refine V_getR i_X10_begin_10 rfl rfl ?_
  refine V_al i_X10_begin_13 rfl ?_
  refine V_getR i_X10_begin_14 rfl rfl ?_
  refine V_il i_X10_begin_17 rfl ?_
  refine P_callV2u i_X10_begin_18 mi_X2_start rfl ⟨_, _, rfl⟩ (by decide) (Nat.le_of_ble_eq_true rfl) (c_E_start I J hK h16 hh) ?_
  refine V_al i_X10_begin_21 rfl ?_
  refine V_getR i_X10_begin_22 rfl rfl ?_
  refine V_getI i_X10_begin_25 rfl ?_
  rw [show (cpI (uI (uI (uI I 15 3 (nI how)) 15 4 0) 15 6 0) 14 0 17 0 n) 8 3 = nI n from by unfold cpI; rw [if_neg (by omega), uI_ne _ _ (by simp), uI_ne _ _ (by simp), uI_ne _ _ (by simp)]; exact hK.sz]
  exact P_iret i_X10_begin_28 rfl ⟨rfl, rfl, rfl⟩
set_option maxRecDepth 100000 in
set_option maxHeartbeats 4000000 in
theorem lp_M_begins (I : IntM) (J : LngM) {n : Nat} (hn : n ≤ 7) (hsz : I 146 19 = nI n) (Q : Option Value → IntM → LngM → Prop) (hq : Q none (putI I 160 n (I 156)) J) : VP m_X11_begins 1 26 [(0, .ref 146), (2, .int 0)] [] I J Q := by
  have hz : ∀ i, putI I 160 i (I 156) 146 19 = nI n := fun i => by unfold putI; rw [if_neg (by omega)]; exact hsz
  have key : ∀ i, i ≤ n → VP m_X11_begins 1 26 [(0, .ref 146), (2, .int (nI i))] [] (putI I 160 i (I 156)) J Q := by
    refine down n ?_ (fun i hi ih => ?_)
    · refine V_il i_X11_begins_26 rfl ?_
      refine V_al i_X11_begins_27 rfl ?_
      refine V_getI i_X11_begins_28 rfl ?_
      refine V_ic_ge_t i_X11_begins_31 (by rw [hz]; exact Int32.le_refl _) ?_
      exact P_vret i_X11_begins_52 rfl hq
    · refine V_il i_X11_begins_26 rfl ?_
      refine V_al i_X11_begins_27 rfl ?_
      refine V_getI i_X11_begins_28 rfl ?_
      refine V_ic_ge_f i_X11_begins_31 (by rw [hz i]; exact nI_ge hi (by omega)) ?_
      refine V_al i_X11_begins_34 rfl ?_
      refine V_getR i_X11_begins_35 rfl rfl ?_
      refine V_il i_X11_begins_38 rfl ?_
      refine V_al i_X11_begins_39 rfl ?_
      refine V_getR i_X11_begins_40 rfl rfl ?_
      refine V_il i_X11_begins_43 rfl ?_
      refine K_iald i i_X11_begins_44 rfl rfl (by omega) (by omega) ?_
      refine K_iast i i_X11_begins_45 rfl rfl (by omega) (by omega) ?_
      refine V_iinc (L' := [(0, _), (2, _)]) (n' := 1) i_X11_begins_46 (by decide) rfl (by decide) ⟨rfl, rfl, trivial⟩ ?_
      refine V_goto i_X11_begins_49 ?_
      refine V_L (L' := [(0, _), (2, _)]) ⟨rfl, rfl, trivial⟩ ?_
      rw [show nI i + 1 = nI (i + 1) from nI_1 i]
      have e : putI I 160 i (I 156) 156 i = I 156 i := by unfold putI; rw [if_neg (by omega)]
      rw [e, putI_s]
      exact ih
  have h0 := key 0 (Nat.zero_le _)
  rw [putI_0] at h0
  exact h0
set_option maxRecDepth 100000 in
set_option maxHeartbeats 4000000 in
theorem c_M_begins (I : IntM) (J : LngM) {n : Nat} {kd nd od : Nat → Nat} {lw pot : Nat} (hK : MK I n kd nd od lw pot) {how : Nat} : CtU 1 m_X11_begins [.ref 146, .int (nI how)] I J (putI (uI (uI I 146 30 (nI how)) 146 32 0) 160 n ((uI (uI I 146 30 (nI how)) 146 32 0) 156)) (uJ (uJ J 146 35 (lN pot)) 146 36 1) := by
  refine CtU_of (by decide) rfl (Nat.le_of_ble_eq_true rfl) ?_
  refine V_al i_X11_begins_0 rfl ?_
  refine V_il i_X11_begins_1 rfl ?_
  refine V_putI i_X11_begins_2 rfl ?_
  refine V_al i_X11_begins_5 rfl ?_
  refine V_c i_X11_begins_6 ?_
  refine V_putI i_X11_begins_7 rfl ?_
  refine V_al i_X11_begins_10 rfl ?_
  refine V_al i_X11_begins_11 rfl ?_
  refine V_getI i_X11_begins_12 rfl ?_
  rw [uI_ne _ _ (by simp), uI_ne _ _ (by simp), hK.pt]
  refine V_i2l i_X11_begins_15 ?_
  rw [nI_long (by have := hK.p9; omega)]
  refine V_putJ i_X11_begins_16 rfl ?_
  refine V_al i_X11_begins_19 rfl ?_
  refine V_cl i_X11_begins_20 ?_
  refine V_putJ i_X11_begins_21 rfl ?_
  refine V_c i_X11_begins_24 ?_
  refine V_is (L' := [(0, _), (2, _)]) i_X11_begins_25 (by decide) ⟨rfl, rfl, trivial⟩ ?_
  refine V_L (L' := [(0, _), (2, _)]) ⟨rfl, rfl, trivial⟩ ?_
  exact lp_M_begins _ _ hK.n7 (by rw [uI_ne _ _ (by simp), uI_ne _ _ (by simp)]; exact hK.sz) _ ⟨rfl, rfl, rfl⟩
set_option maxRecDepth 100000 in
set_option maxHeartbeats 4000000 in
theorem m_begin0 (I : IntM) (J : LngM) {x : Int32} (h : howv x = 0) : CtP 3 m_X11_begin [.ref 146, .int x] I J (QM I J (.int (-1)) none none none) := by
  refine CtP_of (by decide) rfl (Nat.le_of_ble_eq_true rfl) ?_
  refine V_il i_X11_begin_0 rfl ?_
  refine P_callS1v i_X11_begin_1 ms_X11_isHow (by decide) (Nat.le_of_ble_eq_true rfl) (c_M_isHow _ _ _) ?_
  refine V_if_ne_f i_X11_begin_4 h ?_
  refine V_c i_X11_begin_7 ?_
  exact P_iret i_X11_begin_8 rfl ⟨rfl, I, J, FrM.rf, rfl, rfl⟩
set_option maxRecDepth 100000 in
set_option maxHeartbeats 4000000 in
theorem m_begin1 (I : IntM) (J : LngM) {n : Nat} {kd nd od : Nat → Nat} {lw pot : Nat} (hK : MK I n kd nd od lw pot) {how : Nat} (hh : how ≤ 1) : CtV 3 m_X11_begin [.ref 146, .int (nI how)] I J (.int (nI n)) (putI (uI (uI I 146 30 (nI how)) 146 32 0) 160 n ((uI (uI I 146 30 (nI how)) 146 32 0) 156)) (uJ (uJ J 146 35 (lN pot)) 146 36 1) := by
  refine CtV_of (by decide) rfl (Nat.le_of_ble_eq_true rfl) ?_
  refine V_il i_X11_begin_0 rfl ?_
  refine P_callS1v i_X11_begin_1 ms_X11_isHow (by decide) (Nat.le_of_ble_eq_true rfl) (c_M_isHow _ _ _) ?_
  refine V_if_ne_t i_X11_begin_4 (by rw [howv_nI hh]; decide) ?_
  refine V_al i_X11_begin_9 rfl ?_
  refine V_il i_X11_begin_10 rfl ?_
  refine P_callV1u i_X11_begin_11 mi_X11_begins rfl ⟨_, _, rfl⟩ (by decide) (Nat.le_of_ble_eq_true rfl) (c_M_begins I J hK) ?_
  refine V_al i_X11_begin_14 rfl ?_
  refine V_getI i_X11_begin_15 rfl ?_
  rw [show putI (uI (uI I 146 30 (nI how)) 146 32 0) 160 n ((uI (uI I 146 30 (nI how)) 146 32 0) 156) 146 19 = nI n from by unfold putI; rw [if_neg (by omega), uI_ne _ _ (by simp), uI_ne _ _ (by simp)]; exact hK.sz]
  exact P_iret i_X11_begin_18 rfl ⟨rfl, rfl, rfl⟩
theorem ev_begun {I I2 : IntM} {J J2 : LngM} {n : Nat} {kd nd od : Nat → Nat} {lw pot how : Nat} (hK : CK I n kd nd od lw pot) (hM : MK I n kd nd od lw pot) (hh : how ≤ 1)
    (hC : (∀ x k, x ≤ 145 → I2 x k = (cpI (uI (uI (uI I 15 3 (nI how)) 15 4 0) 15 6 0) 14 0 17 0 n) x k) ∧ (∀ x k, x ≤ 145 → J2 x k = uJ J 15 5 (lN (pot * un how)) x k)) (hR : (∀ x k, 146 ≤ x → I2 x k = putI (uI (uI I 146 30 (nI how)) 146 32 0) 160 n ((uI (uI I 146 30 (nI how)) 146 32 0) 156) x k) ∧ ∀ x k, 146 ≤ x → J2 x k = (uJ (uJ J 146 35 (lN pot)) 146 36 1) x k) : EvI I2 J2 n := by
  obtain ⟨c1, c2⟩ := hC
  obtain ⟨r1, r2⟩ := hR
  refine ⟨how, 0, od, pot * un how, fun _ => 0, ⟨hh, Nat.zero_le _, hK.P, Nat.mul_le_mul_right _ hK.p9, fun e => by rw [e]; exact Nat.dvd_trans un24 (Nat.dvd_mul_left _ _), fun i hi => absurd hi (Nat.not_lt_zero _)⟩, ⟨?_, ?_, ?_, ?_, fun k hk => ?_, fun i hi => absurd hi (Nat.not_lt_zero _)⟩, ⟨?_, ?_, ?_, fun k hk => ?_, fun i hi => absurd hi (Nat.not_lt_zero _)⟩⟩
  · rw [c1 _ _ (by omega)]
    unfold cpI
    rw [if_neg (by omega), uI_ne _ _ (by simp), uI_ne _ _ (by simp), uI_eq]
  · rw [c1 _ _ (by omega)]
    unfold cpI
    rw [if_neg (by omega), uI_ne _ _ (by simp), uI_eq]
    rfl
  · rw [c2 _ _ (by omega), uJ_eq]
  · rw [c1 _ _ (by omega)]
    unfold cpI
    rw [if_neg (by omega), uI_eq]
    rfl
  · rw [c1 _ _ (by omega)]
    unfold cpI
    rw [if_pos ⟨rfl, by omega, by omega⟩, uI_ne _ _ (by simp), uI_ne _ _ (by simp), uI_ne _ _ (by simp), show 0 + (k - 0) = k by omega]
    exact hK.od k hk
  · rw [r1 _ _ (by omega)]
    unfold putI
    rw [if_neg (by omega), uI_ne _ _ (by simp), uI_eq]
  · rw [r1 _ _ (by omega)]
    unfold putI
    rw [if_neg (by omega), uI_eq]
    rfl
  · rw [r2 _ _ (by omega), r2 _ _ (by omega), uJ_ne _ _ (by simp), uJ_eq, uJ_eq]
    exact Fr.of_pot how pot
  · rw [r1 _ _ (by omega)]
    unfold putI
    rw [if_pos ⟨rfl, hk⟩, uI_ne _ _ (by simp), uI_ne _ _ (by simp)]
    exact hM.od k hk
theorem p_begin {I : IntM} {J : LngM} (h : Inv I J) (x : Int32) : Pair 4 m_X10_begin [.ref 0, .int x] 3 m_X11_begin [.ref 146, .int x] I J := by
  obtain ⟨n, kd, nd, od, lw, pot, hP, hK, hM⟩ := h.K
  by_cases hx : howv x = 0
  · exact Pair.q h (fun _ => no_f) (c_begin0 I J hK hx) (fun I1 J1 e1 e2 => m_begin0 I1 J1 hx)
  obtain ⟨how, hh, rfl⟩ := howv_yes hx
  have hM0 := hM I (fun _ _ _ => rfl)
  have g1 : ∀ x k, 146 ≤ x → (cpI (uI (uI (uI I 15 3 (nI how)) 15 4 0) 15 6 0) 14 0 17 0 n) x k = I x k := fun x k hx => by
    unfold cpI
    rw [if_neg (by omega), uI_ne _ _ (by intro z; injection z with z1 z2; omega), uI_ne _ _ (by intro z; injection z with z1 z2; omega), uI_ne _ _ (by intro z; injection z with z1 z2; omega)]
  refine Pair.m (c_begin1 I J hK hP.2.2.2.2.2.2.2.2 hh) (m_begin1 _ _ (hM _ g1) hh) ?_
  generalize hI1 : (cpI (uI (uI (uI I 15 3 (nI how)) 15 4 0) 15 6 0) 14 0 17 0 n) = I1 at *
  generalize hJ1 : uJ J 15 5 (lN (pot * un how)) = J1 at *
  generalize hI2 : putI (uI (uI I1 146 30 (nI how)) 146 32 0) 160 n ((uI (uI I1 146 30 (nI how)) 146 32 0) 156) = I2
  generalize hJ2 : uJ (uJ J1 146 35 (lN pot)) 146 36 1 = J2
  have a1 : ∀ x k, x ≤ 145 → I2 x k = I1 x k := fun x k hx => by
    rw [← hI2]
    unfold putI
    rw [if_neg (by omega), uI_ne _ _ (by intro z; injection z with z1 z2; omega), uI_ne _ _ (by intro z; injection z with z1 z2; omega)]
  have a2 : ∀ x k, x ≤ 145 → J2 x k = J1 x k := fun x k hx => by
    rw [← hJ2, uJ_ne _ _ (by intro z; injection z with z1 z2; omega), uJ_ne _ _ (by intro z; injection z with z1 z2; omega)]
  have a3 : ∀ x k, 146 ≤ x → J1 x k = J x k := fun x k hx => by
    rw [← hJ1, uJ_ne _ _ (by intro z; injection z with z1 z2; omega)]
  have U : ∀ x k, ¬ (x = 15 ∨ x = 17) → ¬ (x = 146 ∧ (k = 30 ∨ k = 32)) → x ≠ 160 → I2 x k = I x k := fun x k b1 b2 b3 => by
    rw [← hI2]
    unfold putI
    rw [if_neg (by omega), uI_ne _ _ (by intro z; injection z with z1 z2; omega), uI_ne _ _ (by intro z; injection z with z1 z2; omega), ← hI1]
    unfold cpI
    rw [if_neg (by omega), uI_ne _ _ (by intro z; injection z with z1 z2; omega), uI_ne _ _ (by intro z; injection z with z1 z2; omega), uI_ne _ _ (by intro z; injection z with z1 z2; omega)]
  have V : ∀ x k, x ≠ 15 → ¬ (x = 146 ∧ (k = 35 ∨ k = 36)) → J2 x k = J x k := fun x k b1 b2 => by
    rw [← hJ2, uJ_ne _ _ (by intro z; injection z with z1 z2; omega), uJ_ne _ _ (by intro z; injection z with z1 z2; omega), ← hJ1, uJ_ne _ _ (by intro z; injection z with z1 z2; omega)]
  refine Inv.ev hP hK.Z (fun x k b1 b2 b3 b4 => U x k b2 (by omega) b4) (fun x k b1 b2 b3 b4 b5 => V x k (by omega) (by omega)) (ev_begun (J := J) hK hM0 hh ⟨fun x k hx => (a1 x k hx).trans (by rw [hI1]), fun x k hx => (a2 x k hx).trans (by rw [hJ1])⟩ ⟨fun x k hx => ?_, fun x k hx => ?_⟩) ⟨by rw [U _ _ (by omega) (by omega) (by omega), U _ _ (by omega) (by omega) (by omega)]; exact h.2.1.1, by rw [V _ _ (by omega) (by omega), V _ _ (by omega) (by omega)]; exact h.2.1.2.1, by rw [V _ _ (by omega) (by omega), V _ _ (by omega) (by omega)]; exact h.2.1.2.2⟩
  · rw [← hI2]
    unfold putI
    by_cases b : x = 160 ∧ k < n
    · rw [if_pos b, if_pos b, uI_ne _ _ (by simp), uI_ne _ _ (by simp), uI_ne _ _ (by simp), uI_ne _ _ (by simp), g1 _ _ (by omega)]
    · rw [if_neg b, if_neg b]
      unfold uI
      rw [g1 _ _ hx]
  · rw [← hJ2]
    unfold uJ
    rw [a3 _ _ hx]

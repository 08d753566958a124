
/-! ===== the reference: eaters, seats, sets ===== -/
theorem i2l_in {x : Int32} : (x.toInt64 < (0 : Int64) ↔ x < 0) := by
  rw [Int64.lt_iff_toInt_lt, Int32.lt_iff_toInt_lt, Int32.toInt_toInt64]
  rfl
theorem i2l_lt {x y : Int32} : (x.toInt64 < y.toInt64 ↔ x < y) := by
  rw [Int64.lt_iff_toInt_lt, Int32.lt_iff_toInt_lt, Int32.toInt_toInt64, Int32.toInt_toInt64]
theorem i2l_lit {x : Int32} {n : Nat} (hn : n < 2 ^ 31) : (lN n < x.toInt64 ↔ nI n < x) := by
  rw [← nI_long hn, i2l_lt]
theorem pred_lt {x : Int32} {n : Nat} (hn : n ≤ 7) : (nI n - 1 < x) ↔ nI n ≤ x := by
  rw [Int32.lt_iff_toInt_lt, Int32.le_iff_toInt_le, nI_toInt (by omega)]
  have : (nI n - 1).toInt = (n : Int) - 1 := by
    obtain rfl | rfl | rfl | rfl | rfl | rfl | rfl | rfl : n = 0 ∨ n = 1 ∨ n = 2 ∨ n = 3 ∨ n = 4 ∨ n = 5 ∨ n = 6 ∨ n = 7 := by omega
    all_goals decide
  omega

set_option maxRecDepth 100000 in
set_option maxHeartbeats 4000000 in
theorem c_M_isEater (I : IntM) (J : LngM) {n : Nat} (hn : n ≤ 7) (hsz : I 146 19 = nI n) (i : Int32) : CtV 2 m_X11_isEater [.ref 146, .int i] I J (.int (hasC n i)) I J := by
  refine CtV_of (by decide) rfl (Nat.le_of_ble_eq_true rfl) ?_
  refine V_il i_X11_isEater_0 rfl ?_
  refine V_i2l i_X11_isEater_1 ?_
  refine V_cl i_X11_isEater_2 ?_
  refine V_al i_X11_isEater_3 rfl ?_
  refine V_getI i_X11_isEater_4 rfl ?_
  refine V_c i_X11_isEater_7 ?_
  rw [hsz]
  refine V_isub i_X11_isEater_8 ?_
  refine V_i2l i_X11_isEater_9 ?_
  refine P_callS3v i_X11_isEater_10 ms_X11_in (by decide) (Nat.le_of_ble_eq_true rfl) (c_M_in _ _ _ _ _) ?_
  exact P_zret i_X11_isEater_13 rfl (by unfold inL; (repeat' split) <;> simp) ⟨by unfold inL hasC; rw [show ((0 : Int64)) = 0 from rfl]; simp only [i2l_in, i2l_lt, pred_lt hn], rfl, rfl⟩
def howv (x : Int32) : Int32 := if x = 0 ∨ x = 1 then 1 else 0
theorem howv_yes {x : Int32} (h : ¬ howv x = 0) : ∃ how, how ≤ 1 ∧ x = nI how := by
  unfold howv at h
  by_cases h1 : x = 0 ∨ x = 1
  · rcases h1 with h1 | h1
    · exact ⟨0, by omega, h1⟩
    · exact ⟨1, by omega, h1⟩
  · rw [if_neg h1] at h
    exact absurd rfl h
theorem howv_nI {how : Nat} (h : how ≤ 1) : howv (nI how) = 1 := by
  obtain rfl | rfl : how = 0 ∨ how = 1 := by omega
  · rfl
  · rfl
theorem how_in (x : Int32) : inL x.toInt64 0 1 = howv x := by
  unfold inL howv
  rw [show (1 : Int64) = lN 1 from rfl]
  simp only [i2l_in, i2l_lit (show 1 < 2 ^ 31 by decide)]
  by_cases h1 : x < 0
  · rw [if_pos h1, if_neg]
    rintro (rfl | rfl)
    · exact absurd h1 (by decide)
    · exact absurd h1 (by decide)
  · rw [if_neg h1]
    by_cases h2 : nI 1 < x
    · rw [if_pos h2, if_neg]
      rintro (rfl | rfl)
      · exact absurd h2 (by decide)
      · exact absurd h2 (by decide)
    · rw [if_neg h2, if_pos]
      obtain ⟨j, hj, e⟩ := nI_of2 (M := nI 1) (n := 1) (by decide) h1 (Int32.not_lt.mp h2)
      obtain rfl | rfl : j = 0 ∨ j = 1 := by omega
      · exact Or.inl e
      · exact Or.inr e

set_option maxRecDepth 100000 in
set_option maxHeartbeats 4000000 in
theorem c_M_isHow (I : IntM) (J : LngM) (x : Int32) : CtV 2 m_X11_isHow [.int x] I J (.int (howv x)) I J := by
  refine CtV_of (by decide) rfl (Nat.le_of_ble_eq_true rfl) ?_
  refine V_il i_X11_isHow_0 rfl ?_
  refine V_i2l i_X11_isHow_1 ?_
  refine V_cl i_X11_isHow_2 ?_
  refine V_cl i_X11_isHow_3 ?_
  refine P_callS3v i_X11_isHow_4 ms_X11_in (by decide) (Nat.le_of_ble_eq_true rfl) (c_M_in _ _ _ _ _) ?_
  exact P_zret i_X11_isHow_7 rfl (by unfold inL; (repeat' split) <;> simp) ⟨by rw [how_in], rfl, rfl⟩
set_option maxRecDepth 100000 in
set_option maxHeartbeats 4000000 in
theorem lp_M_told (I : IntM) (J : LngM) {n : Nat} (hn : n ≤ 7) (hsz : I 146 19 = nI n)  (Q : Option Value → IntM → LngM → Prop) (hq : Q none (putI I 157 n (I 156)) J) : VP m_X11_seatsAsTold 1 2 [(0, .ref 146), (1, .int 0)] [] I J Q := by
  have hz : ∀ i, putI I 157 i (I 156) 146 19 = nI n := fun i => by unfold putI; rw [if_neg (by omega)]; exact hsz
  have key : ∀ i, i ≤ n → VP m_X11_seatsAsTold 1 2 [(0, .ref 146), (1, .int (nI i))] [] (putI I 157 i (I 156)) (J) Q := by
    refine down n ?_ (fun i hi ih => ?_)
    · refine V_il i_X11_seatsAsTold_2 rfl ?_
      refine V_al i_X11_seatsAsTold_3 rfl ?_
      refine V_getI i_X11_seatsAsTold_4 rfl ?_
      refine V_ic_ge_t i_X11_seatsAsTold_7 (by rw [hz]; exact Int32.le_refl _) ?_
      exact P_vret i_X11_seatsAsTold_28 rfl hq
    · have hi7 : i < 7 := by omega
      refine V_il i_X11_seatsAsTold_2 rfl ?_
      refine V_al i_X11_seatsAsTold_3 rfl ?_
      refine V_getI i_X11_seatsAsTold_4 rfl ?_
      refine V_ic_ge_f i_X11_seatsAsTold_7 (by rw [hz i]; exact nI_ge hi (by omega)) ?_
      refine V_al i_X11_seatsAsTold_10 rfl ?_
      refine V_getR i_X11_seatsAsTold_11 rfl rfl ?_
      refine V_il i_X11_seatsAsTold_14 rfl ?_
      refine V_al i_X11_seatsAsTold_15 rfl ?_
      refine V_getR i_X11_seatsAsTold_16 rfl rfl ?_
      refine V_il i_X11_seatsAsTold_19 rfl ?_
      refine K_iald i i_X11_seatsAsTold_20 rfl rfl hi7 (by omega) ?_
      refine K_iast i i_X11_seatsAsTold_21 rfl rfl hi7 (by omega) ?_
      refine V_iinc (L' := [(0, _), (1, _)]) (n' := 1) i_X11_seatsAsTold_22 (by decide) rfl (by decide) ⟨rfl, rfl, trivial⟩ ?_
      refine V_goto i_X11_seatsAsTold_25 ?_
      refine V_L (L' := [(0, _), (1, _)]) ⟨rfl, rfl, trivial⟩ ?_
      rw [show nI i + 1 = nI (i + 1) from nI_1 i]
      have e : putI I 157 i (I 156) 156 i = I 156 i := by unfold putI; rw [if_neg (by omega)]
      rw [e, putI_s]
      exact ih
  have h0 := key 0 (Nat.zero_le _)
  rw [putI_0] at h0
  exact h0
set_option maxRecDepth 100000 in
set_option maxHeartbeats 4000000 in
theorem c_M_told (I : IntM) (J : LngM) {n : Nat} (hn : n ≤ 7) (hsz : I 146 19 = nI n)  : CtU 1 m_X11_seatsAsTold [.ref 146] I J (putI I 157 n (I 156)) J := by
  refine CtU_of (by decide) rfl (Nat.le_of_ble_eq_true rfl) ?_
  refine V_c i_X11_seatsAsTold_0 ?_
  refine V_is (L' := [(0, _), (1, _)]) i_X11_seatsAsTold_1 (by decide) ⟨rfl, rfl, trivial⟩ ?_
  refine V_L (L' := [(0, _), (1, _)]) ⟨rfl, rfl, trivial⟩ ?_
  exact lp_M_told I J hn hsz _ ⟨rfl, rfl, rfl⟩
set_option maxRecDepth 100000 in
set_option maxHeartbeats 4000000 in
theorem lp_M_first (I : IntM) (J : LngM) {n : Nat} (hn : n ≤ 7) (hsz : I 146 19 = nI n)  (Q : Option Value → IntM → LngM → Prop) (hq : Q none (putI I 157 n (nI)) J) : VP m_X11_firstSeats 1 2 [(0, .ref 146), (1, .int 0)] [] I J Q := by
  have hz : ∀ i, putI I 157 i (nI) 146 19 = nI n := fun i => by unfold putI; rw [if_neg (by omega)]; exact hsz
  have key : ∀ i, i ≤ n → VP m_X11_firstSeats 1 2 [(0, .ref 146), (1, .int (nI i))] [] (putI I 157 i (nI)) (J) Q := by
    refine down n ?_ (fun i hi ih => ?_)
    · refine V_il i_X11_firstSeats_2 rfl ?_
      refine V_al i_X11_firstSeats_3 rfl ?_
      refine V_getI i_X11_firstSeats_4 rfl ?_
      refine V_ic_ge_t i_X11_firstSeats_7 (by rw [hz]; exact Int32.le_refl _) ?_
      exact P_vret i_X11_firstSeats_23 rfl hq
    · have hi7 : i < 7 := by omega
      refine V_il i_X11_firstSeats_2 rfl ?_
      refine V_al i_X11_firstSeats_3 rfl ?_
      refine V_getI i_X11_firstSeats_4 rfl ?_
      refine V_ic_ge_f i_X11_firstSeats_7 (by rw [hz i]; exact nI_ge hi (by omega)) ?_
      refine V_al i_X11_firstSeats_10 rfl ?_
      refine V_getR i_X11_firstSeats_11 rfl rfl ?_
      refine V_il i_X11_firstSeats_14 rfl ?_
      refine V_il i_X11_firstSeats_15 rfl ?_
      refine K_iast i i_X11_firstSeats_16 rfl rfl hi7 (by omega) ?_
      refine V_iinc (L' := [(0, _), (1, _)]) (n' := 1) i_X11_firstSeats_17 (by decide) rfl (by decide) ⟨rfl, rfl, trivial⟩ ?_
      refine V_goto i_X11_firstSeats_20 ?_
      refine V_L (L' := [(0, _), (1, _)]) ⟨rfl, rfl, trivial⟩ ?_
      rw [show nI i + 1 = nI (i + 1) from nI_1 i]
      rw [putI_s]
      exact ih
  have h0 := key 0 (Nat.zero_le _)
  rw [putI_0] at h0
  exact h0
set_option maxRecDepth 100000 in
set_option maxHeartbeats 4000000 in
theorem c_M_first (I : IntM) (J : LngM) {n : Nat} (hn : n ≤ 7) (hsz : I 146 19 = nI n)  : CtU 1 m_X11_firstSeats [.ref 146] I J (putI I 157 n (nI)) J := by
  refine CtU_of (by decide) rfl (Nat.le_of_ble_eq_true rfl) ?_
  refine V_c i_X11_firstSeats_0 ?_
  refine V_is (L' := [(0, _), (1, _)]) i_X11_firstSeats_1 (by decide) ⟨rfl, rfl, trivial⟩ ?_
  refine V_L (L' := [(0, _), (1, _)]) ⟨rfl, rfl, trivial⟩ ?_
  exact lp_M_first I J hn hsz _ ⟨rfl, rfl, rfl⟩
set_option maxRecDepth 100000 in
set_option maxHeartbeats 4000000 in
theorem lp_M_turned (I : IntM) (J : LngM) {n : Nat} (hn : n ≤ 7) (hsz : I 146 19 = nI n) {t : Nat} (ht : t ≤ 100) (Q : Option Value → IntM → LngM → Prop) (hq : Q none (putI I 157 n (fun i => I 156 ((i + t) % n))) J) : VP m_X11_seatsTurned 1 2 [(0, .ref 146), (1, .int (nI t)), (2, .int 0)] [] I J Q := by
  have hz : ∀ i, putI I 157 i (fun i => I 156 ((i + t) % n)) 146 19 = nI n := fun i => by unfold putI; rw [if_neg (by omega)]; exact hsz
  have key : ∀ i, i ≤ n → VP m_X11_seatsTurned 1 2 [(0, .ref 146), (1, .int (nI t)), (2, .int (nI i))] [] (putI I 157 i (fun i => I 156 ((i + t) % n))) (J) Q := by
    refine down n ?_ (fun i hi ih => ?_)
    · refine V_il i_X11_seatsTurned_2 rfl ?_
      refine V_al i_X11_seatsTurned_3 rfl ?_
      refine V_getI i_X11_seatsTurned_4 rfl ?_
      refine V_ic_ge_t i_X11_seatsTurned_7 (by rw [hz]; exact Int32.le_refl _) ?_
      exact P_vret i_X11_seatsTurned_35 rfl hq
    · have hi7 : i < 7 := by omega
      refine V_il i_X11_seatsTurned_2 rfl ?_
      refine V_al i_X11_seatsTurned_3 rfl ?_
      refine V_getI i_X11_seatsTurned_4 rfl ?_
      refine V_ic_ge_f i_X11_seatsTurned_7 (by rw [hz i]; exact nI_ge hi (by omega)) ?_
      refine V_al i_X11_seatsTurned_10 rfl ?_
      refine V_getR i_X11_seatsTurned_11 rfl rfl ?_
      refine V_il i_X11_seatsTurned_14 rfl ?_
      refine V_al i_X11_seatsTurned_15 rfl ?_
      refine V_getR i_X11_seatsTurned_16 rfl rfl ?_
      refine V_il i_X11_seatsTurned_19 rfl ?_
      refine V_il i_X11_seatsTurned_20 rfl ?_
      refine V_iadd i_X11_seatsTurned_21 ?_
      refine V_al i_X11_seatsTurned_22 rfl ?_
      refine V_getI i_X11_seatsTurned_23 rfl ?_
      rw [nI_add]
      rw [hz i]
      refine V_irem i_X11_seatsTurned_26 (nI_ne0 (by omega) (by omega)) ?_
      rw [pk_rem (by omega) (by omega) (by omega)]
      refine K_iald ((i + t) % n) i_X11_seatsTurned_27 rfl rfl (by have := Nat.mod_lt (i + t) (show 0 < n by omega); omega) (by omega) ?_
      refine K_iast i i_X11_seatsTurned_28 rfl rfl hi7 (by omega) ?_
      refine V_iinc (L' := [(0, _), (1, _), (2, _)]) (n' := 1) i_X11_seatsTurned_29 (by decide) rfl (by decide) ⟨rfl, rfl, rfl, trivial⟩ ?_
      refine V_goto i_X11_seatsTurned_32 ?_
      refine V_L (L' := [(0, _), (1, _), (2, _)]) ⟨rfl, rfl, rfl, trivial⟩ ?_
      rw [show nI i + 1 = nI (i + 1) from nI_1 i]
      have e : putI I 157 i (fun i => I 156 ((i + t) % n)) 156 ((i + t) % n) = (fun i => I 156 ((i + t) % n)) i := by unfold putI; rw [if_neg (by omega)]
      rw [e, putI_s]
      exact ih
  have h0 := key 0 (Nat.zero_le _)
  rw [putI_0] at h0
  exact h0
set_option maxRecDepth 100000 in
set_option maxHeartbeats 4000000 in
theorem c_M_turned (I : IntM) (J : LngM) {n : Nat} (hn : n ≤ 7) (hsz : I 146 19 = nI n) {t : Nat} (ht : t ≤ 100) : CtU 1 m_X11_seatsTurned [.ref 146, .int (nI t)] I J (putI I 157 n (fun i => I 156 ((i + t) % n))) J := by
  refine CtU_of (by decide) rfl (Nat.le_of_ble_eq_true rfl) ?_
  refine V_c i_X11_seatsTurned_0 ?_
  refine V_is (L' := [(0, _), (1, _), (2, _)]) i_X11_seatsTurned_1 (by decide) ⟨rfl, rfl, rfl, trivial⟩ ?_
  refine V_L (L' := [(0, _), (1, _), (2, _)]) ⟨rfl, rfl, rfl, trivial⟩ ?_
  exact lp_M_turned I J hn hsz ht _ ⟨rfl, rfl, rfl⟩
set_option maxRecDepth 100000 in
set_option maxHeartbeats 4000000 in
theorem c_M_swap (I : IntM) (J : LngM) {i j : Nat} (hi : i < 7) (hj : j < 7) : CtU 1 m_X11_swapSeats [.ref 146, .int (nI i), .int (nI j)] I J (uI (uI I 157 i (I 157 j)) 157 j (I 157 i)) J := by
  refine CtU_of (by decide) rfl (Nat.le_of_ble_eq_true rfl) ?_
  refine V_al i_X11_swapSeats_0 rfl ?_
  refine V_getR i_X11_swapSeats_1 rfl rfl ?_
  refine V_il i_X11_swapSeats_4 rfl ?_
  refine K_iald i i_X11_swapSeats_5 rfl rfl (by omega) (by omega) ?_
  refine V_is (L' := [(0, _), (1, _), (2, _), (3, _)]) i_X11_swapSeats_6 (by decide) ⟨rfl, rfl, rfl, rfl, trivial⟩ ?_
  refine V_al i_X11_swapSeats_7 rfl ?_
  refine V_getR i_X11_swapSeats_8 rfl rfl ?_
  refine V_il i_X11_swapSeats_11 rfl ?_
  refine V_al i_X11_swapSeats_12 rfl ?_
  refine V_getR i_X11_swapSeats_13 rfl rfl ?_
  refine V_il i_X11_swapSeats_16 rfl ?_
  refine K_iald j i_X11_swapSeats_17 rfl rfl (by omega) (by omega) ?_
  refine K_iast i i_X11_swapSeats_18 rfl rfl (by omega) (by omega) ?_
  refine V_al i_X11_swapSeats_19 rfl ?_
  refine V_getR i_X11_swapSeats_20 rfl rfl ?_
  refine V_il i_X11_swapSeats_23 rfl ?_
  refine V_il i_X11_swapSeats_24 rfl ?_
  refine K_iast j i_X11_swapSeats_25 rfl rfl (by omega) (by omega) ?_
  exact P_vret i_X11_swapSeats_26 rfl ⟨rfl, rfl, rfl⟩
set_option maxRecDepth 100000 in
set_option maxHeartbeats 4000000 in
theorem lp_M_with (I : IntM) (J : LngM) {n : Nat} (hn : n ≤ 7) (hsz : I 146 19 = nI n) {od : Nat → Nat} (hod : AtI I 156 n od) (hP : Pm n od) {pos k at' : Nat} (hpos : pos < n) (hk : od pos = k) (hat : at' < n) (Q : Option Value → IntM → LngM → Prop) (hq : ∀ I1, AtI I1 157 n (mvS od pos k at') → RowF I I1 157 n → Q none I1 J) : VP m_X11_seatsWith 1 5 [(0, .ref 146), (1, .int (nI k)), (2, .int (nI at')), (3, .int 0), (4, .int 0)] [] I J Q := by
  have key : ∀ i, i ≤ n → ∀ I1, (∀ p, p < i → I1 157 p = nI (mvS od pos k at' p)) → RowF I I1 157 n → VP m_X11_seatsWith 1 5 [(0, .ref 146), (1, .int (nI k)), (2, .int (nI at')), (3, .int (nI (nxt at' pos i))), (4, .int (nI i))] [] I1 J Q := by
    refine down n ?_ (fun i hi ih => ?_)
    · intro I1 hM hF
      refine V_il i_X11_seatsWith_5 rfl ?_
      refine V_al i_X11_seatsWith_7 rfl ?_
      refine V_getI i_X11_seatsWith_8 rfl ?_
      refine V_ic_ge_t i_X11_seatsWith_11 (by rw [hF _ _ (by omega), hsz]; exact Int32.le_refl _) ?_
      exact P_vret i_X11_seatsWith_71 rfl (hq I1 hM hF)
    · intro I1 hM hF
      have hi7 : i < 7 := by omega
      have hkn : k < n := by rw [← hk]; exact hP.1 pos hpos
      refine V_il i_X11_seatsWith_5 rfl ?_
      refine V_al i_X11_seatsWith_7 rfl ?_
      refine V_getI i_X11_seatsWith_8 rfl ?_
      refine V_ic_ge_f i_X11_seatsWith_11 (by rw [hF _ _ (by omega), hsz]; exact nI_ge hi (by omega)) ?_
      refine V_il i_X11_seatsWith_14 rfl ?_
      refine V_il i_X11_seatsWith_16 rfl ?_
      refine V_ic_ne i_X11_seatsWith_17 (fun c17 => ?_) (fun c17 => ?_)
      · rw [nI_eq (by omega) (by omega)] at c17
        refine V_il i_X11_seatsWith_31 rfl ?_
        refine V_al i_X11_seatsWith_32 rfl ?_
        refine V_getR i_X11_seatsWith_33 rfl rfl ?_
        refine V_il i_X11_seatsWith_36 rfl ?_
        have hnx : nxt at' pos i < n := by have := oth_lt hi hat c17; unfold nxt; split <;> omega
        refine K_iald (nxt at' pos i) i_X11_seatsWith_37 rfl rfl (by omega) (by omega) ?_
        rw [hF _ _ (by omega), hod _ hnx]
        refine V_il i_X11_seatsWith_38 rfl ?_
        refine V_ic_ne i_X11_seatsWith_39 (fun c39 => ?_) (fun c39 => ?_)
        · rw [nI_eq (by have := hP.1 _ hnx; omega) (by omega)] at c39
          have c39 : ¬ nxt at' pos i = pos := fun q => c39 (by rw [q]; exact hk)
          refine V_c i_X11_seatsWith_46 ?_
          refine V_iadd i_X11_seatsWith_47 ?_
          obtain ⟨q, hq9⟩ : ∃ q, q = nxt at' pos i + 0 := ⟨_, rfl⟩
          rw [show nI (nxt at' pos i) + 0 = nI q from by rw [hq9]; exact nI_add _ 0]
          obtain ⟨n1, n2, n3, n4⟩ := nxt_s c17 (at' := pos) (q := q) (Or.inr ⟨c39, hq9⟩)
          have hqn : q < n := by have := oth_lt hi hat c17; split at n4 <;> omega
          refine V_is (L' := [(0, _), (1, _), (2, _), (3, _), (4, _)]) i_X11_seatsWith_48 (by decide) ⟨rfl, rfl, rfl, rfl, rfl, trivial⟩ ?_
          refine V_al i_X11_seatsWith_49 rfl ?_
          refine V_getR i_X11_seatsWith_50 rfl rfl ?_
          refine V_il i_X11_seatsWith_53 rfl ?_
          refine V_al i_X11_seatsWith_55 rfl ?_
          refine V_getR i_X11_seatsWith_56 rfl rfl ?_
          refine V_il i_X11_seatsWith_59 rfl ?_
          refine K_iald q i_X11_seatsWith_60 rfl rfl (by omega) (by omega) ?_
          rw [hF _ _ (by omega), hod _ hqn]
          refine K_iast i i_X11_seatsWith_61 rfl rfl hi7 (by omega) ?_
          refine V_iinc (L' := [(0, _), (1, _), (2, _), (3, _), (4, _)]) (n' := 1) i_X11_seatsWith_62 (by decide) rfl (by decide) ⟨rfl, rfl, rfl, rfl, rfl, trivial⟩ ?_
          refine V_iinc (L' := [(0, _), (1, _), (2, _), (3, _), (4, _)]) (n' := 1) i_X11_seatsWith_65 (by decide) rfl (by decide) ⟨rfl, rfl, rfl, rfl, rfl, trivial⟩ ?_
          refine V_goto i_X11_seatsWith_68 ?_
          refine V_L (L' := [(0, _), (1, _), (2, _), (3, _), (4, _)]) ⟨rfl, rfl, rfl, rfl, rfl, trivial⟩ ?_
          rw [show nI i + 1 = nI (i + 1) from nI_1 i, nI_1 q, ← n1]
          refine ih _ (fun p hp => ?_) (RowF.u hF hi)
          by_cases hpi : p = i
          · rw [hpi, uI_eq]
            congr 1
            unfold mvS
            rw [if_neg c17]
            have e3 : (if i < at' then i else i - 1) = oth at' i := by unfold oth; split <;> split <;> omega
            rw [e3]
            by_cases h8 : q < pos
            · rw [if_pos h8] at n4
              rw [if_pos (by omega), n4]
            · rw [if_neg h8] at n4
              rw [if_neg (by omega), ← n4, show q - 1 + 1 = q by omega]
          · rw [uI_ne _ _ (fun z => hpi (by cases z; rfl))]; exact hM p (by omega)
        · rw [nI_eq (by have := hP.1 _ hnx; omega) (by omega)] at c39
          have c39 : nxt at' pos i = pos := hP.2 _ _ hnx hpos (c39.trans hk.symm)
          refine V_c i_X11_seatsWith_42 ?_
          refine V_goto i_X11_seatsWith_43 ?_
          refine V_iadd i_X11_seatsWith_47 ?_
          obtain ⟨q, hq9⟩ : ∃ q, q = nxt at' pos i + 1 := ⟨_, rfl⟩
          rw [show nI (nxt at' pos i) + 1 = nI q from by rw [hq9]; exact nI_add _ 1]
          obtain ⟨n1, n2, n3, n4⟩ := nxt_s c17 (at' := pos) (q := q) (Or.inl ⟨c39, hq9⟩)
          have hqn : q < n := by have := oth_lt hi hat c17; split at n4 <;> omega
          refine V_is (L' := [(0, _), (1, _), (2, _), (3, _), (4, _)]) i_X11_seatsWith_48 (by decide) ⟨rfl, rfl, rfl, rfl, rfl, trivial⟩ ?_
          refine V_al i_X11_seatsWith_49 rfl ?_
          refine V_getR i_X11_seatsWith_50 rfl rfl ?_
          refine V_il i_X11_seatsWith_53 rfl ?_
          refine V_al i_X11_seatsWith_55 rfl ?_
          refine V_getR i_X11_seatsWith_56 rfl rfl ?_
          refine V_il i_X11_seatsWith_59 rfl ?_
          refine K_iald q i_X11_seatsWith_60 rfl rfl (by omega) (by omega) ?_
          rw [hF _ _ (by omega), hod _ hqn]
          refine K_iast i i_X11_seatsWith_61 rfl rfl hi7 (by omega) ?_
          refine V_iinc (L' := [(0, _), (1, _), (2, _), (3, _), (4, _)]) (n' := 1) i_X11_seatsWith_62 (by decide) rfl (by decide) ⟨rfl, rfl, rfl, rfl, rfl, trivial⟩ ?_
          refine V_iinc (L' := [(0, _), (1, _), (2, _), (3, _), (4, _)]) (n' := 1) i_X11_seatsWith_65 (by decide) rfl (by decide) ⟨rfl, rfl, rfl, rfl, rfl, trivial⟩ ?_
          refine V_goto i_X11_seatsWith_68 ?_
          refine V_L (L' := [(0, _), (1, _), (2, _), (3, _), (4, _)]) ⟨rfl, rfl, rfl, rfl, rfl, trivial⟩ ?_
          rw [show nI i + 1 = nI (i + 1) from nI_1 i, nI_1 q, ← n1]
          refine ih _ (fun p hp => ?_) (RowF.u hF hi)
          by_cases hpi : p = i
          · rw [hpi, uI_eq]
            congr 1
            unfold mvS
            rw [if_neg c17]
            have e3 : (if i < at' then i else i - 1) = oth at' i := by unfold oth; split <;> split <;> omega
            rw [e3]
            by_cases h8 : q < pos
            · rw [if_pos h8] at n4
              rw [if_pos (by omega), n4]
            · rw [if_neg h8] at n4
              rw [if_neg (by omega), ← n4, show q - 1 + 1 = q by omega]
          · rw [uI_ne _ _ (fun z => hpi (by cases z; rfl))]; exact hM p (by omega)
      · rw [nI_eq (by omega) (by omega)] at c17
        refine V_al i_X11_seatsWith_20 rfl ?_
        refine V_getR i_X11_seatsWith_21 rfl rfl ?_
        refine V_il i_X11_seatsWith_24 rfl ?_
        refine V_il i_X11_seatsWith_26 rfl ?_
        refine K_iast i i_X11_seatsWith_27 rfl rfl hi7 (by omega) ?_
        refine V_goto i_X11_seatsWith_28 ?_
        refine V_iinc (L' := [(0, _), (1, _), (2, _), (3, _), (4, _)]) (n' := 1) i_X11_seatsWith_65 (by decide) rfl (by decide) ⟨rfl, rfl, rfl, rfl, rfl, trivial⟩ ?_
        refine V_goto i_X11_seatsWith_68 ?_
        refine V_L (L' := [(0, _), (1, _), (2, _), (3, _), (4, _)]) ⟨rfl, rfl, rfl, rfl, rfl, trivial⟩ ?_
        rw [show nI i + 1 = nI (i + 1) from nI_1 i]
        have e0 : oth at' (i + 1) = oth at' i := by rw [c17]; unfold oth; rw [if_neg (by omega), if_pos (Nat.le_refl _)]; omega
        have e : nxt at' pos (i + 1) = nxt at' pos i := by unfold nxt; rw [e0]
        rw [← e]
        refine ih _ (fun p hp => ?_) (RowF.u hF hi)
        by_cases hpi : p = i
        · rw [hpi, uI_eq, c17]; unfold mvS; rw [if_pos rfl]
        · rw [uI_ne _ _ (fun z => hpi (by cases z; rfl))]; exact hM p (by omega)
  have h0 := key 0 (Nat.zero_le _) I (fun p hp => by omega) RowF.rf
  rw [show nxt at' pos 0 = 0 from by unfold nxt oth; split <;> split <;> omega] at h0
  exact h0
set_option maxRecDepth 100000 in
set_option maxHeartbeats 4000000 in
theorem c_M_with (I : IntM) (J : LngM) {n : Nat} (hn : n ≤ 7) (hsz : I 146 19 = nI n) {od : Nat → Nat} (hod : AtI I 156 n od) (hP : Pm n od) {pos k at' : Nat} (hpos : pos < n) (hk : od pos = k) (hat : at' < n) : CtP 1 m_X11_seatsWith [.ref 146, .int (nI k), .int (nI at')] I J (fun r I1 J1 => r = none ∧ J1 = J ∧ AtI I1 157 n (mvS od pos k at') ∧ RowF I I1 157 n) := by
  refine CtP_of (by decide) rfl (Nat.le_of_ble_eq_true rfl) ?_
  refine V_c i_X11_seatsWith_0 ?_
  refine V_is (L' := [(0, _), (1, _), (2, _), (3, _)]) i_X11_seatsWith_1 (by decide) ⟨rfl, rfl, rfl, rfl, trivial⟩ ?_
  refine V_c i_X11_seatsWith_2 ?_
  refine V_is (L' := [(0, _), (1, _), (2, _), (3, _), (4, _)]) i_X11_seatsWith_3 (by decide) ⟨rfl, rfl, rfl, rfl, rfl, trivial⟩ ?_
  refine V_L (L' := [(0, _), (1, _), (2, _), (3, _), (4, _)]) ⟨rfl, rfl, rfl, rfl, rfl, trivial⟩ ?_
  exact lp_M_with I J hn hsz hod hP hpos hk hat _ (fun I1 h1 h2 => ⟨rfl, rfl, h1, h2⟩)
set_option maxRecDepth 100000 in
set_option maxHeartbeats 4000000 in
theorem lp_M_place (I : IntM) (J : LngM) {n : Nat} (hn : n ≤ 7) (hsz : I 146 19 = nI n) {od : Nat → Nat} (hod : AtI I 156 n od) (hP : Pm n od) {k : Nat} (hk : k < n) (Q : Option Value → IntM → LngM → Prop) (hq : Q (some (.int (nI (plN od k n)))) I J) : VP m_X11_placeOf 1 4 [(0, .ref 146), (1, .int (nI k)), (2, .int 0), (3, .int 0)] [] I J Q := by
  have key : ∀ i, i ≤ n → VP m_X11_placeOf 1 4 [(0, .ref 146), (1, .int (nI k)), (2, .int (nI (plN od k i))), (3, .int (nI i))] [] I J Q := by
    refine down n ?_ (fun i hi ih => ?_)
    · refine V_il i_X11_placeOf_4 rfl ?_
      refine V_al i_X11_placeOf_5 rfl ?_
      refine V_getI i_X11_placeOf_6 rfl ?_
      refine V_ic_ge_t i_X11_placeOf_9 (by rw [hsz]; exact Int32.le_refl _) ?_
      refine V_il i_X11_placeOf_34 rfl ?_
      exact P_iret i_X11_placeOf_35 rfl hq
    · have hi7 : i < 7 := by omega
      refine V_il i_X11_placeOf_4 rfl ?_
      refine V_al i_X11_placeOf_5 rfl ?_
      refine V_getI i_X11_placeOf_6 rfl ?_
      refine V_ic_ge_f i_X11_placeOf_9 (by rw [hsz]; exact nI_ge hi (by omega)) ?_
      refine V_al i_X11_placeOf_12 rfl ?_
      refine V_getR i_X11_placeOf_13 rfl rfl ?_
      refine V_il i_X11_placeOf_16 rfl ?_
      refine K_iald i i_X11_placeOf_17 rfl rfl hi7 (by omega) ?_
      rw [hod i hi]
      refine V_il i_X11_placeOf_18 rfl ?_
      refine V_ic_ne i_X11_placeOf_19 (fun c19 => ?_) (fun c19 => ?_)
      · rw [nI_eq (by have := hP.1 i hi; omega) (by omega)] at c19
        refine V_il i_X11_placeOf_26 rfl ?_
        refine V_is (L' := [(0, _), (1, _), (2, _), (3, _)]) i_X11_placeOf_27 (by decide) ⟨rfl, rfl, rfl, rfl, trivial⟩ ?_
        refine V_iinc (L' := [(0, _), (1, _), (2, _), (3, _)]) (n' := 1) i_X11_placeOf_28 (by decide) rfl (by decide) ⟨rfl, rfl, rfl, rfl, trivial⟩ ?_
        refine V_goto i_X11_placeOf_31 ?_
        refine V_L (L' := [(0, _), (1, _), (2, _), (3, _)]) ⟨rfl, rfl, rfl, rfl, trivial⟩ ?_
        rw [show nI i + 1 = nI (i + 1) from nI_1 i]
        rw [show plN od k (i + 1) = plN od k i from if_neg c19] at ih
        exact ih
      · rw [nI_eq (by have := hP.1 i hi; omega) (by omega)] at c19
        refine V_il i_X11_placeOf_22 rfl ?_
        refine V_goto i_X11_placeOf_23 ?_
        refine V_is (L' := [(0, _), (1, _), (2, _), (3, _)]) i_X11_placeOf_27 (by decide) ⟨rfl, rfl, rfl, rfl, trivial⟩ ?_
        refine V_iinc (L' := [(0, _), (1, _), (2, _), (3, _)]) (n' := 1) i_X11_placeOf_28 (by decide) rfl (by decide) ⟨rfl, rfl, rfl, rfl, trivial⟩ ?_
        refine V_goto i_X11_placeOf_31 ?_
        refine V_L (L' := [(0, _), (1, _), (2, _), (3, _)]) ⟨rfl, rfl, rfl, rfl, trivial⟩ ?_
        rw [show nI i + 1 = nI (i + 1) from nI_1 i]
        rw [show plN od k (i + 1) = i from if_pos c19] at ih
        exact ih
  exact key 0 (Nat.zero_le _)
set_option maxRecDepth 100000 in
set_option maxHeartbeats 4000000 in
theorem c_M_place (I : IntM) (J : LngM) {n : Nat} (hn : n ≤ 7) (hsz : I 146 19 = nI n) {od : Nat → Nat} (hod : AtI I 156 n od) (hP : Pm n od) {k : Nat} (hk : k < n) : CtV 1 m_X11_placeOf [.ref 146, .int (nI k)] I J (.int (nI (plN od k n))) I J := by
  refine CtV_of (by decide) rfl (Nat.le_of_ble_eq_true rfl) ?_
  refine V_c i_X11_placeOf_0 ?_
  refine V_is (L' := [(0, _), (1, _), (2, _)]) i_X11_placeOf_1 (by decide) ⟨rfl, rfl, rfl, trivial⟩ ?_
  refine V_c i_X11_placeOf_2 ?_
  refine V_is (L' := [(0, _), (1, _), (2, _), (3, _)]) i_X11_placeOf_3 (by decide) ⟨rfl, rfl, rfl, rfl, trivial⟩ ?_
  refine V_L (L' := [(0, _), (1, _), (2, _), (3, _)]) ⟨rfl, rfl, rfl, rfl, trivial⟩ ?_
  exact lp_M_place I J hn hsz hod hP hk _ ⟨rfl, rfl, rfl⟩
set_option maxRecDepth 100000 in
set_option maxHeartbeats 4000000 in
theorem c_M_eaterBy0 (I : IntM) (J : LngM) {n : Nat} {kd nd : Nat → Nat} (hn : n ≤ 7) (hM : MCo I n kd nd) {od : Nat → Nat} (hod : AtI I 156 n od) (hP : Pm n od) {k : Nat} (hk : k < n) : CtV 2 m_X11_eaterBy [.ref 146, .int (nI k), .int (nI 0)] I J (.int (nI (abN kd nd od n k 0))) I J := by
  refine CtV_of (by decide) rfl (Nat.le_of_ble_eq_true rfl) ?_
  refine V_il i_X11_eaterBy_0 rfl ?_
  refine V_if_ne_f i_X11_eaterBy_1 rfl ?_
  refine V_al i_X11_eaterBy_4 rfl ?_
  refine V_getR i_X11_eaterBy_5 rfl rfl ?_
  refine V_il i_X11_eaterBy_8 rfl ?_
  refine K_iald k i_X11_eaterBy_9 rfl rfl (by omega) (by omega) ?_
  rw [hM.2.1 k hk]
  refine V_goto i_X11_eaterBy_10 ?_
  exact P_iret i_X11_eaterBy_32 rfl ⟨rfl, rfl, rfl⟩
set_option maxRecDepth 100000 in
set_option maxHeartbeats 4000000 in
theorem c_M_eaterBy1 (I : IntM) (J : LngM) {n : Nat} {kd nd : Nat → Nat} (hn : n ≤ 7) (hM : MCo I n kd nd) {od : Nat → Nat} (hod : AtI I 156 n od) (hP : Pm n od) {k : Nat} (hk : k < n) : CtV 2 m_X11_eaterBy [.ref 146, .int (nI k), .int (nI 1)] I J (.int (nI (abN kd nd od n k 1))) I J := by
  refine CtV_of (by decide) rfl (Nat.le_of_ble_eq_true rfl) ?_
  refine V_il i_X11_eaterBy_0 rfl ?_
  refine V_if_ne_t i_X11_eaterBy_1 (by decide) ?_
  refine V_il i_X11_eaterBy_13 rfl ?_
  refine V_c i_X11_eaterBy_14 ?_
  refine V_ic_ne_f i_X11_eaterBy_15 rfl ?_
  refine V_al i_X11_eaterBy_18 rfl ?_
  refine V_getR i_X11_eaterBy_19 rfl rfl ?_
  refine V_il i_X11_eaterBy_22 rfl ?_
  refine K_iald k i_X11_eaterBy_23 rfl rfl (by omega) (by omega) ?_
  rw [hM.2.2 k hk]
  refine V_goto i_X11_eaterBy_24 ?_
  exact P_iret i_X11_eaterBy_32 rfl ⟨rfl, rfl, rfl⟩
set_option maxRecDepth 100000 in
set_option maxHeartbeats 4000000 in
theorem c_M_eaterBy2 (I : IntM) (J : LngM) {n : Nat} {kd nd : Nat → Nat} (hn : n ≤ 7) (hM : MCo I n kd nd) {od : Nat → Nat} (hod : AtI I 156 n od) (hP : Pm n od) {k : Nat} (hk : k < n) : CtV 2 m_X11_eaterBy [.ref 146, .int (nI k), .int (nI 2)] I J (.int (nI (abN kd nd od n k 2))) I J := by
  refine CtV_of (by decide) rfl (Nat.le_of_ble_eq_true rfl) ?_
  refine V_il i_X11_eaterBy_0 rfl ?_
  refine V_if_ne_t i_X11_eaterBy_1 (by decide) ?_
  refine V_il i_X11_eaterBy_13 rfl ?_
  refine V_c i_X11_eaterBy_14 ?_
  refine V_ic_ne_t i_X11_eaterBy_15 (by decide) ?_
  refine V_al i_X11_eaterBy_27 rfl ?_
  refine V_il i_X11_eaterBy_28 rfl ?_
  refine P_callV1v i_X11_eaterBy_29 mi_X11_placeOf rfl ⟨_, _, rfl⟩ (by decide) (Nat.le_of_ble_eq_true rfl) (c_M_place _ _ hn hM.1 hod hP hk) ?_
  exact P_iret i_X11_eaterBy_32 rfl ⟨rfl, rfl, rfl⟩
theorem c_M_eaterBy (I : IntM) (J : LngM) {n : Nat} {kd nd : Nat → Nat} (hn : n ≤ 7) (hM : MCo I n kd nd) {od : Nat → Nat} (hod : AtI I 156 n od) (hP : Pm n od) {k what : Nat} (hk : k < n) (hw : what ≤ 2) : CtV 2 m_X11_eaterBy [.ref 146, .int (nI k), .int (nI what)] I J (.int (nI (abN kd nd od n k what))) I J := by
  obtain rfl | rfl | rfl : what = 0 ∨ what = 1 ∨ what = 2 := by omega
  · exact c_M_eaterBy0 I J hn hM hod hP hk
  · exact c_M_eaterBy1 I J hn hM hod hP hk
  · exact c_M_eaterBy2 I J hn hM hod hP hk
set_option maxRecDepth 100000 in
set_option maxHeartbeats 4000000 in
theorem c_M_isOf (I : IntM) (J : LngM) {n : Nat} {kd nd : Nat → Nat} (hn : n ≤ 7) (hM : MCo I n kd nd) (hkd : ∀ k, k < n → kd k ≤ 5) {k kind : Nat} (hk : k < n) (hki : kind ≤ 5) : CtV 1 m_X11_isOf [.ref 146, .int (nI k), .int (nI kind)] I J (.int (if isK kd kind k = true then 1 else 0)) I J := by
  refine CtV_of (by decide) rfl (Nat.le_of_ble_eq_true rfl) ?_
  refine V_al i_X11_isOf_0 rfl ?_
  refine V_getR i_X11_isOf_1 rfl rfl ?_
  refine V_il i_X11_isOf_4 rfl ?_
  refine K_iald k i_X11_isOf_5 rfl rfl (by omega) (by omega) ?_
  rw [hM.2.1 k hk]
  refine V_il i_X11_isOf_6 rfl ?_
  refine V_ic_eq i_X11_isOf_7 (fun c7 => ?_) (fun c7 => ?_)
  · rw [nI_eq (by have := hkd k hk; omega) (by omega)] at c7
    refine V_c i_X11_isOf_25 ?_
    refine V_goto i_X11_isOf_26 ?_
    exact P_zret i_X11_isOf_30 rfl (by decide) ⟨by simp only [isK, decide_eq_true_eq]; first | rw [if_pos (by omega)] | rw [if_neg (by omega)], rfl, rfl⟩
  · rw [nI_eq (by have := hkd k hk; omega) (by omega)] at c7
    refine V_il i_X11_isOf_10 rfl ?_
    refine V_c i_X11_isOf_11 ?_
    refine V_ic_ne i_X11_isOf_12 (fun c12 => ?_) (fun c12 => ?_)
    · rw [show (1 : Int32) = nI 1 from rfl, nI_eq (by omega) (by decide)] at c12
      refine V_c i_X11_isOf_29 ?_
      exact P_zret i_X11_isOf_30 rfl (by decide) ⟨by simp only [isK, decide_eq_true_eq]; first | rw [if_pos (by omega)] | rw [if_neg (by omega)], rfl, rfl⟩
    · rw [show (1 : Int32) = nI 1 from rfl, nI_eq (by omega) (by decide)] at c12
      refine V_al i_X11_isOf_15 rfl ?_
      refine V_getR i_X11_isOf_16 rfl rfl ?_
      refine V_il i_X11_isOf_19 rfl ?_
      refine K_iald k i_X11_isOf_20 rfl rfl (by omega) (by omega) ?_
      rw [hM.2.1 k hk]
      refine V_c i_X11_isOf_21 ?_
      refine V_ic_ne i_X11_isOf_22 (fun c22 => ?_) (fun c22 => ?_)
      · rw [show (5 : Int32) = nI 5 from rfl, nI_eq (by have := hkd k hk; omega) (by decide)] at c22
        refine V_c i_X11_isOf_29 ?_
        exact P_zret i_X11_isOf_30 rfl (by decide) ⟨by simp only [isK, decide_eq_true_eq]; first | rw [if_pos (by omega)] | rw [if_neg (by omega)], rfl, rfl⟩
      · rw [show (5 : Int32) = nI 5 from rfl, nI_eq (by have := hkd k hk; omega) (by decide)] at c22
        refine V_c i_X11_isOf_25 ?_
        refine V_goto i_X11_isOf_26 ?_
        exact P_zret i_X11_isOf_30 rfl (by decide) ⟨by simp only [isK, decide_eq_true_eq]; first | rw [if_pos (by omega)] | rw [if_neg (by omega)], rfl, rfl⟩
set_option maxRecDepth 100000 in
set_option maxHeartbeats 4000000 in
theorem lp_M_cset (I : IntM) (J : LngM) {n : Nat} {kd nd : Nat → Nat} (hn : n ≤ 7) (hM : MCo I n kd nd) (hkd : ∀ k, k < n → kd k ≤ 5) (Q : Option Value → IntM → LngM → Prop) (hq : Q (some (.int (nI (setN (isK kd 2) n)))) I J) : VP m_X11_cheatSet 1 4 [(0, .ref 146), (1, .int 0), (2, .int 0)] [] I J Q := by
  have key : ∀ i, i ≤ n → VP m_X11_cheatSet 1 4 [(0, .ref 146), (1, .int (nI (setN (isK kd 2) i))), (2, .int (nI i))] [] I J Q := by
    refine down n ?_ (fun i hi ih => ?_)
    · refine V_il i_X11_cheatSet_4 rfl ?_
      refine V_al i_X11_cheatSet_5 rfl ?_
      refine V_getI i_X11_cheatSet_6 rfl ?_
      refine V_ic_ge_t i_X11_cheatSet_9 (by rw [hM.1]; exact Int32.le_refl _) ?_
      refine V_il i_X11_cheatSet_38 rfl ?_
      exact P_iret i_X11_cheatSet_39 rfl hq
    · have hi7 : i < 7 := by omega
      refine V_il i_X11_cheatSet_4 rfl ?_
      refine V_al i_X11_cheatSet_5 rfl ?_
      refine V_getI i_X11_cheatSet_6 rfl ?_
      refine V_ic_ge_f i_X11_cheatSet_9 (by rw [hM.1]; exact nI_ge hi (by omega)) ?_
      refine V_il i_X11_cheatSet_12 rfl ?_
      refine V_al i_X11_cheatSet_13 rfl ?_
      refine V_getR i_X11_cheatSet_14 rfl rfl ?_
      refine V_il i_X11_cheatSet_17 rfl ?_
      refine K_iald i i_X11_cheatSet_18 rfl rfl hi7 (by omega) ?_
      rw [hM.2.1 i hi]
      refine V_c i_X11_cheatSet_19 ?_
      refine V_ic_ne i_X11_cheatSet_20 (fun c20 => ?_) (fun c20 => ?_)
      · rw [show (2 : Int32) = nI 2 from rfl, nI_eq (by have := hkd i hi; omega) (by decide)] at c20
        have c20 : ¬ isK kd 2 i = true := by simp only [isK, decide_eq_true_eq]; omega
        refine V_c i_X11_cheatSet_29 ?_
        refine V_ior i_X11_cheatSet_30 ?_
        rw [or_z]
        refine V_is (L' := [(0, _), (1, _), (2, _)]) i_X11_cheatSet_31 (by decide) ⟨rfl, rfl, rfl, trivial⟩ ?_
        refine V_iinc (L' := [(0, _), (1, _), (2, _)]) (n' := 1) i_X11_cheatSet_32 (by decide) rfl (by decide) ⟨rfl, rfl, rfl, trivial⟩ ?_
        refine V_goto i_X11_cheatSet_35 ?_
        refine V_L (L' := [(0, _), (1, _), (2, _)]) ⟨rfl, rfl, rfl, trivial⟩ ?_
        rw [show nI i + 1 = nI (i + 1) from nI_1 i]
        rw [show setN (isK kd 2) (i + 1) = setN (isK kd 2) i from if_neg c20] at ih
        exact ih
      · rw [show (2 : Int32) = nI 2 from rfl, nI_eq (by have := hkd i hi; omega) (by decide)] at c20
        have c20 : isK kd 2 i = true := by simp only [isK, decide_eq_true_eq]; omega
        refine V_c i_X11_cheatSet_23 ?_
        refine V_il i_X11_cheatSet_24 rfl ?_
        refine V_ishl i_X11_cheatSet_25 ?_
        refine V_goto i_X11_cheatSet_26 ?_
        refine V_ior i_X11_cheatSet_30 ?_
        rw [shl1 hi7, or_nI]
        refine V_is (L' := [(0, _), (1, _), (2, _)]) i_X11_cheatSet_31 (by decide) ⟨rfl, rfl, rfl, trivial⟩ ?_
        refine V_iinc (L' := [(0, _), (1, _), (2, _)]) (n' := 1) i_X11_cheatSet_32 (by decide) rfl (by decide) ⟨rfl, rfl, rfl, trivial⟩ ?_
        refine V_goto i_X11_cheatSet_35 ?_
        refine V_L (L' := [(0, _), (1, _), (2, _)]) ⟨rfl, rfl, rfl, trivial⟩ ?_
        rw [show nI i + 1 = nI (i + 1) from nI_1 i]
        rw [show setN (isK kd 2) (i + 1) = setN (isK kd 2) i ||| 2 ^ i from if_pos c20] at ih
        exact ih
  exact key 0 (Nat.zero_le _)
set_option maxRecDepth 100000 in
set_option maxHeartbeats 4000000 in
theorem c_M_cset (I : IntM) (J : LngM) {n : Nat} {kd nd : Nat → Nat} (hn : n ≤ 7) (hM : MCo I n kd nd) (hkd : ∀ k, k < n → kd k ≤ 5) : CtV 1 m_X11_cheatSet [.ref 146] I J (.int (nI (setN (isK kd 2) n))) I J := by
  refine CtV_of (by decide) rfl (Nat.le_of_ble_eq_true rfl) ?_
  refine V_c i_X11_cheatSet_0 ?_
  refine V_is (L' := [(0, _), (1, _)]) i_X11_cheatSet_1 (by decide) ⟨rfl, rfl, trivial⟩ ?_
  refine V_c i_X11_cheatSet_2 ?_
  refine V_is (L' := [(0, _), (1, _), (2, _)]) i_X11_cheatSet_3 (by decide) ⟨rfl, rfl, rfl, trivial⟩ ?_
  refine V_L (L' := [(0, _), (1, _), (2, _)]) ⟨rfl, rfl, rfl, trivial⟩ ?_
  exact lp_M_cset I J hn hM hkd _ ⟨rfl, rfl, rfl⟩
theorem shr_tab : ∀ w, w < 128 → ∀ k, k < 7 → (nI w >>> (nI k &&& 31) &&& 1) = (if w.testBit k = true then nI 1 else nI 0) := by decide +kernel
set_option maxRecDepth 100000 in
set_option maxHeartbeats 4000000 in
theorem lp_M_ones (I : IntM) (J : LngM) {s : Nat} (hs : s < 128) (Q : Option Value → IntM → LngM → Prop) (hq : Q (some (.int (nI (popc s)))) I J) : VP m_X11_ones 1 4 [(0, .int (nI s)), (1, .int 0), (2, .int 0)] [] I J Q := by
  have key : ∀ i, i ≤ 7 → VP m_X11_ones 1 4 [(0, .int (nI s)), (1, .int (nI (cntN (fun k => s.testBit k) i))), (2, .int (nI i))] [] I J Q := by
    refine down 7 ?_ (fun i hi ih => ?_)
    · refine V_il i_X11_ones_4 rfl ?_
      refine V_c i_X11_ones_5 ?_
      refine V_ic_ge_t i_X11_ones_7 (by decide) ?_
      refine V_il i_X11_ones_24 rfl ?_
      exact P_iret i_X11_ones_25 rfl hq
    · refine V_il i_X11_ones_4 rfl ?_
      refine V_c i_X11_ones_5 ?_
      refine V_ic_ge_f i_X11_ones_7 (by rw [show (7 : Int32) = nI 7 from rfl]; exact nI_ge hi (by omega)) ?_
      refine V_il i_X11_ones_10 rfl ?_
      refine V_il i_X11_ones_11 rfl ?_
      refine V_il i_X11_ones_12 rfl ?_
      refine V_ishr i_X11_ones_13 ?_
      refine V_c i_X11_ones_14 ?_
      refine V_iand i_X11_ones_15 ?_
      rw [shr_tab s hs i hi]
      refine V_iadd i_X11_ones_16 ?_
      rw [show nI (cntN (fun k => s.testBit k) i) + (if s.testBit i = true then nI 1 else nI 0) = nI (cntN (fun k => s.testBit k) (i + 1)) from by show _ = nI (if s.testBit i = true then cntN (fun k => s.testBit k) i + 1 else cntN (fun k => s.testBit k) i); split; exact nI_add _ 1; exact nI_add _ 0]
      refine V_is (L' := [(0, _), (1, _), (2, _)]) i_X11_ones_17 (by decide) ⟨rfl, rfl, rfl, trivial⟩ ?_
      refine V_iinc (L' := [(0, _), (1, _), (2, _)]) (n' := 1) i_X11_ones_18 (by decide) rfl (by decide) ⟨rfl, rfl, rfl, trivial⟩ ?_
      refine V_goto i_X11_ones_21 ?_
      refine V_L (L' := [(0, _), (1, _), (2, _)]) ⟨rfl, rfl, rfl, trivial⟩ ?_
      rw [show nI i + 1 = nI (i + 1) from nI_1 i]
      exact ih
  exact key 0 (Nat.zero_le _)
set_option maxRecDepth 100000 in
set_option maxHeartbeats 4000000 in
theorem c_M_ones (I : IntM) (J : LngM) {s : Nat} (hs : s < 128) : CtV 1 m_X11_ones [.int (nI s)] I J (.int (nI (popc s))) I J := by
  refine CtV_of (by decide) rfl (Nat.le_of_ble_eq_true rfl) ?_
  refine V_c i_X11_ones_0 ?_
  refine V_is (L' := [(0, _), (1, _)]) i_X11_ones_1 (by decide) ⟨rfl, rfl, trivial⟩ ?_
  refine V_c i_X11_ones_2 ?_
  refine V_is (L' := [(0, _), (1, _), (2, _)]) i_X11_ones_3 (by decide) ⟨rfl, rfl, rfl, trivial⟩ ?_
  refine V_L (L' := [(0, _), (1, _), (2, _)]) ⟨rfl, rfl, rfl, trivial⟩ ?_
  exact lp_M_ones I J hs _ ⟨rfl, rfl, rfl⟩
set_option maxRecDepth 100000 in
set_option maxHeartbeats 4000000 in
theorem c_M_tellsSet (I : IntM) (J : LngM) {s : Nat} (hs : s < 128) : CtV 2 m_X11_tellsSet [.ref 146, .int (nI s)] I J (.int (nI s)) (uI I 146 2 (nI (popc s))) J := by
  refine CtV_of (by decide) rfl (Nat.le_of_ble_eq_true rfl) ?_
  refine V_al i_X11_tellsSet_0 rfl ?_
  refine V_il i_X11_tellsSet_1 rfl ?_
  refine P_callS1v i_X11_tellsSet_2 ms_X11_ones (by decide) (Nat.le_of_ble_eq_true rfl) (c_M_ones _ _ hs) ?_
  refine V_putI i_X11_tellsSet_5 rfl ?_
  refine V_il i_X11_tellsSet_8 rfl ?_
  exact P_iret i_X11_tellsSet_9 rfl ⟨rfl, rfl, rfl⟩
set_option maxRecDepth 100000 in
set_option maxHeartbeats 4000000 in
theorem lp_M_nx1 (I : IntM) (J : LngM) {n : Nat} {ln : Nat → Nat} (h1 : 1 ≤ n) (hn : n ≤ 7) (hsz : I 146 19 = nI n) (hA : AtI I 157 n ln) (hP : Pm n ln) (Q : Option Value → IntM → LngM → Prop) : ∀ m, m ≤ n - 1 → VP m_X11_nextSeats 2 34 [(0, .ref 146), (1, .int (nI (fi ln m) - 1))] [] I J Q → VP m_X11_nextSeats 2 7 [(0, .ref 146), (1, .int (nI m - 1))] [] I J Q := by
  intro m
  induction m with
  | zero =>
    intro _ hq
    refine V_il i_X11_nextSeats_7 rfl ?_
    refine V_if_lt_t i_X11_nextSeats_8 (by decide) ?_
    exact hq
  | succ m ih =>
    intro hm hq
    refine V_il i_X11_nextSeats_7 rfl ?_
    refine V_if_lt_f i_X11_nextSeats_8 (by rw [nI_m1]; exact nI_pos (by omega)) ?_
    refine V_al i_X11_nextSeats_11 rfl ?_
    refine V_getR i_X11_nextSeats_12 rfl rfl ?_
    refine V_il i_X11_nextSeats_15 rfl ?_
    rw [nI_m1]
    refine K_iald m i_X11_nextSeats_16 rfl rfl (by omega) (by omega) ?_
    rw [hA m (by omega)]
    refine V_al i_X11_nextSeats_17 rfl ?_
    refine V_getR i_X11_nextSeats_18 rfl rfl ?_
    refine V_il i_X11_nextSeats_21 rfl ?_
    refine V_c i_X11_nextSeats_22 ?_
    refine V_iadd i_X11_nextSeats_23 ?_
    rw [nI_1]
    refine K_iald (m + 1) i_X11_nextSeats_24 rfl rfl (by omega) (by omega) ?_
    rw [hA (m + 1) (by omega)]
    refine V_ic_le i_X11_nextSeats_25 (fun c25 => ?_) (fun c25 => ?_)
    · rw [nI_leI (by have := hP.1 m (by omega); omega) (by have := hP.1 (m + 1) (by omega); omega)] at c25
      rw [show fi ln (m + 1) = m + 1 from if_neg (by omega), nI_m1] at hq
      exact hq
    · rw [nI_leI (by have := hP.1 m (by omega); omega) (by have := hP.1 (m + 1) (by omega); omega)] at c25
      refine V_iinc (L' := [(0, _), (1, _)]) (n' := (-1)) i_X11_nextSeats_28 (by decide) rfl (by decide) ⟨rfl, rfl, trivial⟩ ?_
      refine V_goto i_X11_nextSeats_31 ?_
      refine V_L (L' := [(0, _), (1, _)]) ⟨rfl, rfl, trivial⟩ ?_
      rw [show fi ln (m + 1) = fi ln m from if_pos (by omega)] at hq
      rw [show nI m + (-1) = nI m - 1 from by rw [Int32.sub_eq_add_neg]]
      exact ih (by omega) hq
set_option maxRecDepth 100000 in
set_option maxHeartbeats 4000000 in
theorem lp_M_nx2 (I : IntM) (J : LngM) {n : Nat} {ln : Nat → Nat} (h1 : 1 ≤ n) (hn : n ≤ 7) (hsz : I 146 19 = nI n) (hA : AtI I 157 n ln) (hP : Pm n ln) {i : Nat} (hi : i + 1 < n) (hlt : ln i ≤ ln (i + 1)) (Q : Option Value → IntM → LngM → Prop) : ∀ j, i + 1 ≤ j → j ≤ n - 1 → VP m_X11_nextSeats 2 68 [(0, .ref 146), (1, .int (nI i)), (2, .int (nI (fj ln i j)))] [] I J Q → VP m_X11_nextSeats 2 47 [(0, .ref 146), (1, .int (nI i)), (2, .int (nI j))] [] I J Q := by
  intro j
  induction j with
  | zero =>
    intro h _ _
    omega
  | succ j ih =>
    intro hij hm hq
    refine V_al i_X11_nextSeats_47 rfl ?_
    refine V_getR i_X11_nextSeats_48 rfl rfl ?_
    refine V_il i_X11_nextSeats_51 rfl ?_
    refine K_iald (j + 1) i_X11_nextSeats_52 rfl rfl (by omega) (by omega) ?_
    rw [hA (j + 1) (by omega)]
    refine V_al i_X11_nextSeats_53 rfl ?_
    refine V_getR i_X11_nextSeats_54 rfl rfl ?_
    refine V_il i_X11_nextSeats_57 rfl ?_
    refine K_iald i i_X11_nextSeats_58 rfl rfl (by omega) (by omega) ?_
    rw [hA i (by omega)]
    refine V_ic_ge i_X11_nextSeats_59 (fun c59 => ?_) (fun c59 => ?_)
    · rw [nI_leI (by have := hP.1 i (by omega); omega) (by have := hP.1 (j + 1) (by omega); omega)] at c59
      rw [show fj ln i (j + 1) = j + 1 from by unfold fj; rw [if_neg (by omega), if_neg (by omega)]] at hq
      exact hq
    · rw [nI_leI (by have := hP.1 i (by omega); omega) (by have := hP.1 (j + 1) (by omega); omega)] at c59
      refine V_iinc (L' := [(0, _), (1, _), (2, _)]) (n' := (-1)) i_X11_nextSeats_62 (by decide) rfl (by decide) ⟨rfl, rfl, rfl, trivial⟩ ?_
      refine V_goto i_X11_nextSeats_65 ?_
      refine V_L (L' := [(0, _), (1, _), (2, _)]) ⟨rfl, rfl, rfl, trivial⟩ ?_
      have hij : i + 1 ≤ j := by
        rcases Nat.lt_or_ge i j with h | h
        · exact h
        · obtain rfl : j = i := by omega
          omega
      rw [show fj ln i (j + 1) = fj ln i j from by conv => lhs; unfold fj; rw [if_neg (by omega), if_pos (by omega)]] at hq
      rw [nI_m1']
      exact ih hij (by omega) hq
set_option maxRecDepth 100000 in
set_option maxHeartbeats 4000000 in
theorem lp_M_nx3 (I : IntM) (J : LngM) {n : Nat} (hn : n ≤ 7) {l : Nat → Nat} {A b : Nat} (hb : b < n) (Q : Option Value → IntM → LngM → Prop) (hq : ∀ I1, AtI I1 157 n (rv l A b) → RowF I I1 157 n → Q (some (.int 1)) I1 J) : ∀ m t, A + t ≤ b + 1 → t ≤ b → b - t + 1 ≤ m + (A + t) → ∀ I1, AtI I1 157 n (rvT l A b t) → RowF I I1 157 n → VP m_X11_nextSeats 2 86 [(0, .ref 146), (3, .int (nI (A + t))), (4, .int (nI (b - t)))] [] I1 J Q := by
  intro m
  induction m with
  | zero =>
    intro t g1 g2 g3 I1 hA1 hF
    refine V_il i_X11_nextSeats_86 rfl ?_
    refine V_il i_X11_nextSeats_87 rfl ?_
    refine V_ic_ge_t i_X11_nextSeats_89 (by rw [nI_leI (by omega) (by omega)]; omega) ?_
    refine V_c i_X11_nextSeats_108 ?_
    exact P_zret i_X11_nextSeats_109 rfl (by decide) (hq I1 (fun p hp => by rw [hA1 p hp, rvT_end _ (by omega) p (by omega) (by omega)]) hF)
  | succ m ih =>
    intro t g1 g2 g3 I1 hA1 hF
    refine V_il i_X11_nextSeats_86 rfl ?_
    refine V_il i_X11_nextSeats_87 rfl ?_
    refine V_ic_ge i_X11_nextSeats_89 (fun c89 => ?_) (fun c89 => ?_)
    · rw [nI_leI (by omega) (by omega)] at c89
      refine V_c i_X11_nextSeats_108 ?_
      exact P_zret i_X11_nextSeats_109 rfl (by decide) (hq I1 (fun p hp => by rw [hA1 p hp, rvT_end _ (by omega) p (by omega) (by omega)]) hF)
    · rw [nI_leI (by omega) (by omega)] at c89
      refine V_al i_X11_nextSeats_92 rfl ?_
      refine V_il i_X11_nextSeats_93 rfl ?_
      refine V_il i_X11_nextSeats_94 rfl ?_
      refine P_callV2u i_X11_nextSeats_96 mi_X11_swapSeats rfl ⟨_, _, rfl⟩ (by decide) (Nat.le_of_ble_eq_true rfl) (c_M_swap _ _ (by omega) (by omega)) ?_
      refine V_iinc (L' := [(0, _), (3, _), (4, _)]) (n' := 1) i_X11_nextSeats_99 (by decide) rfl (by decide) ⟨rfl, rfl, rfl, trivial⟩ ?_
      refine V_iinc (L' := [(0, _), (3, _), (4, _)]) (n' := (-1)) i_X11_nextSeats_102 (by decide) rfl (by decide) ⟨rfl, rfl, rfl, trivial⟩ ?_
      refine V_goto i_X11_nextSeats_105 ?_
      refine V_L (L' := [(0, _), (3, _), (4, _)]) ⟨rfl, rfl, rfl, trivial⟩ ?_
      rw [nI_1, show b - t = b - (t + 1) + 1 from by omega, nI_m1', show b - (t + 1) + 1 = b - t from by omega]
      refine ih (t + 1) (by omega) (by omega) (by omega) _ (fun p hp => ?_) (RowF.u (RowF.u hF (by omega)) (by omega))
      rw [sw_row hA1 (by omega) (by omega) p hp, rvT_s _ (by omega)]
theorem fi_asc (ln : Nat → Nat) : ∀ m i, fi ln m = i + 1 → i + 1 ≤ m ∧ ln i ≤ ln (i + 1)
  | 0, i, h => by simp [fi] at h
  | m + 1, i, h => by
    unfold fi at h
    by_cases c : ln (m + 1) < ln m
    · rw [if_pos c] at h
      have := fi_asc ln m i h
      exact ⟨by omega, this.2⟩
    · rw [if_neg c] at h
      obtain rfl : m = i := by omega
      exact ⟨Nat.le_refl _, by omega⟩
set_option maxRecDepth 100000 in
set_option maxHeartbeats 4000000 in
theorem c_M_next (I : IntM) (J : LngM) {n : Nat} {ln : Nat → Nat} (h1 : 1 ≤ n) (hn : n ≤ 7) (hsz : I 146 19 = nI n) (hA : AtI I 157 n ln) (hP : Pm n ln) : CtP 2 m_X11_nextSeats [.ref 146] I J (fun r I1 J1 => J1 = J ∧ match nx n ln with | none => r = some (.int 0) ∧ I1 = I | some q => r = some (.int 1) ∧ AtI I1 157 n q.2 ∧ RowF I I1 157 n) := by
  refine CtP_of (by decide) rfl (Nat.le_of_ble_eq_true rfl) ?_
  refine V_al i_X11_nextSeats_0 rfl ?_
  refine V_getI i_X11_nextSeats_1 rfl ?_
  refine V_c i_X11_nextSeats_4 ?_
  rw [hsz]
  refine V_isub i_X11_nextSeats_5 ?_
  rw [nI_s2 h1 hn]
  refine V_is (L' := [(0, _), (1, _)]) i_X11_nextSeats_6 (by decide) ⟨rfl, rfl, trivial⟩ ?_
  refine V_L (L' := [(0, _), (1, _)]) ⟨rfl, rfl, trivial⟩ ?_
  refine lp_M_nx1 I J h1 hn hsz hA hP _ (n - 1) (Nat.le_refl _) ?_
  by_cases hf : fi ln (n - 1) = 0
  · refine V_il i_X11_nextSeats_34 rfl ?_
    refine V_if_ge_f i_X11_nextSeats_35 (by rw [hf]; decide) ?_
    refine V_c i_X11_nextSeats_38 ?_
    exact P_zret i_X11_nextSeats_39 rfl (by decide) ⟨rfl, by unfold nx; rw [if_pos hf]; exact ⟨rfl, rfl⟩⟩
  · have hfl := fi_le ln (n - 1)
    have hi : nI (fi ln (n - 1)) - 1 = nI (fi ln (n - 1) - 1) := by
      obtain ⟨k, hk⟩ : ∃ k, fi ln (n - 1) = k + 1 := ⟨fi ln (n - 1) - 1, by omega⟩
      rw [hk, nI_m1]
      rfl
    rw [hi]
    obtain ⟨i, hie⟩ : ∃ i, fi ln (n - 1) - 1 = i := ⟨_, rfl⟩
    have hfe : fi ln (n - 1) = i + 1 := by omega
    obtain ⟨ha1, ha2⟩ := fi_asc ln (n - 1) i hfe
    rw [hie] at hi ⊢
    refine V_il i_X11_nextSeats_34 rfl ?_
    refine V_if_ge_t i_X11_nextSeats_35 (by exact nI_pos' (by omega)) ?_
    refine V_al i_X11_nextSeats_40 rfl ?_
    refine V_getI i_X11_nextSeats_41 rfl ?_
    refine V_c i_X11_nextSeats_44 ?_
    rw [hsz]
    refine V_isub i_X11_nextSeats_45 ?_
    rw [show nI n - 1 = nI (n - 1) from by rw [show (1 : Int32) = nI 1 from rfl, pk_sub (by omega)]]
    refine V_is (L' := [(0, _), (1, _), (2, _)]) i_X11_nextSeats_46 (by decide) ⟨rfl, rfl, rfl, trivial⟩ ?_
    refine V_L (L' := [(0, _), (1, _), (2, _)]) ⟨rfl, rfl, rfl, trivial⟩ ?_
    refine lp_M_nx2 I J h1 hn hsz hA hP (i := i) (by omega) ha2 _ (n - 1) (by omega) (Nat.le_refl _) ?_
    refine V_al i_X11_nextSeats_68 rfl ?_
    refine V_il i_X11_nextSeats_69 rfl ?_
    refine V_il i_X11_nextSeats_70 rfl ?_
    refine P_callV2u i_X11_nextSeats_71 mi_X11_swapSeats rfl ⟨_, _, rfl⟩ (by decide) (Nat.le_of_ble_eq_true rfl) (c_M_swap _ _ (i := i) (j := fj ln i (n - 1)) (by omega) (by have := fj_le ln i (n - 1); omega)) ?_
    refine V_il i_X11_nextSeats_74 rfl ?_
    refine V_c i_X11_nextSeats_75 ?_
    refine V_iadd i_X11_nextSeats_76 ?_
    rw [nI_1]
    refine V_is (L' := [(0, _), (3, _)]) i_X11_nextSeats_77 (by decide) ⟨rfl, rfl, trivial⟩ ?_
    refine V_al i_X11_nextSeats_78 rfl ?_
    refine V_getI i_X11_nextSeats_79 rfl ?_
    refine V_c i_X11_nextSeats_82 ?_
    rw [show uI (uI I 157 i (I 157 (fj ln i (n - 1)))) 157 (fj ln i (n - 1)) (I 157 i) 146 19 = nI n from by unfold uI; rw [if_neg (by omega), if_neg (by omega)]; exact hsz]
    refine V_isub i_X11_nextSeats_83 ?_
    rw [show nI n - 1 = nI (n - 1) from by rw [show (1 : Int32) = nI 1 from rfl, pk_sub (by omega)]]
    refine V_is (L' := [(0, _), (3, _), (4, _)]) i_X11_nextSeats_84 (by decide) ⟨rfl, rfl, rfl, trivial⟩ ?_
    refine V_L (L' := [(0, _), (3, _), (4, _)]) ⟨rfl, rfl, rfl, trivial⟩ ?_
    have hsr : AtI (uI (uI I 157 i (I 157 (fj ln i (n - 1)))) 157 (fj ln i (n - 1)) (I 157 i)) 157 n (sw ln i (fj ln i (n - 1))) := sw_row hA (by omega) (by have := fj_le ln i (n - 1); omega)
    have hfr : RowF I (uI (uI I 157 i (I 157 (fj ln i (n - 1)))) 157 (fj ln i (n - 1)) (I 157 i)) 157 n := RowF.u (RowF.u RowF.rf (by omega)) (by have := fj_le ln i (n - 1); omega)
    refine lp_M_nx3 _ J hn (l := sw ln i (fj ln i (n - 1))) (A := i + 1) (b := n - 1) (by omega) _ (fun I1 g1 g2 => ?_) n 0 (by omega) (by omega) (by omega) _ (fun p hp => by rw [rvT_0]; exact hsr p hp) RowF.rf
    refine ⟨rfl, ?_⟩
    unfold nx
    rw [if_neg hf, hie]
    exact ⟨rfl, by rw [hfe]; exact g1, fun x k h => (g2 x k h).trans (hfr x k h)⟩
theorem fed_iff {a b : Int64} {T nd u : Nat} (hu : 0 < u) (hu2 : u < 2 ^ 33) (hT : T < 2 ^ 60) (hn : nd ≤ 99) (h : Fr a b (T : Int) u) : a < lN nd * b ↔ ¬ nd * u ≤ T := by
  obtain ⟨x, y, rfl, rfl, hy0, hyu, hxT, hc⟩ := Fr.nat hu h
  have hb : nd * y < 2 ^ 62 := mul_bd (by omega) (by omega)
  rw [lN_mul, pk_lLT (by omega) (by omega), ← Nat.not_le]
  refine not_congr ?_
  constructor
  · intro h1
    refine Nat.le_of_mul_le_mul_right (c := y) ?_ hy0
    calc nd * u * y = nd * y * u := by simp only [Nat.mul_assoc, Nat.mul_comm, Nat.mul_left_comm]
      _ ≤ x * u := Nat.mul_le_mul_right _ h1
      _ = T * y := hc
  · intro h1
    refine Nat.le_of_mul_le_mul_right (c := u) ?_ hu
    calc nd * y * u = nd * u * y := by simp only [Nat.mul_assoc, Nat.mul_comm, Nat.mul_left_comm]
      _ ≤ T * y := Nat.mul_le_mul_right _ h1
      _ = x * u := hc.symm
set_option maxRecDepth 100000 in
set_option maxHeartbeats 4000000 in
theorem lp_M_fset (I : IntM) (J : LngM) {n how : Nat} {kd nd tE : Nat → Nat} (hn : n ≤ 7) (hM : MCo I n kd nd) (hnd : ∀ k, k < n → nd k ≤ 99) (hG : ∀ k, k < n → Fr (J 158 k) (J 159 k) ((tE k : Nat) : Int) (un how)) (hT : ∀ k, k < n → tE k < 2 ^ 60) (Q : Option Value → IntM → LngM → Prop) (hq : Q (some (.int (nI (setN (fun k => decide (nd k * un how ≤ tE k)) n)))) I J) : VP m_X11_fedSet 1 4 [(0, .ref 146), (1, .int 0), (2, .int 0)] [] I J Q := by
  have key : ∀ i, i ≤ n → VP m_X11_fedSet 1 4 [(0, .ref 146), (1, .int (nI (setN (fun k => decide (nd k * un how ≤ tE k)) i))), (2, .int (nI i))] [] I J Q := by
    refine down n ?_ (fun i hi ih => ?_)
    · refine V_il i_X11_fedSet_4 rfl ?_
      refine V_al i_X11_fedSet_5 rfl ?_
      refine V_getI i_X11_fedSet_6 rfl ?_
      refine V_ic_ge_t i_X11_fedSet_9 (by rw [hM.1]; exact Int32.le_refl _) ?_
      refine V_il i_X11_fedSet_52 rfl ?_
      exact P_iret i_X11_fedSet_53 rfl hq
    · have hi7 : i < 7 := by omega
      refine V_il i_X11_fedSet_4 rfl ?_
      refine V_al i_X11_fedSet_5 rfl ?_
      refine V_getI i_X11_fedSet_6 rfl ?_
      refine V_ic_ge_f i_X11_fedSet_9 (by rw [hM.1]; exact nI_ge hi (by omega)) ?_
      refine V_il i_X11_fedSet_12 rfl ?_
      refine V_al i_X11_fedSet_13 rfl ?_
      refine V_getR i_X11_fedSet_14 rfl rfl ?_
      refine V_il i_X11_fedSet_17 rfl ?_
      refine K_lald i i_X11_fedSet_18 rfl rfl hi7 (by omega) ?_
      refine V_al i_X11_fedSet_19 rfl ?_
      refine V_getR i_X11_fedSet_20 rfl rfl ?_
      refine V_il i_X11_fedSet_23 rfl ?_
      refine K_iald i i_X11_fedSet_24 rfl rfl hi7 (by omega) ?_
      rw [hM.2.2 i hi]
      refine V_i2l i_X11_fedSet_25 ?_
      rw [nI_long (by have := hnd i hi; omega)]
      refine V_al i_X11_fedSet_26 rfl ?_
      refine V_getR i_X11_fedSet_27 rfl rfl ?_
      refine V_il i_X11_fedSet_30 rfl ?_
      refine K_lald i i_X11_fedSet_31 rfl rfl hi7 (by omega) ?_
      refine V_lmul i_X11_fedSet_32 ?_
      refine V_lcmp i_X11_fedSet_33 ?_
      refine V_if_lt i_X11_fedSet_34 (fun c34 => ?_) (fun c34 => ?_)
      · rw [lgc_lt, fed_iff (un_pos how) (by have := un_le how; omega) (hT i hi) (hnd i hi) (hG i hi)] at c34
        refine V_c i_X11_fedSet_43 ?_
        refine V_ior i_X11_fedSet_44 ?_
        rw [or_z]
        refine V_is (L' := [(0, _), (1, _), (2, _)]) i_X11_fedSet_45 (by decide) ⟨rfl, rfl, rfl, trivial⟩ ?_
        refine V_iinc (L' := [(0, _), (1, _), (2, _)]) (n' := 1) i_X11_fedSet_46 (by decide) rfl (by decide) ⟨rfl, rfl, rfl, trivial⟩ ?_
        refine V_goto i_X11_fedSet_49 ?_
        refine V_L (L' := [(0, _), (1, _), (2, _)]) ⟨rfl, rfl, rfl, trivial⟩ ?_
        rw [show nI i + 1 = nI (i + 1) from nI_1 i]
        rw [show setN (fun k => decide (nd k * un how ≤ tE k)) (i + 1) = setN (fun k => decide (nd k * un how ≤ tE k)) i from if_neg (by simpa using c34)] at ih
        exact ih
      · rw [lgc_lt, fed_iff (un_pos how) (by have := un_le how; omega) (hT i hi) (hnd i hi) (hG i hi)] at c34
        refine V_c i_X11_fedSet_37 ?_
        refine V_il i_X11_fedSet_38 rfl ?_
        refine V_ishl i_X11_fedSet_39 ?_
        refine V_goto i_X11_fedSet_40 ?_
        refine V_ior i_X11_fedSet_44 ?_
        rw [shl1 hi7, or_nI]
        refine V_is (L' := [(0, _), (1, _), (2, _)]) i_X11_fedSet_45 (by decide) ⟨rfl, rfl, rfl, trivial⟩ ?_
        refine V_iinc (L' := [(0, _), (1, _), (2, _)]) (n' := 1) i_X11_fedSet_46 (by decide) rfl (by decide) ⟨rfl, rfl, rfl, trivial⟩ ?_
        refine V_goto i_X11_fedSet_49 ?_
        refine V_L (L' := [(0, _), (1, _), (2, _)]) ⟨rfl, rfl, rfl, trivial⟩ ?_
        rw [show nI i + 1 = nI (i + 1) from nI_1 i]
        rw [show setN (fun k => decide (nd k * un how ≤ tE k)) (i + 1) = setN (fun k => decide (nd k * un how ≤ tE k)) i ||| 2 ^ i from if_pos (by simpa using c34)] at ih
        exact ih
  exact key 0 (Nat.zero_le _)
set_option maxRecDepth 100000 in
set_option maxHeartbeats 4000000 in
theorem c_M_fset (I : IntM) (J : LngM) {n how : Nat} {kd nd tE : Nat → Nat} (hn : n ≤ 7) (hM : MCo I n kd nd) (hnd : ∀ k, k < n → nd k ≤ 99) (hG : ∀ k, k < n → Fr (J 158 k) (J 159 k) ((tE k : Nat) : Int) (un how)) (hT : ∀ k, k < n → tE k < 2 ^ 60) : CtV 1 m_X11_fedSet [.ref 146] I J (.int (nI (setN (fun k => decide (nd k * un how ≤ tE k)) n))) I J := by
  refine CtV_of (by decide) rfl (Nat.le_of_ble_eq_true rfl) ?_
  refine V_c i_X11_fedSet_0 ?_
  refine V_is (L' := [(0, _), (1, _)]) i_X11_fedSet_1 (by decide) ⟨rfl, rfl, trivial⟩ ?_
  refine V_c i_X11_fedSet_2 ?_
  refine V_is (L' := [(0, _), (1, _), (2, _)]) i_X11_fedSet_3 (by decide) ⟨rfl, rfl, rfl, trivial⟩ ?_
  refine V_L (L' := [(0, _), (1, _), (2, _)]) ⟨rfl, rfl, rfl, trivial⟩ ?_
  exact lp_M_fset I J hn hM hnd hG hT _ ⟨rfl, rfl, rfl⟩
theorem shl_n {n : Nat} (hn : n ≤ 7) : (1 : Int32) <<< (nI n &&& 31) - 1 = nI (2 ^ n - 1) := by
  obtain rfl | rfl | rfl | rfl | rfl | rfl | rfl | rfl : n = 0 ∨ n = 1 ∨ n = 2 ∨ n = 3 ∨ n = 4 ∨ n = 5 ∨ n = 6 ∨ n = 7 := by omega
  all_goals decide
theorem all_eq {p : Nat → Bool} {n : Nat} (hn : n ≤ 7) : (nI (setN p n) = nI (2 ^ n - 1)) ↔ allF p n = true := by
  have h1 := setN_lt p n hn
  have h2 : 2 ^ n ≤ 128 := Nat.pow_le_pow_right (n := 2) (by omega) hn
  rw [nI_eq (by omega) (by omega), setN_all]
  unfold allF
  rw [decide_eq_true_eq, cntN_all]
set_option maxRecDepth 100000 in
set_option maxHeartbeats 4000000 in
theorem c_M_allfed (I : IntM) (J : LngM) {n how : Nat} {kd nd tE : Nat → Nat} (hn : n ≤ 7) (hM : MCo I n kd nd) (hnd : ∀ k, k < n → nd k ≤ 99) (hG : ∀ k, k < n → Fr (J 158 k) (J 159 k) ((tE k : Nat) : Int) (un how)) (hT : ∀ k, k < n → tE k < 2 ^ 60) : CtV 2 m_X11_areAllFed [.ref 146] I J (.int (if allF (fun k => decide (nd k * un how ≤ tE k)) n = true then 1 else 0)) I J := by
  refine CtV_of (by decide) rfl (Nat.le_of_ble_eq_true rfl) ?_
  refine V_al i_X11_areAllFed_0 rfl ?_
  refine P_callV0v i_X11_areAllFed_1 mi_X11_fedSet rfl ⟨_, _, rfl⟩ (by decide) (Nat.le_of_ble_eq_true rfl) (c_M_fset _ _ hn hM hnd hG hT) ?_
  refine V_c i_X11_areAllFed_4 ?_
  refine V_al i_X11_areAllFed_5 rfl ?_
  refine V_getI i_X11_areAllFed_6 rfl ?_
  rw [hM.1]
  refine V_ishl i_X11_areAllFed_9 ?_
  refine V_c i_X11_areAllFed_10 ?_
  refine V_isub i_X11_areAllFed_11 ?_
  rw [shl_n hn]
  refine V_ic_ne i_X11_areAllFed_12 (fun c12 => ?_) (fun c12 => ?_)
  · rw [all_eq hn] at c12
    refine V_c i_X11_areAllFed_19 ?_
    exact P_zret i_X11_areAllFed_20 rfl (by decide) ⟨by simp [c12], rfl, rfl⟩
  · rw [all_eq hn] at c12
    refine V_c i_X11_areAllFed_15 ?_
    refine V_goto i_X11_areAllFed_16 ?_
    exact P_zret i_X11_areAllFed_20 rfl (by decide) ⟨by simp [c12], rfl, rfl⟩
set_option maxRecDepth 100000 in
set_option maxHeartbeats 4000000 in
theorem lp_M_keeps (I : IntM) (J : LngM) {n : Nat} (hn : n ≤ 7) (hsz : I 146 19 = nI n) (Q : Option Value → IntM → LngM → Prop) (hq : Q none I (putJ (putJ J 171 n (J 158)) 172 n (J 159))) : VP m_X11_keepsGot 1 2 [(0, .ref 146), (1, .int 0)] [] I J Q := by
  have key : ∀ i, i ≤ n → VP m_X11_keepsGot 1 2 [(0, .ref 146), (1, .int (nI i))] [] I (putJ (putJ J 171 i (J 158)) 172 i (J 159)) Q := by
    refine down n ?_ (fun i hi ih => ?_)
    · refine V_il i_X11_keepsGot_2 rfl ?_
      refine V_al i_X11_keepsGot_3 rfl ?_
      refine V_getI i_X11_keepsGot_4 rfl ?_
      refine V_ic_ge_t i_X11_keepsGot_7 (by rw [hsz]; exact Int32.le_refl _) ?_
      exact P_vret i_X11_keepsGot_40 rfl hq
    · have hi7 : i < 7 := by omega
      refine V_il i_X11_keepsGot_2 rfl ?_
      refine V_al i_X11_keepsGot_3 rfl ?_
      refine V_getI i_X11_keepsGot_4 rfl ?_
      refine V_ic_ge_f i_X11_keepsGot_7 (by rw [hsz]; exact nI_ge hi (by omega)) ?_
      refine V_al i_X11_keepsGot_10 rfl ?_
      refine V_getR i_X11_keepsGot_11 rfl rfl ?_
      refine V_il i_X11_keepsGot_14 rfl ?_
      refine V_al i_X11_keepsGot_15 rfl ?_
      refine V_getR i_X11_keepsGot_16 rfl rfl ?_
      refine V_il i_X11_keepsGot_19 rfl ?_
      refine K_lald i i_X11_keepsGot_20 rfl rfl hi7 (by omega) ?_
      refine K_last i i_X11_keepsGot_21 rfl rfl hi7 (by omega) ?_
      refine V_al i_X11_keepsGot_22 rfl ?_
      refine V_getR i_X11_keepsGot_23 rfl rfl ?_
      refine V_il i_X11_keepsGot_26 rfl ?_
      refine V_al i_X11_keepsGot_27 rfl ?_
      refine V_getR i_X11_keepsGot_28 rfl rfl ?_
      refine V_il i_X11_keepsGot_31 rfl ?_
      refine K_lald i i_X11_keepsGot_32 rfl rfl hi7 (by omega) ?_
      refine K_last i i_X11_keepsGot_33 rfl rfl hi7 (by omega) ?_
      refine V_iinc (L' := [(0, _), (1, _)]) (n' := 1) i_X11_keepsGot_34 (by decide) rfl (by decide) ⟨rfl, rfl, trivial⟩ ?_
      refine V_goto i_X11_keepsGot_37 ?_
      refine V_L (L' := [(0, _), (1, _)]) ⟨rfl, rfl, trivial⟩ ?_
      rw [show nI i + 1 = nI (i + 1) from nI_1 i]
      have e : uJ (uJ (putJ (putJ J 171 i (J 158)) 172 i (J 159)) 171 i (putJ (putJ J 171 i (J 158)) 172 i (J 159) 158 i)) 172 i (uJ (putJ (putJ J 171 i (J 158)) 172 i (J 159)) 171 i (putJ (putJ J 171 i (J 158)) 172 i (J 159) 158 i) 159 i) = putJ (putJ J 171 (i + 1) (J 158)) 172 (i + 1) (J 159) := by
        funext x k
        by_cases h171 : x = 171
        · subst h171
          simp only [uJ, putJ]
          by_cases hk : k = i
          · subst hk; simp
          · by_cases hk2 : k < i
            · simp [hk, hk2, show k < i + 1 by omega]
            · simp [hk, hk2, show ¬ k < i + 1 by omega]
        · by_cases h172 : x = 172
          · subst h172
            simp only [uJ, putJ]
            by_cases hk : k = i
            · subst hk; simp
            · by_cases hk2 : k < i
              · simp [hk, hk2, show k < i + 1 by omega]
              · simp [hk, hk2, show ¬ k < i + 1 by omega]
          · simp [uJ, putJ, h171, h172]
      rw [e]
      exact ih
  have h0 := key 0 (Nat.zero_le _)
  rw [putJ_0, putJ_0] at h0
  exact h0
set_option maxRecDepth 100000 in
set_option maxHeartbeats 4000000 in
theorem c_M_keeps (I : IntM) (J : LngM) {n : Nat} (hn : n ≤ 7) (hsz : I 146 19 = nI n) : CtU 1 m_X11_keepsGot [.ref 146] I J I (putJ (putJ J 171 n (J 158)) 172 n (J 159)) := by
  refine CtU_of (by decide) rfl (Nat.le_of_ble_eq_true rfl) ?_
  refine V_c i_X11_keepsGot_0 ?_
  refine V_is (L' := [(0, _), (1, _)]) i_X11_keepsGot_1 (by decide) ⟨rfl, rfl, trivial⟩ ?_
  refine V_L (L' := [(0, _), (1, _)]) ⟨rfl, rfl, trivial⟩ ?_
  exact lp_M_keeps I J hn hsz _ ⟨rfl, rfl, rfl⟩


/-! ===== Spoon ===== -/
/-- how many grains make a piece -/
def un (how : Nat) : Nat := if how = 0 then 4586471424 else 1
def dv (lw e : Nat) : Nat := if lw = 1 then 4 else if lw = 2 then 2 else if lw = 3 then (if e % 2 = 0 then 3 else 2) else 3
def may (g d : Nat) : Nat := g * (d - 1) / d
def tk (kd nd g d : Nat) : Nat := if kd = 1 then may g d / 2 else if kd = 2 then may g d + (g - may g d) / 2 else if kd = 3 then min (may g d) nd else if kd = 4 then g else if kd = 5 then min (may g d / 2) nd else may g d
theorem dv_cases (lw e : Nat) : dv lw e = 2 ∨ dv lw e = 3 ∨ dv lw e = 4 := by
  unfold dv
  split
  · exact Or.inr (Or.inr rfl)
  · split
    · exact Or.inl rfl
    · split
      · split
        · exact Or.inr (Or.inl rfl)
        · exact Or.inl rfl
      · exact Or.inr (Or.inl rfl)
theorem may_le (g d : Nat) (hd : d = 2 ∨ d = 3 ∨ d = 4) : may g d ≤ g := by
  unfold may
  rcases hd with rfl | rfl | rfl <;> omega
theorem tk_le (kd nd g d : Nat) (hd : d = 2 ∨ d = 3 ∨ d = 4) : tk kd nd g d ≤ g := by
  have := may_le g d hd
  unfold tk
  repeat' split
  all_goals omega
theorem un_pos (how : Nat) : 0 < un how := by unfold un; split <;> omega
theorem lN_lit (n : Nat) : (OfNat.ofNat n : Int64) = lN n := rfl
theorem nI_lit (n : Nat) : (OfNat.ofNat n : Int32) = nI n := rfl
theorem nI_long {n : Nat} (h : n < 2 ^ 31) : (nI n).toInt64 = lN n := nI_l h
theorem nI_rem2 {a : Nat} (ha : a < 2 ^ 31) (d : Nat) (h0 : 0 < d) (hd : d < 2 ^ 31) : nI a - nI a / nI d * nI d = nI (a % d) := pk_rem ha h0 hd
theorem minL_lN {a b : Nat} (ha : a < 2 ^ 63) (hb : b < 2 ^ 63) : minL (lN a) (lN b) = lN (min a b) := by
  unfold minL
  by_cases h : b < a
  · rw [if_pos ((pk_lLT hb ha).mpr h), Nat.min_eq_right (Nat.le_of_lt h)]
  · rw [if_neg (fun q => h ((pk_lLT hb ha).mp q)), Nat.min_eq_left (Nat.not_lt.mp h)]

set_option maxRecDepth 100000 in
set_option maxHeartbeats 4000000 in
theorem c_unit0 (I : IntM) (J : LngM) : CtV 1 m_X8_unit [.int 0] I J (.long (lN 4586471424)) I J := by
  refine CtV_of (by decide) rfl (Nat.le_of_ble_eq_true rfl) ?_
  refine V_il i_X8_unit_0 rfl ?_
  refine V_if_ne_f i_X8_unit_1 rfl ?_
  refine V_cl i_X8_unit_4 ?_
  refine V_goto i_X8_unit_7 ?_
  exact P_lret i_X8_unit_11 rfl ⟨rfl, rfl, rfl⟩
set_option maxRecDepth 100000 in
set_option maxHeartbeats 4000000 in
theorem c_unit1 (I : IntM) (J : LngM) : CtV 1 m_X8_unit [.int 1] I J (.long (lN 1)) I J := by
  refine CtV_of (by decide) rfl (Nat.le_of_ble_eq_true rfl) ?_
  refine V_il i_X8_unit_0 rfl ?_
  refine V_if_ne_t i_X8_unit_1 (by decide) ?_
  refine V_cl i_X8_unit_10 ?_
  exact P_lret i_X8_unit_11 rfl ⟨rfl, rfl, rfl⟩
theorem c_unit (I : IntM) (J : LngM) {how : Nat} (h : how ≤ 1) : CtV 1 m_X8_unit [.int (nI how)] I J (.long (lN (un how))) I J := by
  obtain rfl | rfl : how = 0 ∨ how = 1 := by omega
  · exact c_unit0 I J
  · exact c_unit1 I J
set_option maxRecDepth 100000 in
set_option maxHeartbeats 4000000 in
theorem c_divisor0 (I : IntM) (J : LngM) {e : Nat} (he : e < 2 ^ 31) : CtV 1 m_X8_divisor [.int (nI 0), .int (nI e)] I J (.int (nI (dv 0 e))) I J := by
  refine CtV_of (by decide) rfl (Nat.le_of_ble_eq_true rfl) ?_
  refine V_il i_X8_divisor_0 rfl ?_
  refine V_tswOut (tgt := 44) i_X8_divisor_1 (by decide) (by decide) ?_
  refine V_c i_X8_divisor_44 ?_
  exact P_iret i_X8_divisor_45 rfl ⟨rfl, rfl, rfl⟩
set_option maxRecDepth 100000 in
set_option maxHeartbeats 4000000 in
theorem c_divisor1 (I : IntM) (J : LngM) {e : Nat} (he : e < 2 ^ 31) : CtV 1 m_X8_divisor [.int (nI 1), .int (nI e)] I J (.int (nI (dv 1 e))) I J := by
  refine CtV_of (by decide) rfl (Nat.le_of_ble_eq_true rfl) ?_
  refine V_il i_X8_divisor_0 rfl ?_
  refine V_tswIn (tgt := 28) i_X8_divisor_1 (by decide) (by decide) rfl (by decide) ?_
  refine V_c i_X8_divisor_28 ?_
  exact P_iret i_X8_divisor_29 rfl ⟨rfl, rfl, rfl⟩
set_option maxRecDepth 100000 in
set_option maxHeartbeats 4000000 in
theorem c_divisor2 (I : IntM) (J : LngM) {e : Nat} (he : e < 2 ^ 31) : CtV 1 m_X8_divisor [.int (nI 2), .int (nI e)] I J (.int (nI (dv 2 e))) I J := by
  refine CtV_of (by decide) rfl (Nat.le_of_ble_eq_true rfl) ?_
  refine V_il i_X8_divisor_0 rfl ?_
  refine V_tswIn (tgt := 30) i_X8_divisor_1 (by decide) (by decide) rfl (by decide) ?_
  refine V_c i_X8_divisor_30 ?_
  exact P_iret i_X8_divisor_31 rfl ⟨rfl, rfl, rfl⟩
set_option maxRecDepth 100000 in
set_option maxHeartbeats 4000000 in
theorem c_divisor3 (I : IntM) (J : LngM) {e : Nat} (he : e < 2 ^ 31) : CtV 1 m_X8_divisor [.int (nI 3), .int (nI e)] I J (.int (nI (dv 3 e))) I J := by
  refine CtV_of (by decide) rfl (Nat.le_of_ble_eq_true rfl) ?_
  refine V_il i_X8_divisor_0 rfl ?_
  refine V_tswIn (tgt := 32) i_X8_divisor_1 (by decide) (by decide) rfl (by decide) ?_
  refine V_il i_X8_divisor_32 rfl ?_
  refine V_c i_X8_divisor_33 ?_
  refine V_irem i_X8_divisor_34 (by decide) ?_
  refine V_if_ne i_X8_divisor_35 (fun c35 => ?_) (fun c35 => ?_)
  · rw [nI_lit, pk_rem he (by decide) (by decide)] at c35
    have c35 : ¬ e % 2 = 0 := fun q => c35 (by rw [q]; rfl)
    refine V_c i_X8_divisor_42 ?_
    exact P_iret i_X8_divisor_43 rfl ⟨by simp [dv, c35]; rfl, rfl, rfl⟩
  · rw [nI_lit, pk_rem he (by decide) (by decide)] at c35
    have c35 : e % 2 = 0 := by
      rcases Nat.mod_two_eq_zero_or_one e with h | h
      · exact h
      · rw [h] at c35; exact absurd c35 (by decide)
    refine V_c i_X8_divisor_38 ?_
    refine V_goto i_X8_divisor_39 ?_
    exact P_iret i_X8_divisor_43 rfl ⟨by simp [dv, c35]; rfl, rfl, rfl⟩
theorem c_divisor (I : IntM) (J : LngM) {lw e : Nat} (hl : lw ≤ 3) (he : e < 2 ^ 31) : CtV 1 m_X8_divisor [.int (nI lw), .int (nI e)] I J (.int (nI (dv lw e))) I J := by
  obtain rfl | rfl | rfl | rfl : lw = 0 ∨ lw = 1 ∨ lw = 2 ∨ lw = 3 := by omega
  · exact c_divisor0 I J he
  · exact c_divisor1 I J he
  · exact c_divisor2 I J he
  · exact c_divisor3 I J he
theorem may_val {g d : Nat} (hg : g < 2 ^ 60) (hd : d = 2 ∨ d = 3 ∨ d = 4) : some (Value.long (lN g * (nI d - 1).toInt64 / (nI d).toInt64)) = some (Value.long (lN (may g d))) := by
  have e1 : (nI d - 1).toInt64 = lN (d - 1) := by rcases hd with rfl | rfl | rfl <;> decide
  have e2 : (nI d).toInt64 = lN d := by rcases hd with rfl | rfl | rfl <;> decide
  rw [e1, e2, lN_mul]
  have : g * (d - 1) < 2 ^ 63 := by rcases hd with rfl | rfl | rfl <;> omega
  rw [pk_lDiv this (by omega) (by omega)]
  rfl
set_option maxRecDepth 100000 in
set_option maxHeartbeats 4000000 in
theorem c_may (I : IntM) (J : LngM) {g d : Nat} (hg : g < 2 ^ 60) (hd : d = 2 ∨ d = 3 ∨ d = 4) : CtV 1 m_X8_may [.long (lN g), .int (nI d)] I J (.long (lN (may g d))) I J := by
  refine CtV_of (by decide) rfl (Nat.le_of_ble_eq_true rfl) ?_
  refine V_il i_X8_may_0 rfl ?_
  refine V_if_le_f i_X8_may_1 (by rcases hd with rfl | rfl | rfl <;> decide) ?_
  refine V_ll i_X8_may_4 rfl ?_
  refine V_il i_X8_may_5 rfl ?_
  refine V_c i_X8_may_6 ?_
  refine V_isub i_X8_may_7 ?_
  refine V_i2l i_X8_may_8 ?_
  refine V_lmul i_X8_may_9 ?_
  refine V_il i_X8_may_10 rfl ?_
  refine V_i2l i_X8_may_11 ?_
  refine V_ldiv i_X8_may_12 (by rcases hd with rfl | rfl | rfl <;> decide) ?_
  refine V_goto i_X8_may_13 ?_
  exact P_lret i_X8_may_17 rfl ⟨may_val hg hd, rfl, rfl⟩
theorem tk_val0 {nd g d : Nat} (hg : g < 2 ^ 60) (hn : nd < 2 ^ 60) (hd : d = 2 ∨ d = 3 ∨ d = 4) : some (Value.long (lN (may g d))) = some (Value.long (lN (tk 0 nd g d))) := by
  have hm := may_le g d hd
  rfl
set_option maxRecDepth 100000 in
set_option maxHeartbeats 4000000 in
theorem c_take0 (I : IntM) (J : LngM) {nd g d : Nat} (hg : g < 2 ^ 60) (hn : nd < 2 ^ 60) (hd : d = 2 ∨ d = 3 ∨ d = 4) : CtV 2 m_X8_take [.int (nI 0), .long (lN nd), .long (lN g), .int (nI d)] I J (.long (lN (tk 0 nd g d))) I J := by
  refine CtV_of (by decide) rfl (Nat.le_of_ble_eq_true rfl) ?_
  refine V_ll i_X8_take_0 rfl ?_
  refine V_il i_X8_take_1 rfl ?_
  refine P_callS2v i_X8_take_3 ms_X8_may (by decide) (Nat.le_of_ble_eq_true rfl) (c_may I J hg hd) ?_
  refine V_ls (L' := [(0, _), (1, _), (3, _), (6, _)]) i_X8_take_6 (by decide) ⟨rfl, rfl, rfl, rfl, trivial⟩ ?_
  refine V_il i_X8_take_8 rfl ?_
  refine V_tswOut (tgt := 83) i_X8_take_9 (by decide) (by decide) ?_
  refine V_ll i_X8_take_83 rfl ?_
  exact P_lret i_X8_take_85 rfl ⟨tk_val0 hg hn hd, rfl, rfl⟩
theorem tk_val1 {nd g d : Nat} (hg : g < 2 ^ 60) (hn : nd < 2 ^ 60) (hd : d = 2 ∨ d = 3 ∨ d = 4) : some (Value.long (lN (may g d) / 2)) = some (Value.long (lN (tk 1 nd g d))) := by
  have hm := may_le g d hd
  rw [show (2 : Int64) = lN 2 from rfl, pk_lDiv (by omega) (by decide) (by decide)]
  rfl
set_option maxRecDepth 100000 in
set_option maxHeartbeats 4000000 in
theorem c_take1 (I : IntM) (J : LngM) {nd g d : Nat} (hg : g < 2 ^ 60) (hn : nd < 2 ^ 60) (hd : d = 2 ∨ d = 3 ∨ d = 4) : CtV 2 m_X8_take [.int (nI 1), .long (lN nd), .long (lN g), .int (nI d)] I J (.long (lN (tk 1 nd g d))) I J := by
  refine CtV_of (by decide) rfl (Nat.le_of_ble_eq_true rfl) ?_
  refine V_ll i_X8_take_0 rfl ?_
  refine V_il i_X8_take_1 rfl ?_
  refine P_callS2v i_X8_take_3 ms_X8_may (by decide) (Nat.le_of_ble_eq_true rfl) (c_may I J hg hd) ?_
  refine V_ls (L' := [(0, _), (1, _), (3, _), (6, _)]) i_X8_take_6 (by decide) ⟨rfl, rfl, rfl, rfl, trivial⟩ ?_
  refine V_il i_X8_take_8 rfl ?_
  refine V_tswIn (tgt := 44) i_X8_take_9 (by decide) (by decide) rfl (by decide) ?_
  refine V_ll i_X8_take_44 rfl ?_
  refine V_cl i_X8_take_46 ?_
  refine V_ldiv i_X8_take_49 (by decide) ?_
  exact P_lret i_X8_take_50 rfl ⟨tk_val1 hg hn hd, rfl, rfl⟩
theorem tk_val2 {nd g d : Nat} (hg : g < 2 ^ 60) (hn : nd < 2 ^ 60) (hd : d = 2 ∨ d = 3 ∨ d = 4) : some (Value.long (lN (may g d) + (lN g - lN (may g d)) / 2)) = some (Value.long (lN (tk 2 nd g d))) := by
  have hm := may_le g d hd
  rw [lN_sub hm, show (2 : Int64) = lN 2 from rfl, pk_lDiv (by omega) (by decide) (by decide), lN_add]
  rfl
set_option maxRecDepth 100000 in
set_option maxHeartbeats 4000000 in
theorem c_take2 (I : IntM) (J : LngM) {nd g d : Nat} (hg : g < 2 ^ 60) (hn : nd < 2 ^ 60) (hd : d = 2 ∨ d = 3 ∨ d = 4) : CtV 2 m_X8_take [.int (nI 2), .long (lN nd), .long (lN g), .int (nI d)] I J (.long (lN (tk 2 nd g d))) I J := by
  refine CtV_of (by decide) rfl (Nat.le_of_ble_eq_true rfl) ?_
  refine V_ll i_X8_take_0 rfl ?_
  refine V_il i_X8_take_1 rfl ?_
  refine P_callS2v i_X8_take_3 ms_X8_may (by decide) (Nat.le_of_ble_eq_true rfl) (c_may I J hg hd) ?_
  refine V_ls (L' := [(0, _), (1, _), (3, _), (6, _)]) i_X8_take_6 (by decide) ⟨rfl, rfl, rfl, rfl, trivial⟩ ?_
  refine V_il i_X8_take_8 rfl ?_
  refine V_tswIn (tgt := 51) i_X8_take_9 (by decide) (by decide) rfl (by decide) ?_
  refine V_ll i_X8_take_51 rfl ?_
  refine V_ll i_X8_take_53 rfl ?_
  refine V_ll i_X8_take_54 rfl ?_
  refine V_lsub i_X8_take_56 ?_
  refine V_cl i_X8_take_57 ?_
  refine V_ldiv i_X8_take_60 (by decide) ?_
  refine V_ladd i_X8_take_61 ?_
  exact P_lret i_X8_take_62 rfl ⟨tk_val2 hg hn hd, rfl, rfl⟩
theorem tk_val3 {nd g d : Nat} (hg : g < 2 ^ 60) (hn : nd < 2 ^ 60) (hd : d = 2 ∨ d = 3 ∨ d = 4) : some (Value.long (minL (lN (may g d)) (lN nd))) = some (Value.long (lN (tk 3 nd g d))) := by
  have hm := may_le g d hd
  rw [minL_lN (by omega) (by omega)]
  rfl
set_option maxRecDepth 100000 in
set_option maxHeartbeats 4000000 in
theorem c_take3 (I : IntM) (J : LngM) {nd g d : Nat} (hg : g < 2 ^ 60) (hn : nd < 2 ^ 60) (hd : d = 2 ∨ d = 3 ∨ d = 4) : CtV 2 m_X8_take [.int (nI 3), .long (lN nd), .long (lN g), .int (nI d)] I J (.long (lN (tk 3 nd g d))) I J := by
  refine CtV_of (by decide) rfl (Nat.le_of_ble_eq_true rfl) ?_
  refine V_ll i_X8_take_0 rfl ?_
  refine V_il i_X8_take_1 rfl ?_
  refine P_callS2v i_X8_take_3 ms_X8_may (by decide) (Nat.le_of_ble_eq_true rfl) (c_may I J hg hd) ?_
  refine V_ls (L' := [(0, _), (1, _), (3, _), (6, _)]) i_X8_take_6 (by decide) ⟨rfl, rfl, rfl, rfl, trivial⟩ ?_
  refine V_il i_X8_take_8 rfl ?_
  refine V_tswIn (tgt := 63) i_X8_take_9 (by decide) (by decide) rfl (by decide) ?_
  refine V_ll i_X8_take_63 rfl ?_
  refine V_ll i_X8_take_65 rfl ?_
  refine V_minL i_X8_take_66 (by decide) (Nat.le_refl 0) (Nat.le_refl 0) (Nat.le_of_ble_eq_true rfl) ?_
  exact P_lret i_X8_take_69 rfl ⟨tk_val3 hg hn hd, rfl, rfl⟩
theorem tk_val4 {nd g d : Nat} (hg : g < 2 ^ 60) (hn : nd < 2 ^ 60) (hd : d = 2 ∨ d = 3 ∨ d = 4) : some (Value.long (lN g)) = some (Value.long (lN (tk 4 nd g d))) := by
  have hm := may_le g d hd
  rfl
set_option maxRecDepth 100000 in
set_option maxHeartbeats 4000000 in
theorem c_take4 (I : IntM) (J : LngM) {nd g d : Nat} (hg : g < 2 ^ 60) (hn : nd < 2 ^ 60) (hd : d = 2 ∨ d = 3 ∨ d = 4) : CtV 2 m_X8_take [.int (nI 4), .long (lN nd), .long (lN g), .int (nI d)] I J (.long (lN (tk 4 nd g d))) I J := by
  refine CtV_of (by decide) rfl (Nat.le_of_ble_eq_true rfl) ?_
  refine V_ll i_X8_take_0 rfl ?_
  refine V_il i_X8_take_1 rfl ?_
  refine P_callS2v i_X8_take_3 ms_X8_may (by decide) (Nat.le_of_ble_eq_true rfl) (c_may I J hg hd) ?_
  refine V_ls (L' := [(0, _), (1, _), (3, _), (6, _)]) i_X8_take_6 (by decide) ⟨rfl, rfl, rfl, rfl, trivial⟩ ?_
  refine V_il i_X8_take_8 rfl ?_
  refine V_tswIn (tgt := 70) i_X8_take_9 (by decide) (by decide) rfl (by decide) ?_
  refine V_ll i_X8_take_70 rfl ?_
  exact P_lret i_X8_take_71 rfl ⟨tk_val4 hg hn hd, rfl, rfl⟩
theorem tk_val5 {nd g d : Nat} (hg : g < 2 ^ 60) (hn : nd < 2 ^ 60) (hd : d = 2 ∨ d = 3 ∨ d = 4) : some (Value.long (minL (lN (may g d) / 2) (lN nd))) = some (Value.long (lN (tk 5 nd g d))) := by
  have hm := may_le g d hd
  rw [show (2 : Int64) = lN 2 from rfl, pk_lDiv (by omega) (by decide) (by decide), minL_lN (by omega) (by omega)]
  rfl
set_option maxRecDepth 100000 in
set_option maxHeartbeats 4000000 in
theorem c_take5 (I : IntM) (J : LngM) {nd g d : Nat} (hg : g < 2 ^ 60) (hn : nd < 2 ^ 60) (hd : d = 2 ∨ d = 3 ∨ d = 4) : CtV 2 m_X8_take [.int (nI 5), .long (lN nd), .long (lN g), .int (nI d)] I J (.long (lN (tk 5 nd g d))) I J := by
  refine CtV_of (by decide) rfl (Nat.le_of_ble_eq_true rfl) ?_
  refine V_ll i_X8_take_0 rfl ?_
  refine V_il i_X8_take_1 rfl ?_
  refine P_callS2v i_X8_take_3 ms_X8_may (by decide) (Nat.le_of_ble_eq_true rfl) (c_may I J hg hd) ?_
  refine V_ls (L' := [(0, _), (1, _), (3, _), (6, _)]) i_X8_take_6 (by decide) ⟨rfl, rfl, rfl, rfl, trivial⟩ ?_
  refine V_il i_X8_take_8 rfl ?_
  refine V_tswIn (tgt := 72) i_X8_take_9 (by decide) (by decide) rfl (by decide) ?_
  refine V_ll i_X8_take_72 rfl ?_
  refine V_cl i_X8_take_74 ?_
  refine V_ldiv i_X8_take_77 (by decide) ?_
  refine V_ll i_X8_take_78 rfl ?_
  refine V_minL i_X8_take_79 (by decide) (Nat.le_refl 0) (Nat.le_refl 0) (Nat.le_of_ble_eq_true rfl) ?_
  exact P_lret i_X8_take_82 rfl ⟨tk_val5 hg hn hd, rfl, rfl⟩
theorem c_take (I : IntM) (J : LngM) {kd nd g d : Nat} (hk : kd ≤ 5) (hg : g < 2 ^ 60) (hn : nd < 2 ^ 60) (hd : d = 2 ∨ d = 3 ∨ d = 4) : CtV 2 m_X8_take [.int (nI kd), .long (lN nd), .long (lN g), .int (nI d)] I J (.long (lN (tk kd nd g d))) I J := by
  obtain rfl | rfl | rfl | rfl | rfl | rfl : kd = 0 ∨ kd = 1 ∨ kd = 2 ∨ kd = 3 ∨ kd = 4 ∨ kd = 5 := by omega
  · exact c_take0 I J hg hn hd
  · exact c_take1 I J hg hn hd
  · exact c_take2 I J hg hn hd
  · exact c_take3 I J hg hn hd
  · exact c_take4 I J hg hn hd
  · exact c_take5 I J hg hn hd

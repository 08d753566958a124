
/-! ===== the reference: its arithmetic ===== -/
def inL (v a b : Int64) : Int32 := if v < a then 0 else if b < v then 0 else 1

set_option maxRecDepth 100000 in
set_option maxHeartbeats 4000000 in
theorem c_M_in (I : IntM) (J : LngM) (v a b : Int64) : CtV 1 m_X11_in [.long v, .long a, .long b] I J (.int (inL v a b)) I J := by
  refine CtV_of (by decide) rfl (Nat.le_of_ble_eq_true rfl) ?_
  refine V_ll i_X11_in_0 rfl ?_
  refine V_ll i_X11_in_1 rfl ?_
  refine V_lcmp i_X11_in_2 ?_
  refine V_if_lt i_X11_in_3 (fun c3 => ?_) (fun c3 => ?_)
  · rw [lgc_lt] at c3
    refine V_c i_X11_in_17 ?_
    exact P_zret i_X11_in_18 rfl (by decide) ⟨by simp [inL, *], rfl, rfl⟩
  · rw [lgc_lt] at c3
    refine V_ll i_X11_in_6 rfl ?_
    refine V_ll i_X11_in_7 rfl ?_
    refine V_lcmp i_X11_in_9 ?_
    refine V_if_gt i_X11_in_10 (fun c10 => ?_) (fun c10 => ?_)
    · rw [lgc_gt] at c10
      refine V_c i_X11_in_17 ?_
      exact P_zret i_X11_in_18 rfl (by decide) ⟨by simp [inL, *], rfl, rfl⟩
    · rw [lgc_gt] at c10
      refine V_c i_X11_in_13 ?_
      refine V_goto i_X11_in_14 ?_
      exact P_zret i_X11_in_18 rfl (by decide) ⟨by simp [inL, *], rfl, rfl⟩

theorem lN_ne {n : Nat} (h : n < 2 ^ 63) (h0 : 0 < n) : ¬ lN n = 0 := fun q => by
  have := (pk_lEQ h (by decide : 0 < 2 ^ 63)).mp (q.trans (rfl : (0 : Int64) = lN 0))
  omega

theorem gcd_st (x y : Nat) : Nat.gcd y (x % y) = Nat.gcd x y := by
  rw [Nat.gcd_comm x y, Nat.gcd_rec y x, Nat.gcd_comm]
set_option maxRecDepth 100000 in
set_option maxHeartbeats 4000000 in
theorem lp_M_div (I : IntM) (J : LngM) (Q : Option Value → IntM → LngM → Prop) : ∀ m x y, y ≤ m → x < 2 ^ 63 → y < 2 ^ 63 → VP m_X11_divisor 1 42 [(4, .long (lN (Nat.gcd x y)))] [] I J Q → VP m_X11_divisor 1 17 [(4, .long (lN x)), (6, .long (lN y))] [] I J Q := by
  intro m
  induction m with
  | zero =>
    intro x y hm hx hy hq
    obtain rfl : y = 0 := Nat.le_zero.mp hm
    refine V_ll i_X11_divisor_17 rfl ?_
    refine V_cl i_X11_divisor_19 ?_
    refine V_lcmp i_X11_divisor_20 ?_
    refine V_if_eq_t i_X11_divisor_21 (lgc_eq.mpr rfl) ?_
    rw [Nat.gcd_zero_right] at hq
    exact V_L (L' := [(4, _)]) ⟨rfl, trivial⟩ hq
  | succ m ih =>
    intro x y hm hx hy hq
    by_cases h0 : y = 0
    · subst h0
      refine V_ll i_X11_divisor_17 rfl ?_
      refine V_cl i_X11_divisor_19 ?_
      refine V_lcmp i_X11_divisor_20 ?_
      refine V_if_eq_t i_X11_divisor_21 (lgc_eq.mpr rfl) ?_
      rw [Nat.gcd_zero_right] at hq
      exact V_L (L' := [(4, _)]) ⟨rfl, trivial⟩ hq
    · refine V_ll i_X11_divisor_17 rfl ?_
      refine V_cl i_X11_divisor_19 ?_
      refine V_lcmp i_X11_divisor_20 ?_
      refine V_if_eq_f i_X11_divisor_21 (fun q => lN_ne hy (by omega) (lgc_eq.mp q)) ?_
      refine V_ll i_X11_divisor_24 rfl ?_
      refine V_ll i_X11_divisor_26 rfl ?_
      refine V_lrem i_X11_divisor_28 (lN_ne hy (by omega)) ?_
      rw [pk_lRem hx (by omega) hy]
      refine V_ls (L' := [(6, _), (8, _)]) i_X11_divisor_29 (by decide) ⟨rfl, rfl, trivial⟩ ?_
      refine V_ll i_X11_divisor_31 rfl ?_
      refine V_ls (L' := [(4, _), (8, _)]) i_X11_divisor_33 (by decide) ⟨rfl, rfl, trivial⟩ ?_
      refine V_ll i_X11_divisor_35 rfl ?_
      refine V_ls (L' := [(4, _), (6, _)]) i_X11_divisor_37 (by decide) ⟨rfl, rfl, trivial⟩ ?_
      refine V_goto i_X11_divisor_39 ?_
      refine V_L (L' := [(4, _), (6, _)]) ⟨rfl, rfl, trivial⟩ ?_
      exact ih y (x % y) (by have := Nat.mod_lt x (show 0 < y by omega); omega) hy (by have := Nat.mod_lt x (show 0 < y by omega); omega) (by rw [gcd_st]; exact hq)
set_option maxRecDepth 100000 in
set_option maxHeartbeats 4000000 in
theorem c_M_divisor (I : IntM) (J : LngM) {A : Int} {B : Nat} (hA : A.natAbs < 2 ^ 62) (hB : B < 2 ^ 62) : CtV 1 m_X11_divisor [.long (lZ A), .long (lN B)] I J (.long (lN (Nat.gcd A.natAbs B))) I J := by
  refine CtV_of (by decide) rfl (Nat.le_of_ble_eq_true rfl) ?_
  refine V_ll i_X11_divisor_0 rfl ?_
  refine V_cl i_X11_divisor_1 ?_
  refine V_lcmp i_X11_divisor_2 ?_
  refine V_if_ge i_X11_divisor_3 (fun c3 => ?_) (fun c3 => ?_)
  · rw [lgc_ge, show (0 : Int64) = lZ 0 from rfl, lZ_le (by decide) (by decide) (by omega) (by omega)] at c3
    refine V_ll i_X11_divisor_11 rfl ?_
    rw [show lZ A = lN A.natAbs from by rw [lZ_N]; congr 1; omega]
    refine V_ls (L' := [(2, _), (4, _)]) i_X11_divisor_12 (by decide) ⟨rfl, rfl, trivial⟩ ?_
    refine V_ll i_X11_divisor_14 rfl ?_
    refine V_ls (L' := [(4, _), (6, _)]) i_X11_divisor_15 (by decide) ⟨rfl, rfl, trivial⟩ ?_
    refine V_L (L' := [(4, _), (6, _)]) ⟨rfl, rfl, trivial⟩ ?_
    exact lp_M_div I J _ B A.natAbs B (Nat.le_refl _) (by omega) (by omega) (by
      refine V_ll i_X11_divisor_42 rfl ?_
      exact P_lret i_X11_divisor_44 rfl ⟨rfl, rfl, rfl⟩)
  · rw [lgc_ge, show (0 : Int64) = lZ 0 from rfl, lZ_le (by decide) (by decide) (by omega) (by omega)] at c3
    refine V_ll i_X11_divisor_6 rfl ?_
    refine V_lneg i_X11_divisor_7 ?_
    refine V_goto i_X11_divisor_8 ?_
    rw [lZ_neg, show lZ (-A) = lN A.natAbs from by rw [lZ_N]; congr 1; omega]
    refine V_ls (L' := [(2, _), (4, _)]) i_X11_divisor_12 (by decide) ⟨rfl, rfl, trivial⟩ ?_
    refine V_ll i_X11_divisor_14 rfl ?_
    refine V_ls (L' := [(4, _), (6, _)]) i_X11_divisor_15 (by decide) ⟨rfl, rfl, trivial⟩ ?_
    refine V_L (L' := [(4, _), (6, _)]) ⟨rfl, rfl, trivial⟩ ?_
    exact lp_M_div I J _ B A.natAbs B (Nat.le_refl _) (by omega) (by omega) (by
      refine V_ll i_X11_divisor_42 rfl ?_
      exact P_lret i_X11_divisor_44 rfl ⟨rfl, rfl, rfl⟩)
def loJ (J : LngM) (A : Int) (B : Nat) : LngM := uJ (uJ J 146 23 (lZ (roN A B))) 146 24 (lN (rdN A B))
set_option maxRecDepth 100000 in
set_option maxHeartbeats 4000000 in
theorem c_M_lowest (I : IntM) (J : LngM) {A : Int} {B : Nat} (hA : A.natAbs < 2 ^ 62) (hB : B < 2 ^ 62) (h0 : 0 < B) : CtU 2 m_X11_lowest [.ref 146, .long (lZ A), .long (lN B)] I J I (loJ J A B) := by
  refine CtU_of (by decide) rfl (Nat.le_of_ble_eq_true rfl) ?_
  have hg0 : 0 < Nat.gcd A.natAbs B := Nat.gcd_pos_of_pos_right _ h0
  have hgl : Nat.gcd A.natAbs B ≤ B := Nat.gcd_le_right _ h0
  refine V_ll i_X11_lowest_0 rfl ?_
  refine V_ll i_X11_lowest_1 rfl ?_
  refine P_callS2v i_X11_lowest_2 ms_X11_divisor (by decide) (Nat.le_of_ble_eq_true rfl) (c_M_divisor I J hA hB) ?_
  refine V_ls (L' := [(0, _), (1, _), (3, _), (5, _)]) i_X11_lowest_5 (by decide) ⟨rfl, rfl, rfl, rfl, trivial⟩ ?_
  refine V_al i_X11_lowest_7 rfl ?_
  refine V_ll i_X11_lowest_8 rfl ?_
  refine V_ll i_X11_lowest_9 rfl ?_
  refine V_ldiv i_X11_lowest_11 (lN_ne (by omega) hg0) ?_
  rw [lZ_div (by omega) (by omega) hg0 (by omega) (Int.ofNat_dvd_left.mpr (Nat.gcd_dvd_left _ _))]
  refine V_putJ i_X11_lowest_12 rfl ?_
  refine V_al i_X11_lowest_15 rfl ?_
  refine V_ll i_X11_lowest_16 rfl ?_
  refine V_ll i_X11_lowest_17 rfl ?_
  refine V_ldiv i_X11_lowest_19 (lN_ne (by omega) hg0) ?_
  rw [pk_lDiv (by omega) hg0 (by omega)]
  refine V_putJ i_X11_lowest_20 rfl ?_
  exact P_vret i_X11_lowest_23 rfl ⟨rfl, rfl, rfl⟩
theorem loJ_Fr (J : LngM) {x A : Int} {y u : Nat} (hy : 0 < y) (hu : 0 < u) (h : x * (u : Int) = A * (y : Int)) : loJ J x y = loJ J A u := by
  unfold loJ
  rw [(ro_one hy hu h).1, (ro_one hy hu h).2]
theorem abs_le_of_cross {x A : Int} {y u : Nat} (hu : 0 < u) (hyu : y ≤ u) (h : x * (u : Int) = A * (y : Int)) : x.natAbs ≤ A.natAbs := by
  have h1 := congrArg Int.natAbs h
  rw [Int.natAbs_mul, Int.natAbs_mul, Int.natAbs_natCast, Int.natAbs_natCast] at h1
  have h2 : A.natAbs * y ≤ A.natAbs * u := Nat.mul_le_mul_left _ hyu
  exact Nat.le_of_mul_le_mul_right (by omega) hu
set_option maxRecDepth 100000 in
set_option maxHeartbeats 4000000 in
theorem c_M_sum (I : IntM) (J : LngM) {a b c d : Int64} {A C : Int} {u : Nat} (hu : 0 < u) (hu2 : u < 2 ^ 33) (hA : A.natAbs < 2 ^ 60) (hC : C.natAbs < 2 ^ 60) (h1 : Fr a b A u) (h2 : Fr c d C u) : CtU 3 m_X11_sum [.ref 146, .long a, .long b, .long c, .long d] I J I (loJ J (A + C) u) := by
  refine CtU_of (by decide) rfl (Nat.le_of_ble_eq_true rfl) ?_
  obtain ⟨ha, hb2⟩ := h1
  obtain ⟨hc, hd2⟩ := h2
  subst ha; subst hb2; subst hc; subst hd2
  have p1 := rd_pos (A := A) hu
  have p2 := rd_pos (A := C) hu
  have l1 := rd_le (A := A) hu
  have l2 := rd_le (A := C) hu
  have hg0 : 0 < Nat.gcd (rdN A u) (rdN C u) := Nat.gcd_pos_of_pos_left _ p1
  have hgl : Nat.gcd (rdN A u) (rdN C u) ≤ rdN A u := Nat.gcd_le_left _ p1
  have hd := c_M_divisor I J (A := (rdN A u : Int)) (B := rdN C u) (by rw [Int.natAbs_natCast]; omega) (by omega)
  rw [Int.natAbs_natCast, ← lZ_N] at hd
  have hx := Fr.sum (A := A) (C := C) hu
  have hlc := Fr.lcm (rd_dvd A u) (rd_dvd C u) hu
  have hlow := c_M_lowest I J (A := roN A u * ((rdN C u / Nat.gcd (rdN A u) (rdN C u) : Nat) : Int) + roN C u * ((rdN A u / Nat.gcd (rdN A u) (rdN C u) : Nat) : Int)) (B := rdN A u / Nat.gcd (rdN A u) (rdN C u) * rdN C u) (by have := abs_le_of_cross hu hlc.2 hx; omega) (by omega) hlc.1
  rw [loJ_Fr J hlc.1 hu hx] at hlow
  refine V_ll i_X11_sum_0 rfl ?_
  refine V_ll i_X11_sum_1 rfl ?_
  refine P_callS2v i_X11_sum_3 ms_X11_divisor (by decide) (Nat.le_of_ble_eq_true rfl) hd ?_
  refine V_ls (L' := [(0, _), (1, _), (3, _), (5, _), (7, _), (9, _)]) i_X11_sum_6 (by decide) ⟨rfl, rfl, rfl, rfl, rfl, rfl, trivial⟩ ?_
  refine V_al i_X11_sum_8 rfl ?_
  refine V_ll i_X11_sum_9 rfl ?_
  refine V_ll i_X11_sum_10 rfl ?_
  refine V_ll i_X11_sum_12 rfl ?_
  refine V_ldiv i_X11_sum_14 (lN_ne (by omega) hg0) ?_
  rw [pk_lDiv (by omega) hg0 (by omega)]
  refine V_lmul i_X11_sum_15 ?_
  refine V_ll i_X11_sum_16 rfl ?_
  refine V_ll i_X11_sum_18 rfl ?_
  refine V_ll i_X11_sum_19 rfl ?_
  refine V_ldiv i_X11_sum_21 (lN_ne (by omega) hg0) ?_
  rw [pk_lDiv (by omega) hg0 (by omega)]
  refine V_lmul i_X11_sum_22 ?_
  refine V_ladd i_X11_sum_23 ?_
  refine V_ll i_X11_sum_24 rfl ?_
  refine V_ll i_X11_sum_25 rfl ?_
  refine V_ldiv i_X11_sum_27 (lN_ne (by omega) hg0) ?_
  rw [pk_lDiv (by omega) hg0 (by omega)]
  refine V_ll i_X11_sum_28 rfl ?_
  refine V_lmul i_X11_sum_30 ?_
  rw [lZ_N (rdN C u / _), lZ_N (rdN A u / _), lZ_mul, lZ_mul, lZ_add, ← lZ_N (rdN A u / _), lN_mul]
  refine P_callV2u i_X11_sum_31 mi_X11_lowest rfl ⟨_, _, rfl⟩ (by decide) (Nat.le_of_ble_eq_true rfl) hlow ?_
  exact P_vret i_X11_sum_34 rfl ⟨rfl, rfl, rfl⟩
def teJ (J : LngM) (A : Int) (B : Nat) : LngM := uJ (uJ (loJ J A B) 146 3 (lZ (roN A B))) 146 4 (lN (rdN A B))
set_option maxRecDepth 100000 in
set_option maxHeartbeats 4000000 in
theorem c_M_tells (I : IntM) (J : LngM) {r : Int32} {A : Int} {B : Nat} (hA : A.natAbs < 2 ^ 62) (hB : B < 2 ^ 62) (h0 : 0 < B) : CtV 3 m_X11_tells [.ref 146, .int r, .long (lZ A), .long (lN B)] I J (.int r) I (teJ J A B) := by
  refine CtV_of (by decide) rfl (Nat.le_of_ble_eq_true rfl) ?_
  refine V_al i_X11_tells_0 rfl ?_
  refine V_ll i_X11_tells_1 rfl ?_
  refine V_ll i_X11_tells_2 rfl ?_
  refine P_callV2u i_X11_tells_4 mi_X11_lowest rfl ⟨_, _, rfl⟩ (by decide) (Nat.le_of_ble_eq_true rfl) (c_M_lowest I J hA hB h0) ?_
  refine V_al i_X11_tells_7 rfl ?_
  refine V_al i_X11_tells_8 rfl ?_
  refine V_getJ i_X11_tells_9 rfl ?_
  rw [show loJ J A B 146 23 = lZ (roN A B) from by unfold loJ; rw [uJ_ne _ _ (by decide), uJ_eq]]
  refine V_putJ i_X11_tells_12 rfl ?_
  refine V_al i_X11_tells_15 rfl ?_
  refine V_al i_X11_tells_16 rfl ?_
  refine V_getJ i_X11_tells_17 rfl ?_
  rw [show uJ (loJ J A B) 146 3 (lZ (roN A B)) 146 24 = lN (rdN A B) from by rw [uJ_ne _ _ (by decide)]; unfold loJ; rw [uJ_eq]]
  refine V_putJ i_X11_tells_20 rfl ?_
  refine V_il i_X11_tells_23 rfl ?_
  exact P_iret i_X11_tells_24 rfl ⟨rfl, rfl, rfl⟩
theorem mod2c (e : Nat) : e % 2 = 0 ∨ e % 2 = 1 := by omega
set_option maxRecDepth 100000 in
set_option maxHeartbeats 4000000 in
theorem c_M_parts0 (I : IntM) (J : LngM) {e : Nat} (he : e < 2 ^ 31) : CtV 1 m_X11_parts [.int (nI 0), .int (nI e)] I J (.int (nI (dv 0 e))) I J := by
  refine CtV_of (by decide) rfl (Nat.le_of_ble_eq_true rfl) ?_
  refine V_il i_X11_parts_0 rfl ?_
  refine V_if_ne_f i_X11_parts_1 rfl ?_
  refine V_c i_X11_parts_4 ?_
  refine V_goto i_X11_parts_5 ?_
  exact P_iret i_X11_parts_37 rfl ⟨rfl, rfl, rfl⟩
set_option maxRecDepth 100000 in
set_option maxHeartbeats 4000000 in
theorem c_M_parts1 (I : IntM) (J : LngM) {e : Nat} (he : e < 2 ^ 31) : CtV 1 m_X11_parts [.int (nI 1), .int (nI e)] I J (.int (nI (dv 1 e))) I J := by
  refine CtV_of (by decide) rfl (Nat.le_of_ble_eq_true rfl) ?_
  refine V_il i_X11_parts_0 rfl ?_
  refine V_if_ne_t i_X11_parts_1 (by decide) ?_
  refine V_il i_X11_parts_8 rfl ?_
  refine V_c i_X11_parts_9 ?_
  refine V_ic_ne_f i_X11_parts_10 rfl ?_
  refine V_c i_X11_parts_13 ?_
  refine V_goto i_X11_parts_14 ?_
  exact P_iret i_X11_parts_37 rfl ⟨rfl, rfl, rfl⟩
set_option maxRecDepth 100000 in
set_option maxHeartbeats 4000000 in
theorem c_M_parts2 (I : IntM) (J : LngM) {e : Nat} (he : e < 2 ^ 31) : CtV 1 m_X11_parts [.int (nI 2), .int (nI e)] I J (.int (nI (dv 2 e))) I J := by
  refine CtV_of (by decide) rfl (Nat.le_of_ble_eq_true rfl) ?_
  refine V_il i_X11_parts_0 rfl ?_
  refine V_if_ne_t i_X11_parts_1 (by decide) ?_
  refine V_il i_X11_parts_8 rfl ?_
  refine V_c i_X11_parts_9 ?_
  refine V_ic_ne_t i_X11_parts_10 (by decide) ?_
  refine V_il i_X11_parts_17 rfl ?_
  refine V_c i_X11_parts_18 ?_
  refine V_ic_ne_f i_X11_parts_19 rfl ?_
  refine V_c i_X11_parts_22 ?_
  refine V_goto i_X11_parts_23 ?_
  exact P_iret i_X11_parts_37 rfl ⟨rfl, rfl, rfl⟩
set_option maxRecDepth 100000 in
set_option maxHeartbeats 4000000 in
theorem c_M_parts3 (I : IntM) (J : LngM) {e : Nat} (he : e < 2 ^ 31) : CtV 1 m_X11_parts [.int (nI 3), .int (nI e)] I J (.int (nI (dv 3 e))) I J := by
  refine CtV_of (by decide) rfl (Nat.le_of_ble_eq_true rfl) ?_
  refine V_il i_X11_parts_0 rfl ?_
  refine V_if_ne_t i_X11_parts_1 (by decide) ?_
  refine V_il i_X11_parts_8 rfl ?_
  refine V_c i_X11_parts_9 ?_
  refine V_ic_ne_t i_X11_parts_10 (by decide) ?_
  refine V_il i_X11_parts_17 rfl ?_
  refine V_c i_X11_parts_18 ?_
  refine V_ic_ne_t i_X11_parts_19 (by decide) ?_
  refine V_il i_X11_parts_26 rfl ?_
  refine V_c i_X11_parts_27 ?_
  refine V_irem i_X11_parts_28 (by decide) ?_
  refine V_if_ne i_X11_parts_29 (fun c29 => ?_) (fun c29 => ?_)
  · rw [show (2 : Int32) = nI 2 from rfl, pk_rem he (by decide) (by decide)] at c29
    have c29 : ¬ e % 2 = 0 := fun q => c29 (by rw [q]; rfl)
    refine V_c i_X11_parts_36 ?_
    exact P_iret i_X11_parts_37 rfl ⟨by simp [dv, c29]; rfl, rfl, rfl⟩
  · rw [show (2 : Int32) = nI 2 from rfl, pk_rem he (by decide) (by decide)] at c29
    have c29 : e % 2 = 0 := by
      rcases mod2c e with h | h
      · exact h
      · rw [h] at c29; exact absurd c29 (by decide)
    refine V_c i_X11_parts_32 ?_
    refine V_goto i_X11_parts_33 ?_
    exact P_iret i_X11_parts_37 rfl ⟨by simp [dv, c29]; rfl, rfl, rfl⟩
theorem c_M_parts (I : IntM) (J : LngM) {lw e : Nat} (hl : lw ≤ 3) (he : e < 2 ^ 31) : CtV 1 m_X11_parts [.int (nI lw), .int (nI e)] I J (.int (nI (dv lw e))) I J := by
  obtain rfl | rfl | rfl | rfl : lw = 0 ∨ lw = 1 ∨ lw = 2 ∨ lw = 3 := by omega
  · exact c_M_parts0 I J he
  · exact c_M_parts1 I J he
  · exact c_M_parts2 I J he
  · exact c_M_parts3 I J he
set_option maxRecDepth 100000 in
set_option maxHeartbeats 4000000 in
theorem c_M_lesser (I : IntM) (J : LngM) {A : Int} {B nd : Nat} (hA : A.natAbs < 2 ^ 62) (hB : B < 2 ^ 62) (h0 : 0 < B) (hm : nd * B < 2 ^ 62) (hn : nd < 2 ^ 62) : CtU 3 m_X11_lesser [.ref 146, .long (lZ A), .long (lN B), .long (lN nd)] I J I (if (nd : Int) * B < A then loJ J nd 1 else loJ J A B) := by
  refine CtU_of (by decide) rfl (Nat.le_of_ble_eq_true rfl) ?_
  refine V_ll i_X11_lesser_0 rfl ?_
  refine V_ll i_X11_lesser_1 rfl ?_
  refine V_ll i_X11_lesser_3 rfl ?_
  refine V_lmul i_X11_lesser_4 ?_
  refine V_lcmp i_X11_lesser_5 ?_
  refine V_if_le i_X11_lesser_6 (fun c6 => ?_) (fun c6 => ?_)
  · rw [lgc_le, lN_mul, lZ_N, lZ_le (by omega) (by omega) (by omega) (by omega)] at c6
    refine V_al i_X11_lesser_19 rfl ?_
    refine V_ll i_X11_lesser_20 rfl ?_
    refine V_ll i_X11_lesser_21 rfl ?_
    refine P_callV2u i_X11_lesser_22 mi_X11_lowest rfl ⟨_, _, rfl⟩ (by decide) (Nat.le_of_ble_eq_true rfl) (c_M_lowest I J (by omega) (by omega) h0) ?_
    exact P_vret i_X11_lesser_25 rfl ⟨rfl, rfl, by rw [if_neg (by rw [Int.natCast_mul] at c6; omega)]⟩
  · rw [lgc_le, lN_mul, lZ_N, lZ_le (by omega) (by omega) (by omega) (by omega)] at c6
    refine V_al i_X11_lesser_9 rfl ?_
    refine V_ll i_X11_lesser_10 rfl ?_
    refine V_cl i_X11_lesser_12 ?_
    rw [lZ_N, show (1 : Int64) = lN 1 from rfl]
    refine P_callV2u i_X11_lesser_13 mi_X11_lowest rfl ⟨_, _, rfl⟩ (by decide) (Nat.le_of_ble_eq_true rfl) (c_M_lowest I J (A := (nd : Int)) (B := 1) (by rw [Int.natAbs_natCast]; omega) (by decide) (by decide)) ?_
    refine V_goto i_X11_lesser_16 ?_
    exact P_vret i_X11_lesser_25 rfl ⟨rfl, rfl, by rw [if_pos (by rw [Int.natCast_mul] at c6; omega)]⟩

theorem cross_step {a b T g p q u : Nat} (h : a * u = g * b) (hT : T * q = g * p) : (((a * p : Nat) : Int)) * (u : Int) = ((T : Nat) : Int) * ((b * q : Nat) : Int) := by
  rw [← Int.natCast_mul, ← Int.natCast_mul]
  congr 1
  calc a * p * u = (a * u) * p := by simp only [Nat.mul_assoc, Nat.mul_comm, Nat.mul_left_comm]
    _ = g * b * p := by rw [h]
    _ = (g * p) * b := by simp only [Nat.mul_assoc, Nat.mul_comm, Nat.mul_left_comm]
    _ = T * q * b := by rw [hT]
    _ = T * (b * q) := by simp only [Nat.mul_assoc, Nat.mul_comm, Nat.mul_left_comm]
/-- the lesser of T / u and nd, in lowest terms -/
theorem lesser_low (J : LngM) {x y T nd u : Nat} (hy : 0 < y) (hu : 0 < u) (h : (x : Int) * (u : Int) = (T : Int) * (y : Int)) : (if (nd : Int) * (y : Int) < (x : Int) then loJ J nd 1 else loJ J x y) = loJ J ((min T (nd * u) : Nat) : Int) u := by
  have hN : x * u = T * y := by exact_mod_cast h
  have hiff : (nd : Int) * (y : Int) < (x : Int) ↔ nd * u < T := by
    rw [← Int.natCast_mul, Int.ofNat_lt]
    constructor
    · intro h1
      refine Nat.lt_of_mul_lt_mul_right (a := y) ?_
      rw [← hN]
      calc nd * u * y = nd * y * u := by simp only [Nat.mul_assoc, Nat.mul_comm, Nat.mul_left_comm]
        _ < x * u := Nat.mul_lt_mul_of_pos_right h1 hu
    · intro h1
      refine Nat.lt_of_mul_lt_mul_right (a := u) ?_
      rw [hN]
      calc nd * y * u = nd * u * y := by simp only [Nat.mul_assoc, Nat.mul_comm, Nat.mul_left_comm]
        _ < T * y := Nat.mul_lt_mul_of_pos_right h1 hy
  by_cases hc : (nd : Int) * (y : Int) < (x : Int)
  · rw [if_pos hc, Nat.min_eq_right (Nat.le_of_lt (hiff.mp hc))]
    exact loJ_Fr J (by omega) hu (by rw [Int.natCast_mul]; simp)
  · rw [if_neg hc, Nat.min_eq_left (Nat.not_lt.mp (fun q => hc (hiff.mpr q)))]
    exact loJ_Fr J hy hu h
theorem Fr.nat {a b : Int64} {g u : Nat} (hu : 0 < u) (h : Fr a b (g : Int) u) : ∃ x y : Nat, a = lN x ∧ b = lN y ∧ 0 < y ∧ y ≤ u ∧ x ≤ g ∧ x * u = g * y := by
  have hn : 0 ≤ roN (g : Int) u := by
    unfold roN
    exact Int.ediv_nonneg (Int.natCast_nonneg _) (Int.natCast_nonneg _)
  have hc := ro_cross (g : Int) u
  have ha := ro_abs (A := (g : Int)) hu
  rw [Int.natAbs_natCast] at ha
  refine ⟨(roN (g : Int) u).natAbs, rdN (g : Int) u, ?_, h.2, rd_pos hu, rd_le hu, ha, ?_⟩
  · rw [h.1, lZ_N]
    exact congrArg lZ (by omega)
  · have : ((roN (g : Int) u).natAbs : Int) = roN (g : Int) u := by omega
    rw [← this] at hc
    exact_mod_cast hc

theorem mul_bd {a b : Nat} (ha : a < 2 ^ 7) (hb : b < 2 ^ 40) : a * b < 2 ^ 62 := by
  have h1 : a * b ≤ 2 ^ 7 * b := Nat.mul_le_mul_right _ (by omega)
  omega
set_option maxRecDepth 100000 in
set_option maxHeartbeats 4000000 in
theorem c_M_byParts0 (I : IntM) (J : LngM) {a b : Int64} {g u d nd : Nat} (hu : 0 < u) (hu2 : u < 2 ^ 33) (hg : g < 2 ^ 50) (hn : nd ≤ 99) (h24 : ∃ k, g = 24 * k) (hd : d = 2 ∨ d = 3 ∨ d = 4) (hF : Fr a b (g : Int) u) : CtU 4 m_X11_byParts [.ref 146, .int (nI 0), .int (nI nd), .long a, .long b, .int (nI d)] I J I (loJ J ((may g d : Nat) : Int) u) := by
  refine CtU_of (by decide) rfl (Nat.le_of_ble_eq_true rfl) ?_
  obtain ⟨x, y, rfl, rfl, hy0, hyu, hxg, hc⟩ := Fr.nat hu hF
  obtain ⟨k, rfl⟩ := h24
  have e1 : (nI d - 1).toInt64 = lN (d - 1) := by rcases hd with rfl | rfl | rfl <;> decide
  have e2 : (nI d).toInt64 = lN d := by rcases hd with rfl | rfl | rfl <;> decide
  have e3 : (2 * nI d - 1).toInt64 = lN (2 * d - 1) := by rcases hd with rfl | rfl | rfl <;> decide
  have hT : (may (24 * k) d) * (d) = 24 * k * (d - 1) := by (try unfold may); rcases hd with rfl | rfl | rfl <;> omega
  have hX := cross_step hc hT
  refine V_il i_X11_byParts_0 rfl ?_
  refine V_tswOut (tgt := 144) i_X11_byParts_1 (by decide) (by decide) ?_
  refine V_al i_X11_byParts_144 rfl ?_
  refine V_ll i_X11_byParts_145 rfl ?_
  refine V_il i_X11_byParts_146 rfl ?_
  refine V_c i_X11_byParts_148 ?_
  refine V_isub i_X11_byParts_149 ?_
  refine V_i2l i_X11_byParts_150 ?_
  refine V_lmul i_X11_byParts_151 ?_
  refine V_ll i_X11_byParts_152 rfl ?_
  refine V_il i_X11_byParts_154 rfl ?_
  refine V_i2l i_X11_byParts_156 ?_
  refine V_lmul i_X11_byParts_157 ?_
  have h9 := c_M_lowest I J (A := ((x * (d - 1) : Nat) : Int)) (B := y * d) (by rw [Int.natAbs_natCast]; rcases hd with rfl | rfl | rfl <;> omega) (by rcases hd with rfl | rfl | rfl <;> omega) (by rcases hd with rfl | rfl | rfl <;> omega)
  rw [loJ_Fr J (by rcases hd with rfl | rfl | rfl <;> omega) hu (hX)] at h9
  rw [e1, e2, lN_mul, lN_mul, lZ_N (x * (d - 1))]
  refine P_callV2u i_X11_byParts_158 mi_X11_lowest rfl ⟨_, _, rfl⟩ (by decide) (Nat.le_of_ble_eq_true rfl) h9 ?_
  exact P_vret i_X11_byParts_161 rfl ⟨rfl, rfl, rfl⟩
set_option maxRecDepth 100000 in
set_option maxHeartbeats 4000000 in
theorem c_M_byParts1 (I : IntM) (J : LngM) {a b : Int64} {g u d nd : Nat} (hu : 0 < u) (hu2 : u < 2 ^ 33) (hg : g < 2 ^ 50) (hn : nd ≤ 99) (h24 : ∃ k, g = 24 * k) (hd : d = 2 ∨ d = 3 ∨ d = 4) (hF : Fr a b (g : Int) u) : CtU 4 m_X11_byParts [.ref 146, .int (nI 1), .int (nI nd), .long a, .long b, .int (nI d)] I J I (loJ J ((may g d / 2 : Nat) : Int) u) := by
  refine CtU_of (by decide) rfl (Nat.le_of_ble_eq_true rfl) ?_
  obtain ⟨x, y, rfl, rfl, hy0, hyu, hxg, hc⟩ := Fr.nat hu hF
  obtain ⟨k, rfl⟩ := h24
  have e1 : (nI d - 1).toInt64 = lN (d - 1) := by rcases hd with rfl | rfl | rfl <;> decide
  have e2 : (nI d).toInt64 = lN d := by rcases hd with rfl | rfl | rfl <;> decide
  have e3 : (2 * nI d - 1).toInt64 = lN (2 * d - 1) := by rcases hd with rfl | rfl | rfl <;> decide
  have hT : (may (24 * k) d / 2) * (2 * d) = 24 * k * (d - 1) := by (try unfold may); rcases hd with rfl | rfl | rfl <;> omega
  have hX := cross_step hc hT
  refine V_il i_X11_byParts_0 rfl ?_
  refine V_tswIn (tgt := 36) i_X11_byParts_1 (by decide) (by decide) rfl (by decide) ?_
  refine V_al i_X11_byParts_36 rfl ?_
  refine V_ll i_X11_byParts_37 rfl ?_
  refine V_il i_X11_byParts_38 rfl ?_
  refine V_c i_X11_byParts_40 ?_
  refine V_isub i_X11_byParts_41 ?_
  refine V_i2l i_X11_byParts_42 ?_
  refine V_lmul i_X11_byParts_43 ?_
  refine V_ll i_X11_byParts_44 rfl ?_
  refine V_cl i_X11_byParts_46 ?_
  refine V_lmul i_X11_byParts_49 ?_
  refine V_il i_X11_byParts_50 rfl ?_
  refine V_i2l i_X11_byParts_52 ?_
  refine V_lmul i_X11_byParts_53 ?_
  have h9 := c_M_lowest I J (A := ((x * (d - 1) : Nat) : Int)) (B := y * (2 * d)) (by rw [Int.natAbs_natCast]; rcases hd with rfl | rfl | rfl <;> omega) (by rcases hd with rfl | rfl | rfl <;> omega) (by rcases hd with rfl | rfl | rfl <;> omega)
  rw [loJ_Fr J (by rcases hd with rfl | rfl | rfl <;> omega) hu (hX)] at h9
  rw [e1, e2, lN_mul, show (2 : Int64) = lN 2 from rfl, lN_mul, lN_mul, lZ_N (x * (d - 1)), Nat.mul_assoc y 2 d]
  refine P_callV2u i_X11_byParts_54 mi_X11_lowest rfl ⟨_, _, rfl⟩ (by decide) (Nat.le_of_ble_eq_true rfl) h9 ?_
  refine V_goto i_X11_byParts_57 ?_
  exact P_vret i_X11_byParts_161 rfl ⟨rfl, rfl, rfl⟩
set_option maxRecDepth 100000 in
set_option maxHeartbeats 4000000 in
theorem c_M_byParts2 (I : IntM) (J : LngM) {a b : Int64} {g u d nd : Nat} (hu : 0 < u) (hu2 : u < 2 ^ 33) (hg : g < 2 ^ 50) (hn : nd ≤ 99) (h24 : ∃ k, g = 24 * k) (hd : d = 2 ∨ d = 3 ∨ d = 4) (hF : Fr a b (g : Int) u) : CtU 4 m_X11_byParts [.ref 146, .int (nI 2), .int (nI nd), .long a, .long b, .int (nI d)] I J I (loJ J ((may g d + (g - may g d) / 2 : Nat) : Int) u) := by
  refine CtU_of (by decide) rfl (Nat.le_of_ble_eq_true rfl) ?_
  obtain ⟨x, y, rfl, rfl, hy0, hyu, hxg, hc⟩ := Fr.nat hu hF
  obtain ⟨k, rfl⟩ := h24
  have e1 : (nI d - 1).toInt64 = lN (d - 1) := by rcases hd with rfl | rfl | rfl <;> decide
  have e2 : (nI d).toInt64 = lN d := by rcases hd with rfl | rfl | rfl <;> decide
  have e3 : (2 * nI d - 1).toInt64 = lN (2 * d - 1) := by rcases hd with rfl | rfl | rfl <;> decide
  have hT : (may (24 * k) d + ((24 * k) - may (24 * k) d) / 2) * (2 * d) = 24 * k * (2 * d - 1) := by (try unfold may); rcases hd with rfl | rfl | rfl <;> omega
  have hX := cross_step hc hT
  refine V_il i_X11_byParts_0 rfl ?_
  refine V_tswIn (tgt := 60) i_X11_byParts_1 (by decide) (by decide) rfl (by decide) ?_
  refine V_al i_X11_byParts_60 rfl ?_
  refine V_ll i_X11_byParts_61 rfl ?_
  refine V_c i_X11_byParts_62 ?_
  refine V_il i_X11_byParts_63 rfl ?_
  refine V_imul i_X11_byParts_65 ?_
  refine V_c i_X11_byParts_66 ?_
  refine V_isub i_X11_byParts_67 ?_
  refine V_i2l i_X11_byParts_68 ?_
  refine V_lmul i_X11_byParts_69 ?_
  refine V_ll i_X11_byParts_70 rfl ?_
  refine V_cl i_X11_byParts_72 ?_
  refine V_lmul i_X11_byParts_75 ?_
  refine V_il i_X11_byParts_76 rfl ?_
  refine V_i2l i_X11_byParts_78 ?_
  refine V_lmul i_X11_byParts_79 ?_
  have h9 := c_M_lowest I J (A := ((x * (2 * d - 1) : Nat) : Int)) (B := y * (2 * d)) (by rw [Int.natAbs_natCast]; rcases hd with rfl | rfl | rfl <;> omega) (by rcases hd with rfl | rfl | rfl <;> omega) (by rcases hd with rfl | rfl | rfl <;> omega)
  rw [loJ_Fr J (by rcases hd with rfl | rfl | rfl <;> omega) hu (hX)] at h9
  rw [e3, e2, lN_mul, show (2 : Int64) = lN 2 from rfl, lN_mul, lN_mul, lZ_N (x * (2 * d - 1)), Nat.mul_assoc y 2 d]
  refine P_callV2u i_X11_byParts_80 mi_X11_lowest rfl ⟨_, _, rfl⟩ (by decide) (Nat.le_of_ble_eq_true rfl) h9 ?_
  refine V_goto i_X11_byParts_83 ?_
  exact P_vret i_X11_byParts_161 rfl ⟨rfl, rfl, rfl⟩
set_option maxRecDepth 100000 in
set_option maxHeartbeats 4000000 in
theorem c_M_byParts3 (I : IntM) (J : LngM) {a b : Int64} {g u d nd : Nat} (hu : 0 < u) (hu2 : u < 2 ^ 33) (hg : g < 2 ^ 50) (hn : nd ≤ 99) (h24 : ∃ k, g = 24 * k) (hd : d = 2 ∨ d = 3 ∨ d = 4) (hF : Fr a b (g : Int) u) : CtU 4 m_X11_byParts [.ref 146, .int (nI 3), .int (nI nd), .long a, .long b, .int (nI d)] I J I (loJ J ((min (may g d) (nd * u) : Nat) : Int) u) := by
  refine CtU_of (by decide) rfl (Nat.le_of_ble_eq_true rfl) ?_
  obtain ⟨x, y, rfl, rfl, hy0, hyu, hxg, hc⟩ := Fr.nat hu hF
  obtain ⟨k, rfl⟩ := h24
  have e1 : (nI d - 1).toInt64 = lN (d - 1) := by rcases hd with rfl | rfl | rfl <;> decide
  have e2 : (nI d).toInt64 = lN d := by rcases hd with rfl | rfl | rfl <;> decide
  have e3 : (2 * nI d - 1).toInt64 = lN (2 * d - 1) := by rcases hd with rfl | rfl | rfl <;> decide
  have hT : (may (24 * k) d) * (d) = 24 * k * (d - 1) := by (try unfold may); rcases hd with rfl | rfl | rfl <;> omega
  have hX := cross_step hc hT
  refine V_il i_X11_byParts_0 rfl ?_
  refine V_tswIn (tgt := 86) i_X11_byParts_1 (by decide) (by decide) rfl (by decide) ?_
  refine V_al i_X11_byParts_86 rfl ?_
  refine V_ll i_X11_byParts_87 rfl ?_
  refine V_il i_X11_byParts_88 rfl ?_
  refine V_c i_X11_byParts_90 ?_
  refine V_isub i_X11_byParts_91 ?_
  refine V_i2l i_X11_byParts_92 ?_
  refine V_lmul i_X11_byParts_93 ?_
  refine V_ll i_X11_byParts_94 rfl ?_
  refine V_il i_X11_byParts_96 rfl ?_
  refine V_i2l i_X11_byParts_98 ?_
  refine V_lmul i_X11_byParts_99 ?_
  refine V_il i_X11_byParts_100 rfl ?_
  refine V_i2l i_X11_byParts_101 ?_
  have h9 := c_M_lesser I J (A := ((x * (d - 1) : Nat) : Int)) (B := y * d) (nd := nd) (by rw [Int.natAbs_natCast]; rcases hd with rfl | rfl | rfl <;> omega) (by rcases hd with rfl | rfl | rfl <;> omega) (by rcases hd with rfl | rfl | rfl <;> omega) (by rcases hd with rfl | rfl | rfl <;> exact mul_bd (by omega) (by omega)) (by omega)
  rw [lesser_low J (by rcases hd with rfl | rfl | rfl <;> omega) hu hX] at h9
  rw [e1, e2, lN_mul, lN_mul, lZ_N (x * (d - 1)), nI_long (by omega)]
  refine P_callV3u i_X11_byParts_102 mi_X11_lesser rfl ⟨_, _, rfl⟩ (by decide) (Nat.le_of_ble_eq_true rfl) h9 ?_
  refine V_goto i_X11_byParts_105 ?_
  exact P_vret i_X11_byParts_161 rfl ⟨rfl, rfl, rfl⟩
set_option maxRecDepth 100000 in
set_option maxHeartbeats 4000000 in
theorem c_M_byParts4 (I : IntM) (J : LngM) {a b : Int64} {g u d nd : Nat} (hu : 0 < u) (hu2 : u < 2 ^ 33) (hg : g < 2 ^ 50) (hn : nd ≤ 99) (h24 : ∃ k, g = 24 * k) (hd : d = 2 ∨ d = 3 ∨ d = 4) (hF : Fr a b (g : Int) u) : CtU 4 m_X11_byParts [.ref 146, .int (nI 4), .int (nI nd), .long a, .long b, .int (nI d)] I J I (loJ J ((g : Nat) : Int) u) := by
  refine CtU_of (by decide) rfl (Nat.le_of_ble_eq_true rfl) ?_
  obtain ⟨x, y, rfl, rfl, hy0, hyu, hxg, hc⟩ := Fr.nat hu hF
  obtain ⟨k, rfl⟩ := h24
  have e1 : (nI d - 1).toInt64 = lN (d - 1) := by rcases hd with rfl | rfl | rfl <;> decide
  have e2 : (nI d).toInt64 = lN d := by rcases hd with rfl | rfl | rfl <;> decide
  have e3 : (2 * nI d - 1).toInt64 = lN (2 * d - 1) := by rcases hd with rfl | rfl | rfl <;> decide
  have hT : ((24 * k)) * (1) = 24 * k * (1) := by (try unfold may); rcases hd with rfl | rfl | rfl <;> omega
  have hX := cross_step hc hT
  refine V_il i_X11_byParts_0 rfl ?_
  refine V_tswIn (tgt := 108) i_X11_byParts_1 (by decide) (by decide) rfl (by decide) ?_
  refine V_al i_X11_byParts_108 rfl ?_
  refine V_ll i_X11_byParts_109 rfl ?_
  refine V_ll i_X11_byParts_110 rfl ?_
  have h9 := c_M_lowest I J (A := ((x : Nat) : Int)) (B := y) (by rw [Int.natAbs_natCast]; rcases hd with rfl | rfl | rfl <;> omega) (by rcases hd with rfl | rfl | rfl <;> omega) (by rcases hd with rfl | rfl | rfl <;> omega)
  rw [loJ_Fr J (by rcases hd with rfl | rfl | rfl <;> omega) hu (by rw [← Int.natCast_mul, hc, Int.natCast_mul] : ((x : Nat) : Int) * (u : Int) = ((24 * k : Nat) : Int) * (y : Int))] at h9
  rw [lZ_N x]
  refine P_callV2u i_X11_byParts_112 mi_X11_lowest rfl ⟨_, _, rfl⟩ (by decide) (Nat.le_of_ble_eq_true rfl) h9 ?_
  refine V_goto i_X11_byParts_115 ?_
  exact P_vret i_X11_byParts_161 rfl ⟨rfl, rfl, rfl⟩
set_option maxRecDepth 100000 in
set_option maxHeartbeats 4000000 in
theorem c_M_byParts5 (I : IntM) (J : LngM) {a b : Int64} {g u d nd : Nat} (hu : 0 < u) (hu2 : u < 2 ^ 33) (hg : g < 2 ^ 50) (hn : nd ≤ 99) (h24 : ∃ k, g = 24 * k) (hd : d = 2 ∨ d = 3 ∨ d = 4) (hF : Fr a b (g : Int) u) : CtU 4 m_X11_byParts [.ref 146, .int (nI 5), .int (nI nd), .long a, .long b, .int (nI d)] I J I (loJ J ((min (may g d / 2) (nd * u) : Nat) : Int) u) := by
  refine CtU_of (by decide) rfl (Nat.le_of_ble_eq_true rfl) ?_
  obtain ⟨x, y, rfl, rfl, hy0, hyu, hxg, hc⟩ := Fr.nat hu hF
  obtain ⟨k, rfl⟩ := h24
  have e1 : (nI d - 1).toInt64 = lN (d - 1) := by rcases hd with rfl | rfl | rfl <;> decide
  have e2 : (nI d).toInt64 = lN d := by rcases hd with rfl | rfl | rfl <;> decide
  have e3 : (2 * nI d - 1).toInt64 = lN (2 * d - 1) := by rcases hd with rfl | rfl | rfl <;> decide
  have hT : (may (24 * k) d / 2) * (2 * d) = 24 * k * (d - 1) := by (try unfold may); rcases hd with rfl | rfl | rfl <;> omega
  have hX := cross_step hc hT
  refine V_il i_X11_byParts_0 rfl ?_
  refine V_tswIn (tgt := 118) i_X11_byParts_1 (by decide) (by decide) rfl (by decide) ?_
  refine V_al i_X11_byParts_118 rfl ?_
  refine V_ll i_X11_byParts_119 rfl ?_
  refine V_il i_X11_byParts_120 rfl ?_
  refine V_c i_X11_byParts_122 ?_
  refine V_isub i_X11_byParts_123 ?_
  refine V_i2l i_X11_byParts_124 ?_
  refine V_lmul i_X11_byParts_125 ?_
  refine V_ll i_X11_byParts_126 rfl ?_
  refine V_cl i_X11_byParts_128 ?_
  refine V_lmul i_X11_byParts_131 ?_
  refine V_il i_X11_byParts_132 rfl ?_
  refine V_i2l i_X11_byParts_134 ?_
  refine V_lmul i_X11_byParts_135 ?_
  refine V_il i_X11_byParts_136 rfl ?_
  refine V_i2l i_X11_byParts_137 ?_
  have h9 := c_M_lesser I J (A := ((x * (d - 1) : Nat) : Int)) (B := y * (2 * d)) (nd := nd) (by rw [Int.natAbs_natCast]; rcases hd with rfl | rfl | rfl <;> omega) (by rcases hd with rfl | rfl | rfl <;> omega) (by rcases hd with rfl | rfl | rfl <;> omega) (by rcases hd with rfl | rfl | rfl <;> exact mul_bd (by omega) (by omega)) (by omega)
  rw [lesser_low J (by rcases hd with rfl | rfl | rfl <;> omega) hu hX] at h9
  rw [e1, e2, lN_mul, show (2 : Int64) = lN 2 from rfl, lN_mul, lN_mul, lZ_N (x * (d - 1)), Nat.mul_assoc y 2 d, nI_long (by omega)]
  refine P_callV3u i_X11_byParts_138 mi_X11_lesser rfl ⟨_, _, rfl⟩ (by decide) (Nat.le_of_ble_eq_true rfl) h9 ?_
  refine V_goto i_X11_byParts_141 ?_
  exact P_vret i_X11_byParts_161 rfl ⟨rfl, rfl, rfl⟩
theorem c_M_byParts (I : IntM) (J : LngM) {a b : Int64} {g how d nd kd : Nat} (hk : kd ≤ 5) (hg : g < 2 ^ 50) (hn : nd ≤ 99) (h24 : ∃ k, g = 24 * k) (hd : d = 2 ∨ d = 3 ∨ d = 4) (hF : Fr a b (g : Int) (un how)) : CtU 4 m_X11_byParts [.ref 146, .int (nI kd), .int (nI nd), .long a, .long b, .int (nI d)] I J I (loJ J ((tk kd (nd * un how) g d : Nat) : Int) (un how)) := by
  have hu := un_pos how
  have hu2 : un how < 2 ^ 33 := by have := un_le how; omega
  obtain rfl | rfl | rfl | rfl | rfl | rfl : kd = 0 ∨ kd = 1 ∨ kd = 2 ∨ kd = 3 ∨ kd = 4 ∨ kd = 5 := by omega
  · exact c_M_byParts0 I J hu hu2 hg hn h24 hd hF
  · exact c_M_byParts1 I J hu hu2 hg hn h24 hd hF
  · exact c_M_byParts2 I J hu hu2 hg hn h24 hd hF
  · exact c_M_byParts3 I J hu hu2 hg hn h24 hd hF
  · exact c_M_byParts4 I J hu hu2 hg hn h24 hd hF
  · exact c_M_byParts5 I J hu hu2 hg hn h24 hd hF
theorem lesser_1 (J : LngM) (T nd : Nat) : (if (nd : Int) * ((1 : Nat) : Int) < (T : Int) then loJ J nd 1 else loJ J T 1) = loJ J ((min T nd : Nat) : Int) 1 := by
  by_cases h : (nd : Int) * ((1 : Nat) : Int) < (T : Int)
  · rw [if_pos h, Nat.min_eq_right (by omega)]
  · rw [if_neg h, Nat.min_eq_left (by omega)]
set_option maxRecDepth 100000 in
set_option maxHeartbeats 4000000 in
theorem c_M_byPieces0 (I : IntM) (J : LngM) {g d nd : Nat} (hg : g < 2 ^ 50) (hn : nd ≤ 99) (hd : d = 2 ∨ d = 3 ∨ d = 4) : CtU 4 m_X11_byPieces [.ref 146, .int (nI 0), .int (nI nd), .long (lN g), .int (nI d)] I J I (loJ J ((may g d : Nat) : Int) 1) := by
  refine CtU_of (by decide) rfl (Nat.le_of_ble_eq_true rfl) ?_
  have hm := may_le g d hd
  have e1 : (nI d - 1).toInt64 = lN (d - 1) := by rcases hd with rfl | rfl | rfl <;> decide
  have e2 : (nI d).toInt64 = lN d := by rcases hd with rfl | rfl | rfl <;> decide
  refine V_ll i_X11_byPieces_0 rfl ?_
  refine V_il i_X11_byPieces_1 rfl ?_
  refine V_c i_X11_byPieces_3 ?_
  refine V_isub i_X11_byPieces_4 ?_
  refine V_i2l i_X11_byPieces_5 ?_
  refine V_lmul i_X11_byPieces_6 ?_
  refine V_il i_X11_byPieces_7 rfl ?_
  refine V_i2l i_X11_byPieces_9 ?_
  refine V_ldiv i_X11_byPieces_10 (by rcases hd with rfl | rfl | rfl <;> decide) ?_
  rw [e1, e2, lN_mul, pk_lDiv (by rcases hd with rfl | rfl | rfl <;> omega) (by omega) (by omega)]
  rw [show g * (d - 1) / d = may g d from rfl]
  refine V_ls (L' := [(0, _), (1, _), (2, _), (3, _), (6, _)]) i_X11_byPieces_11 (by decide) ⟨rfl, rfl, rfl, rfl, rfl, trivial⟩ ?_
  refine V_il i_X11_byPieces_13 rfl ?_
  refine V_c i_X11_byPieces_14 ?_
  refine V_ic_eq_f i_X11_byPieces_15 (by decide) ?_
  refine V_il i_X11_byPieces_18 rfl ?_
  refine V_c i_X11_byPieces_19 ?_
  refine V_ic_ne_t i_X11_byPieces_20 (by decide) ?_
  refine V_il i_X11_byPieces_32 rfl ?_
  refine V_c i_X11_byPieces_33 ?_
  refine V_ic_ne_t i_X11_byPieces_34 (by decide) ?_
  refine V_il i_X11_byPieces_51 rfl ?_
  refine V_c i_X11_byPieces_52 ?_
  refine V_ic_ne_t i_X11_byPieces_53 (by decide) ?_
  refine V_ll i_X11_byPieces_60 rfl ?_
  skip
  refine V_ls (L' := [(0, _), (1, _), (2, _), (8, _)]) i_X11_byPieces_62 (by decide) ⟨rfl, rfl, rfl, rfl, trivial⟩ ?_
  refine V_al i_X11_byPieces_64 rfl ?_
  refine V_ll i_X11_byPieces_65 rfl ?_
  refine V_cl i_X11_byPieces_67 ?_
  refine V_il i_X11_byPieces_68 rfl ?_
  refine V_c i_X11_byPieces_69 ?_
  refine V_ic_eq_f i_X11_byPieces_70 (by decide) ?_
  refine V_il i_X11_byPieces_73 rfl ?_
  refine V_c i_X11_byPieces_74 ?_
  refine V_ic_ne_t i_X11_byPieces_75 (by decide) ?_
  refine V_ll i_X11_byPieces_83 rfl ?_
  have h9 := c_M_lesser I J (A := ((may g d : Nat) : Int)) (B := 1) (nd := (may g d)) (by rw [Int.natAbs_natCast]; omega) (by decide) (by decide) (by omega) (by omega)
  rw [lesser_1] at h9
  rw [← lZ_N] at h9
  refine P_callV3u i_X11_byPieces_85 mi_X11_lesser rfl ⟨_, _, rfl⟩ (by decide) (Nat.le_of_ble_eq_true rfl) h9 ?_
  exact P_vret i_X11_byPieces_88 rfl ⟨rfl, rfl, by rw [Nat.min_self]⟩
set_option maxRecDepth 100000 in
set_option maxHeartbeats 4000000 in
theorem c_M_byPieces1 (I : IntM) (J : LngM) {g d nd : Nat} (hg : g < 2 ^ 50) (hn : nd ≤ 99) (hd : d = 2 ∨ d = 3 ∨ d = 4) : CtU 4 m_X11_byPieces [.ref 146, .int (nI 1), .int (nI nd), .long (lN g), .int (nI d)] I J I (loJ J ((may g d / 2 : Nat) : Int) 1) := by
  refine CtU_of (by decide) rfl (Nat.le_of_ble_eq_true rfl) ?_
  have hm := may_le g d hd
  have e1 : (nI d - 1).toInt64 = lN (d - 1) := by rcases hd with rfl | rfl | rfl <;> decide
  have e2 : (nI d).toInt64 = lN d := by rcases hd with rfl | rfl | rfl <;> decide
  refine V_ll i_X11_byPieces_0 rfl ?_
  refine V_il i_X11_byPieces_1 rfl ?_
  refine V_c i_X11_byPieces_3 ?_
  refine V_isub i_X11_byPieces_4 ?_
  refine V_i2l i_X11_byPieces_5 ?_
  refine V_lmul i_X11_byPieces_6 ?_
  refine V_il i_X11_byPieces_7 rfl ?_
  refine V_i2l i_X11_byPieces_9 ?_
  refine V_ldiv i_X11_byPieces_10 (by rcases hd with rfl | rfl | rfl <;> decide) ?_
  rw [e1, e2, lN_mul, pk_lDiv (by rcases hd with rfl | rfl | rfl <;> omega) (by omega) (by omega)]
  rw [show g * (d - 1) / d = may g d from rfl]
  refine V_ls (L' := [(0, _), (1, _), (2, _), (3, _), (6, _)]) i_X11_byPieces_11 (by decide) ⟨rfl, rfl, rfl, rfl, rfl, trivial⟩ ?_
  refine V_il i_X11_byPieces_13 rfl ?_
  refine V_c i_X11_byPieces_14 ?_
  refine V_ic_eq_t i_X11_byPieces_15 (by decide) ?_
  refine V_ll i_X11_byPieces_23 rfl ?_
  refine V_cl i_X11_byPieces_25 ?_
  refine V_ldiv i_X11_byPieces_28 (by decide) ?_
  refine V_goto i_X11_byPieces_29 ?_
  rw [show (2 : Int64) = lN 2 from rfl, pk_lDiv (by omega) (by decide) (by decide)]
  refine V_ls (L' := [(0, _), (1, _), (2, _), (8, _)]) i_X11_byPieces_62 (by decide) ⟨rfl, rfl, rfl, rfl, trivial⟩ ?_
  refine V_al i_X11_byPieces_64 rfl ?_
  refine V_ll i_X11_byPieces_65 rfl ?_
  refine V_cl i_X11_byPieces_67 ?_
  refine V_il i_X11_byPieces_68 rfl ?_
  refine V_c i_X11_byPieces_69 ?_
  refine V_ic_eq_f i_X11_byPieces_70 (by decide) ?_
  refine V_il i_X11_byPieces_73 rfl ?_
  refine V_c i_X11_byPieces_74 ?_
  refine V_ic_ne_t i_X11_byPieces_75 (by decide) ?_
  refine V_ll i_X11_byPieces_83 rfl ?_
  have h9 := c_M_lesser I J (A := ((may g d / 2 : Nat) : Int)) (B := 1) (nd := (may g d / 2)) (by rw [Int.natAbs_natCast]; omega) (by decide) (by decide) (by omega) (by omega)
  rw [lesser_1] at h9
  rw [← lZ_N] at h9
  refine P_callV3u i_X11_byPieces_85 mi_X11_lesser rfl ⟨_, _, rfl⟩ (by decide) (Nat.le_of_ble_eq_true rfl) h9 ?_
  exact P_vret i_X11_byPieces_88 rfl ⟨rfl, rfl, by rw [Nat.min_self]⟩
set_option maxRecDepth 100000 in
set_option maxHeartbeats 4000000 in
theorem c_M_byPieces2 (I : IntM) (J : LngM) {g d nd : Nat} (hg : g < 2 ^ 50) (hn : nd ≤ 99) (hd : d = 2 ∨ d = 3 ∨ d = 4) : CtU 4 m_X11_byPieces [.ref 146, .int (nI 2), .int (nI nd), .long (lN g), .int (nI d)] I J I (loJ J ((may g d + (g - may g d) / 2 : Nat) : Int) 1) := by
  refine CtU_of (by decide) rfl (Nat.le_of_ble_eq_true rfl) ?_
  have hm := may_le g d hd
  have e1 : (nI d - 1).toInt64 = lN (d - 1) := by rcases hd with rfl | rfl | rfl <;> decide
  have e2 : (nI d).toInt64 = lN d := by rcases hd with rfl | rfl | rfl <;> decide
  refine V_ll i_X11_byPieces_0 rfl ?_
  refine V_il i_X11_byPieces_1 rfl ?_
  refine V_c i_X11_byPieces_3 ?_
  refine V_isub i_X11_byPieces_4 ?_
  refine V_i2l i_X11_byPieces_5 ?_
  refine V_lmul i_X11_byPieces_6 ?_
  refine V_il i_X11_byPieces_7 rfl ?_
  refine V_i2l i_X11_byPieces_9 ?_
  refine V_ldiv i_X11_byPieces_10 (by rcases hd with rfl | rfl | rfl <;> decide) ?_
  rw [e1, e2, lN_mul, pk_lDiv (by rcases hd with rfl | rfl | rfl <;> omega) (by omega) (by omega)]
  rw [show g * (d - 1) / d = may g d from rfl]
  refine V_ls (L' := [(0, _), (1, _), (2, _), (3, _), (6, _)]) i_X11_byPieces_11 (by decide) ⟨rfl, rfl, rfl, rfl, rfl, trivial⟩ ?_
  refine V_il i_X11_byPieces_13 rfl ?_
  refine V_c i_X11_byPieces_14 ?_
  refine V_ic_eq_f i_X11_byPieces_15 (by decide) ?_
  refine V_il i_X11_byPieces_18 rfl ?_
  refine V_c i_X11_byPieces_19 ?_
  refine V_ic_ne_t i_X11_byPieces_20 (by decide) ?_
  refine V_il i_X11_byPieces_32 rfl ?_
  refine V_c i_X11_byPieces_33 ?_
  refine V_ic_ne_f i_X11_byPieces_34 (by decide) ?_
  refine V_ll i_X11_byPieces_37 rfl ?_
  refine V_ll i_X11_byPieces_39 rfl ?_
  refine V_ll i_X11_byPieces_40 rfl ?_
  refine V_lsub i_X11_byPieces_42 ?_
  refine V_cl i_X11_byPieces_43 ?_
  refine V_ldiv i_X11_byPieces_46 (by decide) ?_
  refine V_ladd i_X11_byPieces_47 ?_
  refine V_goto i_X11_byPieces_48 ?_
  rw [lN_sub hm, show (2 : Int64) = lN 2 from rfl, pk_lDiv (by omega) (by decide) (by decide), lN_add]
  refine V_ls (L' := [(0, _), (1, _), (2, _), (8, _)]) i_X11_byPieces_62 (by decide) ⟨rfl, rfl, rfl, rfl, trivial⟩ ?_
  refine V_al i_X11_byPieces_64 rfl ?_
  refine V_ll i_X11_byPieces_65 rfl ?_
  refine V_cl i_X11_byPieces_67 ?_
  refine V_il i_X11_byPieces_68 rfl ?_
  refine V_c i_X11_byPieces_69 ?_
  refine V_ic_eq_f i_X11_byPieces_70 (by decide) ?_
  refine V_il i_X11_byPieces_73 rfl ?_
  refine V_c i_X11_byPieces_74 ?_
  refine V_ic_ne_t i_X11_byPieces_75 (by decide) ?_
  refine V_ll i_X11_byPieces_83 rfl ?_
  have h9 := c_M_lesser I J (A := ((may g d + (g - may g d) / 2 : Nat) : Int)) (B := 1) (nd := (may g d + (g - may g d) / 2)) (by rw [Int.natAbs_natCast]; omega) (by decide) (by decide) (by omega) (by omega)
  rw [lesser_1] at h9
  rw [← lZ_N] at h9
  refine P_callV3u i_X11_byPieces_85 mi_X11_lesser rfl ⟨_, _, rfl⟩ (by decide) (Nat.le_of_ble_eq_true rfl) h9 ?_
  exact P_vret i_X11_byPieces_88 rfl ⟨rfl, rfl, by rw [Nat.min_self]⟩
set_option maxRecDepth 100000 in
set_option maxHeartbeats 4000000 in
theorem c_M_byPieces3 (I : IntM) (J : LngM) {g d nd : Nat} (hg : g < 2 ^ 50) (hn : nd ≤ 99) (hd : d = 2 ∨ d = 3 ∨ d = 4) : CtU 4 m_X11_byPieces [.ref 146, .int (nI 3), .int (nI nd), .long (lN g), .int (nI d)] I J I (loJ J ((min (may g d) nd : Nat) : Int) 1) := by
  refine CtU_of (by decide) rfl (Nat.le_of_ble_eq_true rfl) ?_
  have hm := may_le g d hd
  have e1 : (nI d - 1).toInt64 = lN (d - 1) := by rcases hd with rfl | rfl | rfl <;> decide
  have e2 : (nI d).toInt64 = lN d := by rcases hd with rfl | rfl | rfl <;> decide
  refine V_ll i_X11_byPieces_0 rfl ?_
  refine V_il i_X11_byPieces_1 rfl ?_
  refine V_c i_X11_byPieces_3 ?_
  refine V_isub i_X11_byPieces_4 ?_
  refine V_i2l i_X11_byPieces_5 ?_
  refine V_lmul i_X11_byPieces_6 ?_
  refine V_il i_X11_byPieces_7 rfl ?_
  refine V_i2l i_X11_byPieces_9 ?_
  refine V_ldiv i_X11_byPieces_10 (by rcases hd with rfl | rfl | rfl <;> decide) ?_
  rw [e1, e2, lN_mul, pk_lDiv (by rcases hd with rfl | rfl | rfl <;> omega) (by omega) (by omega)]
  rw [show g * (d - 1) / d = may g d from rfl]
  refine V_ls (L' := [(0, _), (1, _), (2, _), (3, _), (6, _)]) i_X11_byPieces_11 (by decide) ⟨rfl, rfl, rfl, rfl, rfl, trivial⟩ ?_
  refine V_il i_X11_byPieces_13 rfl ?_
  refine V_c i_X11_byPieces_14 ?_
  refine V_ic_eq_f i_X11_byPieces_15 (by decide) ?_
  refine V_il i_X11_byPieces_18 rfl ?_
  refine V_c i_X11_byPieces_19 ?_
  refine V_ic_ne_t i_X11_byPieces_20 (by decide) ?_
  refine V_il i_X11_byPieces_32 rfl ?_
  refine V_c i_X11_byPieces_33 ?_
  refine V_ic_ne_t i_X11_byPieces_34 (by decide) ?_
  refine V_il i_X11_byPieces_51 rfl ?_
  refine V_c i_X11_byPieces_52 ?_
  refine V_ic_ne_t i_X11_byPieces_53 (by decide) ?_
  refine V_ll i_X11_byPieces_60 rfl ?_
  skip
  refine V_ls (L' := [(0, _), (1, _), (2, _), (8, _)]) i_X11_byPieces_62 (by decide) ⟨rfl, rfl, rfl, rfl, trivial⟩ ?_
  refine V_al i_X11_byPieces_64 rfl ?_
  refine V_ll i_X11_byPieces_65 rfl ?_
  refine V_cl i_X11_byPieces_67 ?_
  refine V_il i_X11_byPieces_68 rfl ?_
  refine V_c i_X11_byPieces_69 ?_
  refine V_ic_eq_t i_X11_byPieces_70 (by decide) ?_
  refine V_il i_X11_byPieces_78 rfl ?_
  refine V_i2l i_X11_byPieces_79 ?_
  refine V_goto i_X11_byPieces_80 ?_
  have h9 := c_M_lesser I J (A := ((may g d : Nat) : Int)) (B := 1) (nd := nd) (by rw [Int.natAbs_natCast]; omega) (by decide) (by decide) (by omega) (by omega)
  rw [lesser_1] at h9
  rw [← lZ_N] at h9
  rw [nI_long (by omega)]
  refine P_callV3u i_X11_byPieces_85 mi_X11_lesser rfl ⟨_, _, rfl⟩ (by decide) (Nat.le_of_ble_eq_true rfl) h9 ?_
  exact P_vret i_X11_byPieces_88 rfl ⟨rfl, rfl, rfl⟩
set_option maxRecDepth 100000 in
set_option maxHeartbeats 4000000 in
theorem c_M_byPieces4 (I : IntM) (J : LngM) {g d nd : Nat} (hg : g < 2 ^ 50) (hn : nd ≤ 99) (hd : d = 2 ∨ d = 3 ∨ d = 4) : CtU 4 m_X11_byPieces [.ref 146, .int (nI 4), .int (nI nd), .long (lN g), .int (nI d)] I J I (loJ J ((g : Nat) : Int) 1) := by
  refine CtU_of (by decide) rfl (Nat.le_of_ble_eq_true rfl) ?_
  have hm := may_le g d hd
  have e1 : (nI d - 1).toInt64 = lN (d - 1) := by rcases hd with rfl | rfl | rfl <;> decide
  have e2 : (nI d).toInt64 = lN d := by rcases hd with rfl | rfl | rfl <;> decide
  refine V_ll i_X11_byPieces_0 rfl ?_
  refine V_il i_X11_byPieces_1 rfl ?_
  refine V_c i_X11_byPieces_3 ?_
  refine V_isub i_X11_byPieces_4 ?_
  refine V_i2l i_X11_byPieces_5 ?_
  refine V_lmul i_X11_byPieces_6 ?_
  refine V_il i_X11_byPieces_7 rfl ?_
  refine V_i2l i_X11_byPieces_9 ?_
  refine V_ldiv i_X11_byPieces_10 (by rcases hd with rfl | rfl | rfl <;> decide) ?_
  rw [e1, e2, lN_mul, pk_lDiv (by rcases hd with rfl | rfl | rfl <;> omega) (by omega) (by omega)]
  rw [show g * (d - 1) / d = may g d from rfl]
  refine V_ls (L' := [(0, _), (1, _), (2, _), (3, _), (6, _)]) i_X11_byPieces_11 (by decide) ⟨rfl, rfl, rfl, rfl, rfl, trivial⟩ ?_
  refine V_il i_X11_byPieces_13 rfl ?_
  refine V_c i_X11_byPieces_14 ?_
  refine V_ic_eq_f i_X11_byPieces_15 (by decide) ?_
  refine V_il i_X11_byPieces_18 rfl ?_
  refine V_c i_X11_byPieces_19 ?_
  refine V_ic_ne_t i_X11_byPieces_20 (by decide) ?_
  refine V_il i_X11_byPieces_32 rfl ?_
  refine V_c i_X11_byPieces_33 ?_
  refine V_ic_ne_t i_X11_byPieces_34 (by decide) ?_
  refine V_il i_X11_byPieces_51 rfl ?_
  refine V_c i_X11_byPieces_52 ?_
  refine V_ic_ne_f i_X11_byPieces_53 (by decide) ?_
  refine V_ll i_X11_byPieces_56 rfl ?_
  refine V_goto i_X11_byPieces_57 ?_
  skip
  refine V_ls (L' := [(0, _), (1, _), (2, _), (8, _)]) i_X11_byPieces_62 (by decide) ⟨rfl, rfl, rfl, rfl, trivial⟩ ?_
  refine V_al i_X11_byPieces_64 rfl ?_
  refine V_ll i_X11_byPieces_65 rfl ?_
  refine V_cl i_X11_byPieces_67 ?_
  refine V_il i_X11_byPieces_68 rfl ?_
  refine V_c i_X11_byPieces_69 ?_
  refine V_ic_eq_f i_X11_byPieces_70 (by decide) ?_
  refine V_il i_X11_byPieces_73 rfl ?_
  refine V_c i_X11_byPieces_74 ?_
  refine V_ic_ne_t i_X11_byPieces_75 (by decide) ?_
  refine V_ll i_X11_byPieces_83 rfl ?_
  have h9 := c_M_lesser I J (A := ((g : Nat) : Int)) (B := 1) (nd := (g)) (by rw [Int.natAbs_natCast]; omega) (by decide) (by decide) (by omega) (by omega)
  rw [lesser_1] at h9
  rw [← lZ_N] at h9
  refine P_callV3u i_X11_byPieces_85 mi_X11_lesser rfl ⟨_, _, rfl⟩ (by decide) (Nat.le_of_ble_eq_true rfl) h9 ?_
  exact P_vret i_X11_byPieces_88 rfl ⟨rfl, rfl, by rw [Nat.min_self]⟩
set_option maxRecDepth 100000 in
set_option maxHeartbeats 4000000 in
theorem c_M_byPieces5 (I : IntM) (J : LngM) {g d nd : Nat} (hg : g < 2 ^ 50) (hn : nd ≤ 99) (hd : d = 2 ∨ d = 3 ∨ d = 4) : CtU 4 m_X11_byPieces [.ref 146, .int (nI 5), .int (nI nd), .long (lN g), .int (nI d)] I J I (loJ J ((min (may g d / 2) nd : Nat) : Int) 1) := by
  refine CtU_of (by decide) rfl (Nat.le_of_ble_eq_true rfl) ?_
  have hm := may_le g d hd
  have e1 : (nI d - 1).toInt64 = lN (d - 1) := by rcases hd with rfl | rfl | rfl <;> decide
  have e2 : (nI d).toInt64 = lN d := by rcases hd with rfl | rfl | rfl <;> decide
  refine V_ll i_X11_byPieces_0 rfl ?_
  refine V_il i_X11_byPieces_1 rfl ?_
  refine V_c i_X11_byPieces_3 ?_
  refine V_isub i_X11_byPieces_4 ?_
  refine V_i2l i_X11_byPieces_5 ?_
  refine V_lmul i_X11_byPieces_6 ?_
  refine V_il i_X11_byPieces_7 rfl ?_
  refine V_i2l i_X11_byPieces_9 ?_
  refine V_ldiv i_X11_byPieces_10 (by rcases hd with rfl | rfl | rfl <;> decide) ?_
  rw [e1, e2, lN_mul, pk_lDiv (by rcases hd with rfl | rfl | rfl <;> omega) (by omega) (by omega)]
  rw [show g * (d - 1) / d = may g d from rfl]
  refine V_ls (L' := [(0, _), (1, _), (2, _), (3, _), (6, _)]) i_X11_byPieces_11 (by decide) ⟨rfl, rfl, rfl, rfl, rfl, trivial⟩ ?_
  refine V_il i_X11_byPieces_13 rfl ?_
  refine V_c i_X11_byPieces_14 ?_
  refine V_ic_eq_f i_X11_byPieces_15 (by decide) ?_
  refine V_il i_X11_byPieces_18 rfl ?_
  refine V_c i_X11_byPieces_19 ?_
  refine V_ic_ne_f i_X11_byPieces_20 (by decide) ?_
  refine V_ll i_X11_byPieces_23 rfl ?_
  refine V_cl i_X11_byPieces_25 ?_
  refine V_ldiv i_X11_byPieces_28 (by decide) ?_
  refine V_goto i_X11_byPieces_29 ?_
  rw [show (2 : Int64) = lN 2 from rfl, pk_lDiv (by omega) (by decide) (by decide)]
  refine V_ls (L' := [(0, _), (1, _), (2, _), (8, _)]) i_X11_byPieces_62 (by decide) ⟨rfl, rfl, rfl, rfl, trivial⟩ ?_
  refine V_al i_X11_byPieces_64 rfl ?_
  refine V_ll i_X11_byPieces_65 rfl ?_
  refine V_cl i_X11_byPieces_67 ?_
  refine V_il i_X11_byPieces_68 rfl ?_
  refine V_c i_X11_byPieces_69 ?_
  refine V_ic_eq_f i_X11_byPieces_70 (by decide) ?_
  refine V_il i_X11_byPieces_73 rfl ?_
  refine V_c i_X11_byPieces_74 ?_
  refine V_ic_ne_f i_X11_byPieces_75 (by decide) ?_
  refine V_il i_X11_byPieces_78 rfl ?_
  refine V_i2l i_X11_byPieces_79 ?_
  refine V_goto i_X11_byPieces_80 ?_
  have h9 := c_M_lesser I J (A := ((may g d / 2 : Nat) : Int)) (B := 1) (nd := nd) (by rw [Int.natAbs_natCast]; omega) (by decide) (by decide) (by omega) (by omega)
  rw [lesser_1] at h9
  rw [← lZ_N] at h9
  rw [nI_long (by omega)]
  refine P_callV3u i_X11_byPieces_85 mi_X11_lesser rfl ⟨_, _, rfl⟩ (by decide) (Nat.le_of_ble_eq_true rfl) h9 ?_
  exact P_vret i_X11_byPieces_88 rfl ⟨rfl, rfl, rfl⟩
theorem c_M_byPieces (I : IntM) (J : LngM) {g d nd kd : Nat} (hk : kd ≤ 5) (hg : g < 2 ^ 50) (hn : nd ≤ 99) (hd : d = 2 ∨ d = 3 ∨ d = 4) : CtU 4 m_X11_byPieces [.ref 146, .int (nI kd), .int (nI nd), .long (lN g), .int (nI d)] I J I (loJ J ((tk kd nd g d : Nat) : Int) 1) := by
  obtain rfl | rfl | rfl | rfl | rfl | rfl : kd = 0 ∨ kd = 1 ∨ kd = 2 ∨ kd = 3 ∨ kd = 4 ∨ kd = 5 := by omega
  · exact c_M_byPieces0 I J hg hn hd
  · exact c_M_byPieces1 I J hg hn hd
  · exact c_M_byPieces2 I J hg hn hd
  · exact c_M_byPieces3 I J hg hn hd
  · exact c_M_byPieces4 I J hg hn hd
  · exact c_M_byPieces5 I J hg hn hd
set_option maxRecDepth 100000 in
set_option maxHeartbeats 4000000 in
theorem c_M_takes0 (I : IntM) (J : LngM) {a b : Int64} {g d nd kd : Nat} (hk : kd ≤ 5) (hg : g < 2 ^ 50) (hn : nd ≤ 99) (hd : d = 2 ∨ d = 3 ∨ d = 4) (h24 : ∃ k, g = 24 * k) (hF : Fr a b (g : Int) (un 0)) : CtU 5 m_X11_takes [.ref 146, .int (nI 0), .int (nI kd), .int (nI nd), .long a, .long b, .int (nI d)] I J I (loJ J ((tk kd (nd * un 0) g d : Nat) : Int) (un 0)) := by
  refine CtU_of (by decide) rfl (Nat.le_of_ble_eq_true rfl) ?_
  refine V_il i_X11_takes_0 rfl ?_
  refine V_if_ne_f i_X11_takes_1 (by decide) ?_
  refine V_al i_X11_takes_4 rfl ?_
  refine V_il i_X11_takes_5 rfl ?_
  refine V_il i_X11_takes_6 rfl ?_
  refine V_ll i_X11_takes_7 rfl ?_
  refine V_ll i_X11_takes_9 rfl ?_
  refine V_il i_X11_takes_11 rfl ?_
  refine P_callV5u i_X11_takes_13 mi_X11_byParts rfl ⟨_, _, rfl⟩ (by decide) (Nat.le_of_ble_eq_true rfl) (c_M_byParts I J (how := 0) hk hg hn h24 hd hF) ?_
  refine V_goto i_X11_takes_16 ?_
  exact P_vret i_X11_takes_29 rfl ⟨rfl, rfl, rfl⟩
set_option maxRecDepth 100000 in
set_option maxHeartbeats 4000000 in
theorem c_M_takes1 (I : IntM) (J : LngM) {a b : Int64} {g d nd kd : Nat} (hk : kd ≤ 5) (hg : g < 2 ^ 50) (hn : nd ≤ 99) (hd : d = 2 ∨ d = 3 ∨ d = 4) (hF : Fr a b (g : Int) (un 1)) : CtU 5 m_X11_takes [.ref 146, .int (nI 1), .int (nI kd), .int (nI nd), .long a, .long b, .int (nI d)] I J I (loJ J ((tk kd (nd * un 1) g d : Nat) : Int) (un 1)) := by
  refine CtU_of (by decide) rfl (Nat.le_of_ble_eq_true rfl) ?_
  have h9 := c_M_byPieces I J hk hg hn hd
  have hu1 : un 1 = 1 := rfl
  rw [hu1] at hF ⊢
  rw [Nat.mul_one]
  obtain ⟨ha, hb9⟩ := hF
  rw [(ro_1 _).1] at ha
  rw [lZ_N g, ← ha] at h9
  refine V_il i_X11_takes_0 rfl ?_
  refine V_if_ne_t i_X11_takes_1 (by decide) ?_
  refine V_al i_X11_takes_19 rfl ?_
  refine V_il i_X11_takes_20 rfl ?_
  refine V_il i_X11_takes_21 rfl ?_
  refine V_ll i_X11_takes_22 rfl ?_
  refine V_il i_X11_takes_24 rfl ?_
  refine P_callV4u i_X11_takes_26 mi_X11_byPieces rfl ⟨_, _, rfl⟩ (by decide) (Nat.le_of_ble_eq_true rfl) h9 ?_
  exact P_vret i_X11_takes_29 rfl ⟨rfl, rfl, rfl⟩
theorem c_M_takes (I : IntM) (J : LngM) {how : Nat} (hh : how ≤ 1) {a b : Int64} {g d nd kd : Nat} (hk : kd ≤ 5) (hg : g < 2 ^ 50) (hn : nd ≤ 99) (hd : d = 2 ∨ d = 3 ∨ d = 4) (h24 : how = 0 → ∃ k, g = 24 * k) (hF : Fr a b (g : Int) (un how)) : CtU 5 m_X11_takes [.ref 146, .int (nI how), .int (nI kd), .int (nI nd), .long a, .long b, .int (nI d)] I J I (loJ J ((tk kd (nd * un how) g d : Nat) : Int) (un how)) := by
  obtain rfl | rfl : how = 0 ∨ how = 1 := by omega
  · exact c_M_takes0 I J hk hg hn hd (h24 rfl) hF
  · exact c_M_takes1 I J hk hg hn hd hF

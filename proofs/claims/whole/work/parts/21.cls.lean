
/-! ===== ThirdLeft: what its calls share ===== -/
theorem absL_Z {A : Int} (hA : A.natAbs < 2 ^ 62) : absL (lZ A) = lN A.natAbs := by
  unfold absL
  have e : (0 : Int64) < lZ A ↔ 0 < A := lZ_lt (a := 0) (by decide) (by decide) (by omega) (by omega)
  by_cases h : (0 : Int64) < lZ A
  · rw [if_pos h, lZ_N]
    have := e.mp h
    congr 1
    omega
  · rw [if_neg h, lZ_neg, lZ_N]
    have : ¬ 0 < A := fun q => h (e.mpr q)
    congr 1
    omega
theorem hasC_no {n : Nat} {i : Int32} (h : hasC n i = 0) (h0 : ¬ i < 0) : ¬ i < nI n := fun q => by
  unfold hasC at h
  rw [if_neg h0, if_neg (Int32.not_le.mpr q)] at h
  exact absurd h (by decide)
theorem yes01 {p : Prop} [Decidable p] (h : ¬ (if p then (1 : Int32) else 0) = 0) : p := by
  by_cases q : p
  · exact q
  · rw [if_neg q] at h
    exact absurd rfl h
theorem no01 {p : Prop} [Decidable p] (h : (if p then (1 : Int32) else 0) = 0) : ¬ p := fun q => by
  rw [if_pos q] at h
  exact absurd h (by decide)
theorem RF_kept {k : Nat} (hk : k < 3) : RF 20 k = some (131 + 5 * k) := by
  obtain rfl | rfl | rfl : k = 0 ∨ k = 1 ∨ k = 2 := by omega
  · rfl
  · rfl
  · rfl
theorem half_mod {x y m : Nat} (hy : 0 < y) (hyx : y < x) (h : x * y < 2 ^ (m + 1)) : y * (x % y) < 2 ^ m := by
  have h1 := Nat.mod_add_div x y
  have h2 : 0 < x / y := Nat.div_pos (Nat.le_of_lt hyx) hy
  have h3 : y * 1 ≤ y * (x / y) := Nat.mul_le_mul_left y h2
  have h4 := Nat.mod_lt x hy
  have h5 : y * (2 * (x % y)) < y * x := (Nat.mul_lt_mul_left hy).mpr (by omega)
  rw [Nat.mul_comm x y, Nat.pow_succ] at h
  have h6 : y * (2 * (x % y)) = 2 * (y * (x % y)) := by rw [Nat.mul_left_comm]
  omega

set_option maxRecDepth 100000 in
set_option maxHeartbeats 4000000 in
theorem lp_common (I : IntM) (J : LngM) (Q : Option Value → IntM → LngM → Prop) : ∀ m x y i, x < 2 ^ 62 → y < x → x * y < 2 ^ m → i + m ≤ 199 → Q (some (.long (lN (Nat.gcd x y)))) I J → VP m_X10_common 2 15 [(4, .long (lN x)), (6, .long (lN y)), (8, .int (nI i))] [] I J Q := by
  intro m
  induction m with
  | zero =>
    intro x y i hx hyx h hi hq
    obtain rfl : y = 0 := by
      rcases Nat.eq_zero_or_pos y with h0 | h0
      · exact h0
      · have := Nat.mul_pos (show 0 < x by omega) h0
        omega
    refine V_il i_X10_common_15 rfl ?_
    refine V_c i_X10_common_17 ?_
    refine V_ic_ge_f i_X10_common_20 (nI_ge (show i < 200 by omega) (by decide)) ?_
    refine V_ll i_X10_common_23 rfl ?_
    refine V_cl i_X10_common_25 ?_
    refine V_lcmp i_X10_common_26 ?_
    refine V_if_le_t i_X10_common_27 (lgc_le.mpr (Int64.le_refl _)) ?_
    refine V_ll i_X10_common_51 rfl ?_
    refine V_cl i_X10_common_53 ?_
    refine V_lcmp i_X10_common_54 ?_
    refine V_if_le_f i_X10_common_55 (fun q => by have := (pk_lLE (b := 0) (by omega) (by decide)).mp (lgc_le.mp q); omega) ?_
    refine V_ll i_X10_common_58 rfl ?_
    refine V_goto i_X10_common_60 ?_
    rw [Nat.gcd_zero_right] at hq
    exact P_lret i_X10_common_64 rfl hq
  | succ m ih =>
    intro x y i hx hyx h hi hq
    rcases Nat.eq_zero_or_pos y with h0 | hy0
    · subst h0
      refine V_il i_X10_common_15 rfl ?_
      refine V_c i_X10_common_17 ?_
      refine V_ic_ge_f i_X10_common_20 (nI_ge (show i < 200 by omega) (by decide)) ?_
      refine V_ll i_X10_common_23 rfl ?_
      refine V_cl i_X10_common_25 ?_
      refine V_lcmp i_X10_common_26 ?_
      refine V_if_le_t i_X10_common_27 (lgc_le.mpr (Int64.le_refl _)) ?_
      refine V_ll i_X10_common_51 rfl ?_
      refine V_cl i_X10_common_53 ?_
      refine V_lcmp i_X10_common_54 ?_
      refine V_if_le_f i_X10_common_55 (fun q => by have := (pk_lLE (b := 0) (by omega) (by decide)).mp (lgc_le.mp q); omega) ?_
      refine V_ll i_X10_common_58 rfl ?_
      refine V_goto i_X10_common_60 ?_
      rw [Nat.gcd_zero_right] at hq
      exact P_lret i_X10_common_64 rfl hq
    · refine V_il i_X10_common_15 rfl ?_
      refine V_c i_X10_common_17 ?_
      refine V_ic_ge_f i_X10_common_20 (nI_ge (show i < 200 by omega) (by decide)) ?_
      refine V_ll i_X10_common_23 rfl ?_
      refine V_cl i_X10_common_25 ?_
      refine V_lcmp i_X10_common_26 ?_
      refine V_if_le_f i_X10_common_27 (fun q => by have := (pk_lLE (b := 0) (by omega) (by decide)).mp (lgc_le.mp q); omega) ?_
      refine V_ll i_X10_common_30 rfl ?_
      refine V_ll i_X10_common_32 rfl ?_
      refine V_lrem i_X10_common_34 (lN_ne (by omega) hy0) ?_
      rw [pk_lRem (by omega) hy0 (by omega)]
      refine V_ls (L' := [(6, _), (8, _), (9, _)]) i_X10_common_35 (by decide) ⟨rfl, rfl, rfl, trivial⟩ ?_
      refine V_ll i_X10_common_37 rfl ?_
      refine V_ls (L' := [(4, _), (8, _), (9, _)]) i_X10_common_39 (by decide) ⟨rfl, rfl, rfl, trivial⟩ ?_
      refine V_ll i_X10_common_41 rfl ?_
      refine V_ls (L' := [(4, _), (6, _), (8, _)]) i_X10_common_43 (by decide) ⟨rfl, rfl, rfl, trivial⟩ ?_
      refine V_iinc (L' := [(4, _), (6, _), (8, _)]) (n' := 1) i_X10_common_45 (by decide) rfl (by decide) ⟨rfl, rfl, rfl, trivial⟩ ?_
      refine V_goto i_X10_common_48 ?_
      refine V_L (L' := [(4, _), (6, _), (8, _)]) ⟨rfl, rfl, rfl, trivial⟩ ?_
      rw [show nI i + 1 = nI (i + 1) from nI_1 i]
      exact ih y (x % y) (i + 1) (by omega) (Nat.mod_lt x hy0) (half_mod hy0 hyx h) (by omega) (by rw [gcd_st]; exact hq)
set_option maxRecDepth 100000 in
set_option maxHeartbeats 4000000 in
theorem c_common (I : IntM) (J : LngM) {A : Int} {B : Nat} (hA : A.natAbs < 2 ^ 62) (hB : B < 2 ^ 62) (h0 : 0 < B) : CtV 2 m_X10_common [.long (lZ A), .long (lN B)] I J (.long (lN (Nat.gcd A.natAbs B))) I J := by
  refine CtV_of (by decide) rfl (Nat.le_of_ble_eq_true rfl) ?_
  refine V_ll i_X10_common_0 rfl ?_
  refine V_abs i_X10_common_1 (by decide) (Nat.le_refl 0) (Nat.le_refl 0) (Nat.le_of_ble_eq_true rfl) ?_
  rw [absL_Z hA]
  refine V_ls (L' := [(2, _), (4, _)]) i_X10_common_4 (by decide) ⟨rfl, rfl, trivial⟩ ?_
  refine V_ll i_X10_common_6 rfl ?_
  refine V_abs i_X10_common_7 (by decide) (Nat.le_refl 0) (Nat.le_refl 0) (Nat.le_of_ble_eq_true rfl) ?_
  rw [lZ_N, absL_Z (A := (B : Int)) (by rw [Int.natAbs_natCast]; exact hB), Int.natAbs_natCast]
  refine V_ls (L' := [(4, _), (6, _)]) i_X10_common_10 (by decide) ⟨rfl, rfl, trivial⟩ ?_
  refine V_c i_X10_common_12 ?_
  refine V_is (L' := [(4, _), (6, _), (8, _)]) i_X10_common_13 (by decide) ⟨rfl, rfl, rfl, trivial⟩ ?_
  refine V_L (L' := [(4, _), (6, _), (8, _)]) ⟨rfl, rfl, rfl, trivial⟩ ?_
  refine V_il i_X10_common_15 rfl ?_
  refine V_c i_X10_common_17 ?_
  refine V_ic_ge_f i_X10_common_20 (by decide) ?_
  refine V_ll i_X10_common_23 rfl ?_
  refine V_cl i_X10_common_25 ?_
  refine V_lcmp i_X10_common_26 ?_
  refine V_if_le_f i_X10_common_27 (fun q => by have := (pk_lLE (b := 0) (by omega) (by decide)).mp (lgc_le.mp q); omega) ?_
  refine V_ll i_X10_common_30 rfl ?_
  refine V_ll i_X10_common_32 rfl ?_
  refine V_lrem i_X10_common_34 (lN_ne (by omega) h0) ?_
  rw [pk_lRem (by omega) h0 (by omega)]
  refine V_ls (L' := [(6, _), (8, _), (9, _)]) i_X10_common_35 (by decide) ⟨rfl, rfl, rfl, trivial⟩ ?_
  refine V_ll i_X10_common_37 rfl ?_
  refine V_ls (L' := [(4, _), (8, _), (9, _)]) i_X10_common_39 (by decide) ⟨rfl, rfl, rfl, trivial⟩ ?_
  refine V_ll i_X10_common_41 rfl ?_
  refine V_ls (L' := [(4, _), (6, _), (8, _)]) i_X10_common_43 (by decide) ⟨rfl, rfl, rfl, trivial⟩ ?_
  refine V_iinc (L' := [(4, _), (6, _), (8, _)]) (n' := 1) i_X10_common_45 (by decide) rfl (by decide) ⟨rfl, rfl, rfl, trivial⟩ ?_
  refine V_goto i_X10_common_48 ?_
  refine V_L (L' := [(4, _), (6, _), (8, _)]) ⟨rfl, rfl, rfl, trivial⟩ ?_
  exact lp_common I J _ 124 B (A.natAbs % B) 1 (by omega) (Nat.mod_lt _ h0) (Nat.lt_of_lt_of_le (Nat.mul_lt_mul_of_lt_of_le hB (Nat.le_of_lt (Nat.lt_trans (Nat.mod_lt A.natAbs h0) hB)) (by decide)) (by decide)) (by decide) (by rw [gcd_st]; exact ⟨rfl, rfl, rfl⟩)
set_option maxRecDepth 100000 in
set_option maxHeartbeats 4000000 in
theorem c_tellF (I : IntM) (J : LngM) {A : Int} {B : Nat} (hA : A.natAbs < 2 ^ 62) (hB : B < 2 ^ 62) (h0 : 0 < B) : CtU 3 m_X10_tellFraction [.ref 0, .long (lZ A), .long (lN B)] I J I (tlJ 0 14 15 (some (A, B)) J) := by
  refine CtU_of (by decide) rfl (Nat.le_of_ble_eq_true rfl) ?_
  have hg0 : 0 < Nat.gcd A.natAbs B := Nat.gcd_pos_of_pos_right _ h0
  have hgl : Nat.gcd A.natAbs B ≤ B := Nat.gcd_le_right _ h0
  refine V_ll i_X10_tellFraction_0 rfl ?_
  refine V_ll i_X10_tellFraction_1 rfl ?_
  refine P_callS2v i_X10_tellFraction_2 ms_X10_common (by decide) (Nat.le_of_ble_eq_true rfl) (c_common I J hA hB h0) ?_
  refine V_ls (L' := [(0, _), (1, _), (3, _), (5, _)]) i_X10_tellFraction_5 (by decide) ⟨rfl, rfl, rfl, rfl, trivial⟩ ?_
  refine V_al i_X10_tellFraction_7 rfl ?_
  refine V_ll i_X10_tellFraction_8 rfl ?_
  refine V_ll i_X10_tellFraction_9 rfl ?_
  refine V_ldiv i_X10_tellFraction_11 (lN_ne (by omega) hg0) ?_
  rw [lZ_div (by omega) (by omega) hg0 (by omega) (Int.ofNat_dvd_left.mpr (Nat.gcd_dvd_left _ _))]
  refine V_putJ i_X10_tellFraction_12 rfl ?_
  refine V_al i_X10_tellFraction_15 rfl ?_
  refine V_ll i_X10_tellFraction_16 rfl ?_
  refine V_ll i_X10_tellFraction_17 rfl ?_
  refine V_ldiv i_X10_tellFraction_19 (lN_ne (by omega) hg0) ?_
  rw [pk_lDiv (by omega) hg0 (by omega)]
  refine V_putJ i_X10_tellFraction_20 rfl ?_
  exact P_vret i_X10_tellFraction_23 rfl ⟨rfl, rfl, rfl⟩
set_option maxRecDepth 100000 in
set_option maxHeartbeats 4000000 in
theorem c_tellS (I : IntM) (J : LngM) {A : Int} {how : Nat} (hh : how ≤ 1) (hA : A.natAbs < 2 ^ 62) : CtU 4 m_X10_tellShare [.ref 0, .long (lZ A), .int (nI how)] I J I (tlJ 0 14 15 (some (A, un how)) J) := by
  refine CtU_of (by decide) rfl (Nat.le_of_ble_eq_true rfl) ?_
  refine V_al i_X10_tellShare_0 rfl ?_
  refine V_ll i_X10_tellShare_1 rfl ?_
  refine V_il i_X10_tellShare_2 rfl ?_
  refine P_callS1v i_X10_tellShare_3 ms_X8_unit (by decide) (Nat.le_of_ble_eq_true rfl) (c_unit _ _ hh) ?_
  refine P_callV2u i_X10_tellShare_6 mi_X10_tellFraction rfl ⟨_, _, rfl⟩ (by decide) (Nat.le_of_ble_eq_true rfl) (c_tellF I J hA (by have := un_le how; omega) (by have := un_pos how; omega)) ?_
  exact P_vret i_X10_tellShare_9 rfl ⟨rfl, rfl, rfl⟩
set_option maxRecDepth 100000 in
set_option maxHeartbeats 4000000 in
theorem c_tellB (I : IntM) (J : LngM) (x : Int32) : CtV 2 m_X10_tellBits [.ref 0, .int x] I J (.int x) (tlI 0 13 (some (bcI x)) I) J := by
  refine CtV_of (by decide) rfl (Nat.le_of_ble_eq_true rfl) ?_
  refine V_al i_X10_tellBits_0 rfl ?_
  refine V_il i_X10_tellBits_1 rfl ?_
  refine P_callS1v i_X10_tellBits_2 ms_J6_bitCount_0f7a4 (by decide) (Nat.le_of_ble_eq_true rfl) (c_bitCount _ _ _) ?_
  refine V_putI i_X10_tellBits_5 rfl ?_
  refine V_il i_X10_tellBits_8 rfl ?_
  exact P_iret i_X10_tellBits_9 rfl ⟨rfl, rfl, rfl⟩
set_option maxRecDepth 100000 in
set_option maxHeartbeats 4000000 in
theorem c_refuse (I : IntM) (J : LngM) {f : Nat} (hf : f < 6) : CtV 1 m_X10_refuse [.ref 0, .int (nI f)] I J (.int (-3)) (fnI 0 12 110 (some f) I) J := by
  refine CtV_of (by decide) rfl (Nat.le_of_ble_eq_true rfl) ?_
  refine V_il i_X10_refuse_0 rfl ?_
  refine V_if_lt_f i_X10_refuse_1 (nI_pos (by omega)) ?_
  refine V_il i_X10_refuse_4 rfl ?_
  refine V_al i_X10_refuse_5 rfl ?_
  refine V_getR i_X10_refuse_6 rfl rfl ?_
  refine V_alenI (v := nI _) i_X10_refuse_9 rfl rfl ?_
  refine V_ic_ge_f i_X10_refuse_10 (nI_ge hf (by omega)) ?_
  refine V_al i_X10_refuse_13 rfl ?_
  refine V_il i_X10_refuse_14 rfl ?_
  refine V_putI i_X10_refuse_15 rfl ?_
  refine V_al i_X10_refuse_18 rfl ?_
  refine V_getR i_X10_refuse_19 rfl rfl ?_
  refine V_il i_X10_refuse_22 rfl ?_
  refine V_dup2 i_X10_refuse_23 rfl rfl ?_
  refine K_iald f i_X10_refuse_24 rfl rfl hf (by omega) ?_
  refine V_c i_X10_refuse_25 ?_
  refine V_iadd i_X10_refuse_26 ?_
  rw [uI_ne _ _ (by simp)]
  refine K_iast f i_X10_refuse_27 rfl rfl hf (by omega) ?_
  refine V_c i_X10_refuse_28 ?_
  exact P_iret i_X10_refuse_30 rfl ⟨rfl, rfl, rfl⟩
set_option maxRecDepth 100000 in
set_option maxHeartbeats 4000000 in
theorem c_noneIf (I : IntM) (J : LngM) (x : Int32) : CtV 1 m_X10_noneIfNought [.int x] I J (.int (if x = 0 then -9 else x)) I J := by
  refine CtV_of (by decide) rfl (Nat.le_of_ble_eq_true rfl) ?_
  refine V_il i_X10_noneIfNought_0 rfl ?_
  refine V_if_ne i_X10_noneIfNought_1 (fun c1 => ?_) (fun c1 => ?_)
  · refine V_il i_X10_noneIfNought_9 rfl ?_
    exact P_iret i_X10_noneIfNought_10 rfl ⟨by simp [*], rfl, rfl⟩
  · refine V_c i_X10_noneIfNought_4 ?_
    refine V_goto i_X10_noneIfNought_6 ?_
    exact P_iret i_X10_noneIfNought_10 rfl ⟨by simp [*], rfl, rfl⟩
set_option maxRecDepth 100000 in
set_option maxHeartbeats 4000000 in
theorem c_pick (I : IntM) (J : LngM) {a N k x : Nat} (hs : SH[a]? = some (3, N)) (hN : N ≤ 60) (hk : k < N) (hx : RF a k = some x) : CtV 1 m_X10_pick [.ref a, .int (nI k)] I J (.ref x) I J := by
  refine CtV_of (by decide) rfl (Nat.le_of_ble_eq_true rfl) ?_
  refine V_il i_X10_pick_0 rfl ?_
  refine V_if_lt_f i_X10_pick_1 (nI_pos (by omega)) ?_
  refine V_il i_X10_pick_4 rfl ?_
  refine V_al i_X10_pick_5 rfl ?_
  refine V_alen3 (v := nI _) i_X10_pick_6 (by first | assumption | rfl) rfl ?_
  refine V_ic_lt_t i_X10_pick_7 (nI_lt hk (by omega)) ?_
  refine V_al i_X10_pick_14 rfl ?_
  refine V_il i_X10_pick_15 rfl ?_
  refine K_aald k i_X10_pick_16 (by first | assumption | rfl) (by decide) rfl (by omega) (by omega) hx ?_
  exact P_aret i_X10_pick_17 rfl ⟨rfl, rfl, rfl⟩
set_option maxRecDepth 100000 in
set_option maxHeartbeats 4000000 in
theorem c_pick0 (I : IntM) (J : LngM) {a N : Nat} (hs : SH[a]? = some (3, N)) (hN : N ≤ 60) {i : Int32} (h : hasC N i = 0) : CtV 1 m_X10_pick [.ref a, .int i] I J .null I J := by
  refine CtV_of (by decide) rfl (Nat.le_of_ble_eq_true rfl) ?_
  refine V_il i_X10_pick_0 rfl ?_
  refine V_if_lt i_X10_pick_1 (fun c1 => ?_) (fun c1 => ?_)
  · refine V_null i_X10_pick_10 ?_
    refine V_goto i_X10_pick_11 ?_
    exact P_aretN i_X10_pick_17 rfl ⟨rfl, rfl, rfl⟩
  · refine V_il i_X10_pick_4 rfl ?_
    refine V_al i_X10_pick_5 rfl ?_
    refine V_alen3 (v := nI _) i_X10_pick_6 (by first | assumption | rfl) rfl ?_
    refine V_ic_lt_f i_X10_pick_7 (hasC_no h c1) ?_
    refine V_null i_X10_pick_10 ?_
    refine V_goto i_X10_pick_11 ?_
    exact P_aretN i_X10_pick_17 rfl ⟨rfl, rfl, rfl⟩
set_option maxRecDepth 100000 in
set_option maxHeartbeats 4000000 in
theorem c_kept (I : IntM) (J : LngM) {k : Nat} (hk : k < 3) : CtV 1 m_X10_pickKept [.ref 0, .int (nI k)] I J (.ref (131 + 5 * k)) I J := by
  refine CtV_of (by decide) rfl (Nat.le_of_ble_eq_true rfl) ?_
  refine V_il i_X10_pickKept_0 rfl ?_
  refine V_if_lt_f i_X10_pickKept_1 (nI_pos (by omega)) ?_
  refine V_il i_X10_pickKept_4 rfl ?_
  refine V_al i_X10_pickKept_5 rfl ?_
  refine V_getR i_X10_pickKept_6 rfl rfl ?_
  refine V_alen4 (v := nI _) i_X10_pickKept_9 rfl rfl ?_
  refine V_ic_lt_t i_X10_pickKept_10 (nI_lt hk (by omega)) ?_
  refine V_al i_X10_pickKept_17 rfl ?_
  refine V_getR i_X10_pickKept_18 rfl rfl ?_
  refine V_il i_X10_pickKept_21 rfl ?_
  refine K_aald k i_X10_pickKept_22 rfl (by decide) rfl (by omega) (by omega) (RF_kept hk) ?_
  exact P_aret i_X10_pickKept_23 rfl ⟨rfl, rfl, rfl⟩
set_option maxRecDepth 100000 in
set_option maxHeartbeats 4000000 in
theorem c_kept0 (I : IntM) (J : LngM) {i : Int32} (h : hasC 3 i = 0) : CtV 1 m_X10_pickKept [.ref 0, .int i] I J .null I J := by
  refine CtV_of (by decide) rfl (Nat.le_of_ble_eq_true rfl) ?_
  refine V_il i_X10_pickKept_0 rfl ?_
  refine V_if_lt i_X10_pickKept_1 (fun c1 => ?_) (fun c1 => ?_)
  · refine V_null i_X10_pickKept_13 ?_
    refine V_goto i_X10_pickKept_14 ?_
    exact P_aretN i_X10_pickKept_23 rfl ⟨rfl, rfl, rfl⟩
  · refine V_il i_X10_pickKept_4 rfl ?_
    refine V_al i_X10_pickKept_5 rfl ?_
    refine V_getR i_X10_pickKept_6 rfl rfl ?_
    refine V_alen4 (v := nI _) i_X10_pickKept_9 rfl rfl ?_
    refine V_ic_lt_f i_X10_pickKept_10 (hasC_no h c1) ?_
    refine V_null i_X10_pickKept_13 ?_
    refine V_goto i_X10_pickKept_14 ?_
    exact P_aretN i_X10_pickKept_23 rfl ⟨rfl, rfl, rfl⟩
def misP (I : IntM) (x : Nat) (i : Int32) : Int32 := if I x 1 < 0 then 1 else if hasv I x 60 i = 0 then 2 else 0
set_option maxRecDepth 100000 in
set_option maxHeartbeats 4000000 in
theorem c_missP (I : IntM) (J : LngM) {x : Nat} (hL : LI x 60) (i : Int32) : CtV 2 m_X10_missingPlace [.ref x, .int i] I J (.int (misP I x i)) I J := by
  refine CtV_of (by decide) rfl (Nat.le_of_ble_eq_true rfl) ?_
  refine V_al i_X10_missingPlace_0 rfl ?_
  refine P_callV0v i_X10_missingPlace_1 mi_X3_missing hL.1 ⟨_, _, rfl⟩ (by decide) (Nat.le_of_ble_eq_true rfl) (c_I_missing _ _ hL) ?_
  refine V_if_eq i_X10_missingPlace_4 (fun c4 => ?_) (fun c4 => ?_)
  · have c5 := no01 c4
    refine V_al i_X10_missingPlace_9 rfl ?_
    refine V_il i_X10_missingPlace_10 rfl ?_
    refine P_callV1v i_X10_missingPlace_11 mi_X3_has hL.1 ⟨_, _, rfl⟩ (by decide) (Nat.le_of_ble_eq_true rfl) (c_I_has _ _ hL i) ?_
    refine V_if_eq i_X10_missingPlace_14 (fun c14 => ?_) (fun c14 => ?_)
    · refine V_c i_X10_missingPlace_21 ?_
      exact P_iret i_X10_missingPlace_22 rfl ⟨by simp [misP, *], rfl, rfl⟩
    · refine V_c i_X10_missingPlace_17 ?_
      refine V_goto i_X10_missingPlace_18 ?_
      exact P_iret i_X10_missingPlace_22 rfl ⟨by simp [misP, *], rfl, rfl⟩
  · have c5 := yes01 c4
    refine V_c i_X10_missingPlace_7 ?_
    exact P_iret i_X10_missingPlace_8 rfl ⟨by simp [misP, *], rfl, rfl⟩
set_option maxRecDepth 100000 in
set_option maxHeartbeats 4000000 in
theorem c_isHow (I : IntM) (J : LngM) (x : Int32) : CtV 1 m_X10_isHow [.int x] I J (.int (howv x)) I J := by
  refine CtV_of (by decide) rfl (Nat.le_of_ble_eq_true rfl) ?_
  refine V_il i_X10_isHow_0 rfl ?_
  refine V_if_eq i_X10_isHow_1 (fun c1 => ?_) (fun c1 => ?_)
  · refine V_c i_X10_isHow_9 ?_
    refine V_goto i_X10_isHow_10 ?_
    exact P_zret i_X10_isHow_14 rfl (by decide) ⟨by simp [howv, *], rfl, rfl⟩
  · refine V_il i_X10_isHow_4 rfl ?_
    refine V_c i_X10_isHow_5 ?_
    refine V_ic_ne i_X10_isHow_6 (fun c6 => ?_) (fun c6 => ?_)
    · refine V_c i_X10_isHow_13 ?_
      exact P_zret i_X10_isHow_14 rfl (by decide) ⟨by simp [howv, *], rfl, rfl⟩
    · refine V_c i_X10_isHow_9 ?_
      refine V_goto i_X10_isHow_10 ?_
      exact P_zret i_X10_isHow_14 rfl (by decide) ⟨by simp [howv, *], rfl, rfl⟩
